section C3
variable {G : Gl} {d : Nat} {T : Sh} {I : Mi} {N : Nat → Int} {Q : Option AV → Sh → Mi → Prop}
/-- a state's memory with x as told -/
def dX (I : Mi) (s : Nat) (x : Int) : Mi := sr I s (un (I s) 1 x)
theorem dX_id {I : Mi} {s : Nat} {x : Int} (h : I s 1 = x) : dX I s x = I := by
  unfold dX
  have e : un (I s) 1 x = I s := by
    funext j
    unfold un
    split
    · rename_i g; rw [g, h]
    · rfl
  rw [e, sr_id]
theorem dX_x (I : Mi) (s : Nat) (x : Int) : dX I s x s 1 = x := (congrFun (sr_row _ _ _) 1).trans un_at
theorem dX_dX (I : Mi) (s : Nat) (x y : Int) : sr (dX I s x) s (un (dX I s x s) 1 y) = dX I s y := by
  unfold dX
  rw [sr_row, sr_sr, un_un]
def xOk (M : Nat → Int) : Prop := 0 ≤ M 8 ∧ M 8 < 2147483648
theorem xOk_d (M : Nat → Int) : xOk (dN M) := by unfold xOk dN; rw [un_at]; exact nxX_rng _
theorem k_dM {k : Nat} {M : Nat → Int} {s p o t c : Nat} (hS : ShS T s p o t c) (hx : xOk M) (hk : 0 < k) (hk2 : k < 2147483648) (hq : Q (some (aI (drV M k))) T (dX I s (dN M 8))) : EvE G mX9_draw d [aR s, aI ((k : Nat) : Int)] T (dX I s (M 8)) Q := by
  refine k_draw (k := k) (X := M 8) hS (dX_x _ _ _) hx.1 hx.2 hk hk2 ?_
  rw [dX_dX]
  have e : dN M 8 = nxX (M 8) := un_at
  rw [← e]
  exact hq
/-- the marks that belong to a signal's code -/
def mkC (c : Int) : Int := c % 32 + 32 * (if c / 2 % 2 = c / 4 % 2 then 1 else 0) + 64 * (if c / 16 % 2 = 1 ∧ c / 32 % 2 = c / 2 % 2 then 1 else 0)
theorem mkC_eq : ∀ a : Nat, a < 2 → ∀ b : Nat, b < 2 → ∀ c : Nat, c < 2 → ∀ e : Nat, e < 2 → ∀ f : Nat, f < 2 → ∀ g : Nat, g < 2 → mkC (cdS a b c e f g) = iro (iro (iro (iro (iro (iro (isl a 0) (isl b 1)) (isl c 2)) (isl e 3)) (isl f 4)) (isl (if b = c then 1 else 0) 5)) (isl (if f = 1 ∧ g = b then 1 else 0) 6) := by decide +kernel
def b01 (x : Int) : Prop := x = 0 ∨ x = 1
theorem b01_n {x : Int} (h : b01 x) : ∃ a : Nat, a < 2 ∧ x = (a : Int) := by
  rcases h with h | h
  · exact ⟨0, by decide, h⟩
  · exact ⟨1, by decide, h⟩
theorem mkC_01 {a b c e f g x y : Int} (ha : b01 a) (hb : b01 b) (hc : b01 c) (he : b01 e) (hf : b01 f) (hg : b01 g) (hx : x = if b = c then 1 else 0) (hy : y = if f = 1 ∧ g = b then 1 else 0) : iro (iro (iro (iro (iro (iro (isl a 0) (isl b 1)) (isl c 2)) (isl e 3)) (isl f 4)) (isl x 5)) (isl y 6) = mkC (cdS a b c e f g) := by
  obtain ⟨a, a2, rfl⟩ := b01_n ha
  obtain ⟨b, b2, rfl⟩ := b01_n hb
  obtain ⟨c, c2, rfl⟩ := b01_n hc
  obtain ⟨e, e2, rfl⟩ := b01_n he
  obtain ⟨f, f2, rfl⟩ := b01_n hf
  obtain ⟨g, g2, rfl⟩ := b01_n hg
  rw [mkC_eq a a2 b b2 c c2 e e2 f f2 g g2, hx, hy]
  have i1 : (if (b : Int) = (c : Int) then (1 : Int) else 0) = (((if b = c then 1 else 0 : Nat)) : Int) := by
    by_cases h : b = c
    · rw [if_pos h, if_pos (by omega)]; rfl
    · rw [if_neg h, if_neg (by omega)]; rfl
  have i2 : (if (f : Int) = 1 ∧ (g : Int) = (b : Int) then (1 : Int) else 0) = (((if f = 1 ∧ g = b then 1 else 0 : Nat)) : Int) := by
    by_cases h : f = 1 ∧ g = b
    · rw [if_pos h, if_pos (by omega)]; rfl
    · rw [if_neg h, if_neg (by omega)]; rfl
  have j1 : (((if b = c then 1 else 0 : Nat)) : Int) = if b = c then 1 else 0 := by split <;> rfl
  have j2 : (((if f = 1 ∧ g = b then 1 else 0 : Nat)) : Int) = if f = 1 ∧ g = b then 1 else 0 := by split <;> rfl
  rw [i1, i2, j1, j2]
theorem ixo_1 {x : Int} (h : b01 x) : ixo x 1 = 1 - x := by rcases h with h | h <;> (subst h; decide +kernel)
theorem dr2 (M : Nat → Int) : b01 (drV M 2) := drV2 M
theorem k_drawSignal {k : Nat} {spy no : Int} {s p o t c : Nat} (hS : ShS T s p o t c) (hd : 1 ≤ d) (hX : I s 1 = N 8) (hx : xOk N) (hq : Q (some (aI (mkC (snd1 N k spy no (k + 20))))) T (dX I s (snd1 N k spy no 8))) : EvE G mX0_drawSignal d [aR s, aI spy, aI no] T (dX I s (N 8)) Q := by
  refine EvE.mk (lv0 := [some (aR s), some (aI spy), some (aI no), none, none, none, none, none, none, none, none, none]) (Nat.le_of_ble_eq_true rfl) (by decide +kernel) rfl ?_
  refine r_aload_n (pc := 0) (i := 0) dX0_drawSignal_0 rfl rfl ?_
  refine r_iconst (pc := 1) dX0_drawSignal_1 (in32_of rfl) ?_
  refine r_callV1 (pc := 2) (d - 1) [aI 2] dX0_drawSignal_2 (CV.mk2 mk_X9_draw lk_X0_58) (RC.of (ltS0 hS) (kS0 hS) (by decide) rfl) rfl rfl (by omega) (Nat.le_of_ble_eq_true rfl) (Nat.le_of_ble_eq_true rfl) (k_dM (k := 2) (M := N) hS hx (by decide) (by decide) ?_)
  refine ⟨_, rfl, fun _ => ?_⟩
  refine r_istore_n (pc := 5) (i := 3) (lv' := [_, _, _, _, _, _, _, _, _, _, _, _]) dX0_drawSignal_5 rfl (by decide) rfl ?_
  refine r_aload_n (pc := 6) (i := 0) dX0_drawSignal_6 rfl rfl ?_
  refine r_iconst (pc := 7) dX0_drawSignal_7 (in32_of rfl) ?_
  refine r_callV1 (pc := 8) (d - 1) [aI 2] dX0_drawSignal_8 (CV.mk2 mk_X9_draw lk_X0_58) (RC.of (ltS0 hS) (kS0 hS) (by decide) rfl) rfl rfl (by omega) (Nat.le_of_ble_eq_true rfl) (Nat.le_of_ble_eq_true rfl) (k_dM (k := 2) (M := (dN N)) hS (xOk_d _) (by decide) (by decide) ?_)
  refine ⟨_, rfl, fun _ => ?_⟩
  refine r_istore (pc := 11) (i := 4) (lv' := [_, _, _, _, _, _, _, _, _, _, _, _]) dX0_drawSignal_11 (by decide) rfl ?_
  refine r_iload_n (pc := 13) (i := 3) dX0_drawSignal_13 rfl rfl ?_
  refine r_istore (pc := 14) (i := 5) (lv' := [_, _, _, _, _, _, _, _, _, _, _, _]) dX0_drawSignal_14 (by decide) rfl ?_
  refine r_iload (pc := 16) (i := 4) dX0_drawSignal_16 rfl ?_
  refine r_istore (pc := 18) (i := 6) (lv' := [_, _, _, _, _, _, _, _, _, _, _, _]) dX0_drawSignal_18 (by decide) rfl ?_
  refine r_aload_n (pc := 20) (i := 0) dX0_drawSignal_20 rfl rfl ?_
  refine r_bipush (pc := 21) dX0_drawSignal_21 rfl (in32_of rfl) ?_
  refine r_callV1 (pc := 23) (d - 1) [aI 100] dX0_drawSignal_23 (CV.mk2 mk_X9_draw lk_X0_58) (RC.of (ltS0 hS) (kS0 hS) (by decide) rfl) rfl rfl (by omega) (Nat.le_of_ble_eq_true rfl) (Nat.le_of_ble_eq_true rfl) (k_dM (k := 100) (M := (dN (dN N))) hS (xOk_d _) (by decide) (by decide) ?_)
  refine ⟨_, rfl, fun _ => ?_⟩
  have j64 : ∀ (M : Nat → Int) (cm : Int) (by_ : Int) (sp : Int) (e : Int), (xOk M ∧ b01 cm ∧ b01 by_ ∧ ((sp = 0 ∧ e = 0) ∨ (sp = 1 ∧ b01 e)) ∧ (sp = 1 → by_ = e) ∧ snd1 N k spy no = snd2 M k no (drV N 2) (drV (dN N) 2) cm by_ sp e) → Ev G mX0_drawSignal d 64 [some (aR s), some (aI spy), some (aI no), some (aI (drV N 2)), some (aI (drV (dN N) 2)), some (aI cm), some (aI by_), some (aI sp), none, none, none, none] [] T (dX I s (M 8)) Q := by
    intro M cm by_ sp e hJ
    have hM := hJ
    have j84_ : ∀ (_u : Nat), True → Ev G mX0_drawSignal d 84 [some (aR s), some (aI spy), some (aI no), some (aI (drV N 2)), some (aI (drV (dN N) 2)), some (aI cm), some (aI by_), some (aI sp), some (aI (if sp = 1 ∧ e = drV (dN N) 2 then (1 : Int) else 0)), none, none, none] [] T (dX I s (M 8)) Q := by
      intro _u hJ_
      refine r_aload_n (pc := 84) (i := 0) dX0_drawSignal_84 rfl rfl ?_
      refine r_iconst (pc := 85) dX0_drawSignal_85 (in32_of rfl) ?_
      refine r_callV1 (pc := 86) (d - 1) [aI 2] dX0_drawSignal_86 (CV.mk2 mk_X9_draw lk_X0_58) (RC.of (ltS0 hS) (kS0 hS) (by decide) rfl) rfl rfl (by omega) (Nat.le_of_ble_eq_true rfl) (Nat.le_of_ble_eq_true rfl) (k_dM (k := 2) (M := M) hS hJ.1 (by decide) (by decide) ?_)
      refine ⟨_, rfl, fun _ => ?_⟩
      refine r_istore (pc := 89) (i := 9) (lv' := [_, _, _, _, _, _, _, _, _, _, _, _]) dX0_drawSignal_89 (by decide) rfl ?_
      have j110 : ∀ (M2 : Nat → Int) (got : Int), (xOk M2 ∧ b01 got ∧ snd1 N k spy no = snd3 M2 k no (drV N 2) (drV (dN N) 2) (drV M 2) got sp e) → Ev G mX0_drawSignal d 110 [some (aR s), some (aI spy), some (aI no), some (aI (drV N 2)), some (aI (drV (dN N) 2)), some (aI cm), some (aI by_), some (aI sp), some (aI (if sp = 1 ∧ e = drV (dN N) 2 then (1 : Int) else 0)), some (aI (drV M 2)), some (aI got), none] [] T (dX I s (M2 8)) Q := by
        intro M2 got hJ
        have hG := hJ
        refine r_aload_n (pc := 110) (i := 0) dX0_drawSignal_110 rfl rfl ?_
        refine r_sipush (pc := 111) dX0_drawSignal_111 rfl (in32_of rfl) ?_
        refine r_callV1 (pc := 114) (d - 1) [aI 1000] dX0_drawSignal_114 (CV.mk2 mk_X9_draw lk_X0_58) (RC.of (ltS0 hS) (kS0 hS) (by decide) rfl) rfl rfl (by omega) (Nat.le_of_ble_eq_true rfl) (Nat.le_of_ble_eq_true rfl) (k_dM (k := 1000) (M := M2) hS hJ.1 (by decide) (by decide) ?_)
        refine ⟨_, rfl, fun _ => ?_⟩
        have j127 : ∀ (g2 : Int), (b01 g2 ∧ snd1 N k spy no = un (dN M2) (k + 20) (cdS (drV N 2) (drV (dN N) 2) (drV M 2) g2 sp e)) → Ev G mX0_drawSignal d 127 [some (aR s), some (aI spy), some (aI no), some (aI (drV N 2)), some (aI (drV (dN N) 2)), some (aI cm), some (aI by_), some (aI sp), some (aI (if sp = 1 ∧ e = drV (dN N) 2 then (1 : Int) else 0)), some (aI (drV M 2)), some (aI g2), none] [] T (dX I s ((dN M2) 8)) Q := by
          intro g2 hJ
          refine r_iload (pc := 127) (i := 4) dX0_drawSignal_127 rfl ?_
          refine r_iload (pc := 129) (i := 9) dX0_drawSignal_129 rfl ?_
          refine r_icmp_ne (pc := 131) (tgt := 138) dX0_drawSignal_131 rfl (fun c131 => ?_) (fun c131 => ?_)
          · refine r_iconst (pc := 138) dX0_drawSignal_138 (in32_of rfl) ?_
            refine r_istore (pc := 139) (i := 11) (lv' := [_, _, _, _, _, _, _, _, _, _, _, _]) dX0_drawSignal_139 (by decide) rfl ?_
            refine r_iload_n (pc := 141) (i := 3) dX0_drawSignal_141 rfl rfl ?_
            refine r_iconst (pc := 142) dX0_drawSignal_142 (in32_of rfl) ?_
            refine r_ishl (pc := 143) dX0_drawSignal_143 ?_
            refine r_iload (pc := 144) (i := 4) dX0_drawSignal_144 rfl ?_
            refine r_iconst (pc := 146) dX0_drawSignal_146 (in32_of rfl) ?_
            refine r_ishl (pc := 147) dX0_drawSignal_147 ?_
            refine r_ior (pc := 148) dX0_drawSignal_148 ?_
            refine r_iload (pc := 149) (i := 9) dX0_drawSignal_149 rfl ?_
            refine r_iconst (pc := 151) dX0_drawSignal_151 (in32_of rfl) ?_
            refine r_ishl (pc := 152) dX0_drawSignal_152 ?_
            refine r_ior (pc := 153) dX0_drawSignal_153 ?_
            refine r_iload (pc := 154) (i := 10) dX0_drawSignal_154 rfl ?_
            refine r_iconst (pc := 156) dX0_drawSignal_156 (in32_of rfl) ?_
            refine r_ishl (pc := 157) dX0_drawSignal_157 ?_
            refine r_ior (pc := 158) dX0_drawSignal_158 ?_
            refine r_iload (pc := 159) (i := 7) dX0_drawSignal_159 rfl ?_
            refine r_iconst (pc := 161) dX0_drawSignal_161 (in32_of rfl) ?_
            refine r_ishl (pc := 162) dX0_drawSignal_162 ?_
            refine r_ior (pc := 163) dX0_drawSignal_163 ?_
            refine r_iload (pc := 164) (i := 11) dX0_drawSignal_164 rfl ?_
            refine r_iconst (pc := 166) dX0_drawSignal_166 (in32_of rfl) ?_
            refine r_ishl (pc := 167) dX0_drawSignal_167 ?_
            refine r_ior (pc := 168) dX0_drawSignal_168 ?_
            refine r_iload (pc := 169) (i := 8) dX0_drawSignal_169 rfl ?_
            refine r_bipush (pc := 171) dX0_drawSignal_171 rfl (in32_of rfl) ?_
            refine r_ishl (pc := 173) dX0_drawSignal_173 ?_
            refine r_ior (pc := 174) dX0_drawSignal_174 ?_
            have hsp : b01 sp ∧ b01 e := by rcases hM.2.2.2.1 with h | h; (exact ⟨Or.inl h.1, Or.inl h.2⟩); exact ⟨Or.inr h.1, h.2⟩
            have ev : (iro (iro (iro (iro (iro (iro (isl (drV N 2) 0) (isl (drV (dN N) 2) 1)) (isl (drV M 2) 2)) (isl g2 3)) (isl sp 4)) (isl 0 5)) (isl (if sp = 1 ∧ e = drV (dN N) 2 then (1 : Int) else 0) 6)) = mkC (snd1 N k spy no (k + 20)) := by rw [hJ.2, un_at]; exact mkC_01 (dr2 _) (dr2 _) (dr2 _) hJ.1 hsp.1 hsp.2 (if_neg c131).symm rfl
            have e8 : dN M2 8 = snd1 N k spy no 8 := by rw [hJ.2, un_ne (by omega)]
            exact r_iret (pc := 175) dX0_drawSignal_175 trivial (by rw [ev, e8]; exact hq)
          · have c131 := Decidable.of_not_not c131
            refine r_iconst (pc := 134) dX0_drawSignal_134 (in32_of rfl) ?_
            refine r_goto (pc := 135) (tgt := 139) dX0_drawSignal_135 rfl ?_
            refine r_istore (pc := 139) (i := 11) (lv' := [_, _, _, _, _, _, _, _, _, _, _, _]) dX0_drawSignal_139 (by decide) rfl ?_
            refine r_iload_n (pc := 141) (i := 3) dX0_drawSignal_141 rfl rfl ?_
            refine r_iconst (pc := 142) dX0_drawSignal_142 (in32_of rfl) ?_
            refine r_ishl (pc := 143) dX0_drawSignal_143 ?_
            refine r_iload (pc := 144) (i := 4) dX0_drawSignal_144 rfl ?_
            refine r_iconst (pc := 146) dX0_drawSignal_146 (in32_of rfl) ?_
            refine r_ishl (pc := 147) dX0_drawSignal_147 ?_
            refine r_ior (pc := 148) dX0_drawSignal_148 ?_
            refine r_iload (pc := 149) (i := 9) dX0_drawSignal_149 rfl ?_
            refine r_iconst (pc := 151) dX0_drawSignal_151 (in32_of rfl) ?_
            refine r_ishl (pc := 152) dX0_drawSignal_152 ?_
            refine r_ior (pc := 153) dX0_drawSignal_153 ?_
            refine r_iload (pc := 154) (i := 10) dX0_drawSignal_154 rfl ?_
            refine r_iconst (pc := 156) dX0_drawSignal_156 (in32_of rfl) ?_
            refine r_ishl (pc := 157) dX0_drawSignal_157 ?_
            refine r_ior (pc := 158) dX0_drawSignal_158 ?_
            refine r_iload (pc := 159) (i := 7) dX0_drawSignal_159 rfl ?_
            refine r_iconst (pc := 161) dX0_drawSignal_161 (in32_of rfl) ?_
            refine r_ishl (pc := 162) dX0_drawSignal_162 ?_
            refine r_ior (pc := 163) dX0_drawSignal_163 ?_
            refine r_iload (pc := 164) (i := 11) dX0_drawSignal_164 rfl ?_
            refine r_iconst (pc := 166) dX0_drawSignal_166 (in32_of rfl) ?_
            refine r_ishl (pc := 167) dX0_drawSignal_167 ?_
            refine r_ior (pc := 168) dX0_drawSignal_168 ?_
            refine r_iload (pc := 169) (i := 8) dX0_drawSignal_169 rfl ?_
            refine r_bipush (pc := 171) dX0_drawSignal_171 rfl (in32_of rfl) ?_
            refine r_ishl (pc := 173) dX0_drawSignal_173 ?_
            refine r_ior (pc := 174) dX0_drawSignal_174 ?_
            have hsp : b01 sp ∧ b01 e := by rcases hM.2.2.2.1 with h | h; (exact ⟨Or.inl h.1, Or.inl h.2⟩); exact ⟨Or.inr h.1, h.2⟩
            have ev : (iro (iro (iro (iro (iro (iro (isl (drV N 2) 0) (isl (drV (dN N) 2) 1)) (isl (drV M 2) 2)) (isl g2 3)) (isl sp 4)) (isl 1 5)) (isl (if sp = 1 ∧ e = drV (dN N) 2 then (1 : Int) else 0) 6)) = mkC (snd1 N k spy no (k + 20)) := by rw [hJ.2, un_at]; exact mkC_01 (dr2 _) (dr2 _) (dr2 _) hJ.1 hsp.1 hsp.2 (if_pos c131).symm rfl
            have e8 : dN M2 8 = snd1 N k spy no 8 := by rw [hJ.2, un_ne (by omega)]
            exact r_iret (pc := 175) dX0_drawSignal_175 trivial (by rw [ev, e8]; exact hq)
        refine r_iload_n (pc := 117) (i := 2) dX0_drawSignal_117 rfl rfl ?_
        refine r_icmp_ge (pc := 118) (tgt := 127) dX0_drawSignal_118 rfl (fun c118 => ?_) (fun c118 => ?_)
        · exact j127 got ⟨hG.2.1, by rw [hG.2.2]; unfold snd3; rw [if_neg (by omega)]⟩
        · refine r_iload (pc := 121) (i := 10) dX0_drawSignal_121 rfl ?_
          refine r_iconst (pc := 123) dX0_drawSignal_123 (in32_of rfl) ?_
          refine r_ixor (pc := 124) dX0_drawSignal_124 ?_
          refine r_istore (pc := 125) (i := 10) (lv' := [_, _, _, _, _, _, _, _, _, _, _, _]) dX0_drawSignal_125 (by decide) rfl ?_
          exact j127 (ixo got 1) ⟨by rw [ixo_1 hG.2.1]; unfold b01; have := hG.2.1; unfold b01 at this; omega, by rw [hG.2.2, ixo_1 hG.2.1]; unfold snd3; rw [if_pos (by omega)]⟩
      refine r_iload (pc := 91) (i := 9) dX0_drawSignal_91 rfl ?_
      refine r_iload (pc := 93) (i := 6) dX0_drawSignal_93 rfl ?_
      refine r_icmp_ne (pc := 95) (tgt := 103) dX0_drawSignal_95 rfl (fun c95 => ?_) (fun c95 => ?_)
      · refine r_aload_n (pc := 103) (i := 0) dX0_drawSignal_103 rfl rfl ?_
        refine r_iconst (pc := 104) dX0_drawSignal_104 (in32_of rfl) ?_
        refine r_callV1 (pc := 105) (d - 1) [aI 2] dX0_drawSignal_105 (CV.mk2 mk_X9_draw lk_X0_58) (RC.of (ltS0 hS) (kS0 hS) (by decide) rfl) rfl rfl (by omega) (Nat.le_of_ble_eq_true rfl) (Nat.le_of_ble_eq_true rfl) (k_dM (k := 2) (M := (dN M)) hS (xOk_d _) (by decide) (by decide) ?_)
        refine ⟨_, rfl, fun _ => ?_⟩
        refine r_istore (pc := 108) (i := 10) (lv' := [_, _, _, _, _, _, _, _, _, _, _, _]) dX0_drawSignal_108 (by decide) rfl ?_
        exact j110 (dN (dN M)) (drV (dN M) 2) ⟨xOk_d _, dr2 _, by rw [hJ.2.2.2.2.2]; unfold snd2; rw [if_neg c95]⟩
      · have c95 := Decidable.of_not_not c95
        refine r_iload (pc := 98) (i := 5) dX0_drawSignal_98 rfl ?_
        refine r_goto (pc := 100) (tgt := 108) dX0_drawSignal_100 rfl ?_
        refine r_istore (pc := 108) (i := 10) (lv' := [_, _, _, _, _, _, _, _, _, _, _, _]) dX0_drawSignal_108 (by decide) rfl ?_
        exact j110 (dN M) cm ⟨xOk_d _, hJ.2.1, by rw [hJ.2.2.2.2.2]; unfold snd2; rw [if_pos c95]⟩
    refine r_iload (pc := 64) (i := 7) dX0_drawSignal_64 rfl ?_
    refine r_iconst (pc := 66) dX0_drawSignal_66 (in32_of rfl) ?_
    refine r_icmp_ne (pc := 67) (tgt := 81) dX0_drawSignal_67 rfl (fun c67 => ?_) (fun c67 => ?_)
    · refine r_iconst (pc := 81) dX0_drawSignal_81 (in32_of rfl) ?_
      refine r_istore (pc := 82) (i := 8) (lv' := [_, _, _, _, _, _, _, _, _, _, _, _]) dX0_drawSignal_82 (by decide) rfl ?_
      exact Ev.re (by rw [show (if sp = 1 ∧ e = drV (dN N) 2 then (1 : Int) else 0) = 0 from if_neg (fun h => c67 h.1)]) rfl (j84_ 0 trivial)
    · have c67 := Decidable.of_not_not c67
      refine r_iload (pc := 70) (i := 6) dX0_drawSignal_70 rfl ?_
      refine r_iload (pc := 72) (i := 4) dX0_drawSignal_72 rfl ?_
      refine r_icmp_ne (pc := 74) (tgt := 81) dX0_drawSignal_74 rfl (fun c74 => ?_) (fun c74 => ?_)
      · refine r_iconst (pc := 81) dX0_drawSignal_81 (in32_of rfl) ?_
        refine r_istore (pc := 82) (i := 8) (lv' := [_, _, _, _, _, _, _, _, _, _, _, _]) dX0_drawSignal_82 (by decide) rfl ?_
        exact Ev.re (by rw [show (if sp = 1 ∧ e = drV (dN N) 2 then (1 : Int) else 0) = 0 from if_neg (fun h => c74 (by rw [hJ.2.2.2.2.1 h.1]; exact h.2))]) rfl (j84_ 0 trivial)
      · have c74 := Decidable.of_not_not c74
        refine r_iconst (pc := 77) dX0_drawSignal_77 (in32_of rfl) ?_
        refine r_goto (pc := 78) (tgt := 82) dX0_drawSignal_78 rfl ?_
        refine r_istore (pc := 82) (i := 8) (lv' := [_, _, _, _, _, _, _, _, _, _, _, _]) dX0_drawSignal_82 (by decide) rfl ?_
        exact Ev.re (by rw [show (if sp = 1 ∧ e = drV (dN N) 2 then (1 : Int) else 0) = 1 from if_pos ⟨c67, by rw [← hJ.2.2.2.2.1 c67]; exact c74⟩]) rfl (j84_ 0 trivial)
  refine r_iload_n (pc := 26) (i := 1) dX0_drawSignal_26 rfl rfl ?_
  refine r_icmp_ge (pc := 27) (tgt := 34) dX0_drawSignal_27 rfl (fun c27 => ?_) (fun c27 => ?_)
  · refine r_iconst (pc := 34) dX0_drawSignal_34 (in32_of rfl) ?_
    refine r_istore (pc := 35) (i := 7) (lv' := [_, _, _, _, _, _, _, _, _, _, _, _]) dX0_drawSignal_35 (by decide) rfl ?_
    refine r_iload (pc := 37) (i := 7) dX0_drawSignal_37 rfl ?_
    refine r_iconst (pc := 39) dX0_drawSignal_39 (in32_of rfl) ?_
    refine r_icmp_ne (pc := 40) (tgt := 64) dX0_drawSignal_40 rfl (fun c40 => ?_) (fun c40 => absurd (by decide) c40)
    exact j64 (dN (dN (dN N))) (drV N 2) (drV (dN N) 2) 0 0 ⟨xOk_d _, dr2 _, dr2 _, Or.inl ⟨rfl, rfl⟩, fun h => absurd h (by decide), by unfold snd1; rw [if_neg (by omega)]⟩
  · refine r_iconst (pc := 30) dX0_drawSignal_30 (in32_of rfl) ?_
    refine r_goto (pc := 31) (tgt := 35) dX0_drawSignal_31 rfl ?_
    refine r_istore (pc := 35) (i := 7) (lv' := [_, _, _, _, _, _, _, _, _, _, _, _]) dX0_drawSignal_35 (by decide) rfl ?_
    refine r_iload (pc := 37) (i := 7) dX0_drawSignal_37 rfl ?_
    refine r_iconst (pc := 39) dX0_drawSignal_39 (in32_of rfl) ?_
    refine r_icmp_ne (pc := 40) (tgt := 64) dX0_drawSignal_40 rfl (fun c40 => absurd c40 (by decide)) (fun c40 => ?_)
    have c40 := Decidable.of_not_not c40
    refine r_aload_n (pc := 43) (i := 0) dX0_drawSignal_43 rfl rfl ?_
    refine r_iconst (pc := 44) dX0_drawSignal_44 (in32_of rfl) ?_
    refine r_callV1 (pc := 45) (d - 1) [aI 2] dX0_drawSignal_45 (CV.mk2 mk_X9_draw lk_X0_58) (RC.of (ltS0 hS) (kS0 hS) (by decide) rfl) rfl rfl (by omega) (Nat.le_of_ble_eq_true rfl) (Nat.le_of_ble_eq_true rfl) (k_dM (k := 2) (M := (dN (dN (dN N)))) hS (xOk_d _) (by decide) (by decide) ?_)
    refine ⟨_, rfl, fun _ => ?_⟩
    refine r_istore (pc := 48) (i := 6) (lv' := [_, _, _, _, _, _, _, _, _, _, _, _]) dX0_drawSignal_48 (by decide) rfl ?_
    refine r_iload (pc := 50) (i := 6) dX0_drawSignal_50 rfl ?_
    refine r_iload (pc := 52) (i := 4) dX0_drawSignal_52 rfl ?_
    refine r_icmp_eq (pc := 54) (tgt := 64) dX0_drawSignal_54 rfl (fun c54 => ?_) (fun c54 => ?_)
    · exact j64 (dN (dN (dN (dN N)))) (drV N 2) (drV (dN (dN (dN N))) 2) 1 (drV (dN (dN (dN N))) 2) ⟨xOk_d _, dr2 _, dr2 _, Or.inr ⟨rfl, dr2 _⟩, fun _ => rfl, by unfold snd1; rw [if_pos (by omega), if_pos c54]⟩
    · refine r_aload_n (pc := 57) (i := 0) dX0_drawSignal_57 rfl rfl ?_
      refine r_iconst (pc := 58) dX0_drawSignal_58 (in32_of rfl) ?_
      refine r_callV1 (pc := 59) (d - 1) [aI 2] dX0_drawSignal_59 (CV.mk2 mk_X9_draw lk_X0_58) (RC.of (ltS0 hS) (kS0 hS) (by decide) rfl) rfl rfl (by omega) (Nat.le_of_ble_eq_true rfl) (Nat.le_of_ble_eq_true rfl) (k_dM (k := 2) (M := (dN (dN (dN (dN N))))) hS (xOk_d _) (by decide) (by decide) ?_)
      refine ⟨_, rfl, fun _ => ?_⟩
      refine r_istore (pc := 62) (i := 5) (lv' := [_, _, _, _, _, _, _, _, _, _, _, _]) dX0_drawSignal_62 (by decide) rfl ?_
      exact j64 (dN (dN (dN (dN (dN N))))) (drV (dN (dN (dN (dN N)))) 2) (drV (dN (dN (dN N))) 2) 1 (drV (dN (dN (dN N))) 2) ⟨xOk_d _, dr2 _, dr2 _, Or.inr ⟨rfl, dr2 _⟩, fun _ => rfl, by unfold snd1; rw [if_pos (by omega), if_neg c54]⟩
end C3

section M31
variable {G : Gl} {d : Nat} {T : Sh} {I : Mi} {N : Nat → Int} {Q : Option AV → Sh → Mi → Prop}
/-- the end of a run of bytes that lie from lo to hi -/
def skB (f : Nat → Int) (lo hi : Int) : Nat → Nat → Nat
  | 0, a => a
  | u + 1, a => if lo ≤ f a ∧ f a ≤ hi then skB f lo hi u (a + 1) else a
theorem skB_succ (f : Nat → Int) (lo hi : Int) (u a : Nat) : skB f lo hi (u + 1) a = if lo ≤ f a ∧ f a ≤ hi then skB f lo hi u (a + 1) else a := rfl
/-- the number of a run of digits -/
def dvF (f : Nat → Int) : Nat → Nat → Int → Int
  | 0, _, v => v
  | u + 1, a, v => if 48 ≤ f a ∧ f a ≤ 57 then dvF f u (a + 1) (if 999999 < v then v else 10 * v + f a - 48) else v
theorem dvF_succ (f : Nat → Int) (u a : Nat) (v : Int) : dvF f (u + 1) a v = if 48 ≤ f a ∧ f a ≤ 57 then dvF f u (a + 1) (if 999999 < v then v else 10 * v + f a - 48) else v := rfl
theorem bA_in {B : Nat → Int} {tp a : Nat} (h : 0 ≤ bA B tp a) : a < tp := by
  unfold bA at h
  split at h
  · assumption
  · omega
theorem skB_le {B : Nat → Int} {tp : Nat} {lo hi : Int} (hl : 0 ≤ lo) : ∀ u a, a ≤ tp → skB (bA B tp) lo hi u a ≤ tp := by
  intro u
  induction u with
  | zero => intro a h; exact h
  | succ u ih =>
    intro a h
    rw [skB_succ]
    split
    · rename_i g; exact ih (a + 1) (bA_in (Int.le_trans hl g.1))
    · exact h
theorem wdF_rng (f : Nat → Int) (s : Nat) : ∀ u w, wdF f s u w = -1 ∨ ∃ k : Nat, wdF f s u w = (k : Int) ∧ w ≤ k ∧ k < w + u := by
  intro u
  induction u with
  | zero => intro w; exact Or.inl rfl
  | succ u ih =>
    intro w
    rw [wdF_succ]
    split
    · exact Or.inr ⟨w, rfl, Nat.le_refl w, by omega⟩
    · rcases ih (w + 1) with h | ⟨k, h1, h2, h3⟩
      · exact Or.inl h
      · exact Or.inr ⟨k, h1, by omega, by omega⟩
theorem rp_ne {I : Mi} {R X : Nat → Int} {c : Nat} (h : c ≠ 281 ∧ c ≠ 282) : (sr (sr I 281 R) 282 X) c = I c := by rw [sr_ne h.2, sr_ne h.1]
theorem c_fl {q p : Int} {H : Nat → Int} (hT : ShM T) (hp0 : 0 ≤ p) (hp1 : p ≤ 1000) (hq0 : 0 ≤ q) (hq1 : q ≤ 7) (hq : Q (some (aI 0)) T (sr I 274 (un H 10 (8 * p + q)))) : EvE G mX12_fails d [aR 274, aI q, aI p] T (sr I 274 H) Q := c_fails hT hp0 hp1 hq0 hq1 (by rw [up2_sr]; exact hq)
theorem c_readsLine {tp a s en t z : Nat} {q x : Int} {H B R X lo hi : Nat → Int} (hT : ShM T) (hd : 3 ≤ d) (htp : H 1 = (tp : Int)) (htp2 : tp ≤ 200) (ha : H 9 = (a : Int)) (ha2 : a ≤ tp) (hB : I 275 = B) (hs : skS B tp (tp - a) a = s) (hW : ∀ q, q < 72 → I 276 q = wdT q) (hlo : ∀ k : Nat, k < 9 → I 277 k = lo k) (hhi : ∀ k : Nat, k < 9 → I 278 k = hi k) (hw : wdF (bA B tp) s 9 0 = q) (hen0 : skB (bA B tp) 97 122 (tp - s) s = en) (ht : skS B tp (tp - en) en = t) (hz : skB (bA B tp) 48 57 (tp - t) t = z) (hx : dvF (bA B tp) (tp - t) t 0 = x) (hq1 : q < 0 → Q (some (aI 0)) T (sr (sr (sr I 281 R) 282 X) 274 (un (un H 9 ((s : Nat) : Int)) 10 (8 * (s : Int) + 1)))) (hq2 : ∀ w : Nat, q = (w : Int) → ¬ X w = 0 → Q (some (aI 0)) T (sr (sr (sr I 281 R) 282 X) 274 (un (un H 9 ((s : Nat) : Int)) 10 (8 * (s : Int) + 3)))) (hq3 : ∀ w : Nat, q = (w : Int) → X w = 0 → ¬ (48 ≤ bA B tp t ∧ bA B tp t ≤ 57) → Q (some (aI 0)) T (sr (sr (sr I 281 R) 282 (un X w (ibw true 1))) 274 (un (un H 9 ((t : Nat) : Int)) 10 (8 * (t : Int) + 1)))) (hq4 : ∀ w : Nat, q = (w : Int) → X w = 0 → (48 ≤ bA B tp t ∧ bA B tp t ≤ 57) → ¬ (lo w ≤ x ∧ x ≤ hi w) → Q (some (aI 0)) T (sr (sr (sr I 281 R) 282 (un X w (ibw true 1))) 274 (un (un H 9 ((z : Nat) : Int)) 10 (8 * (t : Int) + 2)))) (hq5 : ∀ w : Nat, q = (w : Int) → X w = 0 → (48 ≤ bA B tp t ∧ bA B tp t ≤ 57) → (lo w ≤ x ∧ x ≤ hi w) → Q (some (aI 1)) T (sr (sr (sr I 281 (un R w x)) 282 (un X w (ibw true 1))) 274 (un H 9 ((z : Nat) : Int)))) : EvE G mX12_readsLine d [aR 274] T (sr (sr (sr I 281 R) 282 X) 274 H) Q := by
  have hs2 : s ≤ tp := hs ▸ skS_le B tp (tp - a) a ha2
  refine EvE.mk (lv0 := [some (aR 274), none, none, none, none]) (Nat.le_of_ble_eq_true rfl) (by decide +kernel) rfl ?_
  refine r_aload_n (pc := 0) (i := 0) dX12_readsLine_0 rfl rfl ?_
  refine r_callV1 (pc := 1) (d - 1) [] dX12_readsLine_1 (CV.mk2 mk_X12_wordHere lk_X12_98) (RC.of (ltM hT (by omega)) (kM274 hT) (by decide) rfl) rfl rfl (by omega) (Nat.le_of_ble_eq_true rfl) (Nat.le_of_ble_eq_true rfl) (c_wordHere (tp := tp) (a := a) (s := s) (B := B) hT (by omega) htp htp2 ha ha2 ((rp_ne (by decide)).trans hB) hs (fun q hq => (congrFun (rp_ne (by decide)) q).trans (hW q hq)) ?_)
  refine ⟨_, rfl, fun _ => ?_⟩
  refine r_top hw ?_
  refine r_istore_n (pc := 4) (i := 1) (lv' := [_, _, _, _, _]) dX12_readsLine_4 rfl (by decide) rfl ?_
  refine r_iload_n (pc := 5) (i := 1) dX12_readsLine_5 rfl rfl ?_
  refine r_if_ge (pc := 6) (tgt := 19) dX12_readsLine_6 rfl (fun c6 => ?_) (fun c6 => ?_)
  · have hwr := wdF_rng (bA B tp) s 9 0
    rw [hw] at hwr
    obtain ⟨w, hw9, rfl⟩ : ∃ k : Nat, k < 9 ∧ q = (k : Int) := by rcases hwr with h | ⟨k, h1, h2, h3⟩; (exfalso; omega); exact ⟨k, by omega, h1⟩
    refine r_aload_n (pc := 19) (i := 0) dX12_readsLine_19 rfl rfl ?_
    refine r_getfr (pc := 20) (b := 282) cks dX12_readsLine_20 fl_X12_33 rfl (kM274 hT) (ltM hT (by omega)) (rM8 hT) ?_
    refine r_iload_n (pc := 23) (i := 1) dX12_readsLine_23 rfl rfl ?_
    refine r_bld (pc := 24) (w) dX12_readsLine_24 (Or.inr (kM282 hT)) (ltM hT (by omega)) rfl (by rw [lM282 hT]; omega) ?_
    refine r_top (b := X w) ((congrFun (sr_ne (by decide)) _).trans (sr_at _ _ _ _)) ?_
    refine r_if_eq (pc := 25) (tgt := 38) dX12_readsLine_25 rfl (fun c25 => ?_) (fun c25 => ?_)
    · refine r_aload_n (pc := 38) (i := 0) dX12_readsLine_38 rfl rfl ?_
      refine r_getfr (pc := 39) (b := 282) cks dX12_readsLine_39 fl_X12_33 rfl (kM274 hT) (ltM hT (by omega)) (rM8 hT) ?_
      refine r_iload_n (pc := 42) (i := 1) dX12_readsLine_42 rfl rfl ?_
      refine r_iconst (pc := 43) dX12_readsLine_43 (in32_of rfl) ?_
      refine r_bst (pc := 44) (w) true dX12_readsLine_44 (kM282 hT) (ltM hT (by omega)) rfl (by rw [lM282 hT]; omega) ?_
      refine r_mem (I2 := sr (sr (sr I 281 R) 282 (un X w (ibw  true 1))) 274 (un H 9 ((s : Nat) : Int))) (by rw [up2_sr_ne (by decide), up2_sr]) ?_
      refine loop1 (fun (b : Nat) => b ≤ tp ∧ skB (bA B tp) 97 122 (tp - s) s = skB (bA B tp) 97 122 (tp - b) b) (fun (b : Nat) => tp - b) (fun (b : Nat) => [some (aR 274), some (aI ((w : Nat) : Int)), none, none, none]) (fun _ => T) (fun (b : Nat) => sr (sr (sr I 281 R) 282 (un X w (ibw true 1))) 274 (un H 9 ((b : Nat) : Int))) ?_ s ⟨hs2, rfl⟩
      intro b hP ih
      have hP : b ≤ tp ∧ skB (bA B tp) 97 122 (tp - s) s = skB (bA B tp) 97 122 (tp - b) b := hP
      refine (?_ : Ev G mX12_readsLine d 45 [some (aR 274), some (aI ((w : Nat) : Int)), none, none, none] [] T (sr (sr (sr I 281 R) 282 (un X w (ibw true 1))) 274 (un H 9 ((b : Nat) : Int))) Q)
      refine r_aload_n (pc := 45) (i := 0) dX12_readsLine_45 rfl rfl ?_
      refine r_aload_n (pc := 46) (i := 0) dX12_readsLine_46 rfl rfl ?_
      refine r_getfi (pc := 47) cks dX12_readsLine_47 fl_X12_83 rfl (kM274 hT) (ltM hT (by omega)) ?_
      refine r_top (b := (un H 9 ((b : Nat) : Int)) 9) (sr_at _ _ _ _) ?_
      refine r_top (b := (b : Int)) (un_at) ?_
      refine r_callV1 (pc := 50) (d - 1) [aI ((b : Nat) : Int)] dX12_readsLine_50 (CV.mk2 mk_X12_byteAt lk_X12_86) (RC.of (ltM hT (by omega)) (kM274 hT) (by decide) rfl) rfl rfl (by omega) (Nat.le_of_ble_eq_true rfl) (Nat.le_of_ble_eq_true rfl) (c_bAt (k := b) (tp := tp) (B := B) hT (H1_un htp) htp2 ((rp_ne (by decide)).trans hB) ?_)
      refine ⟨_, rfl, fun _ => ?_⟩
      refine r_callS1 (pc := 53) (d - 1) [aI (bA B tp b)] dX12_readsLine_53 (CS.mk2 mk_X12_isLetter lk_X12_94) rfl rfl (by omega) (Nat.le_of_ble_eq_true rfl) (Nat.le_of_ble_eq_true rfl) (c_isLetter ?_)
      refine ⟨_, rfl, fun _ => ?_⟩
      refine r_if_eq (pc := 56) (tgt := 72) dX12_readsLine_56 rfl (fun c56 => ?_) (fun c56 => ?_)
      · have c56 := bi_if.mp c56
        have hen : en = b := by rw [← hen0, hP.2]; by_cases hbt : b < tp; (rw [show tp - b = (tp - (b + 1)) + 1 by omega, skB_succ, if_neg c56]); (rw [show tp - b = 0 by omega]; rfl)
        subst hen
        have hen2 : en ≤ tp := hP.1
        have ht2 : t ≤ tp := ht ▸ skS_le B tp (tp - en) en hP.1
        refine r_aload_n (pc := 72) (i := 0) dX12_readsLine_72 rfl rfl ?_
        refine r_callV1 (pc := 73) (d - 1) [] dX12_readsLine_73 (CV.mk2 mk_X12_next lk_X12_90) (RC.of (ltM hT (by omega)) (kM274 hT) (by decide) rfl) rfl rfl (by omega) (Nat.le_of_ble_eq_true rfl) (Nat.le_of_ble_eq_true rfl) (c_nx (tp := tp) (a := en) (s := t) (B := B) hT (by omega) (H1_un htp) htp2 un_at (by omega) ((rp_ne (by decide)).trans hB) ht ?_)
        refine ⟨_, rfl, fun _ => ?_⟩
        refine r_mem (I2 := sr (sr (sr I 281 R) 282 (un X w (ibw true 1))) 274 (un H 9 ((t : Nat) : Int))) (by rw [un_un]) ?_
        refine r_callS1 (pc := 76) (d - 1) [aI (bA B tp t)] dX12_readsLine_76 (CS.mk2 mk_X12_isDigit lk_X12_105) rfl rfl (by omega) (Nat.le_of_ble_eq_true rfl) (Nat.le_of_ble_eq_true rfl) (c_isDigit ?_)
        refine ⟨_, rfl, fun _ => ?_⟩
        refine r_if_ne (pc := 79) (tgt := 92) dX12_readsLine_79 rfl (fun c79 => ?_) (fun c79 => ?_)
        · have c79 := bi_1 c79
          refine r_aload_n (pc := 92) (i := 0) dX12_readsLine_92 rfl rfl ?_
          refine r_getfi (pc := 93) cks dX12_readsLine_93 fl_X12_83 rfl (kM274 hT) (ltM hT (by omega)) ?_
          refine r_top (b := (un (un H 9 ((en : Nat) : Int)) 9 ((t : Nat) : Int)) 9) (sr_at _ _ _ _) ?_
          refine r_top (b := ((t : Nat) : Int)) (un_at) ?_
          refine r_istore_n (pc := 96) (i := 2) (lv' := [_, _, _, _, _]) dX12_readsLine_96 rfl (by decide) rfl ?_
          refine r_lconst (pc := 97) (z := 0) dX12_readsLine_97 rfl (in64_of rfl) ?_
          refine r_lstore_n (pc := 98) (i := 3) (lv' := [_, _, _, _, _]) dX12_readsLine_98 rfl (by decide) rfl ?_
          refine loop2 (fun (b : Nat) (v : Int) => b ≤ tp ∧ (0 ≤ v ∧ v < 10000000) ∧ skB (bA B tp) 48 57 (tp - t) t = skB (bA B tp) 48 57 (tp - b) b ∧ dvF (bA B tp) (tp - t) t 0 = dvF (bA B tp) (tp - b) b v) (fun (b : Nat) (v : Int) => tp - b) (fun (b : Nat) (v : Int) => [some (aR 274), some (aI ((w : Nat) : Int)), some (aI ((t : Nat) : Int)), some (aL v), none]) (fun _ _ => T) (fun (b : Nat) (v : Int) => sr (sr (sr I 281 R) 282 (un X w (ibw true 1))) 274 (un H 9 ((b : Nat) : Int))) ?_ t 0 ⟨by omega, by omega, rfl, rfl⟩
          intro b v hP2 ih2
          have hP2 : b ≤ tp ∧ (0 ≤ v ∧ v < 10000000) ∧ skB (bA B tp) 48 57 (tp - t) t = skB (bA B tp) 48 57 (tp - b) b ∧ dvF (bA B tp) (tp - t) t 0 = dvF (bA B tp) (tp - b) b v := hP2
          refine (?_ : Ev G mX12_readsLine d 99 [some (aR 274), some (aI ((w : Nat) : Int)), some (aI ((t : Nat) : Int)), some (aL v), none] [] T (sr (sr (sr I 281 R) 282 (un X w (ibw true 1))) 274 (un H 9 ((b : Nat) : Int))) Q)
          refine r_aload_n (pc := 99) (i := 0) dX12_readsLine_99 rfl rfl ?_
          refine r_aload_n (pc := 100) (i := 0) dX12_readsLine_100 rfl rfl ?_
          refine r_getfi (pc := 101) cks dX12_readsLine_101 fl_X12_83 rfl (kM274 hT) (ltM hT (by omega)) ?_
          refine r_top (b := (un H 9 ((b : Nat) : Int)) 9) (sr_at _ _ _ _) ?_
          refine r_top (b := (b : Int)) (un_at) ?_
          refine r_callV1 (pc := 104) (d - 1) [aI ((b : Nat) : Int)] dX12_readsLine_104 (CV.mk2 mk_X12_byteAt lk_X12_86) (RC.of (ltM hT (by omega)) (kM274 hT) (by decide) rfl) rfl rfl (by omega) (Nat.le_of_ble_eq_true rfl) (Nat.le_of_ble_eq_true rfl) (c_bAt (k := b) (tp := tp) (B := B) hT (H1_un htp) htp2 ((rp_ne (by decide)).trans hB) ?_)
          refine ⟨_, rfl, fun _ => ?_⟩
          refine r_callS1 (pc := 107) (d - 1) [aI (bA B tp b)] dX12_readsLine_107 (CS.mk2 mk_X12_isDigit lk_X12_105) rfl rfl (by omega) (Nat.le_of_ble_eq_true rfl) (Nat.le_of_ble_eq_true rfl) (c_isDigit ?_)
          refine ⟨_, rfl, fun _ => ?_⟩
          refine r_if_eq (pc := 110) (tgt := 158) dX12_readsLine_110 rfl (fun c110 => ?_) (fun c110 => ?_)
          · have c110 := bi_if.mp c110
            have hzz : z = b ∧ x = v := by (refine ⟨by rw [← hz, hP2.2.2.1]; by_cases hbt : b < tp; (rw [show tp - b = (tp - (b + 1)) + 1 by omega, skB_succ, if_neg c110]); (rw [show tp - b = 0 by omega]; rfl), ?_⟩); rw [← hx, hP2.2.2.2]; by_cases hbt : b < tp; (rw [show tp - b = (tp - (b + 1)) + 1 by omega, dvF_succ, if_neg c110]); (rw [show tp - b = 0 by omega]; rfl)
            obtain ⟨hz1, hx1⟩ := hzz
            subst hz1
            subst hx1
            refine r_lload_n (pc := 158) (i := 3) dX12_readsLine_158 rfl rfl ?_
            refine r_aload_n (pc := 159) (i := 0) dX12_readsLine_159 rfl rfl ?_
            refine r_getfr (pc := 160) (b := 277) cks dX12_readsLine_160 fl_X12_16 rfl (kM274 hT) (ltM hT (by omega)) (rM3 hT) ?_
            refine r_iload_n (pc := 163) (i := 1) dX12_readsLine_163 rfl rfl ?_
            refine r_ild (pc := 164) (w) dX12_readsLine_164 (kM277 hT) (ltM hT (by omega)) rfl (by rw [lM277 hT]; omega) ?_
            refine r_top (b := I 277 w) ((congrFun (sr_ne (by decide)) _).trans ((congrFun (sr_ne (by decide)) _).trans ((congrFun (sr_ne (by decide)) _).trans (rfl)))) ?_
            refine r_top (b := lo w) (hlo w hw9) ?_
            refine r_i2l (pc := 165) dX12_readsLine_165 ?_
            refine r_aload_n (pc := 166) (i := 0) dX12_readsLine_166 rfl rfl ?_
            refine r_getfr (pc := 167) (b := 278) cks dX12_readsLine_167 fl_X12_21 rfl (kM274 hT) (ltM hT (by omega)) (rM4 hT) ?_
            refine r_iload_n (pc := 170) (i := 1) dX12_readsLine_170 rfl rfl ?_
            refine r_ild (pc := 171) (w) dX12_readsLine_171 (kM278 hT) (ltM hT (by omega)) rfl (by rw [lM278 hT]; omega) ?_
            refine r_top (b := I 278 w) ((congrFun (sr_ne (by decide)) _).trans ((congrFun (sr_ne (by decide)) _).trans ((congrFun (sr_ne (by decide)) _).trans (rfl)))) ?_
            refine r_top (b := hi w) (hhi w hw9) ?_
            refine r_i2l (pc := 172) dX12_readsLine_172 ?_
            refine r_callS1 (pc := 173) (d - 1) [aL x, aL (lo w), aL (hi w)] dX12_readsLine_173 (CS.mk2 mk_X12_isIn1 lk_X12_76) rfl rfl (by omega) (Nat.le_of_ble_eq_true rfl) (Nat.le_of_ble_eq_true rfl) (c_isIn1 ?_)
            refine ⟨_, rfl, fun _ => ?_⟩
            refine r_if_ne (pc := 176) (tgt := 186) dX12_readsLine_176 rfl (fun c176 => ?_) (fun c176 => ?_)
            · have c176 := bi_1 c176
              refine r_aload_n (pc := 186) (i := 0) dX12_readsLine_186 rfl rfl ?_
              refine r_getfr (pc := 187) (b := 281) cks dX12_readsLine_187 fl_X12_30 rfl (kM274 hT) (ltM hT (by omega)) (rM7 hT) ?_
              refine r_iload_n (pc := 190) (i := 1) dX12_readsLine_190 rfl rfl ?_
              refine r_lload_n (pc := 191) (i := 3) dX12_readsLine_191 rfl rfl ?_
              refine r_l2i (pc := 192) dX12_readsLine_192 ?_
              refine r_top (b := x) (by unfold w32; omega) ?_
              refine r_ist (pc := 193) (w) dX12_readsLine_193 (kM281 hT) (ltM hT (by omega)) rfl (by rw [lM281 hT]; omega) ?_
              refine r_mem (I2 := sr (sr (sr I 281 (un R w x)) 282 (un X w (ibw true 1))) 274 (un H 9 ((z : Nat) : Int))) (by rw [up2_sr_ne (by decide), up2_sr_ne (by decide), up2_sr]) ?_
              refine r_iconst (pc := 194) dX12_readsLine_194 (in32_of rfl) ?_
              exact r_iret (pc := 195) dX12_readsLine_195 (Or.inr rfl) (hq5 w rfl c25 c79 c176)
            · have c176 := bi_if.mp (Decidable.of_not_not c176)
              refine r_aload_n (pc := 179) (i := 0) dX12_readsLine_179 rfl rfl ?_
              refine r_iconst (pc := 180) dX12_readsLine_180 (in32_of rfl) ?_
              refine r_iload_n (pc := 181) (i := 2) dX12_readsLine_181 rfl rfl ?_
              refine r_callV1 (pc := 182) (d - 1) [aI 2, aI ((t : Nat) : Int)] dX12_readsLine_182 (CV.mk2 mk_X12_fails lk_X12_101) (RC.of (ltM hT (by omega)) (kM274 hT) (by decide) rfl) rfl rfl (by omega) (Nat.le_of_ble_eq_true rfl) (Nat.le_of_ble_eq_true rfl) (c_fl hT (by omega) (by omega) (by omega) (by omega) ?_)
              refine ⟨_, rfl, fun _ => ?_⟩
              exact r_iret (pc := 185) dX12_readsLine_185 (Or.inl rfl) (hq4 w rfl c25 c79 c176)
          · have c110 := bi_1 c110
            refine r_lload_n (pc := 113) (i := 3) dX12_readsLine_113 rfl rfl ?_
            refine r_ldc2 (pc := 114) (n := 999999) dX12_readsLine_114 cn_X12_108 (in64_of rfl) ?_
            refine r_lcmp (pc := 117) dX12_readsLine_117 ?_
            refine r_if_le (pc := 118) (tgt := 125) dX12_readsLine_118 rfl (fun c118 => ?_) (fun c118 => ?_)
            · rw [lcp_le] at c118
              refine r_ldc2 (pc := 125) (n := 10) dX12_readsLine_125 cn_X12_110 (in64_of rfl) ?_
              refine r_lload_n (pc := 128) (i := 3) dX12_readsLine_128 rfl rfl ?_
              refine r_lmul (pc := 129) dX12_readsLine_129 ?_
              refine r_topL (b := (10 * v)) (by unfold w64; omega) ?_
              refine r_aload_n (pc := 130) (i := 0) dX12_readsLine_130 rfl rfl ?_
              refine r_aload_n (pc := 131) (i := 0) dX12_readsLine_131 rfl rfl ?_
              refine r_getfi (pc := 132) cks dX12_readsLine_132 fl_X12_83 rfl (kM274 hT) (ltM hT (by omega)) ?_
              refine r_top (b := (un H 9 ((b : Nat) : Int)) 9) (sr_at _ _ _ _) ?_
              refine r_top (b := (b : Int)) (un_at) ?_
              refine r_callV1 (pc := 135) (d - 1) [aI ((b : Nat) : Int)] dX12_readsLine_135 (CV.mk2 mk_X12_byteAt lk_X12_86) (RC.of (ltM hT (by omega)) (kM274 hT) (by decide) rfl) rfl rfl (by omega) (Nat.le_of_ble_eq_true rfl) (Nat.le_of_ble_eq_true rfl) (c_bAt (k := b) (tp := tp) (B := B) hT (H1_un htp) htp2 ((rp_ne (by decide)).trans hB) ?_)
              refine ⟨_, rfl, fun _ => ?_⟩
              refine r_i2l (pc := 138) dX12_readsLine_138 ?_
              refine r_ladd (pc := 139) dX12_readsLine_139 ?_
              refine r_topL (b := (10 * v + bA B tp b)) (by unfold w64; omega) ?_
              refine r_ldc2 (pc := 140) (n := 48) dX12_readsLine_140 cn_X12_112 (in64_of rfl) ?_
              refine r_lsub (pc := 143) dX12_readsLine_143 ?_
              refine r_topL (b := (10 * v + bA B tp b - 48)) (by unfold w64; omega) ?_
              refine r_lstore_n (pc := 144) (i := 3) (lv' := [_, _, _, _, _]) dX12_readsLine_144 rfl (by decide) rfl ?_
              refine r_aload_n (pc := 145) (i := 0) dX12_readsLine_145 rfl rfl ?_
              refine r_dup (pc := 146) dX12_readsLine_146 rfl ?_
              refine r_getfi (pc := 147) cks dX12_readsLine_147 fl_X12_83 rfl (kM274 hT) (ltM hT (by omega)) ?_
              refine r_top (b := (un H 9 ((b : Nat) : Int)) 9) (sr_at _ _ _ _) ?_
              refine r_top (b := (b : Int)) (un_at) ?_
              refine r_iconst (pc := 150) dX12_readsLine_150 (in32_of rfl) ?_
              refine r_iaddN (pc := 151) (c := ((b + 1 : Nat) : Int)) dX12_readsLine_151 (by unfold w32; omega) ?_
              refine r_putfi (pc := 152) cks dX12_readsLine_152 fl_X12_83 (pf_12_9 _ _) rfl (kM274 hT) (ltM hT (by omega)) ?_
              refine r_mem (I2 := sr (sr (sr I 281 R) 282 (un X w (ibw true 1))) 274 (un (un H 9 ((b : Nat) : Int)) 9 ((b + 1 : Nat) : Int))) (by rw [up2_sr]) ?_
              refine r_goto (pc := 155) (tgt := 99) dX12_readsLine_155 rfl ?_
              have hbt := bA_in (by omega : (0 : Int) ≤ bA B tp b)
              exact Ev.re rfl (by rw [un_un]) (ih2 (b + 1) (10 * v + bA B tp b - 48) ⟨by omega, by omega, by rw [hP2.2.2.1, show tp - b = (tp - (b + 1)) + 1 by omega, skB_succ, if_pos c110], by rw [hP2.2.2.2, show tp - b = (tp - (b + 1)) + 1 by omega, dvF_succ, if_pos c110, if_neg (by omega)]⟩ (by omega))
            · rw [lcp_le] at c118
              refine r_lload_n (pc := 121) (i := 3) dX12_readsLine_121 rfl rfl ?_
              refine r_goto (pc := 122) (tgt := 144) dX12_readsLine_122 rfl ?_
              refine r_lstore_n (pc := 144) (i := 3) (lv' := [_, _, _, _, _]) dX12_readsLine_144 rfl (by decide) rfl ?_
              refine r_aload_n (pc := 145) (i := 0) dX12_readsLine_145 rfl rfl ?_
              refine r_dup (pc := 146) dX12_readsLine_146 rfl ?_
              refine r_getfi (pc := 147) cks dX12_readsLine_147 fl_X12_83 rfl (kM274 hT) (ltM hT (by omega)) ?_
              refine r_top (b := (un H 9 ((b : Nat) : Int)) 9) (sr_at _ _ _ _) ?_
              refine r_top (b := (b : Int)) (un_at) ?_
              refine r_iconst (pc := 150) dX12_readsLine_150 (in32_of rfl) ?_
              refine r_iaddN (pc := 151) (c := ((b + 1 : Nat) : Int)) dX12_readsLine_151 (by unfold w32; omega) ?_
              refine r_putfi (pc := 152) cks dX12_readsLine_152 fl_X12_83 (pf_12_9 _ _) rfl (kM274 hT) (ltM hT (by omega)) ?_
              refine r_mem (I2 := sr (sr (sr I 281 R) 282 (un X w (ibw true 1))) 274 (un (un H 9 ((b : Nat) : Int)) 9 ((b + 1 : Nat) : Int))) (by rw [up2_sr]) ?_
              refine r_goto (pc := 155) (tgt := 99) dX12_readsLine_155 rfl ?_
              have hbt := bA_in (by omega : (0 : Int) ≤ bA B tp b)
              exact Ev.re rfl (by rw [un_un]) (ih2 (b + 1) v ⟨by omega, by omega, by rw [hP2.2.2.1, show tp - b = (tp - (b + 1)) + 1 by omega, skB_succ, if_pos c110], by rw [hP2.2.2.2, show tp - b = (tp - (b + 1)) + 1 by omega, dvF_succ, if_pos c110, if_pos (by omega)]⟩ (by omega))
        · have c79 := bi_if.mp (Decidable.of_not_not c79)
          refine r_aload_n (pc := 82) (i := 0) dX12_readsLine_82 rfl rfl ?_
          refine r_iconst (pc := 83) dX12_readsLine_83 (in32_of rfl) ?_
          refine r_aload_n (pc := 84) (i := 0) dX12_readsLine_84 rfl rfl ?_
          refine r_getfi (pc := 85) cks dX12_readsLine_85 fl_X12_83 rfl (kM274 hT) (ltM hT (by omega)) ?_
          refine r_top (b := (un (un H 9 ((en : Nat) : Int)) 9 ((t : Nat) : Int)) 9) (sr_at _ _ _ _) ?_
          refine r_top (b := ((t : Nat) : Int)) (un_at) ?_
          refine r_callV1 (pc := 88) (d - 1) [aI 1, aI ((t : Nat) : Int)] dX12_readsLine_88 (CV.mk2 mk_X12_fails lk_X12_101) (RC.of (ltM hT (by omega)) (kM274 hT) (by decide) rfl) rfl rfl (by omega) (Nat.le_of_ble_eq_true rfl) (Nat.le_of_ble_eq_true rfl) (c_fl hT (by omega) (by omega) (by omega) (by omega) ?_)
          refine ⟨_, rfl, fun _ => ?_⟩
          exact r_iret (pc := 91) dX12_readsLine_91 (Or.inl rfl) (hq3 w rfl c25 c79)
      · have c56 := bi_1 c56
        refine r_aload_n (pc := 59) (i := 0) dX12_readsLine_59 rfl rfl ?_
        refine r_dup (pc := 60) dX12_readsLine_60 rfl ?_
        refine r_getfi (pc := 61) cks dX12_readsLine_61 fl_X12_83 rfl (kM274 hT) (ltM hT (by omega)) ?_
        refine r_top (b := (un H 9 ((b : Nat) : Int)) 9) (sr_at _ _ _ _) ?_
        refine r_top (b := (b : Int)) (un_at) ?_
        refine r_iconst (pc := 64) dX12_readsLine_64 (in32_of rfl) ?_
        refine r_iaddN (pc := 65) (c := ((b + 1 : Nat) : Int)) dX12_readsLine_65 (by unfold w32; omega) ?_
        refine r_putfi (pc := 66) cks dX12_readsLine_66 fl_X12_83 (pf_12_9 _ _) rfl (kM274 hT) (ltM hT (by omega)) ?_
        refine r_mem (I2 := sr (sr (sr I 281 R) 282 (un X w (ibw true 1))) 274 (un (un H 9 ((b : Nat) : Int)) 9 ((b + 1 : Nat) : Int))) (by rw [up2_sr]) ?_
        refine r_goto (pc := 69) (tgt := 45) dX12_readsLine_69 rfl ?_
        have hbt := bA_in (by omega : (0 : Int) ≤ bA B tp b)
        exact Ev.re rfl (by rw [un_un]) (ih (b + 1) ⟨by omega, by rw [hP.2, show tp - b = (tp - (b + 1)) + 1 by omega, skB_succ, if_pos c56]⟩ (by omega))
    · refine r_aload_n (pc := 28) (i := 0) dX12_readsLine_28 rfl rfl ?_
      refine r_iconst (pc := 29) dX12_readsLine_29 (in32_of rfl) ?_
      refine r_aload_n (pc := 30) (i := 0) dX12_readsLine_30 rfl rfl ?_
      refine r_getfi (pc := 31) cks dX12_readsLine_31 fl_X12_83 rfl (kM274 hT) (ltM hT (by omega)) ?_
      refine r_top (b := (un H 9 ((s : Nat) : Int)) 9) (sr_at _ _ _ _) ?_
      refine r_top (b := (s : Int)) (un_at) ?_
      refine r_callV1 (pc := 34) (d - 1) [aI 3, aI ((s : Nat) : Int)] dX12_readsLine_34 (CV.mk2 mk_X12_fails lk_X12_101) (RC.of (ltM hT (by omega)) (kM274 hT) (by decide) rfl) rfl rfl (by omega) (Nat.le_of_ble_eq_true rfl) (Nat.le_of_ble_eq_true rfl) (c_fl hT (by omega) (by omega) (by omega) (by omega) ?_)
      refine ⟨_, rfl, fun _ => ?_⟩
      exact r_iret (pc := 37) dX12_readsLine_37 (Or.inl rfl) (hq2 w rfl c25)
  · refine r_aload_n (pc := 9) (i := 0) dX12_readsLine_9 rfl rfl ?_
    refine r_iconst (pc := 10) dX12_readsLine_10 (in32_of rfl) ?_
    refine r_aload_n (pc := 11) (i := 0) dX12_readsLine_11 rfl rfl ?_
    refine r_getfi (pc := 12) cks dX12_readsLine_12 fl_X12_83 rfl (kM274 hT) (ltM hT (by omega)) ?_
    refine r_top (b := (un H 9 ((s : Nat) : Int)) 9) (sr_at _ _ _ _) ?_
    refine r_top (b := (s : Int)) (un_at) ?_
    refine r_callV1 (pc := 15) (d - 1) [aI 1, aI ((s : Nat) : Int)] dX12_readsLine_15 (CV.mk2 mk_X12_fails lk_X12_101) (RC.of (ltM hT (by omega)) (kM274 hT) (by decide) rfl) rfl rfl (by omega) (Nat.le_of_ble_eq_true rfl) (Nat.le_of_ble_eq_true rfl) (c_fl hT (by omega) (by omega) (by omega) (by omega) ?_)
    refine ⟨_, rfl, fun _ => ?_⟩
    exact r_iret (pc := 18) dX12_readsLine_18 (Or.inl rfl) (hq1 (by omega))
end M31

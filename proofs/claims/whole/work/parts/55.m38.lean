section M38
variable {G : Gl} {d : Nat} {T : Sh} {I : Mi} {N : Nat → Int} {Q : Option AV → Sh → Mi → Prop}
/-- how many places of a run have unlike bits -/
def unP (N : Nat → Int) (p b : Nat) : Nat → Nat
  | 0 => 0
  | x + 1 => unP N p b x + if N (oP N p (b + x) + 276) = N (oP N p (b + x) + 532) then 0 else 1
theorem unP_succ (N : Nat → Int) (p b x : Nat) : unP N p b (x + 1) = unP N p b x + if N (oP N p (b + x) + 276) = N (oP N p (b + x) + 532) then 0 else 1 := rfl
theorem unP_le (N : Nat → Int) (p b : Nat) : ∀ x, unP N p b x ≤ x := by
  intro x
  induction x with
  | zero => exact Nat.le_refl 0
  | succ x ih => rw [unP_succ]; split <;> omega
def bkOk (N : Nat → Int) (n B : Nat) (p k w : Int) : Prop := (0 ≤ p ∧ p < N 2) ∧ 0 ≤ k ∧ (0 ≤ w ∧ w ≤ 2) ∧ k.toNat * (B * 2 ^ p.toNat) < n
def bkA (N : Nat → Int) (n B : Nat) (p k : Nat) (w : Int) : Int := if w = 0 then ((k * (B * 2 ^ p) : Nat) : Int) else if w = 1 then ((min (n - k * (B * 2 ^ p)) (B * 2 ^ p) : Nat) : Int) else ((unP N p (k * (B * 2 ^ p)) (min (n - k * (B * 2 ^ p)) (B * 2 ^ p)) : Nat) : Int)
theorem pw_le {B p : Nat} (hB : B ≤ 64) (hp : p < 6) : B * 2 ^ p ≤ 2048 := by
  have h : (2 : Nat) ^ p ≤ 2 ^ 5 := Nat.pow_le_pow_right (by decide) (by omega)
  have h2 : (2 : Nat) ^ 5 = 32 := by decide
  have := Nat.mul_le_mul hB h
  omega
theorem w64_mul {k s : Nat} (hk : k < 2147483648) (hs : s ≤ 2048) : w64 ((k : Int) * (s : Int)) = ((k * s : Nat) : Int) := by
  have h : k * s ≤ 2147483648 * 2048 := Nat.mul_le_mul (by omega) hs
  rw [← Int.natCast_mul]
  exact w64_id (by unfold in64; omega)
theorem w32_mul {k s : Nat} (h : k * s < 100000) : w32 ((k : Int) * (s : Int)) = ((k * s : Nat) : Int) := by
  rw [← Int.natCast_mul]
  exact w32_id (by unfold in32; omega)
theorem c_block {n B : Nat} {p k w : Int} (hT : ShM T) (hd : 2 ≤ d) (hn : N 1 = (n : Int)) (hn2 : n ≤ 256) (hR : Rng N) (hB : bkI I = (B : Int)) (hB2 : B ≤ 64) (hk : in32 k) (hq0 : ¬ bkOk N n B p k w → Q (some (aI (-1))) T (sr I 283 N)) (hq1 : ∀ p2 k2 : Nat, p = (p2 : Int) → k = (k2 : Int) → bkOk N n B p k w → Q (some (aI (bkA N n B p2 k2 w))) T (sr I 283 N)) : EvE G mX12_block d [aR 274, aI p, aI k, aI w] T (sr I 283 N) Q := by
  refine EvE.mk (lv0 := [some (aR 274), some (aI p), some (aI k), some (aI w), none, none, none, none]) (Nat.le_of_ble_eq_true rfl) (by decide +kernel) rfl ?_
  refine r_aload_n (pc := 0) (i := 0) dX12_block_0 rfl rfl ?_
  refine r_iload_n (pc := 1) (i := 1) dX12_block_1 rfl rfl ?_
  refine r_callV1 (pc := 2) (d - 1) [aI p] dX12_block_2 (CV.mk2 mk_X12_isPass lk_X12_245) (RC.of (ltM hT (by omega)) (kM274 hT) (by decide) rfl) rfl rfl (by omega) (Nat.le_of_ble_eq_true rfl) (Nat.le_of_ble_eq_true rfl) (c_isPass hT ?_)
  refine ⟨_, rfl, fun _ => ?_⟩
  refine r_if_eq (pc := 5) (tgt := 44) dX12_block_5 rfl (fun c5 => ?_) (fun c5 => ?_)
  · have c5 := bi_if.mp c5
    refine r_iconst (pc := 44) dX12_block_44 (in32_of rfl) ?_
    exact r_iret (pc := 45) dX12_block_45 trivial (hq0 (fun h => by unfold bkOk at h; omega))
  · have c5 := bi_1 c5
    obtain ⟨p, rfl⟩ : ∃ e : Nat, p = (e : Int) := ⟨p.toNat, by omega⟩
    have hp6 : p < 6 := by have := (ok_2.mp (hR 2)).2; omega
    obtain ⟨s, hs⟩ : ∃ s, s = B * 2 ^ p := ⟨_, rfl⟩
    have hs2 : s ≤ 2048 := hs ▸ pw_le hB2 hp6
    refine r_iload_n (pc := 8) (i := 2) dX12_block_8 rfl rfl ?_
    refine r_if_lt (pc := 9) (tgt := 44) dX12_block_9 rfl (fun c9 => ?_) (fun c9 => ?_)
    · refine r_iconst (pc := 44) dX12_block_44 (in32_of rfl) ?_
      exact r_iret (pc := 45) dX12_block_45 trivial (hq0 (fun h => by unfold bkOk at h; omega))
    · obtain ⟨k, rfl⟩ : ∃ e : Nat, k = (e : Int) := ⟨k.toNat, by omega⟩
      have hkk : k < 2147483648 := by unfold in32 at hk; omega
      refine r_iload_n (pc := 12) (i := 3) dX12_block_12 rfl rfl ?_
      refine r_i2l (pc := 13) dX12_block_13 ?_
      refine r_lconst (pc := 14) (z := 0) dX12_block_14 rfl (in64_of rfl) ?_
      refine r_ldc2 (pc := 15) (n := 2) dX12_block_15 cn_X12_301 (in64_of rfl) ?_
      refine r_callS1 (pc := 18) (d - 1) [aL w, aL 0, aL 2] dX12_block_18 (CS.mk2 mk_X12_isIn1 lk_X12_76) rfl rfl (by omega) (Nat.le_of_ble_eq_true rfl) (Nat.le_of_ble_eq_true rfl) (c_isIn1 ?_)
      refine ⟨_, rfl, fun _ => ?_⟩
      refine r_if_eq (pc := 21) (tgt := 44) dX12_block_21 rfl (fun c21 => ?_) (fun c21 => ?_)
      · have c21 := bi_if.mp c21
        refine r_iconst (pc := 44) dX12_block_44 (in32_of rfl) ?_
        exact r_iret (pc := 45) dX12_block_45 trivial (hq0 (fun h => by unfold bkOk at h; omega))
      · have c21 := bi_1 c21
        refine r_iload_n (pc := 24) (i := 2) dX12_block_24 rfl rfl ?_
        refine r_i2l (pc := 25) dX12_block_25 ?_
        refine r_aload_n (pc := 26) (i := 0) dX12_block_26 rfl rfl ?_
        refine r_iload_n (pc := 27) (i := 1) dX12_block_27 rfl rfl ?_
        refine r_callV1 (pc := 28) (d - 1) [aI ((p : Nat) : Int)] dX12_block_28 (CV.mk2 mk_X12_blockOf lk_X12_179) (RC.of (ltM hT (by omega)) (kM274 hT) (by decide) rfl) rfl rfl (by omega) (Nat.le_of_ble_eq_true rfl) (Nat.le_of_ble_eq_true rfl) (c_blockOf (p := p) hT hB hB2 (by omega) ?_)
        refine ⟨_, rfl, fun _ => ?_⟩
        refine r_top (b := (s : Int)) (by rw [hs]) ?_
        refine r_i2l (pc := 31) dX12_block_31 ?_
        refine r_lmul (pc := 32) dX12_block_32 ?_
        refine r_topL (b := (((k * s) : Nat) : Int)) (w64_mul hkk hs2) ?_
        refine r_aload_n (pc := 33) (i := 0) dX12_block_33 rfl rfl ?_
        refine r_getfr (pc := 34) (b := 283) cks dX12_block_34 fl_X12_37 rfl (kM274 hT) (ltM hT (by omega)) (rM11 hT) ?_
        refine r_iconst (pc := 37) dX12_block_37 (in32_of rfl) ?_
        refine r_ild (pc := 38) (1) dX12_block_38 (kM283 hT) (ltM hT (by omega)) (by omega) (by rw [lM283 hT]; omega) ?_
        refine r_top (b := N 1) (sr_at _ _ _ _) ?_
        refine r_top (b := (n : Int)) (hn) ?_
        refine r_i2l (pc := 39) dX12_block_39 ?_
        refine r_lcmp (pc := 40) dX12_block_40 ?_
        refine r_if_lt (pc := 41) (tgt := 46) dX12_block_41 rfl (fun c41 => ?_) (fun c41 => ?_)
        · have hkn : k * s < n := by rw [lcp_lt] at c41; omega
          have hok : bkOk N n B (p : Int) (k : Int) w := ⟨by omega, by omega, by omega, by rw [Int.toNat_natCast, Int.toNat_natCast, ← hs]; exact hkn⟩
          have hq2 := hq1 p k rfl rfl hok
          unfold bkA at hq2
          rw [← hs] at hq2
          obtain ⟨m, hm⟩ : ∃ m, m = min (n - k * s) s := ⟨_, rfl⟩
          rw [← hm] at hq2
          refine r_iload_n (pc := 46) (i := 2) dX12_block_46 rfl rfl ?_
          refine r_aload_n (pc := 47) (i := 0) dX12_block_47 rfl rfl ?_
          refine r_iload_n (pc := 48) (i := 1) dX12_block_48 rfl rfl ?_
          refine r_callV1 (pc := 49) (d - 1) [aI ((p : Nat) : Int)] dX12_block_49 (CV.mk2 mk_X12_blockOf lk_X12_179) (RC.of (ltM hT (by omega)) (kM274 hT) (by decide) rfl) rfl rfl (by omega) (Nat.le_of_ble_eq_true rfl) (Nat.le_of_ble_eq_true rfl) (c_blockOf (p := p) hT hB hB2 (by omega) ?_)
          refine ⟨_, rfl, fun _ => ?_⟩
          refine r_top (b := (s : Int)) (by rw [hs]) ?_
          refine r_imulN (pc := 52) (c := (((k * s) : Nat) : Int)) dX12_block_52 (w32_mul (by omega)) ?_
          refine r_istore (pc := 53) (i := 4) (lv' := [_, _, _, _, _, _, _, _]) dX12_block_53 (by decide) rfl ?_
          refine r_iload_n (pc := 55) (i := 3) dX12_block_55 rfl rfl ?_
          refine r_if_ne (pc := 56) (tgt := 62) dX12_block_56 rfl (fun c56 => ?_) (fun c56 => ?_)
          · refine r_iload_n (pc := 62) (i := 3) dX12_block_62 rfl rfl ?_
            refine r_iconst (pc := 63) dX12_block_63 (in32_of rfl) ?_
            refine r_icmp_ne (pc := 64) (tgt := 75) dX12_block_64 rfl (fun c64 => ?_) (fun c64 => ?_)
            · refine r_iconst (pc := 75) dX12_block_75 (in32_of rfl) ?_
              refine r_istore (pc := 76) (i := 5) (lv' := [_, _, _, _, _, _, _, _]) dX12_block_76 (by decide) rfl ?_
              refine r_iload (pc := 78) (i := 4) dX12_block_78 rfl ?_
              refine r_istore (pc := 80) (i := 6) (lv' := [_, _, _, _, _, _, _, _]) dX12_block_80 (by decide) rfl ?_
              refine Ev.re (lv2 := [some (aR 274), some (aI ((p : Nat) : Int)), some (aI ((k : Nat) : Int)), some (aI w), some (aI (((k * s) : Nat) : Int)), some (aI (((unP N p (k * s) 0) : Nat) : Int)), some (aI (((k * s + 0) : Nat) : Int)), none]) (by rw [Nat.add_zero]; rfl) rfl ?_
              refine loop1 (fun (x : Nat) => x ≤ m) (fun (x : Nat) => m - x) (fun (x : Nat) => [some (aR 274), some (aI ((p : Nat) : Int)), some (aI ((k : Nat) : Int)), some (aI w), some (aI (((k * s) : Nat) : Int)), some (aI (((unP N p (k * s) x) : Nat) : Int)), some (aI (((k * s + x) : Nat) : Int)), none]) (fun _ => T) (fun (x : Nat) => sr I 283 N) ?_ 0 (Nat.zero_le _)
              intro x hP ih
              have hP : x ≤ m := hP
              have hux := unP_le N p (k * s) x
              refine (?_ : Ev G mX12_block d 82 [some (aR 274), some (aI ((p : Nat) : Int)), some (aI ((k : Nat) : Int)), some (aI w), some (aI (((k * s) : Nat) : Int)), some (aI (((unP N p (k * s) x) : Nat) : Int)), some (aI (((k * s + x) : Nat) : Int)), none] [] T (sr I 283 N) Q)
              refine r_iload (pc := 82) (i := 6) dX12_block_82 rfl ?_
              refine r_iload (pc := 84) (i := 4) dX12_block_84 rfl ?_
              refine r_aload_n (pc := 86) (i := 0) dX12_block_86 rfl rfl ?_
              refine r_iload_n (pc := 87) (i := 1) dX12_block_87 rfl rfl ?_
              refine r_iload (pc := 88) (i := 4) dX12_block_88 rfl ?_
              refine r_callV1 (pc := 90) (d - 1) [aI ((p : Nat) : Int), aI (((k * s) : Nat) : Int)] dX12_block_90 (CV.mk2 mk_X12_longOf lk_X12_182) (RC.of (ltM hT (by omega)) (kM274 hT) (by decide) rfl) rfl rfl (by omega) (Nat.le_of_ble_eq_true rfl) (Nat.le_of_ble_eq_true rfl) (c_longOf (n := n) (p := p) (b := k * s) hT (by omega) hn hn2 hB hB2 (by omega) (by omega) ?_)
              refine ⟨_, rfl, fun _ => ?_⟩
              refine r_top (b := (m : Int)) (by rw [hm, hs]) ?_
              refine r_iaddN (pc := 93) (c := (((k * s) + m : Nat) : Int)) dX12_block_93 (by unfold w32; omega) ?_
              refine r_icmp_ge (pc := 94) (tgt := 157) dX12_block_94 rfl (fun c94 => ?_) (fun c94 => ?_)
              · refine r_iload (pc := 157) (i := 5) dX12_block_157 rfl ?_
                exact r_iret (pc := 159) dX12_block_159 trivial (by rw [if_neg c56, if_neg c64, show m = x by omega] at hq2; exact hq2)
              · have hox := oP_rd (p := p) (k := k * s + x) (Rng_O hR) (by omega)
                refine r_aload_n (pc := 97) (i := 0) dX12_block_97 rfl rfl ?_
                refine r_getfr (pc := 98) (b := 283) cks dX12_block_98 fl_X12_37 rfl (kM274 hT) (ltM hT (by omega)) (rM11 hT) ?_
                refine r_sipush (pc := 101) dX12_block_101 rfl (in32_of rfl) ?_
                refine r_sipush (pc := 104) dX12_block_104 rfl (in32_of rfl) ?_
                refine r_iload_n (pc := 107) (i := 1) dX12_block_107 rfl rfl ?_
                refine r_imulN (pc := 108) (c := ((256 * p : Nat) : Int)) dX12_block_108 (by unfold w32; omega) ?_
                refine r_iaddN (pc := 109) (c := ((256 * p + 1044 : Nat) : Int)) dX12_block_109 (by unfold w32; omega) ?_
                refine r_iload (pc := 110) (i := 6) dX12_block_110 rfl ?_
                refine r_iaddN (pc := 112) (c := ((256 * p + (k * s + x) + 1044 : Nat) : Int)) dX12_block_112 (by unfold w32; omega) ?_
                refine r_ild (pc := 113) (256 * p + (k * s + x) + 1044) dX12_block_113 (kM283 hT) (ltM hT (by omega)) rfl (by rw [lM283 hT]; omega) ?_
                refine r_top (b := N (256 * p + (k * s + x) + 1044)) (sr_at _ _ _ _) ?_
                refine r_top (b := ((oP N p (k * s + x) : Nat) : Int)) (by rw [show 256 * p + (k * s + x) + 1044 = 256 * p + (k * s + x) + 1044 by omega]; exact hox.1) ?_
                refine r_istore (pc := 114) (i := 7) (lv' := [_, _, _, _, _, _, _, _]) dX12_block_114 (by decide) rfl ?_
                refine r_iload (pc := 116) (i := 5) dX12_block_116 rfl ?_
                refine r_aload_n (pc := 118) (i := 0) dX12_block_118 rfl rfl ?_
                refine r_getfr (pc := 119) (b := 283) cks dX12_block_119 fl_X12_37 rfl (kM274 hT) (ltM hT (by omega)) (rM11 hT) ?_
                refine r_sipush (pc := 122) dX12_block_122 rfl (in32_of rfl) ?_
                refine r_iload (pc := 125) (i := 7) dX12_block_125 rfl ?_
                refine r_iaddN (pc := 127) (c := (((oP N p (k * s + x)) + 276 : Nat) : Int)) dX12_block_127 (by unfold w32; omega) ?_
                refine r_ild (pc := 128) ((oP N p (k * s + x)) + 276) dX12_block_128 (kM283 hT) (ltM hT (by omega)) rfl (by rw [lM283 hT]; omega) ?_
                refine r_top (b := N ((oP N p (k * s + x)) + 276)) (sr_at _ _ _ _) ?_
                refine r_aload_n (pc := 129) (i := 0) dX12_block_129 rfl rfl ?_
                refine r_getfr (pc := 130) (b := 283) cks dX12_block_130 fl_X12_37 rfl (kM274 hT) (ltM hT (by omega)) (rM11 hT) ?_
                refine r_sipush (pc := 133) dX12_block_133 rfl (in32_of rfl) ?_
                refine r_iload (pc := 136) (i := 7) dX12_block_136 rfl ?_
                refine r_iaddN (pc := 138) (c := (((oP N p (k * s + x)) + 532 : Nat) : Int)) dX12_block_138 (by unfold w32; omega) ?_
                refine r_ild (pc := 139) ((oP N p (k * s + x)) + 532) dX12_block_139 (kM283 hT) (ltM hT (by omega)) rfl (by rw [lM283 hT]; omega) ?_
                refine r_top (b := N ((oP N p (k * s + x)) + 532)) (sr_at _ _ _ _) ?_
                refine r_icmp_ne (pc := 140) (tgt := 147) dX12_block_140 rfl (fun c140 => ?_) (fun c140 => ?_)
                · refine r_iconst (pc := 147) dX12_block_147 (in32_of rfl) ?_
                  refine r_iaddN (pc := 148) (c := (((unP N p (k * s) x) + 1 : Nat) : Int)) dX12_block_148 (by unfold w32; omega) ?_
                  refine r_istore (pc := 149) (i := 5) (lv' := [_, _, _, _, _, _, _, _]) dX12_block_149 (by decide) rfl ?_
                  refine r_iincN (pc := 151) (i := 6) (c := (((k * s + x) + 1 : Nat) : Int)) (lv' := [_, _, _, _, _, _, _, _]) dX12_block_151 rfl (by decide) (by unfold w32; omega) rfl ?_
                  refine r_goto (pc := 154) (tgt := 82) dX12_block_154 rfl ?_
                  refine Ev.weak (lv2 := [some (aR 274), some (aI ((p : Nat) : Int)), some (aI ((k : Nat) : Int)), some (aI w), some (aI (((k * s) : Nat) : Int)), some (aI (((unP N p (k * s) x) + 1 : Nat) : Int)), some (aI (((k * s + x) + 1 : Nat) : Int)), none]) ⟨Or.inr rfl, Or.inr rfl, Or.inr rfl, Or.inr rfl, Or.inr rfl, Or.inr rfl, Or.inr rfl, Or.inl rfl, trivial⟩ ?_
                  exact Ev.re (by rw [unP_succ, if_neg c140, Nat.add_assoc]) rfl (ih (x + 1) (by omega) (by omega))
                · have c140 := Decidable.of_not_not c140
                  refine r_iconst (pc := 143) dX12_block_143 (in32_of rfl) ?_
                  refine r_goto (pc := 144) (tgt := 148) dX12_block_144 rfl ?_
                  refine r_iaddN (pc := 148) (c := (((unP N p (k * s) x) : Nat) : Int)) dX12_block_148 (by unfold w32; omega) ?_
                  refine r_istore (pc := 149) (i := 5) (lv' := [_, _, _, _, _, _, _, _]) dX12_block_149 (by decide) rfl ?_
                  refine r_iincN (pc := 151) (i := 6) (c := (((k * s + x) + 1 : Nat) : Int)) (lv' := [_, _, _, _, _, _, _, _]) dX12_block_151 rfl (by decide) (by unfold w32; omega) rfl ?_
                  refine r_goto (pc := 154) (tgt := 82) dX12_block_154 rfl ?_
                  refine Ev.weak (lv2 := [some (aR 274), some (aI ((p : Nat) : Int)), some (aI ((k : Nat) : Int)), some (aI w), some (aI (((k * s) : Nat) : Int)), some (aI (((unP N p (k * s) x) : Nat) : Int)), some (aI (((k * s + x) + 1 : Nat) : Int)), none]) ⟨Or.inr rfl, Or.inr rfl, Or.inr rfl, Or.inr rfl, Or.inr rfl, Or.inr rfl, Or.inr rfl, Or.inl rfl, trivial⟩ ?_
                  exact Ev.re (by rw [unP_succ, if_pos c140, Nat.add_assoc]; rfl) rfl (ih (x + 1) (by omega) (by omega))
            · have c64 := Decidable.of_not_not c64
              refine r_aload_n (pc := 67) (i := 0) dX12_block_67 rfl rfl ?_
              refine r_iload_n (pc := 68) (i := 1) dX12_block_68 rfl rfl ?_
              refine r_iload (pc := 69) (i := 4) dX12_block_69 rfl ?_
              refine r_callV1 (pc := 71) (d - 1) [aI ((p : Nat) : Int), aI (((k * s) : Nat) : Int)] dX12_block_71 (CV.mk2 mk_X12_longOf lk_X12_182) (RC.of (ltM hT (by omega)) (kM274 hT) (by decide) rfl) rfl rfl (by omega) (Nat.le_of_ble_eq_true rfl) (Nat.le_of_ble_eq_true rfl) (c_longOf (n := n) (p := p) (b := k * s) hT (by omega) hn hn2 hB hB2 (by omega) (by omega) ?_)
              refine ⟨_, rfl, fun _ => ?_⟩
              refine r_top (b := (m : Int)) (by rw [hm, hs]) ?_
              exact r_iret (pc := 74) dX12_block_74 trivial (by rw [if_neg c56, if_pos c64] at hq2; exact hq2)
          · have c56 := Decidable.of_not_not c56
            refine r_iload (pc := 59) (i := 4) dX12_block_59 rfl ?_
            exact r_iret (pc := 61) dX12_block_61 trivial (by rw [if_pos c56] at hq2; exact hq2)
        · refine r_iconst (pc := 44) dX12_block_44 (in32_of rfl) ?_
          exact r_iret (pc := 45) dX12_block_45 trivial (hq0 (fun h => by unfold bkOk at h; rw [lcp_lt] at c41; rw [Int.toNat_natCast, Int.toNat_natCast, ← hs] at h; omega))
end M38

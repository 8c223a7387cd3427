section C32
variable {G : Gl} {d : Nat} {T : Sh} {I : Mi} {N : Nat → Int} {Q : Option AV → Sh → Mi → Prop}
def bE (j : Nat) : Int := [0, 1, 2, 4].getD j 0
/-- whether the k-th of an eight is told of by j -/
def eC (j k : Nat) : Prop := j = 0 ∨ ian (isr k ((j : Int) - 1)) 1 = 1
theorem eC_b : ∀ j : Nat, j < 4 → ∀ k : Nat, k < 8 → (ian k (bE j) = bE j ↔ (j = 0 ∨ ian (isr k ((j : Int) - 1)) 1 = 1)) := by decide +kernel
def eB (j k : Nat) : Bool := decide (ian k (bE j) = bE j)
theorem p8_01 {M : Nat → Int} {y e : Nat} {j : Int} (hR : Rng M) (hy : y = 276 ∨ y = 532) : ∀ k, k ≤ 8 → 8 * e + k ≤ 256 → p8 M y e j k = 0 ∨ p8 M y e j k = 1 := by
  intro k
  induction k with
  | zero => intro _ _; exact Or.inl rfl
  | succ k ih =>
    intro h1 h2
    have hv := Rng_key (j := y + 8 * e + k) hR (by omega) (by omega)
    rw [p8_succ]
    refine ixo_01 (ih (by omega) (by omega)) ?_
    split
    · exact hv
    · split
      · exact hv
      · exact Or.inl rfl
theorem p8_in {M : Nat → Int} {y e j k : Nat} (hj : j < 4) (hk : k < 8) (h : ian k (bE j) = bE j) : p8 M y e j (k + 1) = ixo (p8 M y e j k) (M (y + 8 * e + k)) := by
  rw [p8_succ]
  rcases (eC_b j hj k hk).mp h with g | g
  · rw [if_pos (by omega)]
  · by_cases g0 : (j : Int) = 0
    · rw [if_pos g0]
    · rw [if_neg g0, if_pos g]
theorem p8_out {M : Nat → Int} {y e j k : Nat} (hR : Rng M) (hy : y = 276 ∨ y = 532) (hj : j < 4) (hk : k < 8) (he : 8 * e + 8 ≤ 256) (h : ¬ ian k (bE j) = bE j) : p8 M y e j (k + 1) = p8 M y e j k := by
  have g := fun x => h ((eC_b j hj k hk).mpr x)
  have h01 := p8_01 (M := M) (y := y) (e := e) (j := (j : Int)) hR hy k (by omega) (by omega)
  rw [p8_succ, if_neg (fun x => g (Or.inl (by omega))), if_neg (fun x => g (Or.inr x)), ixo_bit h01 (Or.inl rfl)]
  omega
def w8S (e j : Nat) (W : Nat → Int) : Nat → (Nat → Int)
  | 0 => W
  | k + 1 => if ian k (bE j) = bE j then un (w8S e j W k) ((8 * e + k) / 64) (lro (w8S e j W k ((8 * e + k) / 64)) (lsl 1 (((8 * e + k) % 64 : Nat) : Int))) else w8S e j W k
theorem w8S_succ (e j : Nat) (W : Nat → Int) (k : Nat) : w8S e j W (k + 1) = if ian k (bE j) = bE j then un (w8S e j W k) ((8 * e + k) / 64) (lro (w8S e j W k ((8 * e + k) / 64)) (lsl 1 (((8 * e + k) % 64 : Nat) : Int))) else w8S e j W k := rfl
def in8 (e j k q : Nat) : Bool := decide (8 * e ≤ q) && decide (q < 8 * e + k) && eB j (q - 8 * e)
theorem in8_succ (e j k q : Nat) : in8 e j (k + 1) q = (in8 e j k q || (decide (q = 8 * e + k) && eB j k)) := by
  unfold in8
  by_cases g : q = 8 * e + k
  · subst g
    have e1 : 8 * e + k - 8 * e = k := by omega
    simp [e1]
  · by_cases g1 : 8 * e ≤ q
    · have e2 : (q < 8 * e + (k + 1)) = (q < 8 * e + k) := by apply propext; omega
      simp [g, e2]
    · simp [g, g1]
theorem in8_at (e j k : Nat) : in8 e j k (8 * e + k) = false := by
  unfold in8
  have : ¬ (8 * e + k < 8 * e + k) := Nat.lt_irrefl _
  simp [this]
theorem b64_w8 {e j : Nat} {W : Nat → Int} {q : Nat} : ∀ k, b64 (w8S e j W k (q / 64)) (q % 64) = (b64 (W (q / 64)) (q % 64) || in8 e j k q) := by
  intro k
  induction k with
  | zero =>
    have : in8 e j 0 q = false := by
      unfold in8
      by_cases g : 8 * e ≤ q
      · have : ¬ q < 8 * e := by omega
        simp [this]
      · simp [g]
    rw [this, Bool.or_false]; rfl
  | succ k ih =>
    rw [w8S_succ, in8_succ]
    by_cases h : ian k (bE j) = bE j
    · rw [if_pos h, show eB j k = true from decide_eq_true h, Bool.and_true]
      unfold un
      by_cases g : q / 64 = (8 * e + k) / 64
      · rw [if_pos g, b64_or, ← g, ih, b64_bit, Bool.or_assoc]
        have e2 : decide ((8 * e + k) % 64 = q % 64) = decide (q = 8 * e + k) := by
          by_cases g2 : q = 8 * e + k
          · rw [decide_eq_true g2, decide_eq_true (by rw [g2])]
          · rw [decide_eq_false g2, decide_eq_false (by omega)]
        rw [e2]
      · rw [if_neg g, ih, show decide (q = 8 * e + k) = false from decide_eq_false (fun x => g (by rw [x])), Bool.or_false]
    · rw [if_neg h, ih, show eB j k = false from decide_eq_false h, Bool.and_false, Bool.or_false]
theorem sb_stE {e j : Nat} {S : Nat → Int} {q : Nat} (hj : j < 4) : ∀ k, k ≤ 8 → sb (stE j e S k) q = Bool.xor (sb S q) (in8 e j k q) := by
  intro k
  induction k with
  | zero =>
    intro _
    have : in8 e j 0 q = false := by
      unfold in8
      by_cases g : 8 * e ≤ q
      · have : ¬ q < 8 * e := by omega
        simp [this]
      · simp [g]
    rw [this, Bool.xor_false]; rfl
  | succ k ih =>
    intro hk
    have ih := ih (by omega)
    rw [stE_succ, in8_succ]
    have hfin : ∀ bq : Bool, bq = eB j k → Bool.xor (sb (stE j e S k) q) (bq && decide (8 * e + k = q)) = Bool.xor (sb S q) (in8 e j k q || (decide (q = 8 * e + k) && eB j k)) := by
      intro bq hb
      subst hb
      rw [ih]
      by_cases g : q = 8 * e + k
      · subst g
        rw [in8_at]
        cases sb S (8 * e + k) <;> cases eB j k <;> simp
      · have g2 : ¬ 8 * e + k = q := fun x => g x.symm
        simp [g, g2]
    by_cases g0 : (j : Int) = 0
    · have hb : eB j k = true := decide_eq_true ((eC_b j hj k (by omega)).mpr (Or.inl (by omega)))
      rw [if_pos g0, sb_adS, ← hfin true hb.symm, Bool.true_and]
    · rw [if_neg g0]
      by_cases g1 : ian (isr k ((j : Int) - 1)) 1 = 1
      · have hb : eB j k = true := decide_eq_true ((eC_b j hj k (by omega)).mpr (Or.inr g1))
        rw [if_pos g1, sb_adS, ← hfin true hb.symm, Bool.true_and]
      · have hb : eB j k = false := decide_eq_false (fun x => by rcases (eC_b j hj k (by omega)).mp x with y | y; exact g0 (by omega); exact g1 y)
        rw [if_neg g1, ← hfin false hb.symm, Bool.false_and, Bool.xor_false]
theorem a8_P {T U : Sh} {I K : Mi} {s w p o t c p2 o2 t2 c2 : Nat} {M W : Nat → Int} {q n e j : Nat} (hM : MwR T I s p o t c M q n) (hP : PmO M q n) (hL : LdOk M q n) (hw : w < 291) (hdw : w < s ∨ s + 15 ≤ w) (ht : tN M < 13608) (he : 8 * e + 8 ≤ n) (hj : j < 4)
   (hW : ∀ z, z < 256 → b64 (W (z / 64)) (z % 64) = in8 e j 8 z)
   (h : TlP T U (sr I w W) K s p o t c p2 o2 t2 c2 (tN M) (p8 M 276 e j 8) (-2) W) : AsW T U I K s w p o t c p2 o2 t2 c2 (a8F M e j) q n ∧ PmO (a8F M e j) q n ∧ LdOk (a8F M e j) q n := by
  have hn2 := hP.2.2.1
  have h01 := p8_01 (M := M) (y := 276) (e := e) (j := (j : Int)) hP.1 (Or.inl rfl) 8 (Nat.le_refl 8) (by omega)
  have ec : tlF M 1 (p8 M 276 e j 8) 0 e j (tN M + 3902) = cdL 1 ((p8 M 276 e j 8).toNat : Nat) 0 e j := by rw [tl_new]; congr 1; omega
  obtain ⟨e1, e2, e3, e4⟩ := cd_1 (N := tlF M 1 (p8 M 276 e j 8) 0 e j) (k := tN M) (a := (p8 M 276 e j 8).toNat) (e := e) (j := j) (by omega) (by omega) (by omega) ec
  have z0 : ¬ tkN (tlF M 1 (p8 M 276 e j 8) 0 e j) (tN M : Int) = 0 := by rw [e1]; decide
  refine tl_P hM hP hL hw hdw ht (Or.inr (Or.inl ⟨_, e, j, by omega, he, by omega, ec⟩)) (by rw [e2]; omega) (by rw [if_neg z0, if_pos e1]) (fun z hz => ?_) h
  rw [hW z hz, sbR_eq]
  unfold stF
  rw [if_neg z0, if_pos e1, e3, e4, Int.toNat_natCast, sb_stE hj 8 (Nat.le_refl 8), sb_z8 hz, Bool.false_xor]
theorem k_askEight {m e j q n : Nat} {M : Nat → Int} {s p o t c : Nat} (hS : ShS T s p o t c) (hd : 3 ≤ d) (hD : ShD T m) (hdm : m + 4 ≤ s ∨ s + 15 ≤ m) (hM : MwR T I s p o t c M q n) (hP0 : PmO M q n) (hL : LdOk M q n) (he : 8 * e + 8 ≤ n) (hj : j < 4) (ht : tN M < 13608) (hq : ∀ (U : Sh) (K : Mi) (p2 o2 t2 c2 : Nat), AsW T U I K s (m + 3) p o t c p2 o2 t2 c2 (a8F M e j) q n ∧ PmO (a8F M e j) q n ∧ LdOk (a8F M e j) q n → Q (some (aI (u8 M e j))) U K) : EvE G mX5_askEight d [aR m, aR s, aI ((8 * e : Nat) : Int), aI (bE j)] T I Q := by
  have hne := neS hS
  have hm0 := hD.1
  have hn2 := hP0.2.2.1
  refine EvE.mk (lv0 := [some (aR m), some (aR s), some (aI ((8 * e : Nat) : Int)), some (aI (bE j)), none, none, none, none]) (Nat.le_of_ble_eq_true rfl) (by decide +kernel) rfl ?_
  refine r_iconst (pc := 0) dX5_askEight_0 (in32_of rfl) ?_
  refine r_istore (pc := 1) (i := 4) (lv' := [_, _, _, _, _, _, _, _]) dX5_askEight_1 (by decide) rfl ?_
  refine r_iconst (pc := 3) dX5_askEight_3 (in32_of rfl) ?_
  refine r_istore (pc := 4) (i := 5) (lv' := [_, _, _, _, _, _, _, _]) dX5_askEight_4 (by decide) rfl ?_
  refine r_aload_n (pc := 6) (i := 0) dX5_askEight_6 rfl rfl ?_
  refine r_getfr (pc := 7) (b := m + 3) cks dX5_askEight_7 fl_X5_18 rfl (kD0 hD) (ltD0 hD) (rD0_2 hD) ?_
  refine r_lconst (pc := 10) (z := 0) dX5_askEight_10 rfl (in64_of rfl) ?_
  refine r_callS0 (pc := 11) (d - 1) [aR (m + 3), aL 0] dX5_askEight_11 (CS.mk2 mk_J7_fill_d0a16 lk_X5_92) rfl rfl (by omega) (Nat.le_of_ble_eq_true rfl) (Nat.le_of_ble_eq_true rfl) (k_fillL (x := m + 3) (lx := 4) (kD3 hD) (ltD hD (by omega)) (lD3 hD) (by omega) ?_)
  refine ⟨rfl, fun _ => ?_⟩
  refine r_mem (I2 := sr I (m + 3) (fiR (I (m + 3)) 0 4)) ((congrArg (fun v0_ => (sr I (m + 3) (fiR v0_ 0 4))) (show I (m + 3) = I (m + 3) from rfl)).trans (rfl)) ?_
  refine r_iconst (pc := 14) dX5_askEight_14 (in32_of rfl) ?_
  refine r_istore (pc := 15) (i := 6) (lv' := [_, _, _, _, _, _, _, _]) dX5_askEight_15 (by decide) rfl ?_
  refine r_mem (I2 := sr I (m + 3) (w8S e j (fiR (I (m + 3)) 0 4) 0)) rfl ?_
  refine loop1 (fun (k : Nat) => k ≤ 8) (fun (k : Nat) => 8 - k) (fun (k : Nat) => [some (aR m), some (aR s), some (aI ((8 * e : Nat) : Int)), some (aI (bE j)), some (aI (p8 M 276 e j k)), some (aI (p8 M 532 e j k)), some (aI ((k : Nat) : Int)), none]) (fun _ => T) (fun (k : Nat) => sr I (m + 3) (w8S e j (fiR (I (m + 3)) 0 4) k)) ?_ 0 (Nat.zero_le _)
  intro k hP ih
  have hP : k ≤ 8 := hP
  refine (?_ : Ev G mX5_askEight d 17 [some (aR m), some (aR s), some (aI ((8 * e : Nat) : Int)), some (aI (bE j)), some (aI (p8 M 276 e j k)), some (aI (p8 M 532 e j k)), some (aI ((k : Nat) : Int)), none] [] T (sr I (m + 3) (w8S e j (fiR (I (m + 3)) 0 4) k)) Q)
  refine r_iload (pc := 17) (i := 6) dX5_askEight_17 rfl ?_
  refine r_bipush (pc := 19) dX5_askEight_19 rfl (in32_of rfl) ?_
  refine r_icmp_ge (pc := 21) (tgt := 106) dX5_askEight_21 rfl (fun c21 => ?_) (fun c21 => ?_)
  · have hk8 : k = 8 := by omega
    subst hk8
    refine r_aload_n (pc := 106) (i := 1) dX5_askEight_106 rfl rfl ?_
    refine r_getfr (pc := 107) (b := s + 7) cks dX5_askEight_107 fl_X5_104 rfl (kS0 hS) (ltS0 hS) (rS0_12 hS) ?_
    refine r_iload (pc := 110) (i := 4) dX5_askEight_110 rfl ?_
    refine r_bipush (pc := 112) dX5_askEight_112 rfl (in32_of rfl) ?_
    refine r_aload_n (pc := 114) (i := 0) dX5_askEight_114 rfl rfl ?_
    refine r_getfr (pc := 115) (b := m + 3) cks dX5_askEight_115 fl_X5_18 rfl (kD0 hD) (ltD0 hD) (rD0_2 hD) ?_
    refine r_callV0 (pc := 118) (d - 1) [aI (p8 M 276 e j 8), aI (-2), aR (m + 3)] dX5_askEight_118 (CV.mk2 mk_X4_tell lk_X5_108) (RC.of (ltS (k := 7) hS (by omega)) (kS7 hS) (by decide) rfl) rfl rfl (by omega) (Nat.le_of_ble_eq_true rfl) (Nat.le_of_ble_eq_true rfl) (k_tell (w := m + 3) (n0 := tN M) hS (by omega) ((congrFun (show (sr I (m + 3) (w8S e j (fiR (I (m + 3)) 0 4) 8)) (s + 7) = I (s + 7) from (sr_ne (by omega)).trans (rfl)) 0).trans (hM.2.2.2.1.1.trans (tN_rd hP0.1))) hM.2.2.2.2.2 ht (kD3 hD) (lD3 hD) (by omega) (by omega) (fun U K p2 o2 t2 c2 hTl => ?_))
    refine ⟨rfl, fun _ => ?_⟩
    refine r_iload (pc := 121) (i := 4) dX5_askEight_121 rfl ?_
    refine r_iload (pc := 123) (i := 5) dX5_askEight_123 rfl ?_
    refine r_icmp_eq (pc := 125) (tgt := 132) dX5_askEight_125 rfl (fun c125 => ?_) (fun c125 => ?_)
    · refine r_iconst (pc := 132) dX5_askEight_132 (in32_of rfl) ?_
      rw [sr_row] at hTl
      have hA := a8_P (W := w8S e j (fiR (I (m + 3)) 0 4) 8) (w := m + 3) hM hP0 hL (by omega) (by omega) ht he hj (fun y hy => by rw [b64_w8, fiR_in (by omega), b64_0, Bool.false_or]) hTl
      exact r_iret (pc := 133) dX5_askEight_133 (Or.inl rfl) (by have h := hq _ _ _ _ _ _ hA; rw [show u8 M e j = 0 from bi_f (fun h => h c125)] at h; exact h)
    · refine r_iconst (pc := 128) dX5_askEight_128 (in32_of rfl) ?_
      refine r_goto (pc := 129) (tgt := 133) dX5_askEight_129 rfl ?_
      rw [sr_row] at hTl
      have hA := a8_P (W := w8S e j (fiR (I (m + 3)) 0 4) 8) (w := m + 3) hM hP0 hL (by omega) (by omega) ht he hj (fun y hy => by rw [b64_w8, fiR_in (by omega), b64_0, Bool.false_or]) hTl
      exact r_iret (pc := 133) dX5_askEight_133 (Or.inr rfl) (by have h := hq _ _ _ _ _ _ hA; rw [show u8 M e j = 1 from bi_t c125] at h; exact h)
  · refine r_iload_n (pc := 24) (i := 2) dX5_askEight_24 rfl rfl ?_
    refine r_iload (pc := 25) (i := 6) dX5_askEight_25 rfl ?_
    refine r_iaddN (pc := 27) (c := ((8 * e + k : Nat) : Int)) dX5_askEight_27 (by unfold w32; omega) ?_
    refine r_istore (pc := 28) (i := 7) (lv' := [_, _, _, _, _, _, _, _]) dX5_askEight_28 (by decide) rfl ?_
    refine r_iload (pc := 30) (i := 6) dX5_askEight_30 rfl ?_
    refine r_iload_n (pc := 32) (i := 3) dX5_askEight_32 rfl rfl ?_
    refine r_iand (pc := 33) dX5_askEight_33 ?_
    refine r_iload_n (pc := 34) (i := 3) dX5_askEight_34 rfl rfl ?_
    refine r_icmp_ne (pc := 35) (tgt := 100) dX5_askEight_35 rfl (fun c35 => ?_) (fun c35 => ?_)
    · refine r_iincN (pc := 100) (i := 6) (c := ((k + 1 : Nat) : Int)) (lv' := [_, _, _, _, _, _, _, _]) dX5_askEight_100 rfl (by decide) (by unfold w32; omega) rfl ?_
      refine r_goto (pc := 103) (tgt := 17) dX5_askEight_103 rfl ?_
      refine Ev.weak (lv2 := [some (aR m), some (aR s), some (aI ((8 * e : Nat) : Int)), some (aI (bE j)), some (aI (p8 M 276 e j k)), some (aI (p8 M 532 e j k)), some (aI ((k + 1 : Nat) : Int)), none]) ⟨Or.inr rfl, Or.inr rfl, Or.inr rfl, Or.inr rfl, Or.inr rfl, Or.inr rfl, Or.inr rfl, Or.inl rfl, trivial⟩ ?_
      exact Ev.re (by rw [p8_out hP0.1 (Or.inl rfl) hj (by omega) (by omega) c35, p8_out hP0.1 (Or.inr rfl) hj (by omega) (by omega) c35]) (by rw [w8S_succ, if_neg c35]) (ih (k + 1) (by omega) (by omega))
    · have c35 := Decidable.of_not_not c35
      refine r_aload_n (pc := 38) (i := 1) dX5_askEight_38 rfl rfl ?_
      refine r_getfr (pc := 39) (b := s + 3) cks dX5_askEight_39 fl_X5_48 rfl (kS0 hS) (ltS0 hS) (rS0_11 hS) ?_
      refine r_iload (pc := 42) (i := 7) dX5_askEight_42 rfl ?_
      refine r_callV1 (pc := 44) (d - 1) [aI ((8 * e + k : Nat) : Int)] dX5_askEight_44 (CV.mk2 mk_X3_has lk_X5_124) (RC.of (ltS (k := 3) hS (by omega)) (kS3 hS) (by decide) rfl) rfl rfl (by omega) (Nat.le_of_ble_eq_true rfl) (Nat.le_of_ble_eq_true rfl) (k_has (n := n) hS ((congrFun (show (sr I (m + 3) (w8S e j (fiR (I (m + 3)) 0 4) k)) (s + 3) = I (s + 3) from (sr_ne (by omega)).trans (rfl)) 0).trans hM.2.1.1) hn2 ?_)
      refine ⟨_, rfl, fun _ => ?_⟩
      refine r_if_eq (pc := 47) (tgt := 100) dX5_askEight_47 rfl (fun c47 => absurd c47 (by rw [bi_t (by omega)]; decide)) (fun c47 => ?_)
      have c47 := bi_1 c47
      refine r_aload_n (pc := 50) (i := 0) dX5_askEight_50 rfl rfl ?_
      refine r_getfr (pc := 51) (b := m + 3) cks dX5_askEight_51 fl_X5_18 rfl (kD0 hD) (ltD0 hD) (rD0_2 hD) ?_
      refine r_iload (pc := 54) (i := 7) dX5_askEight_54 rfl ?_
      refine r_bipush (pc := 56) dX5_askEight_56 rfl (in32_of rfl) ?_
      refine r_ishr (pc := 58) dX5_askEight_58 ?_
      refine r_top (b := ((((8 * e + k) / 64) : Nat) : Int)) (isr_6 (by omega)) ?_
      refine r_dup2 (pc := 59) dX5_askEight_59 rfl rfl ?_
      refine r_lld (pc := 60) (((8 * e + k) / 64)) dX5_askEight_60 (kD3 hD) (ltD (k := 3) hD (by omega)) rfl (by rw [lD3 hD]; omega) ?_
      refine r_topL (b := (w8S e j (fiR (I (m + 3)) 0 4) k) ((8 * e + k) / 64)) (sr_at _ _ _ _) ?_
      refine r_lconst (pc := 61) (z := 1) dX5_askEight_61 rfl (in64_of rfl) ?_
      refine r_iload (pc := 62) (i := 7) dX5_askEight_62 rfl ?_
      refine r_bipush (pc := 64) dX5_askEight_64 rfl (in32_of rfl) ?_
      refine r_iand (pc := 66) dX5_askEight_66 ?_
      refine r_top (b := ((((8 * e + k) % 64) : Nat) : Int)) (ian_63 (by omega)) ?_
      refine r_lshl (pc := 67) dX5_askEight_67 ?_
      refine r_lor (pc := 68) dX5_askEight_68 ?_
      refine r_lst (pc := 69) (((8 * e + k) / 64)) dX5_askEight_69 (kD3 hD) (ltD (k := 3) hD (by omega)) rfl (by rw [lD3 hD]; omega) ?_
      refine r_mem (I2 := sr I (m + 3) (un (w8S e j (fiR (I (m + 3)) 0 4) k) ((8 * e + k) / 64) (lro ((w8S e j (fiR (I (m + 3)) 0 4) k) ((8 * e + k) / 64)) (lsl 1 ((((8 * e + k) % 64) : Nat) : Int))))) ((up2_row _ _ _ _).trans ((congrArg (fun fz_ => sr (sr I (m + 3) (w8S e j (fiR (I (m + 3)) 0 4) k)) (m + 3) (un fz_ ((8 * e + k) / 64) (lro ((w8S e j (fiR (I (m + 3)) 0 4) k) ((8 * e + k) / 64)) (lsl 1 ((((8 * e + k) % 64) : Nat) : Int))))) (show (sr I (m + 3) (w8S e j (fiR (I (m + 3)) 0 4) k)) (m + 3) = w8S e j (fiR (I (m + 3)) 0 4) k from sr_row _ _ _)).trans (sr_sr _ _ _ _))) ?_
      refine r_iload (pc := 70) (i := 4) dX5_askEight_70 rfl ?_
      refine r_aload_n (pc := 72) (i := 1) dX5_askEight_72 rfl rfl ?_
      refine r_getfr (pc := 73) (b := s + 3) cks dX5_askEight_73 fl_X5_48 rfl (kS0 hS) (ltS0 hS) (rS0_11 hS) ?_
      refine r_getfr (pc := 76) (b := s + 4) cks dX5_askEight_76 fl_X5_98 rfl (kS3 hS) (ltS (k := 3) hS (by omega)) (rS3_1 hS) ?_
      refine r_iload (pc := 79) (i := 7) dX5_askEight_79 rfl ?_
      refine r_ild (pc := 81) (8 * e + k) dX5_askEight_81 (kS4 hS) (ltS (k := 4) hS (by omega)) rfl (by rw [lS4 hS]; omega) ?_
      refine r_top (b := I (s + 4) (8 * e + k)) ((congrFun (sr_ne (by omega)) _).trans (rfl)) ?_
      refine r_top (b := M (276 + 8 * e + k)) (((hM.2.1.2 (8 * e + k) (by omega)).1).trans (congrArg M (by omega))) ?_
      refine r_ixor (pc := 82) dX5_askEight_82 ?_
      refine r_istore (pc := 83) (i := 4) (lv' := [_, _, _, _, _, _, _, _]) dX5_askEight_83 (by decide) rfl ?_
      refine r_iload (pc := 85) (i := 5) dX5_askEight_85 rfl ?_
      refine r_aload_n (pc := 87) (i := 1) dX5_askEight_87 rfl rfl ?_
      refine r_getfr (pc := 88) (b := s + 3) cks dX5_askEight_88 fl_X5_48 rfl (kS0 hS) (ltS0 hS) (rS0_11 hS) ?_
      refine r_getfr (pc := 91) (b := s + 5) cks dX5_askEight_91 fl_X5_101 rfl (kS3 hS) (ltS (k := 3) hS (by omega)) (rS3_2 hS) ?_
      refine r_iload (pc := 94) (i := 7) dX5_askEight_94 rfl ?_
      refine r_ild (pc := 96) (8 * e + k) dX5_askEight_96 (kS5 hS) (ltS (k := 5) hS (by omega)) rfl (by rw [lS5 hS]; omega) ?_
      refine r_top (b := I (s + 5) (8 * e + k)) ((congrFun (sr_ne (by omega)) _).trans (rfl)) ?_
      refine r_top (b := M (532 + 8 * e + k)) (((hM.2.1.2 (8 * e + k) (by omega)).2).trans (congrArg M (by omega))) ?_
      refine r_ixor (pc := 97) dX5_askEight_97 ?_
      refine r_istore (pc := 98) (i := 5) (lv' := [_, _, _, _, _, _, _, _]) dX5_askEight_98 (by decide) rfl ?_
      refine r_iincN (pc := 100) (i := 6) (c := ((k + 1 : Nat) : Int)) (lv' := [_, _, _, _, _, _, _, _]) dX5_askEight_100 rfl (by decide) (by unfold w32; omega) rfl ?_
      refine r_goto (pc := 103) (tgt := 17) dX5_askEight_103 rfl ?_
      refine Ev.weak (lv2 := [some (aR m), some (aR s), some (aI ((8 * e : Nat) : Int)), some (aI (bE j)), some (aI (ixo (p8 M 276 e j k) (M (276 + 8 * e + k)))), some (aI (ixo (p8 M 532 e j k) (M (532 + 8 * e + k)))), some (aI ((k + 1 : Nat) : Int)), none]) ⟨Or.inr rfl, Or.inr rfl, Or.inr rfl, Or.inr rfl, Or.inr rfl, Or.inr rfl, Or.inr rfl, Or.inl rfl, trivial⟩ ?_
      exact Ev.re (by rw [p8_in hj (by omega) c35, p8_in hj (by omega) c35]) (by rw [w8S_succ, if_pos c35]) (ih (k + 1) (by omega) (by omega))
end C32

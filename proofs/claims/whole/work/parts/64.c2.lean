section C2
variable {G : Gl} {d : Nat} {T : Sh} {I : Mi} {N : Nat → Int} {Q : Option AV → Sh → Mi → Prop}
theorem ius_nat {a s : Nat} (hs : s < 32) (ha : a < 2147483648) : ius (a : Int) (s : Int) = ((a / 2 ^ s : Nat) : Int) := by
  rw [← Nat.shiftRight_eq_div_pow]
  have h2 : a >>> s < 2147483648 := Nat.lt_of_le_of_lt (Nat.shiftRight_le a s) ha
  refine ext32 (ius_in _ _) (nat_lt31 h2) (fun k hk => ?_)
  rw [b32_nat, Nat.testBit_shiftRight]
  have hsh : ∀ s : Nat, s < 32 → (((oI (s : Int)).toUInt32 &&& Int32.toUInt32 31).toBitVec % 32#32).toNat = s := by decide +kernel
  have e : b32 (ius (a : Int) (s : Int)) k = ((oI (a : Int)).toBitVec >>> (((oI (s : Int)).toUInt32 &&& Int32.toUInt32 31).toBitVec % 32)).getLsbD k := by
    unfold b32 ius
    rw [o_toI]
    rfl
  rw [e, BitVec.ushiftRight_eq', show ((((oI (s : Int)).toUInt32 &&& Int32.toUInt32 31).toBitVec % 32)).toNat = s from hsh s hs, BitVec.getLsbD_ushiftRight]
  have h3 := b32_nat a (s + k)
  unfold b32 at h3
  rw [h3]
  by_cases g : s + k < 32
  · simp [g, hk]
  · have hp : (2147483648 : Nat) ≤ 2 ^ (s + k) := by
      rw [show (2147483648 : Nat) = 2 ^ 31 by decide]
      exact Nat.pow_le_pow_right (by decide) (by omega)
    rw [Nat.testBit_lt_two_pow (i := s + k) (Nat.lt_of_lt_of_le ha hp)]
    simp
theorem ian_31 (y : Int) : ian y 2147483647 = y % 2147483648 := by
  have h0 : 0 ≤ y % 2147483648 ∧ y % 2147483648 < 2147483648 := by omega
  obtain ⟨r, hr⟩ : ∃ r : Nat, y % 2147483648 = (r : Int) := ⟨(y % 2147483648).toNat, by omega⟩
  rw [hr]
  refine ext32 (ian_in _ _) (nat_lt31 (by omega)) (fun k hk => ?_)
  rw [b32_and, show (2147483647 : Int) = ((2 ^ 31 - 1 : Nat) : Int) by decide, b32_nat, b32_nat, Nat.testBit_two_pow_sub_one]
  have e : (oI y).toBitVec.toNat = (y % 4294967296).toNat := by
    show (BitVec.ofInt 32 y).toNat = _
    rw [BitVec.toNat_ofInt]
    rfl
  have e2 : b32 y k = ((oI y).toBitVec.toNat).testBit k := by unfold b32; rw [BitVec.testBit_toNat]
  have e3 : r = (y % 4294967296).toNat % 2 ^ 31 := by
    rw [show (2 : Nat) ^ 31 = 2147483648 by decide]
    omega
  rw [e2, e, e3, Nat.testBit_mod_two_pow]
  by_cases g : k < 31 <;> simp [g, hk]
theorem dr_wr (X : Int) : ian (w32 (w32 (X * 1103515245) + 12345)) 2147483647 = nxX X := by
  rw [ian_31]
  unfold nxX w32
  omega
theorem dr_sh {x : Int} (h0 : 0 ≤ x) (h1 : x < 2147483648) : ius x 16 = x / 65536 := by
  obtain ⟨a, rfl⟩ : ∃ a : Nat, x = (a : Int) := ⟨x.toNat, by omega⟩
  rw [show (16 : Int) = ((16 : Nat) : Int) from rfl, ius_nat (by decide) (by omega), show (2 : Nat) ^ 16 = 65536 by decide]
  omega
theorem k_draw {k : Nat} {X : Int} {s p o t c : Nat} (hS : ShS T s p o t c) (hX : I s 1 = X) (hx0 : 0 ≤ X) (hx1 : X < 2147483648) (hk : 0 < k) (hk2 : k < 2147483648) (hq : Q (some (aI (vX (nxX X) k))) T (sr I s (un (I s) 1 (nxX X)))) : EvE G mX9_draw d [aR s, aI ((k : Nat) : Int)] T I Q := by
  refine EvE.mk (lv0 := [some (aR s), some (aI ((k : Nat) : Int))]) (Nat.le_of_ble_eq_true rfl) (by decide +kernel) rfl ?_
  refine r_aload_n (pc := 0) (i := 0) dX9_draw_0 rfl rfl ?_
  refine r_aload_n (pc := 1) (i := 0) dX9_draw_1 rfl rfl ?_
  refine r_getfi (pc := 2) cks dX9_draw_2 fl_X9_15 rfl (kS0 hS) (ltS0 hS) ?_
  refine r_top (b := X) (hX) ?_
  refine r_ldc (pc := 5) (n := 1103515245) dX9_draw_5 cn_X9_92 (in32_of rfl) ?_
  refine r_imulN (pc := 7) (c := (w32 (X * 1103515245))) dX9_draw_7 rfl ?_
  refine r_sipush (pc := 8) dX9_draw_8 rfl (in32_of rfl) ?_
  refine r_iaddN (pc := 11) (c := (w32 (w32 (X * 1103515245) + 12345))) dX9_draw_11 rfl ?_
  refine r_ldc (pc := 12) (n := 2147483647) dX9_draw_12 cn_X9_93 (in32_of rfl) ?_
  refine r_iand (pc := 14) dX9_draw_14 ?_
  refine r_top (b := (nxX X)) (dr_wr X) ?_
  refine r_putfi (pc := 15) cks dX9_draw_15 fl_X9_15 (pf_9_1 _ _) rfl (kS0 hS) (ltS0 hS) ?_
  refine r_mem (I2 := sr I s (un (I s) 1 (nxX X))) ((up2_row _ _ _ _).trans ((congrArg (fun fz_ => sr I s (un fz_ 1 (nxX X))) (show I s = I s from rfl)).trans (rfl))) ?_
  refine r_iload_n (pc := 18) (i := 1) dX9_draw_18 rfl rfl ?_
  refine r_if_le (pc := 19) (tgt := 34) dX9_draw_19 rfl (fun c19 => absurd c19 (by omega)) (fun c19 => ?_)
  refine r_aload_n (pc := 22) (i := 0) dX9_draw_22 rfl rfl ?_
  refine r_getfi (pc := 23) cks dX9_draw_23 fl_X9_15 rfl (kS0 hS) (ltS0 hS) ?_
  refine r_top (b := (un (I s) 1 (nxX X)) 1) (sr_at _ _ _ _) ?_
  refine r_top (b := (nxX X)) (un_at) ?_
  refine r_bipush (pc := 26) dX9_draw_26 rfl (in32_of rfl) ?_
  refine r_iushr (pc := 28) dX9_draw_28 ?_
  refine r_top (b := (nxX X / 65536)) (dr_sh (nxX_rng X).1 (nxX_rng X).2) ?_
  refine r_iload_n (pc := 29) (i := 1) dX9_draw_29 rfl rfl ?_
  refine r_irem (pc := 30) dX9_draw_30 (by omega) ?_
  refine r_top (b := (vX (nxX X) k)) (by have := nxX_rng X; rw [irm_n (by unfold in32; omega) (by unfold in32; omega) (by omega) (by omega)]; rfl) ?_
  refine r_goto (pc := 31) (tgt := 35) dX9_draw_31 rfl ?_
  exact r_iret (pc := 35) dX9_draw_35 trivial hq
theorem k_mark {k : Nat} {w : Int} {s p o t c : Nat} (hS : ShS T s p o t c) (hk : k < 256) (hq : Q (some (aI (ian (isr (I (s + 1) k) w) 1))) T I) : EvE G mX9_mark d [aR s, aI ((k : Nat) : Int), aI w] T I Q := by
  refine EvE.mk (lv0 := [some (aR s), some (aI ((k : Nat) : Int)), some (aI w)]) (Nat.le_of_ble_eq_true rfl) (by decide +kernel) rfl ?_
  refine r_aload_n (pc := 0) (i := 0) dX9_mark_0 rfl rfl ?_
  refine r_getfr (pc := 1) (b := s + 1) cks dX9_mark_1 fl_X9_39 rfl (kS0 hS) (ltS0 hS) (rS0_9 hS) ?_
  refine r_iload_n (pc := 4) (i := 1) dX9_mark_4 rfl rfl ?_
  refine r_ild (pc := 5) (k) dX9_mark_5 (kS1 hS) (ltS (k := 1) hS (by omega)) rfl (by rw [lS1 hS]; omega) ?_
  refine r_iload_n (pc := 6) (i := 2) dX9_mark_6 rfl rfl ?_
  refine r_ishr (pc := 7) dX9_mark_7 ?_
  refine r_iconst (pc := 8) dX9_mark_8 (in32_of rfl) ?_
  refine r_iand (pc := 9) dX9_mark_9 ?_
  exact r_iret (pc := 10) dX9_mark_10 trivial hq
theorem k_hasDone {q : Int} {s p o t c : Nat} (hS : ShS T s p o t c) (hq : Q (some (aI (bi (0 ≤ q ∧ q < I s 6)))) T I) : EvE G mX9_hasDone d [aR s, aI q] T I Q := by
  refine EvE.mk (lv0 := [some (aR s), some (aI q)]) (Nat.le_of_ble_eq_true rfl) (by decide +kernel) rfl ?_
  refine r_iload_n (pc := 0) (i := 1) dX9_hasDone_0 rfl rfl ?_
  refine r_if_lt (pc := 1) (tgt := 16) dX9_hasDone_1 rfl (fun c1 => ?_) (fun c1 => ?_)
  · refine r_iconst (pc := 16) dX9_hasDone_16 (in32_of rfl) ?_
    exact r_iret (pc := 17) dX9_hasDone_17 (Or.inl rfl) (by rw [show bi (0 ≤ q ∧ q < I s 6) = 0 from bi_f (by omega)] at hq; exact hq)
  · refine r_iload_n (pc := 4) (i := 1) dX9_hasDone_4 rfl rfl ?_
    refine r_aload_n (pc := 5) (i := 0) dX9_hasDone_5 rfl rfl ?_
    refine r_getfi (pc := 6) cks dX9_hasDone_6 fl_X9_30 rfl (kS0 hS) (ltS0 hS) ?_
    refine r_icmp_ge (pc := 9) (tgt := 16) dX9_hasDone_9 rfl (fun c9 => ?_) (fun c9 => ?_)
    · refine r_iconst (pc := 16) dX9_hasDone_16 (in32_of rfl) ?_
      exact r_iret (pc := 17) dX9_hasDone_17 (Or.inl rfl) (by rw [show bi (0 ≤ q ∧ q < I s 6) = 0 from bi_f (by omega)] at hq; exact hq)
    · refine r_iconst (pc := 12) dX9_hasDone_12 (in32_of rfl) ?_
      refine r_goto (pc := 13) (tgt := 17) dX9_hasDone_13 rfl ?_
      exact r_iret (pc := 17) dX9_hasDone_17 (Or.inr rfl) (by rw [show bi (0 ≤ q ∧ q < I s 6) = 1 from bi_t (by omega)] at hq; exact hq)
theorem k_ordered {q k : Nat} {s p o t c : Nat} (hS : ShS T s p o t c) (hk : 256 * q + k < 1536) (hq : Q (some (aI (I (s + 2) (256 * q + k)))) T I) : EvE G mX9_ordered d [aR s, aI ((q : Nat) : Int), aI ((k : Nat) : Int)] T I Q := by
  refine EvE.mk (lv0 := [some (aR s), some (aI ((q : Nat) : Int)), some (aI ((k : Nat) : Int))]) (Nat.le_of_ble_eq_true rfl) (by decide +kernel) rfl ?_
  refine r_aload_n (pc := 0) (i := 0) dX9_ordered_0 rfl rfl ?_
  refine r_getfr (pc := 1) (b := s + 2) cks dX9_ordered_1 fl_X9_43 rfl (kS0 hS) (ltS0 hS) (rS0_10 hS) ?_
  refine r_iload_n (pc := 4) (i := 1) dX9_ordered_4 rfl rfl ?_
  refine r_sipush (pc := 5) dX9_ordered_5 rfl (in32_of rfl) ?_
  refine r_imulN (pc := 8) (c := ((256 * q : Nat) : Int)) dX9_ordered_8 (by unfold w32; omega) ?_
  refine r_iload_n (pc := 9) (i := 2) dX9_ordered_9 rfl rfl ?_
  refine r_iaddN (pc := 10) (c := ((256 * q + k : Nat) : Int)) dX9_ordered_10 (by unfold w32; omega) ?_
  refine r_ild (pc := 11) (256 * q + k) dX9_ordered_11 (kS2 hS) (ltS (k := 2) hS (by omega)) rfl (by rw [lS2 hS]; omega) ?_
  exact r_iret (pc := 12) dX9_ordered_12 trivial hq
theorem k_addSignal {g : Nat} {v : Int} {s p o t c : Nat} (hS : ShS T s p o t c) (hg : I s 2 = (g : Int)) (hg2 : g < 256) (hq : Q none T (sr (sr I (s + 1) (un (I (s + 1)) g v)) s (un (I s) 2 ((g + 1 : Nat) : Int)))) : EvE G mX9_addSignal d [aR s, aI v] T I Q := by
  have hne := neS hS
  refine EvE.mk (lv0 := [some (aR s), some (aI v)]) (Nat.le_of_ble_eq_true rfl) (by decide +kernel) rfl ?_
  refine r_aload_n (pc := 0) (i := 0) dX9_addSignal_0 rfl rfl ?_
  refine r_getfi (pc := 1) cks dX9_addSignal_1 fl_X9_18 rfl (kS0 hS) (ltS0 hS) ?_
  refine r_top (b := ((g : Nat) : Int)) (hg) ?_
  refine r_sipush (pc := 4) dX9_addSignal_4 rfl (in32_of rfl) ?_
  refine r_icmp_ge (pc := 7) (tgt := 30) dX9_addSignal_7 rfl (fun c7 => absurd c7 (by omega)) (fun c7 => ?_)
  refine r_aload_n (pc := 10) (i := 0) dX9_addSignal_10 rfl rfl ?_
  refine r_getfr (pc := 11) (b := s + 1) cks dX9_addSignal_11 fl_X9_39 rfl (kS0 hS) (ltS0 hS) (rS0_9 hS) ?_
  refine r_aload_n (pc := 14) (i := 0) dX9_addSignal_14 rfl rfl ?_
  refine r_getfi (pc := 15) cks dX9_addSignal_15 fl_X9_18 rfl (kS0 hS) (ltS0 hS) ?_
  refine r_top (b := ((g : Nat) : Int)) (hg) ?_
  refine r_iload_n (pc := 18) (i := 1) dX9_addSignal_18 rfl rfl ?_
  refine r_ist (pc := 19) (g) dX9_addSignal_19 (kS1 hS) (ltS (k := 1) hS (by omega)) rfl (by rw [lS1 hS]; omega) ?_
  refine r_mem (I2 := sr I (s + 1) (un (I (s + 1)) g v)) ((up2_row _ _ _ _).trans ((congrArg (fun fz_ => sr I (s + 1) (un fz_ g v)) (show I (s + 1) = I (s + 1) from rfl)).trans (rfl))) ?_
  refine r_aload_n (pc := 20) (i := 0) dX9_addSignal_20 rfl rfl ?_
  refine r_dup (pc := 21) dX9_addSignal_21 rfl ?_
  refine r_getfi (pc := 22) cks dX9_addSignal_22 fl_X9_18 rfl (kS0 hS) (ltS0 hS) ?_
  refine r_top (b := I s 2) ((congrFun (sr_ne (by omega)) _).trans (rfl)) ?_
  refine r_top (b := ((g : Nat) : Int)) (hg) ?_
  refine r_iconst (pc := 25) dX9_addSignal_25 (in32_of rfl) ?_
  refine r_iaddN (pc := 26) (c := ((g + 1 : Nat) : Int)) dX9_addSignal_26 (by unfold w32; omega) ?_
  refine r_putfi (pc := 27) cks dX9_addSignal_27 fl_X9_18 (pf_9_2 _ _) rfl (kS0 hS) (ltS0 hS) ?_
  refine r_mem (I2 := sr (sr I (s + 1) (un (I (s + 1)) g v)) s (un (I s) 2 ((g + 1 : Nat) : Int))) ((up2_row _ _ _ _).trans ((congrArg (fun fz_ => sr (sr I (s + 1) (un (I (s + 1)) g v)) s (un fz_ 2 ((g + 1 : Nat) : Int))) (show (sr I (s + 1) (un (I (s + 1)) g v)) s = I s from (sr_ne (by omega)).trans (rfl))).trans (rfl))) ?_
  exact r_vret (pc := 30) dX9_addSignal_30 trivial hq
theorem k_add {n : Nat} {x y z : Int} {s p o t c : Nat} (hS : ShS T s p o t c) (hn : I (s + 3) 0 = (n : Int)) (hn2 : n < 256) (hq : Q none T (sr (sr (sr (sr I (s + 4) (un (I (s + 4)) n x)) (s + 5) (un (I (s + 5)) n y)) (s + 6) (un (I (s + 6)) n z)) (s + 3) (un (I (s + 3)) 0 ((n + 1 : Nat) : Int)))) : EvE G mX3_add d [aR (s + 3), aI x, aI y, aI z] T I Q := by
  have hne := neS hS
  refine EvE.mk (lv0 := [some (aR (s + 3)), some (aI x), some (aI y), some (aI z)]) (Nat.le_of_ble_eq_true rfl) (by decide +kernel) rfl ?_
  refine r_aload_n (pc := 0) (i := 0) dX3_add_0 rfl rfl ?_
  refine r_getfi (pc := 1) cks dX3_add_1 fl_X3_9 rfl (kS3 hS) (ltS (k := 3) hS (by omega)) ?_
  refine r_top (b := ((n : Nat) : Int)) (hn) ?_
  refine r_sipush (pc := 4) dX3_add_4 rfl (in32_of rfl) ?_
  refine r_icmp_ge (pc := 7) (tgt := 50) dX3_add_7 rfl (fun c7 => absurd c7 (by omega)) (fun c7 => ?_)
  refine r_aload_n (pc := 10) (i := 0) dX3_add_10 rfl rfl ?_
  refine r_getfr (pc := 11) (b := s + 4) cks dX3_add_11 fl_X3_15 rfl (kS3 hS) (ltS (k := 3) hS (by omega)) (rS3_1 hS) ?_
  refine r_aload_n (pc := 14) (i := 0) dX3_add_14 rfl rfl ?_
  refine r_getfi (pc := 15) cks dX3_add_15 fl_X3_9 rfl (kS3 hS) (ltS (k := 3) hS (by omega)) ?_
  refine r_top (b := ((n : Nat) : Int)) (hn) ?_
  refine r_iload_n (pc := 18) (i := 1) dX3_add_18 rfl rfl ?_
  refine r_ist (pc := 19) (n) dX3_add_19 (kS4 hS) (ltS (k := 4) hS (by omega)) rfl (by rw [lS4 hS]; omega) ?_
  refine r_mem (I2 := sr I (s + 4) (un (I (s + 4)) n x)) ((up2_row _ _ _ _).trans ((congrArg (fun fz_ => sr I (s + 4) (un fz_ n x)) (show I (s + 4) = I (s + 4) from rfl)).trans (rfl))) ?_
  refine r_aload_n (pc := 20) (i := 0) dX3_add_20 rfl rfl ?_
  refine r_getfr (pc := 21) (b := s + 5) cks dX3_add_21 fl_X3_19 rfl (kS3 hS) (ltS (k := 3) hS (by omega)) (rS3_2 hS) ?_
  refine r_aload_n (pc := 24) (i := 0) dX3_add_24 rfl rfl ?_
  refine r_getfi (pc := 25) cks dX3_add_25 fl_X3_9 rfl (kS3 hS) (ltS (k := 3) hS (by omega)) ?_
  refine r_top (b := I (s + 3) 0) ((congrFun (sr_ne (by omega)) _).trans (rfl)) ?_
  refine r_top (b := ((n : Nat) : Int)) (hn) ?_
  refine r_iload_n (pc := 28) (i := 2) dX3_add_28 rfl rfl ?_
  refine r_ist (pc := 29) (n) dX3_add_29 (kS5 hS) (ltS (k := 5) hS (by omega)) rfl (by rw [lS5 hS]; omega) ?_
  refine r_mem (I2 := sr (sr I (s + 4) (un (I (s + 4)) n x)) (s + 5) (un (I (s + 5)) n y)) ((up2_row _ _ _ _).trans ((congrArg (fun fz_ => sr (sr I (s + 4) (un (I (s + 4)) n x)) (s + 5) (un fz_ n y)) (show (sr I (s + 4) (un (I (s + 4)) n x)) (s + 5) = I (s + 5) from (sr_ne (by omega)).trans (rfl))).trans (rfl))) ?_
  refine r_aload_n (pc := 30) (i := 0) dX3_add_30 rfl rfl ?_
  refine r_getfr (pc := 31) (b := s + 6) cks dX3_add_31 fl_X3_22 rfl (kS3 hS) (ltS (k := 3) hS (by omega)) (rS3_3 hS) ?_
  refine r_aload_n (pc := 34) (i := 0) dX3_add_34 rfl rfl ?_
  refine r_getfi (pc := 35) cks dX3_add_35 fl_X3_9 rfl (kS3 hS) (ltS (k := 3) hS (by omega)) ?_
  refine r_top (b := I (s + 3) 0) ((congrFun (sr_ne (by omega)) _).trans ((congrFun (sr_ne (by omega)) _).trans (rfl))) ?_
  refine r_top (b := ((n : Nat) : Int)) (hn) ?_
  refine r_iload_n (pc := 38) (i := 3) dX3_add_38 rfl rfl ?_
  refine r_ist (pc := 39) (n) dX3_add_39 (kS6 hS) (ltS (k := 6) hS (by omega)) rfl (by rw [lS6 hS]; omega) ?_
  refine r_mem (I2 := sr (sr (sr I (s + 4) (un (I (s + 4)) n x)) (s + 5) (un (I (s + 5)) n y)) (s + 6) (un (I (s + 6)) n z)) ((up2_row _ _ _ _).trans ((congrArg (fun fz_ => sr (sr (sr I (s + 4) (un (I (s + 4)) n x)) (s + 5) (un (I (s + 5)) n y)) (s + 6) (un fz_ n z)) (show (sr (sr I (s + 4) (un (I (s + 4)) n x)) (s + 5) (un (I (s + 5)) n y)) (s + 6) = I (s + 6) from (sr_ne (by omega)).trans ((sr_ne (by omega)).trans (rfl)))).trans (rfl))) ?_
  refine r_aload_n (pc := 40) (i := 0) dX3_add_40 rfl rfl ?_
  refine r_dup (pc := 41) dX3_add_41 rfl ?_
  refine r_getfi (pc := 42) cks dX3_add_42 fl_X3_9 rfl (kS3 hS) (ltS (k := 3) hS (by omega)) ?_
  refine r_top (b := I (s + 3) 0) ((congrFun (sr_ne (by omega)) _).trans ((congrFun (sr_ne (by omega)) _).trans ((congrFun (sr_ne (by omega)) _).trans (rfl)))) ?_
  refine r_top (b := ((n : Nat) : Int)) (hn) ?_
  refine r_iconst (pc := 45) dX3_add_45 (in32_of rfl) ?_
  refine r_iaddN (pc := 46) (c := ((n + 1 : Nat) : Int)) dX3_add_46 (by unfold w32; omega) ?_
  refine r_putfi (pc := 47) cks dX3_add_47 fl_X3_9 (pf_3_0 _ _) rfl (kS3 hS) (ltS (k := 3) hS (by omega)) ?_
  refine r_mem (I2 := sr (sr (sr (sr I (s + 4) (un (I (s + 4)) n x)) (s + 5) (un (I (s + 5)) n y)) (s + 6) (un (I (s + 6)) n z)) (s + 3) (un (I (s + 3)) 0 ((n + 1 : Nat) : Int))) ((up2_row _ _ _ _).trans ((congrArg (fun fz_ => sr (sr (sr (sr I (s + 4) (un (I (s + 4)) n x)) (s + 5) (un (I (s + 5)) n y)) (s + 6) (un (I (s + 6)) n z)) (s + 3) (un fz_ 0 ((n + 1 : Nat) : Int))) (show (sr (sr (sr I (s + 4) (un (I (s + 4)) n x)) (s + 5) (un (I (s + 5)) n y)) (s + 6) (un (I (s + 6)) n z)) (s + 3) = I (s + 3) from (sr_ne (by omega)).trans ((sr_ne (by omega)).trans ((sr_ne (by omega)).trans (rfl))))).trans (rfl))) ?_
  exact r_vret (pc := 50) dX3_add_50 trivial hq
theorem k_drop {n k : Nat} {s p o t c : Nat} (hS : ShS T s p o t c) (hd : 1 ≤ d) (hn : I (s + 3) 0 = (n : Int)) (hn2 : n ≤ 256) (hk : k < n) (hq : Q none T (sr (sr (sr (sr I (s + 3) (un (I (s + 3)) 0 ((n - 1 : Nat) : Int))) (s + 4) (cpyR (I (s + 4)) (k + 1) (I (s + 4)) k (n - 1 - k))) (s + 5) (cpyR (I (s + 5)) (k + 1) (I (s + 5)) k (n - 1 - k))) (s + 6) (cpyR (I (s + 6)) (k + 1) (I (s + 6)) k (n - 1 - k)))) : EvE G mX3_drop d [aR (s + 3), aI ((k : Nat) : Int)] T I Q := by
  have hne := neS hS
  refine EvE.mk (lv0 := [some (aR (s + 3)), some (aI ((k : Nat) : Int))]) (Nat.le_of_ble_eq_true rfl) (by decide +kernel) rfl ?_
  refine r_aload_n (pc := 0) (i := 0) dX3_drop_0 rfl rfl ?_
  refine r_iload_n (pc := 1) (i := 1) dX3_drop_1 rfl rfl ?_
  refine r_callV1 (pc := 2) (d - 1) [aI ((k : Nat) : Int)] dX3_drop_2 (CV.mk2 mk_X3_has lk_X3_31) (RC.of (ltS (k := 3) hS (by omega)) (kS3 hS) (by decide) rfl) rfl rfl (by omega) (Nat.le_of_ble_eq_true rfl) (Nat.le_of_ble_eq_true rfl) (k_has (n := n) hS hn (by omega) ?_)
  refine ⟨_, rfl, fun _ => ?_⟩
  refine r_if_ne (pc := 5) (tgt := 9) dX3_drop_5 rfl (fun c5 => ?_) (fun c5 => absurd (by rw [bi_t (by omega)]; decide) c5)
  have c5 := bi_1 c5
  refine r_aload_n (pc := 9) (i := 0) dX3_drop_9 rfl rfl ?_
  refine r_dup (pc := 10) dX3_drop_10 rfl ?_
  refine r_getfi (pc := 11) cks dX3_drop_11 fl_X3_9 rfl (kS3 hS) (ltS (k := 3) hS (by omega)) ?_
  refine r_top (b := (n : Int)) (hn) ?_
  refine r_iconst (pc := 14) dX3_drop_14 (in32_of rfl) ?_
  refine r_isubN (pc := 15) (c := (((n - 1) : Nat) : Int)) dX3_drop_15 (by unfold w32; omega) ?_
  refine r_putfi (pc := 16) cks dX3_drop_16 fl_X3_9 (pf_3_0 _ _) rfl (kS3 hS) (ltS (k := 3) hS (by omega)) ?_
  refine r_mem (I2 := sr I (s + 3) (un (I (s + 3)) 0 (((n - 1) : Nat) : Int))) ((up2_row _ _ _ _).trans ((congrArg (fun fz_ => sr I (s + 3) (un fz_ 0 (((n - 1) : Nat) : Int))) (show I (s + 3) = I (s + 3) from rfl)).trans (rfl))) ?_
  refine r_aload_n (pc := 19) (i := 0) dX3_drop_19 rfl rfl ?_
  refine r_getfr (pc := 20) (b := s + 4) cks dX3_drop_20 fl_X3_15 rfl (kS3 hS) (ltS (k := 3) hS (by omega)) (rS3_1 hS) ?_
  refine r_iload_n (pc := 23) (i := 1) dX3_drop_23 rfl rfl ?_
  refine r_iconst (pc := 24) dX3_drop_24 (in32_of rfl) ?_
  refine r_iaddN (pc := 25) (c := ((k + 1 : Nat) : Int)) dX3_drop_25 (by unfold w32; omega) ?_
  refine r_aload_n (pc := 26) (i := 0) dX3_drop_26 rfl rfl ?_
  refine r_getfr (pc := 27) (b := s + 4) cks dX3_drop_27 fl_X3_15 rfl (kS3 hS) (ltS (k := 3) hS (by omega)) (rS3_1 hS) ?_
  refine r_iload_n (pc := 30) (i := 1) dX3_drop_30 rfl rfl ?_
  refine r_aload_n (pc := 31) (i := 0) dX3_drop_31 rfl rfl ?_
  refine r_getfi (pc := 32) cks dX3_drop_32 fl_X3_9 rfl (kS3 hS) (ltS (k := 3) hS (by omega)) ?_
  refine r_top (b := (un (I (s + 3)) 0 (((n - 1) : Nat) : Int)) 0) (sr_at _ _ _ _) ?_
  refine r_top (b := ((n - 1 : Nat) : Int)) (un_at) ?_
  refine r_iload_n (pc := 35) (i := 1) dX3_drop_35 rfl rfl ?_
  refine r_isubN (pc := 36) (c := (((n - 1 - k) : Nat) : Int)) dX3_drop_36 (by unfold w32; omega) ?_
  refine r_cpN (pc := 37) (a := s + 4) (a0 := s + 4) (k + 1) (k) ((n - 1 - k)) dX3_drop_37 (by omega) ac_X3_25 (Nat.le_of_ble_eq_true rfl) (Or.inl (kS4 hS)) ((kS4 hS).trans (kS4 hS).symm) (ltS (k := 4) hS (by omega)) (ltS (k := 4) hS (by omega)) (by omega) (by omega) (by omega) (by rw [lS4 hS]; omega) (by rw [lS4 hS]; omega) ?_
  refine r_mem (I2 := sr (sr I (s + 3) (un (I (s + 3)) 0 (((n - 1) : Nat) : Int))) (s + 4) (cpyR (I (s + 4)) (k + 1) (I (s + 4)) k (n - 1 - k))) ((congr (congrArg (fun fz_ gz_ => sr (sr I (s + 3) (un (I (s + 3)) 0 (((n - 1) : Nat) : Int))) (s + 4) (cpyR fz_ (k + 1) gz_ k (n - 1 - k))) (show (sr I (s + 3) (un (I (s + 3)) 0 (((n - 1) : Nat) : Int))) (s + 4) = I (s + 4) from (sr_ne (by omega)).trans (rfl))) (show (sr I (s + 3) (un (I (s + 3)) 0 (((n - 1) : Nat) : Int))) (s + 4) = I (s + 4) from (sr_ne (by omega)).trans (rfl))).trans (rfl)) ?_
  refine r_aload_n (pc := 40) (i := 0) dX3_drop_40 rfl rfl ?_
  refine r_getfr (pc := 41) (b := s + 5) cks dX3_drop_41 fl_X3_19 rfl (kS3 hS) (ltS (k := 3) hS (by omega)) (rS3_2 hS) ?_
  refine r_iload_n (pc := 44) (i := 1) dX3_drop_44 rfl rfl ?_
  refine r_iconst (pc := 45) dX3_drop_45 (in32_of rfl) ?_
  refine r_iaddN (pc := 46) (c := ((k + 1 : Nat) : Int)) dX3_drop_46 (by unfold w32; omega) ?_
  refine r_aload_n (pc := 47) (i := 0) dX3_drop_47 rfl rfl ?_
  refine r_getfr (pc := 48) (b := s + 5) cks dX3_drop_48 fl_X3_19 rfl (kS3 hS) (ltS (k := 3) hS (by omega)) (rS3_2 hS) ?_
  refine r_iload_n (pc := 51) (i := 1) dX3_drop_51 rfl rfl ?_
  refine r_aload_n (pc := 52) (i := 0) dX3_drop_52 rfl rfl ?_
  refine r_getfi (pc := 53) cks dX3_drop_53 fl_X3_9 rfl (kS3 hS) (ltS (k := 3) hS (by omega)) ?_
  refine r_top (b := (un (I (s + 3)) 0 (((n - 1) : Nat) : Int)) 0) ((congrFun (sr_ne (by omega)) _).trans (sr_at _ _ _ _)) ?_
  refine r_top (b := ((n - 1 : Nat) : Int)) (un_at) ?_
  refine r_iload_n (pc := 56) (i := 1) dX3_drop_56 rfl rfl ?_
  refine r_isubN (pc := 57) (c := (((n - 1 - k) : Nat) : Int)) dX3_drop_57 (by unfold w32; omega) ?_
  refine r_cpN (pc := 58) (a := s + 5) (a0 := s + 5) (k + 1) (k) ((n - 1 - k)) dX3_drop_58 (by omega) ac_X3_25 (Nat.le_of_ble_eq_true rfl) (Or.inl (kS5 hS)) ((kS5 hS).trans (kS5 hS).symm) (ltS (k := 5) hS (by omega)) (ltS (k := 5) hS (by omega)) (by omega) (by omega) (by omega) (by rw [lS5 hS]; omega) (by rw [lS5 hS]; omega) ?_
  refine r_mem (I2 := sr (sr (sr I (s + 3) (un (I (s + 3)) 0 (((n - 1) : Nat) : Int))) (s + 4) (cpyR (I (s + 4)) (k + 1) (I (s + 4)) k (n - 1 - k))) (s + 5) (cpyR (I (s + 5)) (k + 1) (I (s + 5)) k (n - 1 - k))) ((congr (congrArg (fun fz_ gz_ => sr (sr (sr I (s + 3) (un (I (s + 3)) 0 (((n - 1) : Nat) : Int))) (s + 4) (cpyR (I (s + 4)) (k + 1) (I (s + 4)) k (n - 1 - k))) (s + 5) (cpyR fz_ (k + 1) gz_ k (n - 1 - k))) (show (sr (sr I (s + 3) (un (I (s + 3)) 0 (((n - 1) : Nat) : Int))) (s + 4) (cpyR (I (s + 4)) (k + 1) (I (s + 4)) k (n - 1 - k))) (s + 5) = I (s + 5) from (sr_ne (by omega)).trans ((sr_ne (by omega)).trans (rfl)))) (show (sr (sr I (s + 3) (un (I (s + 3)) 0 (((n - 1) : Nat) : Int))) (s + 4) (cpyR (I (s + 4)) (k + 1) (I (s + 4)) k (n - 1 - k))) (s + 5) = I (s + 5) from (sr_ne (by omega)).trans ((sr_ne (by omega)).trans (rfl)))).trans (rfl)) ?_
  refine r_aload_n (pc := 61) (i := 0) dX3_drop_61 rfl rfl ?_
  refine r_getfr (pc := 62) (b := s + 6) cks dX3_drop_62 fl_X3_22 rfl (kS3 hS) (ltS (k := 3) hS (by omega)) (rS3_3 hS) ?_
  refine r_iload_n (pc := 65) (i := 1) dX3_drop_65 rfl rfl ?_
  refine r_iconst (pc := 66) dX3_drop_66 (in32_of rfl) ?_
  refine r_iaddN (pc := 67) (c := ((k + 1 : Nat) : Int)) dX3_drop_67 (by unfold w32; omega) ?_
  refine r_aload_n (pc := 68) (i := 0) dX3_drop_68 rfl rfl ?_
  refine r_getfr (pc := 69) (b := s + 6) cks dX3_drop_69 fl_X3_22 rfl (kS3 hS) (ltS (k := 3) hS (by omega)) (rS3_3 hS) ?_
  refine r_iload_n (pc := 72) (i := 1) dX3_drop_72 rfl rfl ?_
  refine r_aload_n (pc := 73) (i := 0) dX3_drop_73 rfl rfl ?_
  refine r_getfi (pc := 74) cks dX3_drop_74 fl_X3_9 rfl (kS3 hS) (ltS (k := 3) hS (by omega)) ?_
  refine r_top (b := (un (I (s + 3)) 0 (((n - 1) : Nat) : Int)) 0) ((congrFun (sr_ne (by omega)) _).trans ((congrFun (sr_ne (by omega)) _).trans (sr_at _ _ _ _))) ?_
  refine r_top (b := ((n - 1 : Nat) : Int)) (un_at) ?_
  refine r_iload_n (pc := 77) (i := 1) dX3_drop_77 rfl rfl ?_
  refine r_isubN (pc := 78) (c := (((n - 1 - k) : Nat) : Int)) dX3_drop_78 (by unfold w32; omega) ?_
  refine r_cpN (pc := 79) (a := s + 6) (a0 := s + 6) (k + 1) (k) ((n - 1 - k)) dX3_drop_79 (by omega) ac_X3_25 (Nat.le_of_ble_eq_true rfl) (Or.inl (kS6 hS)) ((kS6 hS).trans (kS6 hS).symm) (ltS (k := 6) hS (by omega)) (ltS (k := 6) hS (by omega)) (by omega) (by omega) (by omega) (by rw [lS6 hS]; omega) (by rw [lS6 hS]; omega) ?_
  refine r_mem (I2 := sr (sr (sr (sr I (s + 3) (un (I (s + 3)) 0 (((n - 1) : Nat) : Int))) (s + 4) (cpyR (I (s + 4)) (k + 1) (I (s + 4)) k (n - 1 - k))) (s + 5) (cpyR (I (s + 5)) (k + 1) (I (s + 5)) k (n - 1 - k))) (s + 6) (cpyR (I (s + 6)) (k + 1) (I (s + 6)) k (n - 1 - k))) ((congr (congrArg (fun fz_ gz_ => sr (sr (sr (sr I (s + 3) (un (I (s + 3)) 0 (((n - 1) : Nat) : Int))) (s + 4) (cpyR (I (s + 4)) (k + 1) (I (s + 4)) k (n - 1 - k))) (s + 5) (cpyR (I (s + 5)) (k + 1) (I (s + 5)) k (n - 1 - k))) (s + 6) (cpyR fz_ (k + 1) gz_ k (n - 1 - k))) (show (sr (sr (sr I (s + 3) (un (I (s + 3)) 0 (((n - 1) : Nat) : Int))) (s + 4) (cpyR (I (s + 4)) (k + 1) (I (s + 4)) k (n - 1 - k))) (s + 5) (cpyR (I (s + 5)) (k + 1) (I (s + 5)) k (n - 1 - k))) (s + 6) = I (s + 6) from (sr_ne (by omega)).trans ((sr_ne (by omega)).trans ((sr_ne (by omega)).trans (rfl))))) (show (sr (sr (sr I (s + 3) (un (I (s + 3)) 0 (((n - 1) : Nat) : Int))) (s + 4) (cpyR (I (s + 4)) (k + 1) (I (s + 4)) k (n - 1 - k))) (s + 5) (cpyR (I (s + 5)) (k + 1) (I (s + 5)) k (n - 1 - k))) (s + 6) = I (s + 6) from (sr_ne (by omega)).trans ((sr_ne (by omega)).trans ((sr_ne (by omega)).trans (rfl))))).trans (rfl)) ?_
  exact r_vret (pc := 82) dX3_drop_82 trivial hq
theorem k_keysFrom {n : Nat} {s p o t c : Nat} (hS : ShS T s p o t c) {s2 p2 o2 t2 c2 : Nat} (hS2 : ShS T s2 p2 o2 t2 c2) (hd : 1 ≤ d) (hdj : s + 15 ≤ s2 ∨ s2 + 15 ≤ s) (hn : I (s2 + 3) 0 = (n : Int)) (hn2 : n ≤ 256) (hq : Q none T (sr (sr (sr (sr I (s + 3) (un (I (s + 3)) 0 (n : Int))) (s + 4) (cpyR (I (s2 + 4)) 0 (I (s + 4)) 0 n)) (s + 5) (cpyR (I (s2 + 5)) 0 (I (s + 5)) 0 n)) (s + 6) (cpyR (I (s2 + 6)) 0 (I (s + 6)) 0 n))) : EvE G mX3_takeFrom d [aR (s + 3), aR (s2 + 3)] T I Q := by
  have hne := neS hS
  have hne2 := neS hS2
  refine EvE.mk (lv0 := [some (aR (s + 3)), some (aR (s2 + 3))]) (Nat.le_of_ble_eq_true rfl) (by decide +kernel) rfl ?_
  refine r_aload_n (pc := 0) (i := 0) dX3_takeFrom_0 rfl rfl ?_
  refine r_aload_n (pc := 1) (i := 1) dX3_takeFrom_1 rfl rfl ?_
  refine r_getfi (pc := 2) cks dX3_takeFrom_2 fl_X3_9 rfl (kS3 hS2) (ltS (k := 3) hS2 (by omega)) ?_
  refine r_top (b := ((n : Nat) : Int)) (hn) ?_
  refine r_putfi (pc := 5) cks dX3_takeFrom_5 fl_X3_9 (pf_3_0 _ _) rfl (kS3 hS) (ltS (k := 3) hS (by omega)) ?_
  refine r_mem (I2 := sr I (s + 3) (un (I (s + 3)) 0 ((n : Nat) : Int))) ((up2_row _ _ _ _).trans ((congrArg (fun fz_ => sr I (s + 3) (un fz_ 0 ((n : Nat) : Int))) (show I (s + 3) = I (s + 3) from rfl)).trans (rfl))) ?_
  refine r_aload_n (pc := 8) (i := 1) dX3_takeFrom_8 rfl rfl ?_
  refine r_getfr (pc := 9) (b := s2 + 4) cks dX3_takeFrom_9 fl_X3_15 rfl (kS3 hS2) (ltS (k := 3) hS2 (by omega)) (rS3_1 hS2) ?_
  refine r_iconst (pc := 12) dX3_takeFrom_12 (in32_of rfl) ?_
  refine r_aload_n (pc := 13) (i := 0) dX3_takeFrom_13 rfl rfl ?_
  refine r_getfr (pc := 14) (b := s + 4) cks dX3_takeFrom_14 fl_X3_15 rfl (kS3 hS) (ltS (k := 3) hS (by omega)) (rS3_1 hS) ?_
  refine r_iconst (pc := 17) dX3_takeFrom_17 (in32_of rfl) ?_
  refine r_aload_n (pc := 18) (i := 0) dX3_takeFrom_18 rfl rfl ?_
  refine r_getfi (pc := 19) cks dX3_takeFrom_19 fl_X3_9 rfl (kS3 hS) (ltS (k := 3) hS (by omega)) ?_
  refine r_top (b := (un (I (s + 3)) 0 ((n : Nat) : Int)) 0) (sr_at _ _ _ _) ?_
  refine r_top (b := ((n : Nat) : Int)) (un_at) ?_
  refine r_cpN (pc := 22) (a := s + 4) (a0 := s2 + 4) (0) (0) (n) dX3_takeFrom_22 (by omega) ac_X3_25 (Nat.le_of_ble_eq_true rfl) (Or.inl (kS4 hS)) ((kS4 hS2).trans (kS4 hS).symm) (ltS (k := 4) hS (by omega)) (ltS (k := 4) hS2 (by omega)) (by omega) (by omega) (by omega) (by rw [lS4 hS2]; omega) (by rw [lS4 hS]; omega) ?_
  refine r_mem (I2 := sr (sr I (s + 3) (un (I (s + 3)) 0 ((n : Nat) : Int))) (s + 4) (cpyR (I (s2 + 4)) 0 (I (s + 4)) 0 n)) ((congr (congrArg (fun fz_ gz_ => sr (sr I (s + 3) (un (I (s + 3)) 0 ((n : Nat) : Int))) (s + 4) (cpyR fz_ 0 gz_ 0 n)) (show (sr I (s + 3) (un (I (s + 3)) 0 ((n : Nat) : Int))) (s2 + 4) = I (s2 + 4) from (sr_ne (by omega)).trans (rfl))) (show (sr I (s + 3) (un (I (s + 3)) 0 ((n : Nat) : Int))) (s + 4) = I (s + 4) from (sr_ne (by omega)).trans (rfl))).trans (rfl)) ?_
  refine r_aload_n (pc := 25) (i := 1) dX3_takeFrom_25 rfl rfl ?_
  refine r_getfr (pc := 26) (b := s2 + 5) cks dX3_takeFrom_26 fl_X3_19 rfl (kS3 hS2) (ltS (k := 3) hS2 (by omega)) (rS3_2 hS2) ?_
  refine r_iconst (pc := 29) dX3_takeFrom_29 (in32_of rfl) ?_
  refine r_aload_n (pc := 30) (i := 0) dX3_takeFrom_30 rfl rfl ?_
  refine r_getfr (pc := 31) (b := s + 5) cks dX3_takeFrom_31 fl_X3_19 rfl (kS3 hS) (ltS (k := 3) hS (by omega)) (rS3_2 hS) ?_
  refine r_iconst (pc := 34) dX3_takeFrom_34 (in32_of rfl) ?_
  refine r_aload_n (pc := 35) (i := 0) dX3_takeFrom_35 rfl rfl ?_
  refine r_getfi (pc := 36) cks dX3_takeFrom_36 fl_X3_9 rfl (kS3 hS) (ltS (k := 3) hS (by omega)) ?_
  refine r_top (b := (un (I (s + 3)) 0 ((n : Nat) : Int)) 0) ((congrFun (sr_ne (by omega)) _).trans (sr_at _ _ _ _)) ?_
  refine r_top (b := ((n : Nat) : Int)) (un_at) ?_
  refine r_cpN (pc := 39) (a := s + 5) (a0 := s2 + 5) (0) (0) (n) dX3_takeFrom_39 (by omega) ac_X3_25 (Nat.le_of_ble_eq_true rfl) (Or.inl (kS5 hS)) ((kS5 hS2).trans (kS5 hS).symm) (ltS (k := 5) hS (by omega)) (ltS (k := 5) hS2 (by omega)) (by omega) (by omega) (by omega) (by rw [lS5 hS2]; omega) (by rw [lS5 hS]; omega) ?_
  refine r_mem (I2 := sr (sr (sr I (s + 3) (un (I (s + 3)) 0 ((n : Nat) : Int))) (s + 4) (cpyR (I (s2 + 4)) 0 (I (s + 4)) 0 n)) (s + 5) (cpyR (I (s2 + 5)) 0 (I (s + 5)) 0 n)) ((congr (congrArg (fun fz_ gz_ => sr (sr (sr I (s + 3) (un (I (s + 3)) 0 ((n : Nat) : Int))) (s + 4) (cpyR (I (s2 + 4)) 0 (I (s + 4)) 0 n)) (s + 5) (cpyR fz_ 0 gz_ 0 n)) (show (sr (sr I (s + 3) (un (I (s + 3)) 0 ((n : Nat) : Int))) (s + 4) (cpyR (I (s2 + 4)) 0 (I (s + 4)) 0 n)) (s2 + 5) = I (s2 + 5) from (sr_ne (by omega)).trans ((sr_ne (by omega)).trans (rfl)))) (show (sr (sr I (s + 3) (un (I (s + 3)) 0 ((n : Nat) : Int))) (s + 4) (cpyR (I (s2 + 4)) 0 (I (s + 4)) 0 n)) (s + 5) = I (s + 5) from (sr_ne (by omega)).trans ((sr_ne (by omega)).trans (rfl)))).trans (rfl)) ?_
  refine r_aload_n (pc := 42) (i := 1) dX3_takeFrom_42 rfl rfl ?_
  refine r_getfr (pc := 43) (b := s2 + 6) cks dX3_takeFrom_43 fl_X3_22 rfl (kS3 hS2) (ltS (k := 3) hS2 (by omega)) (rS3_3 hS2) ?_
  refine r_iconst (pc := 46) dX3_takeFrom_46 (in32_of rfl) ?_
  refine r_aload_n (pc := 47) (i := 0) dX3_takeFrom_47 rfl rfl ?_
  refine r_getfr (pc := 48) (b := s + 6) cks dX3_takeFrom_48 fl_X3_22 rfl (kS3 hS) (ltS (k := 3) hS (by omega)) (rS3_3 hS) ?_
  refine r_iconst (pc := 51) dX3_takeFrom_51 (in32_of rfl) ?_
  refine r_aload_n (pc := 52) (i := 0) dX3_takeFrom_52 rfl rfl ?_
  refine r_getfi (pc := 53) cks dX3_takeFrom_53 fl_X3_9 rfl (kS3 hS) (ltS (k := 3) hS (by omega)) ?_
  refine r_top (b := (un (I (s + 3)) 0 ((n : Nat) : Int)) 0) ((congrFun (sr_ne (by omega)) _).trans ((congrFun (sr_ne (by omega)) _).trans (sr_at _ _ _ _))) ?_
  refine r_top (b := ((n : Nat) : Int)) (un_at) ?_
  refine r_cpN (pc := 56) (a := s + 6) (a0 := s2 + 6) (0) (0) (n) dX3_takeFrom_56 (by omega) ac_X3_25 (Nat.le_of_ble_eq_true rfl) (Or.inl (kS6 hS)) ((kS6 hS2).trans (kS6 hS).symm) (ltS (k := 6) hS (by omega)) (ltS (k := 6) hS2 (by omega)) (by omega) (by omega) (by omega) (by rw [lS6 hS2]; omega) (by rw [lS6 hS]; omega) ?_
  refine r_mem (I2 := sr (sr (sr (sr I (s + 3) (un (I (s + 3)) 0 ((n : Nat) : Int))) (s + 4) (cpyR (I (s2 + 4)) 0 (I (s + 4)) 0 n)) (s + 5) (cpyR (I (s2 + 5)) 0 (I (s + 5)) 0 n)) (s + 6) (cpyR (I (s2 + 6)) 0 (I (s + 6)) 0 n)) ((congr (congrArg (fun fz_ gz_ => sr (sr (sr (sr I (s + 3) (un (I (s + 3)) 0 ((n : Nat) : Int))) (s + 4) (cpyR (I (s2 + 4)) 0 (I (s + 4)) 0 n)) (s + 5) (cpyR (I (s2 + 5)) 0 (I (s + 5)) 0 n)) (s + 6) (cpyR fz_ 0 gz_ 0 n)) (show (sr (sr (sr I (s + 3) (un (I (s + 3)) 0 ((n : Nat) : Int))) (s + 4) (cpyR (I (s2 + 4)) 0 (I (s + 4)) 0 n)) (s + 5) (cpyR (I (s2 + 5)) 0 (I (s + 5)) 0 n)) (s2 + 6) = I (s2 + 6) from (sr_ne (by omega)).trans ((sr_ne (by omega)).trans ((sr_ne (by omega)).trans (rfl))))) (show (sr (sr (sr I (s + 3) (un (I (s + 3)) 0 ((n : Nat) : Int))) (s + 4) (cpyR (I (s2 + 4)) 0 (I (s + 4)) 0 n)) (s + 5) (cpyR (I (s2 + 5)) 0 (I (s + 5)) 0 n)) (s + 6) = I (s + 6) from (sr_ne (by omega)).trans ((sr_ne (by omega)).trans ((sr_ne (by omega)).trans (rfl))))).trans (rfl)) ?_
  exact r_vret (pc := 59) dX3_takeFrom_59 trivial hq
def kpS (I : Mi) (x y i : Nat) : Nat → Int
  | 0 => 0
  | k + 1 => ixo (kpS I x y i k) (ian (I x k) (I y (i + k)))
theorem kpS_succ (I : Mi) (x y i k : Nat) : kpS I x y i (k + 1) = ixo (kpS I x y i k) (ian (I x k) (I y (i + k))) := rfl
theorem k_parity {n x y i lx ly : Nat} {s p o t c : Nat} (hS : ShS T s p o t c) (hn : I (s + 3) 0 = (n : Int)) (hn2 : n ≤ 256) (hkx : kd T x = 20) (hlx : x < nx T) (hnx : ln T x = lx) (hky : kd T y = 20) (hly : y < nx T) (hny : ln T y = ly) (hx : n ≤ lx) (hy : i + n ≤ ly) (hy2 : ly < 100000) (hq : Q (some (aI (kpS I x y i n))) T I) : EvE G mX3_parity d [aR (s + 3), aR x, aR y, aI ((i : Nat) : Int)] T I Q := by
  refine EvE.mk (lv0 := [some (aR (s + 3)), some (aR x), some (aR y), some (aI ((i : Nat) : Int)), none, none]) (Nat.le_of_ble_eq_true rfl) (by decide +kernel) rfl ?_
  refine r_iconst (pc := 0) dX3_parity_0 (in32_of rfl) ?_
  refine r_istore (pc := 1) (i := 4) (lv' := [_, _, _, _, _, _]) dX3_parity_1 (by decide) rfl ?_
  refine r_iconst (pc := 3) dX3_parity_3 (in32_of rfl) ?_
  refine r_istore (pc := 4) (i := 5) (lv' := [_, _, _, _, _, _]) dX3_parity_4 (by decide) rfl ?_
  refine loop1 (fun (k : Nat) => k ≤ n) (fun (k : Nat) => n - k) (fun (k : Nat) => [some (aR (s + 3)), some (aR x), some (aR y), some (aI ((i : Nat) : Int)), some (aI (kpS I x y i k)), some (aI ((k : Nat) : Int))]) (fun _ => T) (fun (k : Nat) => I) ?_ 0 (Nat.zero_le _)
  intro k hP ih
  have hP : k ≤ n := hP
  refine (?_ : Ev G mX3_parity d 6 [some (aR (s + 3)), some (aR x), some (aR y), some (aI ((i : Nat) : Int)), some (aI (kpS I x y i k)), some (aI ((k : Nat) : Int))] [] T I Q)
  refine r_iload (pc := 6) (i := 5) dX3_parity_6 rfl ?_
  refine r_aload_n (pc := 8) (i := 0) dX3_parity_8 rfl rfl ?_
  refine r_getfi (pc := 9) cks dX3_parity_9 fl_X3_9 rfl (kS3 hS) (ltS (k := 3) hS (by omega)) ?_
  refine r_top (b := ((n : Nat) : Int)) (hn) ?_
  refine r_icmp_ge (pc := 12) (tgt := 46) dX3_parity_12 rfl (fun c12 => ?_) (fun c12 => ?_)
  · refine r_iload (pc := 46) (i := 4) dX3_parity_46 rfl ?_
    exact r_iret (pc := 48) dX3_parity_48 trivial (by rw [show n = k by omega] at hq; exact hq)
  · refine r_iload_n (pc := 15) (i := 3) dX3_parity_15 rfl rfl ?_
    refine r_iload (pc := 16) (i := 5) dX3_parity_16 rfl ?_
    refine r_iaddN (pc := 18) (c := ((i + k : Nat) : Int)) dX3_parity_18 (by unfold w32; omega) ?_
    refine r_aload_n (pc := 19) (i := 2) dX3_parity_19 rfl rfl ?_
    refine r_alen (pc := 20) dX3_parity_20 (by rw [hky]; omega) hly ?_
    refine r_top (b := ((ly : Nat) : Int)) (by rw [hny] <;> rfl) ?_
    refine r_icmp_ge (pc := 21) (tgt := 46) dX3_parity_21 rfl (fun c21 => absurd c21 (by omega)) (fun c21 => ?_)
    refine r_iload (pc := 24) (i := 4) dX3_parity_24 rfl ?_
    refine r_aload_n (pc := 26) (i := 1) dX3_parity_26 rfl rfl ?_
    refine r_iload (pc := 27) (i := 5) dX3_parity_27 rfl ?_
    refine r_ild (pc := 29) (k) dX3_parity_29 hkx hlx rfl (by rw [hnx]; omega) ?_
    refine r_aload_n (pc := 30) (i := 2) dX3_parity_30 rfl rfl ?_
    refine r_iload_n (pc := 31) (i := 3) dX3_parity_31 rfl rfl ?_
    refine r_iload (pc := 32) (i := 5) dX3_parity_32 rfl ?_
    refine r_iaddN (pc := 34) (c := ((i + k : Nat) : Int)) dX3_parity_34 (by unfold w32; omega) ?_
    refine r_ild (pc := 35) (i + k) dX3_parity_35 hky hly rfl (by rw [hny]; omega) ?_
    refine r_iand (pc := 36) dX3_parity_36 ?_
    refine r_ixor (pc := 37) dX3_parity_37 ?_
    refine r_istore (pc := 38) (i := 4) (lv' := [_, _, _, _, _, _]) dX3_parity_38 (by decide) rfl ?_
    refine r_iincN (pc := 40) (i := 5) (c := ((k + 1 : Nat) : Int)) (lv' := [_, _, _, _, _, _]) dX3_parity_40 rfl (by decide) (by unfold w32; omega) rfl ?_
    refine r_goto (pc := 43) (tgt := 6) dX3_parity_43 rfl ?_
    exact ih (k + 1) (by omega) (by omega)
end C2

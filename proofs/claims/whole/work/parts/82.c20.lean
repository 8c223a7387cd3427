section C20
variable {G : Gl} {d : Nat} {T : Sh} {I : Mi} {N : Nat → Int} {Q : Option AV → Sh → Mi → Prop}
def mbI (F0 O0 F O M : Nat → Int) (y n z k x : Nat) : Prop :=
  (∀ i, i < k * z + x → i < n → F (256 * y + oP M y i) = ((i / z : Nat) : Int)) ∧ (∀ v, v < k → O (128 * y + v) = ukO M y (v * z) (lnB n z (v * z))) ∧
  (∀ j, ¬ (256 * y ≤ j ∧ j < 256 * y + 256) → F j = F0 j) ∧ ∀ j, ¬ (128 * y ≤ j ∧ j < 128 * y + 128) → O j = O0 j
theorem ukO_succ {M : Nat → Int} {y b : Nat} (hR : Rng M) (hy : y < 6) (x : Nat) (h : b + x + 1 ≤ 256) : ukO M y b (x + 1) = ixo (ukO M y b x) (if M (oP M y (b + x) + 276) = M (oP M y (b + x) + 532) then 0 else 1) := by
  have hA := parO_01 (N := M) (y := 276) (p := y) (b := b) hR (Or.inl rfl) hy x (by omega)
  have hB := parO_01 (N := M) (y := 532) (p := y) (b := b) hR (Or.inr rfl) hy x (by omega)
  have ho := (oP_rd (p := y) (k := b + x) (Rng_O hR) (by omega)).2
  have h1 := Rng_key (j := 276 + oP M y (b + x)) hR (by omega) (by omega)
  have h2 := Rng_key (j := 532 + oP M y (b + x)) hR (by omega) (by omega)
  rw [Nat.add_comm (oP M y (b + x)) 276, Nat.add_comm (oP M y (b + x)) 532]
  unfold ukO
  rw [parO_succ, parO_succ, ixo_bit hA h1, ixo_bit hB h2]
  by_cases g : parO M 276 y b x = parO M 532 y b x
  · rw [bi_f (p := ¬ parO M 276 y b x = parO M 532 y b x) (fun h => h g)]
    by_cases e : M (276 + oP M y (b + x)) = M (532 + oP M y (b + x))
    · rw [if_pos e, bi_f (fun h => h (by rw [g, e]))]; rfl
    · rw [if_neg e, bi_t (by omega)]; rfl
  · rw [bi_t (p := ¬ parO M 276 y b x = parO M 532 y b x) g]
    by_cases e : M (276 + oP M y (b + x)) = M (532 + oP M y (b + x))
    · rw [if_pos e, bi_t (by omega)]; rfl
    · rw [if_neg e, bi_f (by omega)]; rfl
theorem mb_step {F0 O0 F O M : Nat → Int} {y n z k x e : Nat} {v : Int} (h : mbI F0 O0 F O M y n z k x) (hP : PmO M e n) (hy : y < e) (hx : x < lnB n z (k * z)) (hk : k < 128) (hO : O (128 * y + k) = ukO M y (k * z) x) (hv : v = if M (oP M y (k * z + x) + 276) = M (oP M y (k * z + x) + 532) then 0 else 1) :
   mbI F0 O0 (un F (256 * y + oP M y (k * z + x)) (k : Int)) (un O (128 * y + k) (ixo (O (128 * y + k)) v)) M y n z k (x + 1) ∧ un O (128 * y + k) (ixo (O (128 * y + k)) v) (128 * y + k) = ukO M y (k * z) (x + 1) := by
  obtain ⟨a, b, c, f⟩ := h
  have hn2 := hP.2.2.1
  have he6 := hP.2.2.2.1
  have hxz : x < z ∧ k * z + x < n := by unfold lnB at hx; omega
  have hop := hP.2.2.2.2.1 y hy (k * z + x) hxz.2
  refine ⟨⟨fun i hi hin => ?_, fun w hw => ?_, fun j hj => ?_, fun j hj => ?_⟩, ?_⟩
  · by_cases g : i = k * z + x
    · subst g
      have e1 : (k * z + x) / z = k := by
        rw [Nat.mul_comm, Nat.mul_add_div (by omega), Nat.div_eq_of_lt hxz.1, Nat.add_zero]
      rw [un_at, e1]
    · have : oP M y i ≠ oP M y (k * z + x) := fun e => g (hP.2.2.2.2.2.1 y hy i (k * z + x) hin hxz.2 e)
      rw [un_ne (by omega)]
      exact a i (by omega) hin
  · rw [un_ne (by omega)]; exact b w hw
  · rw [un_ne (by omega)]; exact c j hj
  · rw [un_ne (by omega)]; exact f j hj
  · rw [un_at, ukO_succ hP.1 (by omega) x (by omega), hO, hv]
theorem mb_next {F0 O0 F O M : Nat → Int} {y n z k x : Nat} (h : mbI F0 O0 F O M y n z k x) (hx : x = lnB n z (k * z)) (hO : O (128 * y + k) = ukO M y (k * z) x) : mbI F0 O0 F O M y n z (k + 1) 0 := by
  obtain ⟨a, b, c, f⟩ := h
  refine ⟨fun i hi hin => a i ?_ hin, fun w hw => ?_, c, f⟩
  · rw [Nat.add_mul] at hi
    unfold lnB at hx
    omega
  · by_cases g : w = k
    · subst g; rw [hO, hx]
    · exact b w (by omega)
theorem mb_zero {F0 O0 F O M : Nat → Int} {y n z k : Nat} (h : mbI F0 O0 F O M y n z k 0) (hk : k < 128) : mbI F0 O0 F (un O (128 * y + k) 0) M y n z k 0 := by
  obtain ⟨a, b, c, f⟩ := h
  exact ⟨a, fun w hw => by rw [un_ne (by omega)]; exact b w hw, c, fun j hj => by rw [un_ne (by omega)]; exact f j hj⟩
theorem kuA_v {J : Mi} {s n x : Nat} {M : Nat → Int} (hx : x < n) (ha : J (s + 4) x = M (x + 276)) (hb : J (s + 5) x = M (x + 532)) : kuA J s n (x : Int) = if M (x + 276) = M (x + 532) then 0 else 1 := by
  unfold kuA
  rw [Int.toNat_natCast, ha, hb]
  by_cases g : M (x + 276) = M (x + 532)
  · rw [if_pos g, bi_f (fun h => h.2 g)]
  · rw [if_neg g, bi_t ⟨⟨by omega, by omega⟩, g⟩]
theorem nbk_mul {n z : Nat} (hz : 0 < z) : n ≤ nbk n z * z := by
  refine Nat.le_of_not_lt (fun h => ?_)
  exact absurd ((nbk_lt hz).mpr h) (Nat.lt_irrefl _)
theorem k_mapBlocks {m y e n B z : Nat} {M : Nat → Int} {s p o t c : Nat} (hS : ShS T s p o t c) (hd : 2 ≤ d) (hD : ShD T m) (hdm : m + 4 ≤ s ∨ s + 15 ≤ m) (hM : MwR T I s p o t c M e n) (hP0 : PmO M e n) (hy : y < e) (hB1 : 2 ≤ B) (hB2 : B ≤ 64) (hmB : I m 3 = (B : Int)) (hz : B * 2 ^ y = z) (hq : ∀ F O : Nat → Int, (∀ i, i < n → F (256 * y + oP M y i) = ((i / z : Nat) : Int)) → (∀ v, v < nbk n z → O (128 * y + v) = ukO M y (v * z) (lnB n z (v * z))) → (∀ j, ¬ (256 * y ≤ j ∧ j < 256 * y + 256) → F j = I (m + 1) j) → (∀ j, ¬ (128 * y ≤ j ∧ j < 128 * y + 128) → O j = I (m + 2) j) → Q none T (sr (sr I (m + 1) F) (m + 2) O)) : EvE G mX5_mapBlocks d [aR m, aR s, aI ((y : Nat) : Int)] T I Q := by
  have hne := neS hS
  have hm0 := hD.1
  have hn2 := hP0.2.2.1
  have he6 := hP0.2.2.2.1
  have hz2 : z ≤ 2048 := hz ▸ pw_le hB2 (by omega)
  have hz0 : 0 < z := hz ▸ Nat.mul_pos (by omega) (Nat.two_pow_pos y)
  have hnb : nbk n z ≤ 128 := by have h1 := nbk_le (n := n) (B := B) (q := y) hn2 hB1 (by omega); rw [hz] at h1; exact Nat.le_trans h1 (Nat.div_le_self _ _)
  refine EvE.mk (lv0 := [some (aR m), some (aR s), some (aI ((y : Nat) : Int)), none, none, none, none, none, none]) (Nat.le_of_ble_eq_true rfl) (by decide +kernel) rfl ?_
  refine r_aload_n (pc := 0) (i := 0) dX5_mapBlocks_0 rfl rfl ?_
  refine r_getfi (pc := 1) cks dX5_mapBlocks_1 fl_X5_22 rfl (kD0 hD) (ltD0 hD) ?_
  refine r_top (b := (B : Int)) (hmB) ?_
  refine r_iload_n (pc := 4) (i := 2) dX5_mapBlocks_4 rfl rfl ?_
  refine r_ishl (pc := 5) dX5_mapBlocks_5 ?_
  refine r_top (b := ((z : Nat) : Int)) (by rw [isl_n (by omega) (by omega) (by omega), ← hz]; simp) ?_
  refine r_istore_n (pc := 6) (i := 3) (lv' := [_, _, _, _, _, _, _, _, _]) dX5_mapBlocks_6 rfl (by decide) rfl ?_
  refine r_sipush (pc := 7) dX5_mapBlocks_7 rfl (in32_of rfl) ?_
  refine r_aload_n (pc := 10) (i := 1) dX5_mapBlocks_10 rfl rfl ?_
  refine r_getfr (pc := 11) (b := s + 3) cks dX5_mapBlocks_11 fl_X5_48 rfl (kS0 hS) (ltS0 hS) (rS0_11 hS) ?_
  refine r_getfi (pc := 14) cks dX5_mapBlocks_14 fl_X5_52 rfl (kS3 hS) (ltS (k := 3) hS (by omega)) ?_
  refine r_top (b := (n : Int)) (hM.2.1.1) ?_
  refine r_iload_n (pc := 17) (i := 3) dX5_mapBlocks_17 rfl rfl ?_
  refine r_callS1 (pc := 18) (d - 1) [aI ((n : Nat) : Int), aI ((z : Nat) : Int)] dX5_mapBlocks_18 (CS.mk2 mk_X11_blocksOf lk_X5_57) rfl rfl (by omega) (Nat.le_of_ble_eq_true rfl) (Nat.le_of_ble_eq_true rfl) (k_blocksOf (n := n) (z := z) (by omega) (by omega) (by omega) ?_)
  refine ⟨_, rfl, fun _ => ?_⟩
  refine r_min (pc := 21) dX5_mapBlocks_21 (by omega) ml_X5_80 (Nat.le_of_ble_eq_true rfl) ?_
  refine r_top (b := (((nbk n z) : Nat) : Int)) (by split <;> omega) ?_
  refine r_istore (pc := 24) (i := 4) (lv' := [_, _, _, _, _, _, _, _, _]) dX5_mapBlocks_24 (by decide) rfl ?_
  refine r_iconst (pc := 26) dX5_mapBlocks_26 (in32_of rfl) ?_
  refine r_istore (pc := 27) (i := 5) (lv' := [_, _, _, _, _, _, _, _, _]) dX5_mapBlocks_27 (by decide) rfl ?_
  refine r_mem (I2 := sr I (m + 1) (I (m + 1))) (((congrArg (fun f_ => sr I (m + 1) f_) (show I (m + 1) = I (m + 1) from rfl)).symm.trans (sr_id _ _)).symm) ?_
  refine r_mem (I2 := sr (sr I (m + 1) (I (m + 1))) (m + 2) (I (m + 2))) (((congrArg (fun f_ => sr (sr I (m + 1) (I (m + 1))) (m + 2) f_) (show (sr I (m + 1) (I (m + 1))) (m + 2) = I (m + 2) from (sr_ne (by omega)).trans (rfl))).symm.trans (sr_id _ _)).symm) ?_
  refine loop2 (fun (k : Nat) (D : (Nat → Int) × (Nat → Int)) => k ≤ nbk n z ∧ mbI (I (m + 1)) (I (m + 2)) D.1 D.2 M y n z k 0) (fun (k : Nat) (D : (Nat → Int) × (Nat → Int)) => nbk n z - k) (fun (k : Nat) (D : (Nat → Int) × (Nat → Int)) => [some (aR m), some (aR s), some (aI ((y : Nat) : Int)), some (aI ((z : Nat) : Int)), some (aI (((nbk n z) : Nat) : Int)), some (aI ((k : Nat) : Int)), none, none, none]) (fun _ _ => T) (fun (k : Nat) (D : (Nat → Int) × (Nat → Int)) => sr (sr I (m + 1) D.1) (m + 2) D.2) ?_ 0 (I (m + 1), I (m + 2)) ⟨Nat.zero_le _, fun i hi _ => absurd hi (by omega), fun v hv => absurd hv (Nat.not_lt_zero v), fun _ _ => rfl, fun _ _ => rfl⟩
  intro k D hP ih
  have hP : k ≤ nbk n z ∧ mbI (I (m + 1)) (I (m + 2)) D.1 D.2 M y n z k 0 := hP
  refine (?_ : Ev G mX5_mapBlocks d 29 [some (aR m), some (aR s), some (aI ((y : Nat) : Int)), some (aI ((z : Nat) : Int)), some (aI (((nbk n z) : Nat) : Int)), some (aI ((k : Nat) : Int)), none, none, none] [] T (sr (sr I (m + 1) D.1) (m + 2) D.2) Q)
  refine r_iload (pc := 29) (i := 5) dX5_mapBlocks_29 rfl ?_
  refine r_iload (pc := 31) (i := 4) dX5_mapBlocks_31 rfl ?_
  refine r_icmp_ge (pc := 33) (tgt := 152) dX5_mapBlocks_33 rfl (fun c33 => ?_) (fun c33 => ?_)
  · have hkk : k = nbk n z := by omega
    subst hkk
    obtain ⟨b1, b2, b3, b4⟩ := hP.2
    exact r_vret (pc := 152) dX5_mapBlocks_152 trivial (hq D.1 D.2 (fun i hi => b1 i (by have := nbk_mul (n := n) hz0; omega) hi) b2 b3 b4)
  · have hkn := (nbk_lt hz0).mp (show k < nbk n z by omega)
    have hk128 : k < 128 := by omega
    have hll : lnB n z (k * z) ≤ 256 ∧ k * z + lnB n z (k * z) ≤ n := by unfold lnB; omega
    refine r_aload_n (pc := 36) (i := 0) dX5_mapBlocks_36 rfl rfl ?_
    refine r_getfr (pc := 37) (b := m + 2) cks dX5_mapBlocks_37 fl_X5_15 rfl (kD0 hD) (ltD0 hD) (rD0_1 hD) ?_
    refine r_iload_n (pc := 40) (i := 2) dX5_mapBlocks_40 rfl rfl ?_
    refine r_sipush (pc := 41) dX5_mapBlocks_41 rfl (in32_of rfl) ?_
    refine r_imulN (pc := 44) (c := ((128 * y : Nat) : Int)) dX5_mapBlocks_44 (by unfold w32; omega) ?_
    refine r_iload (pc := 45) (i := 5) dX5_mapBlocks_45 rfl ?_
    refine r_iaddN (pc := 47) (c := ((128 * y + k : Nat) : Int)) dX5_mapBlocks_47 (by unfold w32; omega) ?_
    refine r_iconst (pc := 48) dX5_mapBlocks_48 (in32_of rfl) ?_
    refine r_ist (pc := 49) (128 * y + k) dX5_mapBlocks_49 (kD2 hD) (ltD (k := 2) hD (by omega)) rfl (by rw [lD2 hD]; omega) ?_
    refine r_mem (I2 := sr (sr I (m + 1) D.1) (m + 2) (un D.2 (128 * y + k) 0)) ((up2_row _ _ _ _).trans ((congrArg (fun fz_ => sr (sr (sr I (m + 1) D.1) (m + 2) D.2) (m + 2) (un fz_ (128 * y + k) 0)) (show (sr (sr I (m + 1) D.1) (m + 2) D.2) (m + 2) = D.2 from sr_row _ _ _)).trans (sr_sr _ _ _ _))) ?_
    refine r_iload (pc := 50) (i := 5) dX5_mapBlocks_50 rfl ?_
    refine r_iload_n (pc := 52) (i := 3) dX5_mapBlocks_52 rfl rfl ?_
    refine r_imulN (pc := 53) (c := (((k * z) : Nat) : Int)) dX5_mapBlocks_53 (w32_mul (by omega)) ?_
    refine r_aload_n (pc := 54) (i := 1) dX5_mapBlocks_54 rfl rfl ?_
    refine r_getfr (pc := 55) (b := s + 3) cks dX5_mapBlocks_55 fl_X5_48 rfl (kS0 hS) (ltS0 hS) (rS0_11 hS) ?_
    refine r_getfi (pc := 58) cks dX5_mapBlocks_58 fl_X5_52 rfl (kS3 hS) (ltS (k := 3) hS (by omega)) ?_
    refine r_top (b := I (s + 3) 0) ((congrFun (sr_ne (by omega)) _).trans ((congrFun (sr_ne (by omega)) _).trans (rfl))) ?_
    refine r_top (b := (n : Int)) (hM.2.1.1) ?_
    refine r_iload_n (pc := 61) (i := 3) dX5_mapBlocks_61 rfl rfl ?_
    refine r_iload (pc := 62) (i := 5) dX5_mapBlocks_62 rfl ?_
    refine r_callS1 (pc := 64) (d - 1) [aI ((n : Nat) : Int), aI ((z : Nat) : Int), aI ((k : Nat) : Int)] dX5_mapBlocks_64 (CS.mk2 mk_X11_lengthOf lk_X5_61) rfl rfl (by omega) (Nat.le_of_ble_eq_true rfl) (Nat.le_of_ble_eq_true rfl) (k_lengthOf (n := n) (z := z) (k := k) (by omega) hn2 (by omega) (by omega) ?_)
    refine ⟨_, rfl, fun _ => ?_⟩
    refine r_iaddN (pc := 67) (c := (((k * z) + (lnB n z (k * z)) : Nat) : Int)) dX5_mapBlocks_67 (by unfold w32; omega) ?_
    refine r_istore (pc := 68) (i := 6) (lv' := [_, _, _, _, _, _, _, _, _]) dX5_mapBlocks_68 (by decide) rfl ?_
    refine r_iload (pc := 70) (i := 5) dX5_mapBlocks_70 rfl ?_
    refine r_iload_n (pc := 72) (i := 3) dX5_mapBlocks_72 rfl rfl ?_
    refine r_imulN (pc := 73) (c := (((k * z) : Nat) : Int)) dX5_mapBlocks_73 (w32_mul (by omega)) ?_
    refine r_istore (pc := 74) (i := 7) (lv' := [_, _, _, _, _, _, _, _, _]) dX5_mapBlocks_74 (by decide) rfl ?_
    refine loop2 (fun (x : Nat) (D2 : (Nat → Int) × (Nat → Int)) => x ≤ lnB n z (k * z) ∧ mbI (I (m + 1)) (I (m + 2)) D2.1 D2.2 M y n z k x ∧ D2.2 (128 * y + k) = ukO M y (k * z) x) (fun (x : Nat) (D2 : (Nat → Int) × (Nat → Int)) => lnB n z (k * z) - x) (fun (x : Nat) (D2 : (Nat → Int) × (Nat → Int)) => [some (aR m), some (aR s), some (aI ((y : Nat) : Int)), some (aI ((z : Nat) : Int)), some (aI (((nbk n z) : Nat) : Int)), some (aI ((k : Nat) : Int)), some (aI (((k * z + lnB n z (k * z)) : Nat) : Int)), some (aI (((k * z + x) : Nat) : Int)), none]) (fun _ _ => T) (fun (x : Nat) (D2 : (Nat → Int) × (Nat → Int)) => sr (sr I (m + 1) D2.1) (m + 2) D2.2) ?_ 0 (D.1, un D.2 (128 * y + k) 0) ⟨Nat.zero_le _, mb_zero hP.2 hk128, un_at⟩
    intro x D2 hP2 ih2
    have hP2 : x ≤ lnB n z (k * z) ∧ mbI (I (m + 1)) (I (m + 2)) D2.1 D2.2 M y n z k x ∧ D2.2 (128 * y + k) = ukO M y (k * z) x := hP2
    refine (?_ : Ev G mX5_mapBlocks d 76 [some (aR m), some (aR s), some (aI ((y : Nat) : Int)), some (aI ((z : Nat) : Int)), some (aI (((nbk n z) : Nat) : Int)), some (aI ((k : Nat) : Int)), some (aI (((k * z + lnB n z (k * z)) : Nat) : Int)), some (aI (((k * z + x) : Nat) : Int)), none] [] T (sr (sr I (m + 1) D2.1) (m + 2) D2.2) Q)
    refine r_iload (pc := 76) (i := 7) dX5_mapBlocks_76 rfl ?_
    refine r_iload (pc := 78) (i := 6) dX5_mapBlocks_78 rfl ?_
    refine r_icmp_ge (pc := 80) (tgt := 146) dX5_mapBlocks_80 rfl (fun c80 => ?_) (fun c80 => ?_)
    · refine r_iincN (pc := 146) (i := 5) (c := ((k + 1 : Nat) : Int)) (lv' := [_, _, _, _, _, _, _, _, _]) dX5_mapBlocks_146 rfl (by decide) (by unfold w32; omega) rfl ?_
      refine r_goto (pc := 149) (tgt := 29) dX5_mapBlocks_149 rfl ?_
      refine Ev.weak (lv2 := [some (aR m), some (aR s), some (aI ((y : Nat) : Int)), some (aI ((z : Nat) : Int)), some (aI (((nbk n z) : Nat) : Int)), some (aI ((k + 1 : Nat) : Int)), none, none, none]) ⟨Or.inr rfl, Or.inr rfl, Or.inr rfl, Or.inr rfl, Or.inr rfl, Or.inr rfl, Or.inl rfl, Or.inl rfl, Or.inl rfl, trivial⟩ ?_
      exact ih (k + 1) D2 ⟨by omega, mb_next hP2.2.1 (by omega) hP2.2.2⟩ (by omega)
    · refine r_aload_n (pc := 83) (i := 1) dX5_mapBlocks_83 rfl rfl ?_
      refine r_iload_n (pc := 84) (i := 2) dX5_mapBlocks_84 rfl rfl ?_
      refine r_iload (pc := 85) (i := 7) dX5_mapBlocks_85 rfl ?_
      refine r_callV1 (pc := 87) (d - 1) [aI ((y : Nat) : Int), aI (((k * z + x) : Nat) : Int)] dX5_mapBlocks_87 (CV.mk2 mk_X9_ordered lk_X5_85) (RC.of (ltS0 hS) (kS0 hS) (by decide) rfl) rfl rfl (by omega) (Nat.le_of_ble_eq_true rfl) (Nat.le_of_ble_eq_true rfl) (k_ordered (q := y) (k := k * z + x) hS (by omega) ?_)
      refine ⟨_, rfl, fun _ => ?_⟩
      have hxn := hP0.2.2.2.2.1 y hy (k * z + x) (by omega)
      have hox := (oP_rd (p := y) (k := k * z + x) (Rng_O hP0.1) (by omega)).1
      refine r_top (b := ((oP M y (k * z + x) : Nat) : Int)) (by rw [sr_ne (Ne.symm (Ne.symm (ne_ms hdm (by decide) (by decide)))), sr_ne (ne_ms hdm (by decide) (by decide))]; exact (hM.2.2.1 y hy (k * z + x) (by omega)).trans hox) ?_
      refine r_istore (pc := 90) (i := 8) (lv' := [_, _, _, _, _, _, _, _, _]) dX5_mapBlocks_90 (by decide) rfl ?_
      refine r_aload_n (pc := 92) (i := 0) dX5_mapBlocks_92 rfl rfl ?_
      refine r_getfr (pc := 93) (b := m + 1) cks dX5_mapBlocks_93 fl_X5_9 rfl (kD0 hD) (ltD0 hD) (rD0_0 hD) ?_
      refine r_iload_n (pc := 96) (i := 2) dX5_mapBlocks_96 rfl rfl ?_
      refine r_sipush (pc := 97) dX5_mapBlocks_97 rfl (in32_of rfl) ?_
      refine r_imulN (pc := 100) (c := ((256 * y : Nat) : Int)) dX5_mapBlocks_100 (by unfold w32; omega) ?_
      refine r_iload (pc := 101) (i := 8) dX5_mapBlocks_101 rfl ?_
      refine r_iaddN (pc := 103) (c := ((256 * y + (oP M y (k * z + x)) : Nat) : Int)) dX5_mapBlocks_103 (by unfold w32; omega) ?_
      refine r_iload (pc := 104) (i := 5) dX5_mapBlocks_104 rfl ?_
      refine r_ist (pc := 106) (256 * y + (oP M y (k * z + x))) dX5_mapBlocks_106 (kD1 hD) (ltD (k := 1) hD (by omega)) rfl (by rw [lD1 hD]; omega) ?_
      refine r_mem (I2 := sr (sr I (m + 1) (un D2.1 (256 * y + (oP M y (k * z + x))) ((k : Nat) : Int))) (m + 2) D2.2) ((up2_row _ _ _ _).trans ((congrArg (fun fz_ => sr (sr (sr I (m + 1) D2.1) (m + 2) D2.2) (m + 1) (un fz_ (256 * y + (oP M y (k * z + x))) ((k : Nat) : Int))) (show (sr (sr I (m + 1) D2.1) (m + 2) D2.2) (m + 1) = D2.1 from (sr_ne (by omega)).trans (sr_row _ _ _))).trans ((sr_comm (by omega)).trans (congrArg (fun J => sr J (m + 2) D2.2) (sr_sr _ _ _ _))))) ?_
      refine r_aload_n (pc := 107) (i := 0) dX5_mapBlocks_107 rfl rfl ?_
      refine r_getfr (pc := 108) (b := m + 2) cks dX5_mapBlocks_108 fl_X5_15 rfl (kD0 hD) (ltD0 hD) (rD0_1 hD) ?_
      refine r_iload_n (pc := 111) (i := 2) dX5_mapBlocks_111 rfl rfl ?_
      refine r_sipush (pc := 112) dX5_mapBlocks_112 rfl (in32_of rfl) ?_
      refine r_imulN (pc := 115) (c := ((128 * y : Nat) : Int)) dX5_mapBlocks_115 (by unfold w32; omega) ?_
      refine r_iload (pc := 116) (i := 5) dX5_mapBlocks_116 rfl ?_
      refine r_iaddN (pc := 118) (c := ((128 * y + k : Nat) : Int)) dX5_mapBlocks_118 (by unfold w32; omega) ?_
      refine r_dup2 (pc := 119) dX5_mapBlocks_119 rfl rfl ?_
      refine r_ild (pc := 120) (128 * y + k) dX5_mapBlocks_120 (kD2 hD) (ltD (k := 2) hD (by omega)) rfl (by rw [lD2 hD]; omega) ?_
      refine r_top (b := D2.2 (128 * y + k)) (sr_at _ _ _ _) ?_
      refine r_aload_n (pc := 121) (i := 1) dX5_mapBlocks_121 rfl rfl ?_
      refine r_getfr (pc := 122) (b := s + 3) cks dX5_mapBlocks_122 fl_X5_48 rfl (kS0 hS) (ltS0 hS) (rS0_11 hS) ?_
      refine r_iload (pc := 125) (i := 8) dX5_mapBlocks_125 rfl ?_
      refine r_callV1 (pc := 127) (d - 1) [aI (((oP M y (k * z + x)) : Nat) : Int)] dX5_mapBlocks_127 (CV.mk2 mk_X3_isUnlike lk_X5_88) (RC.of (ltS (k := 3) hS (by omega)) (kS3 hS) (by decide) rfl) rfl rfl (by omega) (Nat.le_of_ble_eq_true rfl) (Nat.le_of_ble_eq_true rfl) (k_isUnlike (n := n) hS (by omega) ((congrFun (show (sr (sr I (m + 1) (un D2.1 (256 * y + (oP M y (k * z + x))) ((k : Nat) : Int))) (m + 2) D2.2) (s + 3) = I (s + 3) from (sr_ne (by omega)).trans ((sr_ne (by omega)).trans (rfl))) 0).trans hM.2.1.1) hn2 ?_)
      refine ⟨_, rfl, fun _ => ?_⟩
      refine r_if_eq (pc := 130) (tgt := 137) dX5_mapBlocks_130 rfl (fun c130 => ?_) (fun c130 => ?_)
      · refine r_iconst (pc := 137) dX5_mapBlocks_137 (in32_of rfl) ?_
        refine r_ixor (pc := 138) dX5_mapBlocks_138 ?_
        refine r_ist (pc := 139) (128 * y + k) dX5_mapBlocks_139 (kD2 hD) (ltD (k := 2) hD (by omega)) rfl (by rw [lD2 hD]; omega) ?_
        refine r_mem (I2 := sr (sr I (m + 1) (un D2.1 (256 * y + (oP M y (k * z + x))) ((k : Nat) : Int))) (m + 2) (un D2.2 (128 * y + k) (ixo (D2.2 (128 * y + k)) 0))) ((up2_row _ _ _ _).trans ((congrArg (fun fz_ => sr (sr (sr I (m + 1) (un D2.1 (256 * y + (oP M y (k * z + x))) ((k : Nat) : Int))) (m + 2) D2.2) (m + 2) (un fz_ (128 * y + k) (ixo (D2.2 (128 * y + k)) 0))) (show (sr (sr I (m + 1) (un D2.1 (256 * y + (oP M y (k * z + x))) ((k : Nat) : Int))) (m + 2) D2.2) (m + 2) = D2.2 from sr_row _ _ _)).trans (sr_sr _ _ _ _))) ?_
        refine r_iincN (pc := 140) (i := 7) (c := (((k * z + x) + 1 : Nat) : Int)) (lv' := [_, _, _, _, _, _, _, _, _]) dX5_mapBlocks_140 rfl (by decide) (by unfold w32; omega) rfl ?_
        refine r_goto (pc := 143) (tgt := 76) dX5_mapBlocks_143 rfl ?_
        refine Ev.weak (lv2 := [some (aR m), some (aR s), some (aI ((y : Nat) : Int)), some (aI ((z : Nat) : Int)), some (aI (((nbk n z) : Nat) : Int)), some (aI ((k : Nat) : Int)), some (aI (((k * z + lnB n z (k * z)) : Nat) : Int)), some (aI (((k * z + x) + 1 : Nat) : Int)), none]) ⟨Or.inr rfl, Or.inr rfl, Or.inr rfl, Or.inr rfl, Or.inr rfl, Or.inr rfl, Or.inr rfl, Or.inr rfl, Or.inl rfl, trivial⟩ ?_
        have hkv := kuA_v (J := sr (sr I (m + 1) (un D2.1 (256 * y + (oP M y (k * z + x))) ((k : Nat) : Int))) (m + 2) D2.2) (s := s) (M := M) hxn ((congrFun (show (sr (sr I (m + 1) (un D2.1 (256 * y + (oP M y (k * z + x))) ((k : Nat) : Int))) (m + 2) D2.2) (s + 4) = I (s + 4) from (sr_ne (by omega)).trans ((sr_ne (by omega)).trans (rfl))) (oP M y (k * z + x))).trans (hM.2.1.2 _ hxn).1) ((congrFun (show (sr (sr I (m + 1) (un D2.1 (256 * y + (oP M y (k * z + x))) ((k : Nat) : Int))) (m + 2) D2.2) (s + 5) = I (s + 5) from (sr_ne (by omega)).trans ((sr_ne (by omega)).trans (rfl))) (oP M y (k * z + x))).trans (hM.2.1.2 _ hxn).2)
        have hst := mb_step (v := 0) hP2.2.1 hP0 hy (by omega) hk128 hP2.2.2 (by have h01 : kuA (sr (sr I (m + 1) (un D2.1 (256 * y + (oP M y (k * z + x))) ((k : Nat) : Int))) (m + 2) D2.2) s n (oP M y (k * z + x) : Int) = 0 ∨ kuA (sr (sr I (m + 1) (un D2.1 (256 * y + (oP M y (k * z + x))) ((k : Nat) : Int))) (m + 2) D2.2) s n (oP M y (k * z + x) : Int) = 1 := bi_01 _; omega)
        exact Ev.re (by rw [Nat.add_assoc]) rfl (ih2 (x + 1) (un D2.1 (256 * y + (oP M y (k * z + x))) ((k : Nat) : Int), un D2.2 (128 * y + k) (ixo (D2.2 (128 * y + k)) 0)) ⟨by omega, hst.1, hst.2⟩ (by omega))
      · refine r_iconst (pc := 133) dX5_mapBlocks_133 (in32_of rfl) ?_
        refine r_goto (pc := 134) (tgt := 138) dX5_mapBlocks_134 rfl ?_
        refine r_ixor (pc := 138) dX5_mapBlocks_138 ?_
        refine r_ist (pc := 139) (128 * y + k) dX5_mapBlocks_139 (kD2 hD) (ltD (k := 2) hD (by omega)) rfl (by rw [lD2 hD]; omega) ?_
        refine r_mem (I2 := sr (sr I (m + 1) (un D2.1 (256 * y + (oP M y (k * z + x))) ((k : Nat) : Int))) (m + 2) (un D2.2 (128 * y + k) (ixo (D2.2 (128 * y + k)) 1))) ((up2_row _ _ _ _).trans ((congrArg (fun fz_ => sr (sr (sr I (m + 1) (un D2.1 (256 * y + (oP M y (k * z + x))) ((k : Nat) : Int))) (m + 2) D2.2) (m + 2) (un fz_ (128 * y + k) (ixo (D2.2 (128 * y + k)) 1))) (show (sr (sr I (m + 1) (un D2.1 (256 * y + (oP M y (k * z + x))) ((k : Nat) : Int))) (m + 2) D2.2) (m + 2) = D2.2 from sr_row _ _ _)).trans (sr_sr _ _ _ _))) ?_
        refine r_iincN (pc := 140) (i := 7) (c := (((k * z + x) + 1 : Nat) : Int)) (lv' := [_, _, _, _, _, _, _, _, _]) dX5_mapBlocks_140 rfl (by decide) (by unfold w32; omega) rfl ?_
        refine r_goto (pc := 143) (tgt := 76) dX5_mapBlocks_143 rfl ?_
        refine Ev.weak (lv2 := [some (aR m), some (aR s), some (aI ((y : Nat) : Int)), some (aI ((z : Nat) : Int)), some (aI (((nbk n z) : Nat) : Int)), some (aI ((k : Nat) : Int)), some (aI (((k * z + lnB n z (k * z)) : Nat) : Int)), some (aI (((k * z + x) + 1 : Nat) : Int)), none]) ⟨Or.inr rfl, Or.inr rfl, Or.inr rfl, Or.inr rfl, Or.inr rfl, Or.inr rfl, Or.inr rfl, Or.inr rfl, Or.inl rfl, trivial⟩ ?_
        have hkv := kuA_v (J := sr (sr I (m + 1) (un D2.1 (256 * y + (oP M y (k * z + x))) ((k : Nat) : Int))) (m + 2) D2.2) (s := s) (M := M) hxn ((congrFun (show (sr (sr I (m + 1) (un D2.1 (256 * y + (oP M y (k * z + x))) ((k : Nat) : Int))) (m + 2) D2.2) (s + 4) = I (s + 4) from (sr_ne (by omega)).trans ((sr_ne (by omega)).trans (rfl))) (oP M y (k * z + x))).trans (hM.2.1.2 _ hxn).1) ((congrFun (show (sr (sr I (m + 1) (un D2.1 (256 * y + (oP M y (k * z + x))) ((k : Nat) : Int))) (m + 2) D2.2) (s + 5) = I (s + 5) from (sr_ne (by omega)).trans ((sr_ne (by omega)).trans (rfl))) (oP M y (k * z + x))).trans (hM.2.1.2 _ hxn).2)
        have hst := mb_step (v := 1) hP2.2.1 hP0 hy (by omega) hk128 hP2.2.2 (by have h01 : kuA (sr (sr I (m + 1) (un D2.1 (256 * y + (oP M y (k * z + x))) ((k : Nat) : Int))) (m + 2) D2.2) s n (oP M y (k * z + x) : Int) = 0 ∨ kuA (sr (sr I (m + 1) (un D2.1 (256 * y + (oP M y (k * z + x))) ((k : Nat) : Int))) (m + 2) D2.2) s n (oP M y (k * z + x) : Int) = 1 := bi_01 _; omega)
        exact Ev.re (by rw [Nat.add_assoc]) rfl (ih2 (x + 1) (un D2.1 (256 * y + (oP M y (k * z + x))) ((k : Nat) : Int), un D2.2 (128 * y + k) (ixo (D2.2 (128 * y + k)) 1)) ⟨by omega, hst.1, hst.2⟩ (by omega))
end C20

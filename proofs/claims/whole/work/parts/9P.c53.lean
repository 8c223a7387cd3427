section C53
variable {G : Gl} {d : Nat} {T : Sh} {I : Mi} {N : Nat → Int} {Q : Option AV → Sh → Mi → Prop}
theorem nm_rng {w : Nat} {v : Int} (hw : w < 9) : (eLeast w ≤ nmM v ∧ nmM v ≤ eMost w) ↔ (eLeast w ≤ v ∧ v ≤ eMost w) := by
  have h := (eL_in w hw).2.2
  unfold nmM
  split <;> omega
theorem lnF_1 {B X lo hi : Nat → Int} {tp a : Nat} (h : wA B tp a < 0) : lnF B tp lo hi X a = 8 * (sA B tp a : Int) + 1 := by unfold lnF; rw [if_pos h]
theorem lnF_2 {B X lo hi : Nat → Int} {tp a w : Nat} (h : wA B tp a = (w : Int)) (h2 : ¬ X w = 0) : lnF B tp lo hi X a = 8 * (sA B tp a : Int) + 3 := by unfold lnF; rw [h, if_neg (by omega), Int.toNat_natCast, if_pos h2]
theorem lnF_3 {B X lo hi : Nat → Int} {tp a w : Nat} (h : wA B tp a = (w : Int)) (h2 : X w = 0) (h3 : ¬ (48 ≤ bA B tp (tA B tp a) ∧ bA B tp (tA B tp a) ≤ 57)) : lnF B tp lo hi X a = 8 * (tA B tp a : Int) + 1 := by
  unfold lnF
  rw [h, if_neg (by omega), Int.toNat_natCast, if_neg (fun g => g h2), if_pos h3]
theorem lnF_4 {B X lo hi : Nat → Int} {tp a w : Nat} (h : wA B tp a = (w : Int)) (h2 : X w = 0) (h3 : 48 ≤ bA B tp (tA B tp a) ∧ bA B tp (tA B tp a) ≤ 57) (h4 : ¬ (lo w ≤ xA B tp a ∧ xA B tp a ≤ hi w)) : lnF B tp lo hi X a = 8 * (tA B tp a : Int) + 2 := by
  unfold lnF
  rw [h, if_neg (by omega), Int.toNat_natCast, if_neg (fun g => g h2), if_neg (fun g => g h3), if_pos h4]
theorem lnF_0 {B X lo hi : Nat → Int} {tp a w : Nat} (h : wA B tp a = (w : Int)) (h2 : X w = 0) (h3 : 48 ≤ bA B tp (tA B tp a) ∧ bA B tp (tA B tp a) ≤ 57) (h4 : lo w ≤ xA B tp a ∧ xA B tp a ≤ hi w) : lnF B tp lo hi X a = 0 := by
  unfold lnF
  rw [h, if_neg (by omega), Int.toNat_natCast, if_neg (fun g => g h2), if_neg (fun g => g h3), if_neg (fun g => g h4)]
theorem wA_ex {B : Nat → Int} {tp a : Nat} (h : ¬ wA B tp a = -1) : ∃ w : Nat, wA B tp a = (w : Int) ∧ w < 9 := by
  rcases wdF_rng (bA B tp) (sA B tp a) 9 0 with g | ⟨k, h1, h2, h3⟩
  · exact absurd g h
  · exact ⟨k, h1, by omega⟩
theorem k_readLine {tp a : Nat} {B X : Nat → Int} {r x : Nat} (hr : ShR T r x) (hd : 6 ≤ d) (htp : I r 3 = (tp : Int)) (htp2 : tp ≤ 200) (hB : ∀ k, k < tp → I x k = bA B tp k) (hxr : x ≠ r) (ha : I r 4 = (a : Int)) (ha2 : a ≤ tp) (hX : ∀ k, k < 9 → (I (r + 3) k = 0 ↔ X k = 0)) (hxr3 : x ≠ r + 3 ∧ x ≠ r + 2) (hqF : ¬ lnF B tp eLeast eMost X a = 0 → ∀ K : Mi, (∀ b, b ≠ r → b ≠ r + 2 → b ≠ r + 3 → K b = I b) → Q (some (aI (lnF B tp eLeast eMost X a))) T K) (hqS : lnF B tp eLeast eMost X a = 0 → ∀ (K : Mi) (w : Nat), wA B tp a = (w : Int) → w < 9 → X w = 0 → (∀ b, b ≠ r → b ≠ r + 2 → b ≠ r + 3 → K b = I b) → K r 3 = (tp : Int) → K r 4 = ((zA B tp a : Nat) : Int) → K (r + 3) = un (I (r + 3)) w 1 → K (r + 2) = un (I (r + 2)) w (xA B tp a) → Q (some (aI 0)) T K) : EvE G mX7_readLine d [aR r] T I Q := by
  have hsl := sA_le (B := B) ha2
  have htl := tA_le (B := B) ha2
  have hr0 := hr.1
  refine EvE.mk (lv0 := [some (aR r), none, none, none]) (Nat.le_of_ble_eq_true rfl) (by decide +kernel) rfl ?_
  refine r_aload_n (pc := 0) (i := 0) dX7_readLine_0 rfl rfl ?_
  refine r_callV0 (pc := 1) (d - 1) [] dX7_readLine_1 (CV.mk2 mk_X7_skipBlanks lk_X7_51) (RC.of (by have := hr.1; omega) hr.2.1 (by decide) rfl) rfl rfl (by omega) (Nat.le_of_ble_eq_true rfl) (Nat.le_of_ble_eq_true rfl) (k_blanks (tp := tp) (a := a) (B := B) hr (by omega) ((rfl).trans htp) htp2 (fun k hk => (rfl).trans (hB k hk)) hxr ((rfl).trans ha) (ha2) ?_)
  refine ⟨rfl, fun _ => ?_⟩
  refine r_mem (I2 := sr I r (un (I r) 4 ((sA B tp a : Nat) : Int))) (by rfl) ?_
  refine r_aload_n (pc := 4) (i := 0) dX7_readLine_4 rfl rfl ?_
  refine r_getfi (pc := 5) cks dX7_readLine_5 fl_X7_29 rfl hr.2.1 (by have := hr.1; omega) ?_
  refine r_top (b := (un (I r) 4 ((sA B tp a : Nat) : Int)) 4) (sr_at _ _ _ _) ?_
  refine r_top (b := (((sA B tp a) : Nat) : Int)) (un_at) ?_
  refine r_istore_n (pc := 8) (i := 1) (lv' := [_, _, _, _]) dX7_readLine_8 rfl (by decide) rfl ?_
  refine r_aload_n (pc := 9) (i := 0) dX7_readLine_9 rfl rfl ?_
  refine r_bipush (pc := 10) dX7_readLine_10 rfl (in32_of rfl) ?_
  refine r_bipush (pc := 12) dX7_readLine_12 rfl (in32_of rfl) ?_
  refine r_callV0 (pc := 14) (d - 1) [aI 97, aI 122] dX7_readLine_14 (CV.mk2 mk_X7_skipBetween lk_X7_57) (RC.of (by have := hr.1; omega) hr.2.1 (by decide) rfl) rfl rfl (by omega) (Nat.le_of_ble_eq_true rfl) (Nat.le_of_ble_eq_true rfl) (k_skip (tp := tp) (a := sA B tp a) (B := B) hr ((sr_at _ _ _ _).trans ((un_ne (by decide)).trans htp)) htp2 (fun k hk => ((congrFun (sr_ne (by omega)) _).trans (rfl)).trans (hB k hk)) hxr ((sr_at _ _ _ _).trans un_at) (sA_le ha2) ?_)
  refine ⟨rfl, fun _ => ?_⟩
  refine r_mem (I2 := sr I r (un (un (I r) 4 ((sA B tp a : Nat) : Int)) 4 ((skB (bA B tp) 97 122 (tp - (sA B tp a)) (sA B tp a) : Nat) : Int))) ((congrArg (fun v0_ => (sr (sr I r (un (I r) 4 ((sA B tp a : Nat) : Int))) r (un v0_ 4 ((skB (bA B tp) 97 122 (tp - (sA B tp a)) (sA B tp a) : Nat) : Int)))) (show (sr I r (un (I r) 4 ((sA B tp a : Nat) : Int))) r = un (I r) 4 ((sA B tp a : Nat) : Int) from sr_row _ _ _)).trans (sr_sr _ _ _ _)) ?_
  refine r_mem (I2 := sr I r (un (I r) 4 ((eA B tp a : Nat) : Int))) (by rw [un_un]; rfl) ?_
  refine r_aload_n (pc := 17) (i := 0) dX7_readLine_17 rfl rfl ?_
  refine r_iload_n (pc := 18) (i := 1) dX7_readLine_18 rfl rfl ?_
  refine r_aload_n (pc := 19) (i := 0) dX7_readLine_19 rfl rfl ?_
  refine r_getfi (pc := 20) cks dX7_readLine_20 fl_X7_29 rfl hr.2.1 (by have := hr.1; omega) ?_
  refine r_top (b := (un (I r) 4 ((eA B tp a : Nat) : Int)) 4) (sr_at _ _ _ _) ?_
  refine r_top (b := (((eA B tp a) : Nat) : Int)) (un_at) ?_
  refine r_callV1 (pc := 23) (d - 1) [aI (((sA B tp a) : Nat) : Int), aI (((eA B tp a) : Nat) : Int)] dX7_readLine_23 (CV.mk2 mk_X7_wordAlong lk_X7_61) (RC.of (by have := hr.1; omega) hr.2.1 (by decide) rfl) rfl rfl (by omega) (Nat.le_of_ble_eq_true rfl) (Nat.le_of_ble_eq_true rfl) (k_wordAlong (b := sA B tp a) (e := eA B tp a) (tp := tp) (B := B) hr (by omega) htp2 (fun k hk => ((congrFun (sr_ne (by omega)) _).trans (rfl)).trans (hB k hk)) (skB_ge _ _ _ _ _) (eA_le ha2) rfl ?_)
  refine ⟨_, rfl, fun _ => ?_⟩
  refine r_top (b := wA B tp a) rfl ?_
  refine r_istore_n (pc := 26) (i := 2) (lv' := [_, _, _, _]) dX7_readLine_26 rfl (by decide) rfl ?_
  refine r_iload_n (pc := 27) (i := 2) dX7_readLine_27 rfl rfl ?_
  refine r_iconst (pc := 28) dX7_readLine_28 (in32_of rfl) ?_
  refine r_icmp_ne (pc := 29) (tgt := 38) dX7_readLine_29 rfl (fun c29 => ?_) (fun c29 => ?_)
  · obtain ⟨w, hw1, hw9⟩ : ∃ w : Nat, wA B tp a = (w : Int) ∧ w < 9 := wA_ex c29
    rw [hw1]
    refine r_aload_n (pc := 38) (i := 0) dX7_readLine_38 rfl rfl ?_
    refine r_getfr (pc := 39) (b := r + 3) cks dX7_readLine_39 fl_X7_18 rfl hr.2.1 (by have := hr.1; omega) hr.2.2.2.1.2.1 ?_
    refine r_iload_n (pc := 42) (i := 2) dX7_readLine_42 rfl rfl ?_
    refine r_ild (pc := 43) (w) dX7_readLine_43 hr.2.2.1.1 (by have := hr.1; omega) rfl (by rw [hr.2.2.1.2]; omega) ?_
    refine r_top (b := I (r + 3) w) ((congrFun (sr_ne (by omega)) _).trans (rfl)) ?_
    refine r_if_eq (pc := 44) (tgt := 53) dX7_readLine_44 rfl (fun c44 => ?_) (fun c44 => ?_)
    · have hXw : X w = 0 := (hX w hw9).mp (by omega)
      refine r_aload_n (pc := 53) (i := 0) dX7_readLine_53 rfl rfl ?_
      refine r_getfr (pc := 54) (b := r + 3) cks dX7_readLine_54 fl_X7_18 rfl hr.2.1 (by have := hr.1; omega) hr.2.2.2.1.2.1 ?_
      refine r_iload_n (pc := 57) (i := 2) dX7_readLine_57 rfl rfl ?_
      refine r_iconst (pc := 58) dX7_readLine_58 (in32_of rfl) ?_
      refine r_ist (pc := 59) (w) dX7_readLine_59 hr.2.2.1.1 (by have := hr.1; omega) rfl (by rw [hr.2.2.1.2]; omega) ?_
      refine r_mem (I2 := sr (sr I r (un (I r) 4 ((eA B tp a : Nat) : Int))) (r + 3) (un (I (r + 3)) w 1)) ((up2_row _ _ _ _).trans ((congrArg (fun fz_ => sr (sr I r (un (I r) 4 ((eA B tp a : Nat) : Int))) (r + 3) (un fz_ w 1)) (show (sr I r (un (I r) 4 ((eA B tp a : Nat) : Int))) (r + 3) = I (r + 3) from (sr_ne (by omega)).trans (rfl))).trans (rfl))) ?_
      refine r_aload_n (pc := 60) (i := 0) dX7_readLine_60 rfl rfl ?_
      refine r_callV0 (pc := 61) (d - 1) [] dX7_readLine_61 (CV.mk2 mk_X7_skipBlanks lk_X7_51) (RC.of (by have := hr.1; omega) hr.2.1 (by decide) rfl) rfl rfl (by omega) (Nat.le_of_ble_eq_true rfl) (Nat.le_of_ble_eq_true rfl) (k_blanks (tp := tp) (a := eA B tp a) (B := B) hr (by omega) (((congrFun (sr_ne (by omega)) _).trans (sr_at _ _ _ _)).trans ((un_ne (by decide)).trans htp)) htp2 (fun k hk => ((congrFun (sr_ne (by omega)) _).trans ((congrFun (sr_ne (by omega)) _).trans (rfl))).trans (hB k hk)) hxr (((congrFun (sr_ne (by omega)) _).trans (sr_at _ _ _ _)).trans un_at) (eA_le ha2) ?_)
      refine ⟨rfl, fun _ => ?_⟩
      refine r_mem (I2 := sr (sr I r (un (un (I r) 4 ((eA B tp a : Nat) : Int)) 4 ((sA B tp (eA B tp a) : Nat) : Int))) (r + 3) (un (I (r + 3)) w 1)) ((congrArg (fun v0_ => (sr (sr (sr I r (un (I r) 4 ((eA B tp a : Nat) : Int))) (r + 3) (un (I (r + 3)) w 1)) r (un v0_ 4 ((sA B tp (eA B tp a) : Nat) : Int)))) (show (sr (sr I r (un (I r) 4 ((eA B tp a : Nat) : Int))) (r + 3) (un (I (r + 3)) w 1)) r = un (I r) 4 ((eA B tp a : Nat) : Int) from (sr_ne (by omega)).trans (sr_row _ _ _))).trans ((sr_comm (by omega)).trans (congrArg (fun J => sr J (r + 3) (un (I (r + 3)) w 1)) (sr_sr _ _ _ _)))) ?_
      refine r_mem (I2 := sr (sr I r (un (I r) 4 ((tA B tp a : Nat) : Int))) (r + 3) (un (I (r + 3)) w 1)) (by rw [un_un]; rfl) ?_
      refine r_aload_n (pc := 64) (i := 0) dX7_readLine_64 rfl rfl ?_
      refine r_getfi (pc := 65) cks dX7_readLine_65 fl_X7_29 rfl hr.2.1 (by have := hr.1; omega) ?_
      refine r_top (b := (un (I r) 4 ((tA B tp a : Nat) : Int)) 4) ((congrFun (sr_ne (by omega)) _).trans (sr_at _ _ _ _)) ?_
      refine r_top (b := (((tA B tp a) : Nat) : Int)) (un_at) ?_
      refine r_istore_n (pc := 68) (i := 1) (lv' := [_, _, _, _]) dX7_readLine_68 rfl (by decide) rfl ?_
      refine r_aload_n (pc := 69) (i := 0) dX7_readLine_69 rfl rfl ?_
      refine r_bipush (pc := 70) dX7_readLine_70 rfl (in32_of rfl) ?_
      refine r_bipush (pc := 72) dX7_readLine_72 rfl (in32_of rfl) ?_
      refine r_callV0 (pc := 74) (d - 1) [aI 48, aI 57] dX7_readLine_74 (CV.mk2 mk_X7_skipBetween lk_X7_57) (RC.of (by have := hr.1; omega) hr.2.1 (by decide) rfl) rfl rfl (by omega) (Nat.le_of_ble_eq_true rfl) (Nat.le_of_ble_eq_true rfl) (k_skip (tp := tp) (a := tA B tp a) (B := B) hr (((congrFun (sr_ne (by omega)) _).trans (sr_at _ _ _ _)).trans ((un_ne (by decide)).trans htp)) htp2 (fun k hk => ((congrFun (sr_ne (by omega)) _).trans ((congrFun (sr_ne (by omega)) _).trans (rfl))).trans (hB k hk)) hxr (((congrFun (sr_ne (by omega)) _).trans (sr_at _ _ _ _)).trans un_at) (tA_le ha2) ?_)
      refine ⟨rfl, fun _ => ?_⟩
      refine r_mem (I2 := sr (sr I r (un (un (I r) 4 ((tA B tp a : Nat) : Int)) 4 ((skB (bA B tp) 48 57 (tp - (tA B tp a)) (tA B tp a) : Nat) : Int))) (r + 3) (un (I (r + 3)) w 1)) ((congrArg (fun v0_ => (sr (sr (sr I r (un (I r) 4 ((tA B tp a : Nat) : Int))) (r + 3) (un (I (r + 3)) w 1)) r (un v0_ 4 ((skB (bA B tp) 48 57 (tp - (tA B tp a)) (tA B tp a) : Nat) : Int)))) (show (sr (sr I r (un (I r) 4 ((tA B tp a : Nat) : Int))) (r + 3) (un (I (r + 3)) w 1)) r = un (I r) 4 ((tA B tp a : Nat) : Int) from (sr_ne (by omega)).trans (sr_row _ _ _))).trans ((sr_comm (by omega)).trans (congrArg (fun J => sr J (r + 3) (un (I (r + 3)) w 1)) (sr_sr _ _ _ _)))) ?_
      refine r_mem (I2 := sr (sr I r (un (I r) 4 ((zA B tp a : Nat) : Int))) (r + 3) (un (I (r + 3)) w 1)) (by rw [un_un]; rfl) ?_
      refine r_aload_n (pc := 77) (i := 0) dX7_readLine_77 rfl rfl ?_
      refine r_getfi (pc := 78) cks dX7_readLine_78 fl_X7_29 rfl hr.2.1 (by have := hr.1; omega) ?_
      refine r_top (b := (un (I r) 4 ((zA B tp a : Nat) : Int)) 4) ((congrFun (sr_ne (by omega)) _).trans (sr_at _ _ _ _)) ?_
      refine r_top (b := (((zA B tp a) : Nat) : Int)) (un_at) ?_
      refine r_iload_n (pc := 81) (i := 1) dX7_readLine_81 rfl rfl ?_
      refine r_icmp_ne (pc := 82) (tgt := 91) dX7_readLine_82 rfl (fun c82 => ?_) (fun c82 => ?_)
      · have hdg : 48 ≤ bA B tp (tA B tp a) ∧ bA B tp (tA B tp a) ≤ 57 := Decidable.of_not_not (fun h => by have := (dig_iff (B := B) (tA_le ha2)).mpr h; have h2 : zA B tp a = tA B tp a := this; omega)
        refine r_aload_n (pc := 91) (i := 0) dX7_readLine_91 rfl rfl ?_
        refine r_iload_n (pc := 92) (i := 1) dX7_readLine_92 rfl rfl ?_
        refine r_aload_n (pc := 93) (i := 0) dX7_readLine_93 rfl rfl ?_
        refine r_getfi (pc := 94) cks dX7_readLine_94 fl_X7_29 rfl hr.2.1 (by have := hr.1; omega) ?_
        refine r_top (b := (un (I r) 4 ((zA B tp a : Nat) : Int)) 4) ((congrFun (sr_ne (by omega)) _).trans (sr_at _ _ _ _)) ?_
        refine r_top (b := (((zA B tp a) : Nat) : Int)) (un_at) ?_
        refine r_callV1 (pc := 97) (d - 1) [aI (((tA B tp a) : Nat) : Int), aI (((zA B tp a) : Nat) : Int)] dX7_readLine_97 (CV.mk2 mk_X7_numberAlong lk_X7_64) (RC.of (by have := hr.1; omega) hr.2.1 (by decide) rfl) rfl rfl (by omega) (Nat.le_of_ble_eq_true rfl) (Nat.le_of_ble_eq_true rfl) (k_numAlong (b := tA B tp a) (e := zA B tp a) (tp := tp) (B := B) hr (by omega) htp2 (fun k hk => ((congrFun (sr_ne (by omega)) _).trans ((congrFun (sr_ne (by omega)) _).trans (rfl))).trans (hB k hk)) (skB_ge _ _ _ _ _) (zA_le ha2) rfl ?_)
        refine ⟨_, rfl, fun _ => ?_⟩
        refine r_top (b := nmM (xA B tp a)) rfl ?_
        refine r_istore_n (pc := 100) (i := 3) (lv' := [_, _, _, _]) dX7_readLine_100 rfl (by decide) rfl ?_
        refine r_iload_n (pc := 101) (i := 3) dX7_readLine_101 rfl rfl ?_
        refine r_getsA (pc := 102) (e := 0) (by decide) dX7_readLine_102 sl_X7_67 ?_
        refine r_iload_n (pc := 105) (i := 2) dX7_readLine_105 rfl rfl ?_
        refine r_xload (pc := 106) (e := 1) (x := (eLeast w)) (by decide) dX7_readLine_106 (by omega) (show ((w : Nat) : Int) < ((9 : Nat) : Int) by omega) (by rw [Int.toNat_natCast]; rfl) (eL_in w hw9).1 ?_
        refine r_icmp_lt (pc := 107) (tgt := 119) dX7_readLine_107 rfl (fun c107 => ?_) (fun c107 => ?_)
        · refine r_iload_n (pc := 119) (i := 1) dX7_readLine_119 rfl rfl ?_
          refine r_iconst (pc := 120) dX7_readLine_120 (in32_of rfl) ?_
          refine r_callS1 (pc := 121) (d - 1) [aI (((tA B tp a) : Nat) : Int), aI 2] dX7_readLine_121 (CS.mk2 mk_X7_faultAt lk_X7_54) rfl rfl (by omega) (Nat.le_of_ble_eq_true rfl) (Nat.le_of_ble_eq_true rfl) (k_faultAt (pl := (tA B tp a)) (kk := 2) (by omega) (by decide) ?_)
          refine ⟨_, rfl, fun _ => ?_⟩
          have hln : lnF B tp eLeast eMost X a = 8 * (tA B tp a : Int) + 2 := lnF_4 hw1 hXw hdg (fun h => by have h2 := (nm_rng hw9).mpr h; omega)
          exact r_iret (pc := 124) dX7_readLine_124 trivial (by have h := hqF (by rw [hln]; omega) (sr (sr I r (un (I r) 4 ((zA B tp a : Nat) : Int))) (r + 3) (un (I (r + 3)) w 1)) (fun b b0 b2 b3 => by rw [sr_ne (show b ≠ r + 3 by omega), sr_ne (show b ≠ r by omega)]); rw [hln, show (8 * (tA B tp a : Int) + 2 : Int) = ((8 * tA B tp a + 2 : Nat) : Int) by omega] at h; exact h)
        · refine r_iload_n (pc := 110) (i := 3) dX7_readLine_110 rfl rfl ?_
          refine r_getsA (pc := 111) (e := 1) (by decide) dX7_readLine_111 sl_X7_70 ?_
          refine r_iload_n (pc := 114) (i := 2) dX7_readLine_114 rfl rfl ?_
          refine r_xload (pc := 115) (e := 2) (x := (eMost w)) (by decide) dX7_readLine_115 (by omega) (show ((w : Nat) : Int) < ((9 : Nat) : Int) by omega) (by rw [Int.toNat_natCast]; rfl) (eL_in w hw9).2.1 ?_
          refine r_icmp_le (pc := 116) (tgt := 125) dX7_readLine_116 rfl (fun c116 => ?_) (fun c116 => ?_)
          · refine r_aload_n (pc := 125) (i := 0) dX7_readLine_125 rfl rfl ?_
            refine r_getfr (pc := 126) (b := r + 1) cks dX7_readLine_126 fl_X7_12 rfl hr.2.1 (by have := hr.1; omega) hr.2.2.2.1.1 ?_
            refine r_iload_n (pc := 129) (i := 2) dX7_readLine_129 rfl rfl ?_
            refine r_iload_n (pc := 130) (i := 3) dX7_readLine_130 rfl rfl ?_
            refine r_callV0 (pc := 131) (d - 1) [aI ((w : Nat) : Int), aI (nmM (xA B tp a))] dX7_readLine_131 (CV.mk2 mk_X6_put lk_X7_73) (RC.of (by have := hr.1; omega) (kP0 hr.2.2.2.2.1) (by decide) rfl) rfl rfl (by omega) (Nat.le_of_ble_eq_true rfl) (Nat.le_of_ble_eq_true rfl) (k_put (i := w) (x := nmM (xA B tp a)) hr.2.2.2.2.1 (by omega) ?_)
            refine ⟨rfl, fun _ => ?_⟩
            refine r_mem (I2 := sr (sr (sr I r (un (I r) 4 ((zA B tp a : Nat) : Int))) (r + 3) (un (I (r + 3)) w 1)) (r + 1 + 1) (un (I (r + 1 + 1)) w (nmM (xA B tp a)))) ((congrArg (fun v0_ => (sr (sr (sr I r (un (I r) 4 ((zA B tp a : Nat) : Int))) (r + 3) (un (I (r + 3)) w 1)) (r + 1 + 1) (un v0_ w (nmM (xA B tp a))))) (show (sr (sr I r (un (I r) 4 ((zA B tp a : Nat) : Int))) (r + 3) (un (I (r + 3)) w 1)) (r + 1 + 1) = I (r + 1 + 1) from (sr_ne (by omega)).trans ((sr_ne (by omega)).trans (rfl)))).trans (rfl)) ?_
            refine r_iconst (pc := 134) dX7_readLine_134 (in32_of rfl) ?_
            have hrg := (nm_rng (v := xA B tp a) hw9).mp ⟨by omega, by omega⟩
            have hnx : nmM (xA B tp a) = xA B tp a := by unfold nmM; rw [if_pos (by have := (eL_in w hw9).2.2; omega)]
            have hln : lnF B tp eLeast eMost X a = 0 := lnF_0 hw1 hXw hdg hrg
            refine r_iret (pc := 135) dX7_readLine_135 trivial (hqS hln _ w hw1 hw9 hXw (fun b b0 b2 b3 => by rw [sr_ne (show b ≠ r + 1 + 1 by omega), sr_ne (show b ≠ r + 3 by omega), sr_ne (show b ≠ r by omega)]) ?_ ?_ ?_ ?_)
            · rw [sr_ne (show r ≠ r + 1 + 1 by omega), sr_ne (show r ≠ r + 3 by omega), sr_row]; rw [un_ne (by decide)]; exact htp
            · rw [sr_ne (show r ≠ r + 1 + 1 by omega), sr_ne (show r ≠ r + 3 by omega), sr_row]; exact un_at
            · rw [sr_ne (show r + 3 ≠ r + 1 + 1 by omega), sr_row]
            · refine (show (sr (sr (sr I r (un (I r) 4 ((zA B tp a : Nat) : Int))) (r + 3) (un (I (r + 3)) w 1)) (r + 1 + 1) (un (I (r + 1 + 1)) w (nmM (xA B tp a)))) (r + 1 + 1) = _ from ?_); rw [sr_row]; rw [hnx]
          · refine r_iload_n (pc := 119) (i := 1) dX7_readLine_119 rfl rfl ?_
            refine r_iconst (pc := 120) dX7_readLine_120 (in32_of rfl) ?_
            refine r_callS1 (pc := 121) (d - 1) [aI (((tA B tp a) : Nat) : Int), aI 2] dX7_readLine_121 (CS.mk2 mk_X7_faultAt lk_X7_54) rfl rfl (by omega) (Nat.le_of_ble_eq_true rfl) (Nat.le_of_ble_eq_true rfl) (k_faultAt (pl := (tA B tp a)) (kk := 2) (by omega) (by decide) ?_)
            refine ⟨_, rfl, fun _ => ?_⟩
            have hln : lnF B tp eLeast eMost X a = 8 * (tA B tp a : Int) + 2 := lnF_4 hw1 hXw hdg (fun h => by have h2 := (nm_rng hw9).mpr h; omega)
            exact r_iret (pc := 124) dX7_readLine_124 trivial (by have h := hqF (by rw [hln]; omega) (sr (sr I r (un (I r) 4 ((zA B tp a : Nat) : Int))) (r + 3) (un (I (r + 3)) w 1)) (fun b b0 b2 b3 => by rw [sr_ne (show b ≠ r + 3 by omega), sr_ne (show b ≠ r by omega)]); rw [hln, show (8 * (tA B tp a : Int) + 2 : Int) = ((8 * tA B tp a + 2 : Nat) : Int) by omega] at h; exact h)
      · have c82 := Decidable.of_not_not c82
        have hz0 : skB (bA B tp) 48 57 (tp - tA B tp a) (tA B tp a) = tA B tp a := show zA B tp a = tA B tp a by omega
        refine r_iload_n (pc := 85) (i := 1) dX7_readLine_85 rfl rfl ?_
        refine r_iconst (pc := 86) dX7_readLine_86 (in32_of rfl) ?_
        refine r_callS1 (pc := 87) (d - 1) [aI (((tA B tp a) : Nat) : Int), aI 1] dX7_readLine_87 (CS.mk2 mk_X7_faultAt lk_X7_54) rfl rfl (by omega) (Nat.le_of_ble_eq_true rfl) (Nat.le_of_ble_eq_true rfl) (k_faultAt (pl := (tA B tp a)) (kk := 1) (by omega) (by decide) ?_)
        refine ⟨_, rfl, fun _ => ?_⟩
        have hln : lnF B tp eLeast eMost X a = 8 * (tA B tp a : Int) + 1 := lnF_3 hw1 hXw ((dig_iff (tA_le ha2)).mp hz0)
        exact r_iret (pc := 90) dX7_readLine_90 trivial (by have h := hqF (by rw [hln]; omega) (sr (sr I r (un (I r) 4 ((zA B tp a : Nat) : Int))) (r + 3) (un (I (r + 3)) w 1)) (fun b b0 b2 b3 => by rw [sr_ne (show b ≠ r + 3 by omega), sr_ne (show b ≠ r by omega)]); rw [hln, show (8 * (tA B tp a : Int) + 1 : Int) = ((8 * tA B tp a + 1 : Nat) : Int) by omega] at h; exact h)
    · refine r_iload_n (pc := 47) (i := 1) dX7_readLine_47 rfl rfl ?_
      refine r_iconst (pc := 48) dX7_readLine_48 (in32_of rfl) ?_
      refine r_callS1 (pc := 49) (d - 1) [aI (((sA B tp a) : Nat) : Int), aI 3] dX7_readLine_49 (CS.mk2 mk_X7_faultAt lk_X7_54) rfl rfl (by omega) (Nat.le_of_ble_eq_true rfl) (Nat.le_of_ble_eq_true rfl) (k_faultAt (pl := (sA B tp a)) (kk := 3) (by omega) (by decide) ?_)
      refine ⟨_, rfl, fun _ => ?_⟩
      have hln : lnF B tp eLeast eMost X a = 8 * (sA B tp a : Int) + 3 := lnF_2 hw1 (fun h => c44 ((hX w hw9).mpr h))
      exact r_iret (pc := 52) dX7_readLine_52 trivial (by have h := hqF (by rw [hln]; omega) (sr I r (un (I r) 4 ((eA B tp a : Nat) : Int))) (fun b b0 b2 b3 => by rw [sr_ne (show b ≠ r by omega)]); rw [hln, show (8 * (sA B tp a : Int) + 3 : Int) = ((8 * sA B tp a + 3 : Nat) : Int) by omega] at h; exact h)
  · have c29 := Decidable.of_not_not c29
    refine r_iload_n (pc := 32) (i := 1) dX7_readLine_32 rfl rfl ?_
    refine r_iconst (pc := 33) dX7_readLine_33 (in32_of rfl) ?_
    refine r_callS1 (pc := 34) (d - 1) [aI (((sA B tp a) : Nat) : Int), aI 1] dX7_readLine_34 (CS.mk2 mk_X7_faultAt lk_X7_54) rfl rfl (by omega) (Nat.le_of_ble_eq_true rfl) (Nat.le_of_ble_eq_true rfl) (k_faultAt (pl := (sA B tp a)) (kk := 1) (by omega) (by decide) ?_)
    refine ⟨_, rfl, fun _ => ?_⟩
    have hln : lnF B tp eLeast eMost X a = 8 * (sA B tp a : Int) + 1 := lnF_1 (by rw [c29]; decide)
    exact r_iret (pc := 37) dX7_readLine_37 trivial (by have h := hqF (by rw [hln]; omega) (sr I r (un (I r) 4 ((eA B tp a : Nat) : Int))) (fun b b0 b2 b3 => by rw [sr_ne (show b ≠ r by omega)]); rw [hln, show (8 * (sA B tp a : Int) + 1 : Int) = ((8 * sA B tp a + 1 : Nat) : Int) by omega] at h; exact h)
end C53

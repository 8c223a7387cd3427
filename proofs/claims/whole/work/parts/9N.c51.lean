section C51
variable {G : Gl} {d : Nat} {T : Sh} {I : Mi} {N : Nat → Int} {Q : Option AV → Sh → Mi → Prop}
theorem r_callX1 {y : Mth} {pc : Nat} {lv : List (Option AV)} {st : List AV} {y2 : Mth} {idx n i : Nat} {inS : List AV} (d2 : Nat) (hi : i < 9) (As : List AV) (hd : decode y.2.1 pc = .ok (.invokevirtual idx, 3)) (hl : CV y.1.cls idx y2 n) (hrc : y2.1.cls = "java/lang/String") (hn : As.length = n) (hs : inS = As.reverse ++ aE (4 + i) :: st) (hdd : d2 < d) (hm : y2.2.2.1 ≤ 17) (h8 : (st.map catA).sum ≤ 8) (hc : EvE G y2 d2 (aE (4 + i) :: As) T I (fun v T' I' => ∃ w, v = some w ∧ (nx T ≤ nx T' → Ev G y d (pc + 3) lv (w :: st) T' I' Q))) : Ev G y d pc lv inS T I Q :=
  r_callX hi hc hd hl hrc hn hs hdd hm h8 (fun v _ _ h hn2 => by obtain ⟨w, rfl, h⟩ := h; exact h hn2)
theorem sl_fact : ∀ i : Nat, i < 9 → sLen.getD i 0 = wdL i ∧ isr ((wdL i : Nat) : Int) 0 = ((wdL i : Nat) : Int) ∧ wdL i ≤ 7 := by decide +kernel
theorem sy_fact : ∀ i : Nat, i < 9 → ∀ j : Nat, j < wdL i → ic16 (ian ((sByt.getD i []).getD j 0).toInt 255) = wdT (8 * i + j) ∧ 97 ≤ wdT (8 * i + j) ∧ wdT (8 * i + j) ≤ 122 := by decide +kernel
theorem k_coder {i : Nat} (hi : i < 9) (hq : Q (some (aI 0)) T I) : EvE G mJ0_coder_7d493 d [aE (4 + i)] T I Q := by
  refine EvE.mk (lv0 := [some (aE (4 + i))]) (Nat.le_of_ble_eq_true rfl) (by decide +kernel) rfl ?_
  refine r_getsC (pc := 0) dJ0_coder_7d493_0 sl_J0_38 ?_
  refine r_if_eq (pc := 3) (tgt := 13) dJ0_coder_7d493_3 rfl (fun c3 => absurd c3 (by decide)) (fun c3 => ?_)
  refine r_aload_nE (pc := 6) (i := 0) dJ0_coder_7d493_6 rfl rfl ?_
  refine r_scod (pc := 7) hi dJ0_coder_7d493_7 sf_J0_15 ?_
  refine r_goto (pc := 10) (tgt := 14) dJ0_coder_7d493_10 rfl ?_
  exact r_iret (pc := 14) dJ0_coder_7d493_14 (by unfold ROK; decide) hq
theorem k_latin {i : Nat} (hi : i < 9) (hq : Q (some (aI 1)) T I) : EvE G mJ0_isLatin1_aae02 d [aE (4 + i)] T I Q := by
  refine EvE.mk (lv0 := [some (aE (4 + i))]) (Nat.le_of_ble_eq_true rfl) (by decide +kernel) rfl ?_
  refine r_getsC (pc := 0) dJ0_isLatin1_aae02_0 sl_J0_38 ?_
  refine r_if_eq (pc := 3) (tgt := 17) dJ0_isLatin1_aae02_3 rfl (fun c3 => absurd c3 (by decide)) (fun c3 => ?_)
  refine r_aload_nE (pc := 6) (i := 0) dJ0_isLatin1_aae02_6 rfl rfl ?_
  refine r_scod (pc := 7) hi dJ0_isLatin1_aae02_7 sf_J0_15 ?_
  refine r_if_ne (pc := 10) (tgt := 17) dJ0_isLatin1_aae02_10 rfl (fun c10 => absurd c10 (by decide)) (fun c10 => ?_)
  have c10 := Decidable.of_not_not c10
  refine r_iconst (pc := 13) dJ0_isLatin1_aae02_13 (in32_of rfl) ?_
  refine r_goto (pc := 14) (tgt := 18) dJ0_isLatin1_aae02_14 rfl ?_
  exact r_iret (pc := 18) dJ0_isLatin1_aae02_18 (Or.inr rfl) hq
theorem k_slen {i : Nat} (hi : i < 9) (hd : 1 ≤ d) (hq : Q (some (aI ((wdL i : Nat) : Int))) T I) : EvE G mJ0_length_8abf5 d [aE (4 + i)] T I Q := by
  refine EvE.mk (lv0 := [some (aE (4 + i))]) (Nat.le_of_ble_eq_true rfl) (by decide +kernel) rfl ?_
  refine r_aload_nE (pc := 0) (i := 0) dJ0_length_8abf5_0 rfl rfl ?_
  refine r_sval (pc := 1) hi dJ0_length_8abf5_1 sf_J0_9 ?_
  refine r_slen (pc := 4) hi dJ0_length_8abf5_4 ?_
  refine r_top (b := ((wdL i : Nat) : Int)) (by rw [(sl_fact i hi).1]) ?_
  refine r_aload_nE (pc := 5) (i := 0) dJ0_length_8abf5_5 rfl rfl ?_
  refine r_callX1 (pc := 6) (d - 1) hi [] dJ0_length_8abf5_6 (CV.mk2 mk_J0_coder_7d493 lk_J0_335) rfl rfl rfl (by omega) (Nat.le_of_ble_eq_true rfl) (Nat.le_of_ble_eq_true rfl) (k_coder hi ?_)
  refine ⟨_, rfl, fun _ => ?_⟩
  refine r_ishr (pc := 9) dJ0_length_8abf5_9 ?_
  refine r_top (b := (((wdL i) : Nat) : Int)) (sl_fact i hi).2.1 ?_
  exact r_iret (pc := 10) dJ0_length_8abf5_10 trivial hq
theorem k_chk3N {j n : Nat} (hj : j < n) (hq : Q (some (aI ((j : Nat) : Int))) T I) : EvE G mJ3_checkIndex_8e157 d [aI ((j : Nat) : Int), aI ((n : Nat) : Int), aN] T I Q := by
  refine EvE.mk (lv0 := [some (aI ((j : Nat) : Int)), some (aI ((n : Nat) : Int)), some (aN)]) (Nat.le_of_ble_eq_true rfl) (by decide +kernel) rfl ?_
  refine r_iload_n (pc := 0) (i := 0) dJ3_checkIndex_8e157_0 rfl rfl ?_
  refine r_if_lt (pc := 1) (tgt := 9) dJ3_checkIndex_8e157_1 rfl (fun c1 => absurd c1 (by omega)) (fun c1 => ?_)
  refine r_iload_n (pc := 4) (i := 0) dJ3_checkIndex_8e157_4 rfl rfl ?_
  refine r_iload_n (pc := 5) (i := 1) dJ3_checkIndex_8e157_5 rfl rfl ?_
  refine r_icmp_lt (pc := 6) (tgt := 16) dJ3_checkIndex_8e157_6 rfl (fun c6 => ?_) (fun c6 => absurd (by omega) c6)
  refine r_iload_n (pc := 16) (i := 0) dJ3_checkIndex_8e157_16 rfl rfl ?_
  exact r_iret (pc := 17) dJ3_checkIndex_8e157_17 trivial hq
theorem k_chk3E {j n : Nat} (hj : j < n) (hq : Q (some (aI ((j : Nat) : Int))) T I) : EvE G mJ3_checkIndex_8e157 d [aI ((j : Nat) : Int), aI ((n : Nat) : Int), aE 22] T I Q := by
  refine EvE.mk (lv0 := [some (aI ((j : Nat) : Int)), some (aI ((n : Nat) : Int)), some (aE 22)]) (Nat.le_of_ble_eq_true rfl) (by decide +kernel) rfl ?_
  refine r_iload_n (pc := 0) (i := 0) dJ3_checkIndex_8e157_0 rfl rfl ?_
  refine r_if_lt (pc := 1) (tgt := 9) dJ3_checkIndex_8e157_1 rfl (fun c1 => absurd c1 (by omega)) (fun c1 => ?_)
  refine r_iload_n (pc := 4) (i := 0) dJ3_checkIndex_8e157_4 rfl rfl ?_
  refine r_iload_n (pc := 5) (i := 1) dJ3_checkIndex_8e157_5 rfl rfl ?_
  refine r_icmp_lt (pc := 6) (tgt := 16) dJ3_checkIndex_8e157_6 rfl (fun c6 => ?_) (fun c6 => absurd (by omega) c6)
  refine r_iload_n (pc := 16) (i := 0) dJ3_checkIndex_8e157_16 rfl rfl ?_
  exact r_iret (pc := 17) dJ3_checkIndex_8e157_17 trivial hq
theorem k_chk3 {j n : Nat} (hj : j < n) (hq : Q (some (aI ((j : Nat) : Int))) T I) : EvE G mJ3_checkIndex_8e157 d [aI ((j : Nat) : Int), aI ((n : Nat) : Int), gF G] T I Q := by
  unfold gF
  split
  · exact k_chk3N hj hq
  · exact k_chk3E hj hq
theorem k_chk0 {j n : Nat} (hd : 1 ≤ d) (hj : j < n) (hq : Q none T I) : EvE G mJ0_checkIndex_df160 d [aI ((j : Nat) : Int), aI ((n : Nat) : Int)] T I Q := by
  refine EvE.mk (lv0 := [some (aI ((j : Nat) : Int)), some (aI ((n : Nat) : Int))]) (Nat.le_of_ble_eq_true rfl) (by decide +kernel) rfl ?_
  refine r_iload_n (pc := 0) (i := 0) dJ0_checkIndex_df160_0 rfl rfl ?_
  refine r_iload_n (pc := 1) (i := 1) dJ0_checkIndex_df160_1 rfl rfl ?_
  refine r_getsF (pc := 2) dJ0_checkIndex_df160_2 sl_J0_1053 ?_
  refine r_callS1 (pc := 5) (d - 1) [aI ((j : Nat) : Int), aI ((n : Nat) : Int), gF G] dJ0_checkIndex_df160_5 (CS.mk2 mk_J3_checkIndex_8e157 lk_J0_1059) rfl rfl (by omega) (Nat.le_of_ble_eq_true rfl) (Nat.le_of_ble_eq_true rfl) (k_chk3 (j := j) (n := n) hj ?_)
  refine ⟨_, rfl, fun _ => ?_⟩
  refine r_pop (pc := 8) dJ0_checkIndex_df160_8 rfl ?_
  exact r_vret (pc := 9) dJ0_checkIndex_df160_9 trivial hq
theorem k_chL {i j : Nat} (hi : i < 9) (hd : 2 ≤ d) (hj : j < wdL i) (hq : Q (some (aI (wdT (8 * i + j)))) T I) : EvE G mJ1_charAt_3b067 d [aE (13 + i), aI ((j : Nat) : Int)] T I Q := by
  refine EvE.mk (lv0 := [some (aE (13 + i)), some (aI ((j : Nat) : Int))]) (Nat.le_of_ble_eq_true rfl) (by decide +kernel) rfl ?_
  refine r_iload_n (pc := 0) (i := 1) dJ1_charAt_3b067_0 rfl rfl ?_
  refine r_aload_nE (pc := 1) (i := 0) dJ1_charAt_3b067_1 rfl rfl ?_
  refine r_slen (pc := 2) hi dJ1_charAt_3b067_2 ?_
  refine r_top (b := ((wdL i : Nat) : Int)) (by rw [(sl_fact i hi).1]) ?_
  refine r_callS0 (pc := 3) (d - 1) [aI ((j : Nat) : Int), aI (((wdL i) : Nat) : Int)] dJ1_charAt_3b067_3 (CS.mk2 mk_J0_checkIndex_df160 lk_J1_9) rfl rfl (by omega) (Nat.le_of_ble_eq_true rfl) (Nat.le_of_ble_eq_true rfl) (k_chk0 (j := j) (n := wdL i) (by omega) hj ?_)
  refine ⟨rfl, fun _ => ?_⟩
  refine r_aload_nE (pc := 6) (i := 0) dJ1_charAt_3b067_6 rfl rfl ?_
  refine r_iload_n (pc := 7) (i := 1) dJ1_charAt_3b067_7 rfl rfl ?_
  refine r_sbyt (pc := 8) hi dJ1_charAt_3b067_8 (by omega) (by rw [(sl_fact i hi).1]; omega) ?_
  refine r_top (b := ((sByt.getD i []).getD j 0).toInt) (by rw [Int.toNat_natCast]) ?_
  refine r_sipush (pc := 9) dJ1_charAt_3b067_9 rfl (in32_of rfl) ?_
  refine r_iand (pc := 12) dJ1_charAt_3b067_12 ?_
  refine r_i2c (pc := 13) dJ1_charAt_3b067_13 ?_
  refine r_top (b := (wdT (8 * i + j))) (sy_fact i hi j hj).1 ?_
  have hy := sy_fact i hi j hj
  exact r_iret (pc := 14) dJ1_charAt_3b067_14 (by unfold ROK; omega) hq
theorem k_charAt {i j : Nat} (hi : i < 9) (hd : 3 ≤ d) (hj : j < wdL i) (hq : Q (some (aI (wdT (8 * i + j)))) T I) : EvE G mJ0_charAt_5068e d [aE (4 + i), aI ((j : Nat) : Int)] T I Q := by
  refine EvE.mk (lv0 := [some (aE (4 + i)), some (aI ((j : Nat) : Int))]) (Nat.le_of_ble_eq_true rfl) (by decide +kernel) rfl ?_
  refine r_aload_nE (pc := 0) (i := 0) dJ0_charAt_5068e_0 rfl rfl ?_
  refine r_callX1 (pc := 1) (d - 1) hi [] dJ0_charAt_5068e_1 (CV.mk2 mk_J0_isLatin1_aae02 lk_J0_492) rfl rfl rfl (by omega) (Nat.le_of_ble_eq_true rfl) (Nat.le_of_ble_eq_true rfl) (k_latin hi ?_)
  refine ⟨_, rfl, fun _ => ?_⟩
  refine r_if_eq (pc := 4) (tgt := 16) dJ0_charAt_5068e_4 rfl (fun c4 => absurd c4 (by decide)) (fun c4 => ?_)
  refine r_aload_nE (pc := 7) (i := 0) dJ0_charAt_5068e_7 rfl rfl ?_
  refine r_sval (pc := 8) hi dJ0_charAt_5068e_8 sf_J0_9 ?_
  refine r_iload_n (pc := 11) (i := 1) dJ0_charAt_5068e_11 rfl rfl ?_
  refine r_callS1 (pc := 12) (d - 1) [aE (13 + i), aI ((j : Nat) : Int)] dJ0_charAt_5068e_12 (CS.mk2 mk_J1_charAt_3b067 lk_J0_495) rfl rfl (by omega) (Nat.le_of_ble_eq_true rfl) (Nat.le_of_ble_eq_true rfl) (k_chL (i := i) (j := j) hi (by omega) hj ?_)
  refine ⟨_, rfl, fun _ => ?_⟩
  have hy := sy_fact i hi j hj
  exact r_iret (pc := 15) dJ0_charAt_5068e_15 (by unfold ROK; omega) hq
end C51

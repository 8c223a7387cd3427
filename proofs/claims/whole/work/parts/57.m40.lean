section M40
variable {G : Gl} {d : Nat} {T : Sh} {I : Mi} {N : Nat → Int} {Q : Option AV → Sh → Mi → Prop}
/-- the same but behind the ledger -/
def agN (N M : Nat → Int) : Prop := ∀ j, j < 3902 + tN N → M j = N j
theorem agN_id (N : Nat → Int) : agN N N := fun _ _ => rfl
theorem agN_t {N M : Nat → Int} (h : agN N M) : tN M = tN N := by unfold tN; rw [h 3 (by omega)]
theorem agN_n {N M : Nat → Int} (h : agN N M) : nN M = nN N := by unfold nN; rw [h 1 (by omega)]
theorem agN_trans {N M K : Nat → Int} (h1 : agN N M) (h2 : agN M K) : agN N K := fun j hj => (h2 j (by rw [agN_t h1]; exact hj)).trans (h1 j hj)
theorem Rng_ag {N M : Nat → Int} (h : Rng N) (ha : agN N M) : Rng M := by
  intro j
  by_cases g : j < 3902
  · rw [ha j (by omega)]; exact h j
  · exact ok_free (by omega)
theorem oP_ag {N M : Nat → Int} (ha : agN N M) {p k : Nat} (h : 256 * p + k < 1536) : oP M p k = oP N p k := by unfold oP; rw [ha _ (by omega)]
theorem pOK_ag {N M : Nat → Int} {q : Nat} (h : pOK N q) (ha : agN N M) : pOK M q := by
  obtain ⟨a, b, c, e, f⟩ := h
  have hn := nN_le a
  refine ⟨Rng_ag a ha, by rw [ha 2 (by omega)]; exact b, c, ?_, by rw [agN_t ha, ha 12 (by omega)]; exact f⟩
  intro p hp k hk
  rw [agN_n ha] at hk ⊢
  rw [oP_ag ha (by omega)]
  exact e p hp k hk
theorem ag_cp (N A : Nat → Int) : agN N (cpyR N 0 A 0 (tN N + 3902)) := by
  intro j hj
  rw [cpyR_in (by omega)]
  congr 1
  omega
theorem ag_bk {N A : Nat → Int} (h : agN N A) (M : Nat → Int) : agN N (cpyR A 0 M 0 (tN A + 3902)) := agN_trans h (ag_cp A M)
def wdOk (N : Nat → Int) (k w : Int) : Prop := (0 ≤ k ∧ k ≤ 6) ∧ (0 ≤ w ∧ w ≤ 1) ∧ (N 0 = 2 ∨ N 0 = 3)
def wdV (B pp q : Nat) (N : Nat → Int) (k w : Int) : Int := if w = 0 then (unl (pcI B N (min k.toNat (pp - q))) (nN N) : Int) else pcI B N (min k.toNat (pp - q)) 3
theorem c_would {B pp q : Nat} {k w : Int} {L : Nat → Int} {P W A H : Nat → Int} (hT : ShM T) (hd : 7 ≤ d) (hP0 : (N 0 = 2 ∨ N 0 = 3) → pOK N q) (hL : I 280 = L) (h5 : L 5 = (B : Int)) (hB1 : 2 ≤ B) (hB2 : B ≤ 64) (h6 : L 6 = (pp : Int)) (hpp : pp ≤ 6) (h17 : H 17 = -1) (hq0 : ¬ (wdOk N k w) → Q (some (aI (-1))) T (sr (sr (sr (sr (sr I 286 P) 285 W) 284 A) 274 H) 283 N)) (hq1 : (wdOk N k w) → ∀ A2 K2 N2 : Nat → Int, agN N N2 → kpF H K2 → Q (some (aI (wdV B pp q N k w))) T (sr (sr (sr (sr (sr I 286 P) 285 W) 284 A2) 274 K2) 283 N2)) : EvE G mX12_would d [aR 274, aI k, aI w] T (sr (sr (sr (sr (sr I 286 P) 285 W) 284 A) 274 H) 283 N) Q := by
  refine EvE.mk (lv0 := [some (aR 274), some (aI k), some (aI w), none]) (Nat.le_of_ble_eq_true rfl) (by decide +kernel) rfl ?_
  refine r_iload_n (pc := 0) (i := 1) dX12_would_0 rfl rfl ?_
  refine r_i2l (pc := 1) dX12_would_1 ?_
  refine r_lconst (pc := 2) (z := 0) dX12_would_2 rfl (in64_of rfl) ?_
  refine r_ldc2 (pc := 3) (n := 6) dX12_would_3 cn_X12_303 (in64_of rfl) ?_
  refine r_callS1 (pc := 6) (d - 1) [aL k, aL 0, aL 6] dX12_would_6 (CS.mk2 mk_X12_isIn1 lk_X12_76) rfl rfl (by omega) (Nat.le_of_ble_eq_true rfl) (Nat.le_of_ble_eq_true rfl) (c_isIn1 ?_)
  refine ⟨_, rfl, fun _ => ?_⟩
  refine r_if_eq (pc := 9) (tgt := 29) dX12_would_9 rfl (fun c9 => ?_) (fun c9 => ?_)
  · have c9 := bi_if.mp c9
    refine r_iconst (pc := 29) dX12_would_29 (in32_of rfl) ?_
    exact r_iret (pc := 30) dX12_would_30 trivial (hq0 (fun h => by unfold wdOk at h; omega))
  · have c9 := bi_1 c9
    refine r_iload_n (pc := 12) (i := 2) dX12_would_12 rfl rfl ?_
    refine r_i2l (pc := 13) dX12_would_13 ?_
    refine r_lconst (pc := 14) (z := 0) dX12_would_14 rfl (in64_of rfl) ?_
    refine r_lconst (pc := 15) (z := 1) dX12_would_15 rfl (in64_of rfl) ?_
    refine r_callS1 (pc := 16) (d - 1) [aL w, aL 0, aL 1] dX12_would_16 (CS.mk2 mk_X12_isIn1 lk_X12_76) rfl rfl (by omega) (Nat.le_of_ble_eq_true rfl) (Nat.le_of_ble_eq_true rfl) (c_isIn1 ?_)
    refine ⟨_, rfl, fun _ => ?_⟩
    refine r_if_eq (pc := 19) (tgt := 29) dX12_would_19 rfl (fun c19 => ?_) (fun c19 => ?_)
    · have c19 := bi_if.mp c19
      refine r_iconst (pc := 29) dX12_would_29 (in32_of rfl) ?_
      exact r_iret (pc := 30) dX12_would_30 trivial (hq0 (fun h => by unfold wdOk at h; omega))
    · have c19 := bi_1 c19
      refine r_aload_n (pc := 22) (i := 0) dX12_would_22 rfl rfl ?_
      refine r_callV1 (pc := 23) (d - 1) [] dX12_would_23 (CV.mk2 mk_X12_isMending lk_X12_201) (RC.of (ltM hT (by omega)) (kM274 hT) (by decide) rfl) rfl rfl (by omega) (Nat.le_of_ble_eq_true rfl) (Nat.le_of_ble_eq_true rfl) (c_isMending hT ?_)
      refine ⟨_, rfl, fun _ => ?_⟩
      refine r_if_ne (pc := 26) (tgt := 31) dX12_would_26 rfl (fun c26 => ?_) (fun c26 => ?_)
      · have c26 := bi_1 c26
        obtain ⟨k, rfl⟩ : ∃ e : Nat, k = (e : Int) := ⟨k.toNat, by omega⟩
        have hp := hP0 c26
        have hR := hp.1
        have hnl := nN_le hR
        have hRA := Rng_ag hR (ag_cp N A)
        refine r_aload_n (pc := 31) (i := 0) dX12_would_31 rfl rfl ?_
        refine r_callV0 (pc := 32) (d - 1) [] dX12_would_32 (CV.mk2 mk_X12_keepsAside lk_X12_305) (RC.of (ltM hT (by omega)) (kM274 hT) (by decide) rfl) rfl rfl (by omega) (Nat.le_of_ble_eq_true rfl) (Nat.le_of_ble_eq_true rfl) (c_keepsAside hT (by omega) hR ?_)
        refine ⟨rfl, fun _ => ?_⟩
        refine r_iconst (pc := 35) dX12_would_35 (in32_of rfl) ?_
        refine r_istore_n (pc := 36) (i := 3) (lv' := [_, _, _, _]) dX12_would_36 rfl (by decide) rfl ?_
        refine loop2 (fun (i : Nat) (K : Nat → Int) => i ≤ k ∧ i ≤ pp - q ∧ kpF H K) (fun (i : Nat) (K : Nat → Int) => k - i) (fun (i : Nat) (K : Nat → Int) => [some (aR 274), some (aI ((k : Nat) : Int)), some (aI w), some (aI ((i : Nat) : Int))]) (fun _ _ => T) (fun (i : Nat) (K : Nat → Int) => sr (sr (sr (sr (sr I 286 P) 285 W) 284 (cpyR N 0 A 0 (tN N + 3902))) 274 K) 283 (pcI B N i)) ?_ 0 H ⟨Nat.zero_le _, Nat.zero_le _, kpF_id⟩
        intro i K hP ih
        have hP : i ≤ k ∧ i ≤ pp - q ∧ kpF H K := hP
        have hq6 := hp.2.2.1
        have hpi := pc_ok hB1 hp i (by omega)
        have hn1 : pcI B N i 1 = ((nN N : Nat) : Int) := by rw [← hpi.2.1]; exact nN_rd hpi.1.1
        have hBk : blk K L = (B : Int) := by unfold blk; rw [hP.2.2 17 (by decide) (by decide), h17, if_pos (by decide)]; exact h5
        refine (?_ : Ev G mX12_would d 37 [some (aR 274), some (aI ((k : Nat) : Int)), some (aI w), some (aI ((i : Nat) : Int))] [] T (sr (sr (sr (sr (sr I 286 P) 285 W) 284 (cpyR N 0 A 0 (tN N + 3902))) 274 K) 283 (pcI B N i)) Q)
        refine r_iload_n (pc := 37) (i := 3) dX12_would_37 rfl rfl ?_
        refine r_iload_n (pc := 38) (i := 1) dX12_would_38 rfl rfl ?_
        refine r_icmp_ge (pc := 39) (tgt := 68) dX12_would_39 rfl (fun c39 => ?_) (fun c39 => ?_)
        · have hie : i = min (k : Int).toNat (pp - q) := by omega
          refine r_iload_n (pc := 68) (i := 2) dX12_would_68 rfl rfl ?_
          refine r_if_ne (pc := 69) (tgt := 79) dX12_would_69 rfl (fun c69 => ?_) (fun c69 => ?_)
          · refine r_aload_n (pc := 79) (i := 0) dX12_would_79 rfl rfl ?_
            refine r_getfr (pc := 80) (b := 283) cks dX12_would_80 fl_X12_37 rfl (kM274 hT) (ltM hT (by omega)) (rM11 hT) ?_
            refine r_iconst (pc := 83) dX12_would_83 (in32_of rfl) ?_
            refine r_ild (pc := 84) (3) dX12_would_84 (kM283 hT) (ltM hT (by omega)) (by omega) (by rw [lM283 hT]; omega) ?_
            refine r_top (b := (pcI B N i) 3) (sr_at _ _ _ _) ?_
            refine r_istore_n (pc := 85) (i := 3) (lv' := [_, _, _, _]) dX12_would_85 rfl (by decide) rfl ?_
            refine r_aload_n (pc := 86) (i := 0) dX12_would_86 rfl rfl ?_
            refine r_callV0 (pc := 87) (d - 1) [] dX12_would_87 (CV.mk2 mk_X12_laysBack lk_X12_308) (RC.of (ltM hT (by omega)) (kM274 hT) (by decide) rfl) rfl rfl (by omega) (Nat.le_of_ble_eq_true rfl) (Nat.le_of_ble_eq_true rfl) (c_laysBack (A := (cpyR N 0 A 0 (tN N + 3902))) hT (by omega) hRA ?_)
            refine ⟨rfl, fun _ => ?_⟩
            refine r_iload_n (pc := 90) (i := 3) dX12_would_90 rfl rfl ?_
            exact r_iret (pc := 91) dX12_would_91 trivial (by have h := hq1 ⟨by omega, by omega, c26⟩ (cpyR N 0 A 0 (tN N + 3902)) (K) (cpyR (cpyR N 0 A 0 (tN N + 3902)) 0 (pcI B N i) 0 (tN (cpyR N 0 A 0 (tN N + 3902)) + 3902)) (ag_bk (ag_cp N A) _) hP.2.2; unfold wdV at h; rw [if_neg c69, ← hie] at h; exact h)
          · have c69 := Decidable.of_not_not c69
            refine r_aload_n (pc := 72) (i := 0) dX12_would_72 rfl rfl ?_
            refine r_callV1 (pc := 73) (d - 1) [] dX12_would_73 (CV.mk2 mk_X12_unlikeMany lk_X12_237) (RC.of (ltM hT (by omega)) (kM274 hT) (by decide) rfl) rfl rfl (by omega) (Nat.le_of_ble_eq_true rfl) (Nat.le_of_ble_eq_true rfl) (c_unlikeMany (n := nN N) hT hn1 hnl ?_)
            refine ⟨_, rfl, fun _ => ?_⟩
            refine r_goto (pc := 76) (tgt := 85) dX12_would_76 rfl ?_
            refine r_istore_n (pc := 85) (i := 3) (lv' := [_, _, _, _]) dX12_would_85 rfl (by decide) rfl ?_
            refine r_aload_n (pc := 86) (i := 0) dX12_would_86 rfl rfl ?_
            refine r_callV0 (pc := 87) (d - 1) [] dX12_would_87 (CV.mk2 mk_X12_laysBack lk_X12_308) (RC.of (ltM hT (by omega)) (kM274 hT) (by decide) rfl) rfl rfl (by omega) (Nat.le_of_ble_eq_true rfl) (Nat.le_of_ble_eq_true rfl) (c_laysBack (A := (cpyR N 0 A 0 (tN N + 3902))) hT (by omega) hRA ?_)
            refine ⟨rfl, fun _ => ?_⟩
            refine r_iload_n (pc := 90) (i := 3) dX12_would_90 rfl rfl ?_
            exact r_iret (pc := 91) dX12_would_91 trivial (by have h := hq1 ⟨by omega, by omega, c26⟩ (cpyR N 0 A 0 (tN N + 3902)) (K) (cpyR (cpyR N 0 A 0 (tN N + 3902)) 0 (pcI B N i) 0 (tN (cpyR N 0 A 0 (tN N + 3902)) + 3902)) (ag_bk (ag_cp N A) _) hP.2.2; unfold wdV at h; rw [if_pos c69, ← hie] at h; exact h)
        · refine r_aload_n (pc := 42) (i := 0) dX12_would_42 rfl rfl ?_
          refine r_getfr (pc := 43) (b := 283) cks dX12_would_43 fl_X12_37 rfl (kM274 hT) (ltM hT (by omega)) (rM11 hT) ?_
          refine r_iconst (pc := 46) dX12_would_46 (in32_of rfl) ?_
          refine r_ild (pc := 47) (2) dX12_would_47 (kM283 hT) (ltM hT (by omega)) (by omega) (by rw [lM283 hT]; omega) ?_
          refine r_top (b := (pcI B N i) 2) (sr_at _ _ _ _) ?_
          refine r_top (b := ((q + i : Nat) : Int)) (hpi.1.2.1) ?_
          refine r_aload_n (pc := 48) (i := 0) dX12_would_48 rfl rfl ?_
          refine r_getfr (pc := 49) (b := 280) cks dX12_would_49 fl_X12_27 rfl (kM274 hT) (ltM hT (by omega)) (rM6 hT) ?_
          refine r_bipush (pc := 52) dX12_would_52 rfl (in32_of rfl) ?_
          refine r_ild (pc := 54) (6) dX12_would_54 (kM280 hT) (ltM hT (by omega)) (by omega) (by rw [lM280 hT]; omega) ?_
          refine r_top (b := I 280 6) ((congrFun (sr_ne (by decide)) _).trans ((congrFun (sr_ne (by decide)) _).trans ((congrFun (sr_ne (by decide)) _).trans ((congrFun (sr_ne (by decide)) _).trans ((congrFun (sr_ne (by decide)) _).trans (rfl)))))) ?_
          refine r_top (b := (pp : Int)) ((congrFun hL 6).trans h6) ?_
          refine r_icmp_ge (pc := 55) (tgt := 68) dX12_would_55 rfl (fun c55 => ?_) (fun c55 => ?_)
          · have hie : i = min (k : Int).toNat (pp - q) := by omega
            refine r_iload_n (pc := 68) (i := 2) dX12_would_68 rfl rfl ?_
            refine r_if_ne (pc := 69) (tgt := 79) dX12_would_69 rfl (fun c69 => ?_) (fun c69 => ?_)
            · refine r_aload_n (pc := 79) (i := 0) dX12_would_79 rfl rfl ?_
              refine r_getfr (pc := 80) (b := 283) cks dX12_would_80 fl_X12_37 rfl (kM274 hT) (ltM hT (by omega)) (rM11 hT) ?_
              refine r_iconst (pc := 83) dX12_would_83 (in32_of rfl) ?_
              refine r_ild (pc := 84) (3) dX12_would_84 (kM283 hT) (ltM hT (by omega)) (by omega) (by rw [lM283 hT]; omega) ?_
              refine r_top (b := (pcI B N i) 3) (sr_at _ _ _ _) ?_
              refine r_istore_n (pc := 85) (i := 3) (lv' := [_, _, _, _]) dX12_would_85 rfl (by decide) rfl ?_
              refine r_aload_n (pc := 86) (i := 0) dX12_would_86 rfl rfl ?_
              refine r_callV0 (pc := 87) (d - 1) [] dX12_would_87 (CV.mk2 mk_X12_laysBack lk_X12_308) (RC.of (ltM hT (by omega)) (kM274 hT) (by decide) rfl) rfl rfl (by omega) (Nat.le_of_ble_eq_true rfl) (Nat.le_of_ble_eq_true rfl) (c_laysBack (A := (cpyR N 0 A 0 (tN N + 3902))) hT (by omega) hRA ?_)
              refine ⟨rfl, fun _ => ?_⟩
              refine r_iload_n (pc := 90) (i := 3) dX12_would_90 rfl rfl ?_
              exact r_iret (pc := 91) dX12_would_91 trivial (by have h := hq1 ⟨by omega, by omega, c26⟩ (cpyR N 0 A 0 (tN N + 3902)) (K) (cpyR (cpyR N 0 A 0 (tN N + 3902)) 0 (pcI B N i) 0 (tN (cpyR N 0 A 0 (tN N + 3902)) + 3902)) (ag_bk (ag_cp N A) _) hP.2.2; unfold wdV at h; rw [if_neg c69, ← hie] at h; exact h)
            · have c69 := Decidable.of_not_not c69
              refine r_aload_n (pc := 72) (i := 0) dX12_would_72 rfl rfl ?_
              refine r_callV1 (pc := 73) (d - 1) [] dX12_would_73 (CV.mk2 mk_X12_unlikeMany lk_X12_237) (RC.of (ltM hT (by omega)) (kM274 hT) (by decide) rfl) rfl rfl (by omega) (Nat.le_of_ble_eq_true rfl) (Nat.le_of_ble_eq_true rfl) (c_unlikeMany (n := nN N) hT hn1 hnl ?_)
              refine ⟨_, rfl, fun _ => ?_⟩
              refine r_goto (pc := 76) (tgt := 85) dX12_would_76 rfl ?_
              refine r_istore_n (pc := 85) (i := 3) (lv' := [_, _, _, _]) dX12_would_85 rfl (by decide) rfl ?_
              refine r_aload_n (pc := 86) (i := 0) dX12_would_86 rfl rfl ?_
              refine r_callV0 (pc := 87) (d - 1) [] dX12_would_87 (CV.mk2 mk_X12_laysBack lk_X12_308) (RC.of (ltM hT (by omega)) (kM274 hT) (by decide) rfl) rfl rfl (by omega) (Nat.le_of_ble_eq_true rfl) (Nat.le_of_ble_eq_true rfl) (c_laysBack (A := (cpyR N 0 A 0 (tN N + 3902))) hT (by omega) hRA ?_)
              refine ⟨rfl, fun _ => ?_⟩
              refine r_iload_n (pc := 90) (i := 3) dX12_would_90 rfl rfl ?_
              exact r_iret (pc := 91) dX12_would_91 trivial (by have h := hq1 ⟨by omega, by omega, c26⟩ (cpyR N 0 A 0 (tN N + 3902)) (K) (cpyR (cpyR N 0 A 0 (tN N + 3902)) 0 (pcI B N i) 0 (tN (cpyR N 0 A 0 (tN N + 3902)) + 3902)) (ag_bk (ag_cp N A) _) hP.2.2; unfold wdV at h; rw [if_pos c69, ← hie] at h; exact h)
          · refine r_aload_n (pc := 58) (i := 0) dX12_would_58 rfl rfl ?_
            refine r_callV0 (pc := 59) (d - 1) [] dX12_would_59 (CV.mk2 mk_X12_passes lk_X12_204) (RC.of (ltM hT (by omega)) (kM274 hT) (by decide) rfl) rfl rfl (by omega) (Nat.le_of_ble_eq_true rfl) (Nat.le_of_ble_eq_true rfl) (c_ps2 (B := B) (q := q + i) (L := L) hT (by omega) hpi.1 (by omega) hL hBk hB1 hB2 (fun K59 hK59 => ?_))
            refine ⟨rfl, fun _ => ?_⟩
            refine r_iincN (pc := 62) (i := 3) (c := ((i + 1 : Nat) : Int)) (lv' := [_, _, _, _]) dX12_would_62 rfl (by decide) (by unfold w32; omega) rfl ?_
            refine r_goto (pc := 65) (tgt := 37) dX12_would_65 rfl ?_
            exact ih (i + 1) K59 ⟨by omega, by omega, kpF_trans hP.2.2 hK59⟩ (by omega)
      · have c26 := bi_if.mp (Decidable.of_not_not c26)
        refine r_iconst (pc := 29) dX12_would_29 (in32_of rfl) ?_
        exact r_iret (pc := 30) dX12_would_30 trivial (hq0 (fun h => by unfold wdOk at h; omega))
/-- how many passes till the keys are alike -/
def rdS (B n r : Nat) (N : Nat → Int) : Nat → Nat → Nat
  | 0, i => i
  | u + 1, i => if 0 < unl (pcI B N i) n ∧ i < r then rdS B n r N u (i + 1) else i
theorem rdS_succ (B n r : Nat) (N : Nat → Int) (u i : Nat) : rdS B n r N (u + 1) i = if 0 < unl (pcI B N i) n ∧ i < r then rdS B n r N u (i + 1) else i := rfl
def rdOk (N : Nat → Int) (w : Int) : Prop := (0 ≤ w ∧ w ≤ 1) ∧ (N 0 = 2 ∨ N 0 = 3)
def rdE (B pp q : Nat) (N : Nat → Int) : Nat := rdS B (nN N) (pp - q) N 7 0
def rdV (B pp q : Nat) (N : Nat → Int) (w : Int) : Int := if unl (pcI B N (rdE B pp q N)) (nN N) = 0 then (if w = 0 then (rdE B pp q N : Int) else w32 (pcI B N (rdE B pp q N) 3 - N 3)) else -2
theorem c_rounds {B pp q : Nat} {w : Int} {L : Nat → Int} {P W A H : Nat → Int} (hT : ShM T) (hd : 7 ≤ d) (hP0 : (N 0 = 2 ∨ N 0 = 3) → pOK N q) (hL : I 280 = L) (h5 : L 5 = (B : Int)) (hB1 : 2 ≤ B) (hB2 : B ≤ 64) (h6 : L 6 = (pp : Int)) (hpp : pp ≤ 6) (h17 : H 17 = -1) (hq0 : ¬ (rdOk N w) → Q (some (aI (-1))) T (sr (sr (sr (sr (sr I 286 P) 285 W) 284 A) 274 H) 283 N)) (hq1 : (rdOk N w) → ∀ A2 K2 N2 : Nat → Int, agN N N2 → kpF H K2 → Q (some (aI (rdV B pp q N w))) T (sr (sr (sr (sr (sr I 286 P) 285 W) 284 A2) 274 K2) 283 N2)) : EvE G mX12_rounds d [aR 274, aI w] T (sr (sr (sr (sr (sr I 286 P) 285 W) 284 A) 274 H) 283 N) Q := by
  refine EvE.mk (lv0 := [some (aR 274), some (aI w), none, none, none, none]) (Nat.le_of_ble_eq_true rfl) (by decide +kernel) rfl ?_
  refine r_iload_n (pc := 0) (i := 1) dX12_rounds_0 rfl rfl ?_
  refine r_i2l (pc := 1) dX12_rounds_1 ?_
  refine r_lconst (pc := 2) (z := 0) dX12_rounds_2 rfl (in64_of rfl) ?_
  refine r_lconst (pc := 3) (z := 1) dX12_rounds_3 rfl (in64_of rfl) ?_
  refine r_callS1 (pc := 4) (d - 1) [aL w, aL 0, aL 1] dX12_rounds_4 (CS.mk2 mk_X12_isIn1 lk_X12_76) rfl rfl (by omega) (Nat.le_of_ble_eq_true rfl) (Nat.le_of_ble_eq_true rfl) (c_isIn1 ?_)
  refine ⟨_, rfl, fun _ => ?_⟩
  refine r_if_eq (pc := 7) (tgt := 17) dX12_rounds_7 rfl (fun c7 => ?_) (fun c7 => ?_)
  · have c7 := bi_if.mp c7
    refine r_iconst (pc := 17) dX12_rounds_17 (in32_of rfl) ?_
    exact r_iret (pc := 18) dX12_rounds_18 trivial (hq0 (fun h => by unfold rdOk at h; omega))
  · have c7 := bi_1 c7
    refine r_aload_n (pc := 10) (i := 0) dX12_rounds_10 rfl rfl ?_
    refine r_callV1 (pc := 11) (d - 1) [] dX12_rounds_11 (CV.mk2 mk_X12_isMending lk_X12_201) (RC.of (ltM hT (by omega)) (kM274 hT) (by decide) rfl) rfl rfl (by omega) (Nat.le_of_ble_eq_true rfl) (Nat.le_of_ble_eq_true rfl) (c_isMending hT ?_)
    refine ⟨_, rfl, fun _ => ?_⟩
    refine r_if_ne (pc := 14) (tgt := 19) dX12_rounds_14 rfl (fun c14 => ?_) (fun c14 => ?_)
    · have c14 := bi_1 c14
      have hp := hP0 c14
      have hR := hp.1
      have hnl := nN_le hR
      have hRA := Rng_ag hR (ag_cp N A)
      refine r_aload_n (pc := 19) (i := 0) dX12_rounds_19 rfl rfl ?_
      refine r_callV0 (pc := 20) (d - 1) [] dX12_rounds_20 (CV.mk2 mk_X12_keepsAside lk_X12_305) (RC.of (ltM hT (by omega)) (kM274 hT) (by decide) rfl) rfl rfl (by omega) (Nat.le_of_ble_eq_true rfl) (Nat.le_of_ble_eq_true rfl) (c_keepsAside hT (by omega) hR ?_)
      refine ⟨rfl, fun _ => ?_⟩
      refine r_iconst (pc := 23) dX12_rounds_23 (in32_of rfl) ?_
      refine r_istore_n (pc := 24) (i := 2) (lv' := [_, _, _, _, _, _]) dX12_rounds_24 rfl (by decide) rfl ?_
      refine r_aload_n (pc := 25) (i := 0) dX12_rounds_25 rfl rfl ?_
      refine r_getfr (pc := 26) (b := 283) cks dX12_rounds_26 fl_X12_37 rfl (kM274 hT) (ltM hT (by omega)) (rM11 hT) ?_
      refine r_iconst (pc := 29) dX12_rounds_29 (in32_of rfl) ?_
      refine r_ild (pc := 30) (3) dX12_rounds_30 (kM283 hT) (ltM hT (by omega)) (by omega) (by rw [lM283 hT]; omega) ?_
      refine r_top (b := N 3) (sr_at _ _ _ _) ?_
      refine r_istore_n (pc := 31) (i := 3) (lv' := [_, _, _, _, _, _]) dX12_rounds_31 rfl (by decide) rfl ?_
      refine loop2 (fun (i : Nat) (K : Nat → Int) => i ≤ pp - q ∧ rdS B (nN N) (pp - q) N 7 0 = rdS B (nN N) (pp - q) N (7 - i) i ∧ kpF H K) (fun (i : Nat) (K : Nat → Int) => 7 - i) (fun (i : Nat) (K : Nat → Int) => [some (aR 274), some (aI w), some (aI ((i : Nat) : Int)), some (aI (N 3)), none, none]) (fun _ _ => T) (fun (i : Nat) (K : Nat → Int) => sr (sr (sr (sr (sr I 286 P) 285 W) 284 (cpyR N 0 A 0 (tN N + 3902))) 274 K) 283 (pcI B N i)) ?_ 0 H ⟨Nat.zero_le _, rfl, kpF_id⟩
      intro i K hP ih
      have hP : i ≤ pp - q ∧ rdS B (nN N) (pp - q) N 7 0 = rdS B (nN N) (pp - q) N (7 - i) i ∧ kpF H K := hP
      have hq6 := hp.2.2.1
      have hpi := pc_ok hB1 hp i (by omega)
      have hn1 : pcI B N i 1 = ((nN N : Nat) : Int) := by rw [← hpi.2.1]; exact nN_rd hpi.1.1
      have hBk : blk K L = (B : Int) := by unfold blk; rw [hP.2.2 17 (by decide) (by decide), h17, if_pos (by decide)]; exact h5
      refine (?_ : Ev G mX12_rounds d 32 [some (aR 274), some (aI w), some (aI ((i : Nat) : Int)), some (aI (N 3)), none, none] [] T (sr (sr (sr (sr (sr I 286 P) 285 W) 284 (cpyR N 0 A 0 (tN N + 3902))) 274 K) 283 (pcI B N i)) Q)
      refine r_aload_n (pc := 32) (i := 0) dX12_rounds_32 rfl rfl ?_
      refine r_callV1 (pc := 33) (d - 1) [] dX12_rounds_33 (CV.mk2 mk_X12_unlikeMany lk_X12_237) (RC.of (ltM hT (by omega)) (kM274 hT) (by decide) rfl) rfl rfl (by omega) (Nat.le_of_ble_eq_true rfl) (Nat.le_of_ble_eq_true rfl) (c_unlikeMany (n := nN N) hT hn1 hnl ?_)
      refine ⟨_, rfl, fun _ => ?_⟩
      refine r_if_le (pc := 36) (tgt := 65) dX12_rounds_36 rfl (fun c36 => ?_) (fun c36 => ?_)
      · have hie : rdE B pp q N = i := by unfold rdE; rw [hP.2.1]; cases h7 : 7 - i with | zero => rfl | succ z => rw [rdS_succ, if_neg (by omega)]
        refine r_aload_n (pc := 65) (i := 0) dX12_rounds_65 rfl rfl ?_
        refine r_getfr (pc := 66) (b := 283) cks dX12_rounds_66 fl_X12_37 rfl (kM274 hT) (ltM hT (by omega)) (rM11 hT) ?_
        refine r_iconst (pc := 69) dX12_rounds_69 (in32_of rfl) ?_
        refine r_ild (pc := 70) (3) dX12_rounds_70 (kM283 hT) (ltM hT (by omega)) (by omega) (by rw [lM283 hT]; omega) ?_
        refine r_top (b := (pcI B N i) 3) (sr_at _ _ _ _) ?_
        refine r_iload_n (pc := 71) (i := 3) dX12_rounds_71 rfl rfl ?_
        refine r_isubN (pc := 72) (c := (w32 (((pcI B N i) 3) - (N 3)))) dX12_rounds_72 rfl ?_
        refine r_istore (pc := 73) (i := 4) (lv' := [_, _, _, _, _, _]) dX12_rounds_73 (by decide) rfl ?_
        refine r_aload_n (pc := 75) (i := 0) dX12_rounds_75 rfl rfl ?_
        refine r_callV1 (pc := 76) (d - 1) [] dX12_rounds_76 (CV.mk2 mk_X12_unlikeMany lk_X12_237) (RC.of (ltM hT (by omega)) (kM274 hT) (by decide) rfl) rfl rfl (by omega) (Nat.le_of_ble_eq_true rfl) (Nat.le_of_ble_eq_true rfl) (c_unlikeMany (n := nN N) hT hn1 hnl ?_)
        refine ⟨_, rfl, fun _ => ?_⟩
        refine r_if_ne (pc := 79) (tgt := 86) dX12_rounds_79 rfl (fun c79 => ?_) (fun c79 => ?_)
        · refine r_iconst (pc := 86) dX12_rounds_86 (in32_of rfl) ?_
          refine r_istore (pc := 87) (i := 5) (lv' := [_, _, _, _, _, _]) dX12_rounds_87 (by decide) rfl ?_
          refine r_aload_n (pc := 89) (i := 0) dX12_rounds_89 rfl rfl ?_
          refine r_callV0 (pc := 90) (d - 1) [] dX12_rounds_90 (CV.mk2 mk_X12_laysBack lk_X12_308) (RC.of (ltM hT (by omega)) (kM274 hT) (by decide) rfl) rfl rfl (by omega) (Nat.le_of_ble_eq_true rfl) (Nat.le_of_ble_eq_true rfl) (c_laysBack (A := (cpyR N 0 A 0 (tN N + 3902))) hT (by omega) hRA ?_)
          refine ⟨rfl, fun _ => ?_⟩
          refine r_iload (pc := 93) (i := 5) dX12_rounds_93 rfl ?_
          refine r_if_ne (pc := 95) (tgt := 103) dX12_rounds_95 rfl (fun c95 => absurd c95 (by decide)) (fun c95 => ?_)
          have c95 := Decidable.of_not_not c95
          refine r_bipush (pc := 98) dX12_rounds_98 rfl (in32_of rfl) ?_
          refine r_goto (pc := 100) (tgt := 113) dX12_rounds_100 rfl ?_
          exact r_iret (pc := 113) dX12_rounds_113 trivial (by have h := hq1 ⟨by omega, c14⟩ (cpyR N 0 A 0 (tN N + 3902)) (K) (cpyR (cpyR N 0 A 0 (tN N + 3902)) 0 (pcI B N i) 0 (tN (cpyR N 0 A 0 (tN N + 3902)) + 3902)) (ag_bk (ag_cp N A) _) hP.2.2; unfold rdV at h; rw [hie, if_neg (by omega)] at h; exact h)
        · have c79 := Decidable.of_not_not c79
          refine r_iconst (pc := 82) dX12_rounds_82 (in32_of rfl) ?_
          refine r_goto (pc := 83) (tgt := 87) dX12_rounds_83 rfl ?_
          refine r_istore (pc := 87) (i := 5) (lv' := [_, _, _, _, _, _]) dX12_rounds_87 (by decide) rfl ?_
          refine r_aload_n (pc := 89) (i := 0) dX12_rounds_89 rfl rfl ?_
          refine r_callV0 (pc := 90) (d - 1) [] dX12_rounds_90 (CV.mk2 mk_X12_laysBack lk_X12_308) (RC.of (ltM hT (by omega)) (kM274 hT) (by decide) rfl) rfl rfl (by omega) (Nat.le_of_ble_eq_true rfl) (Nat.le_of_ble_eq_true rfl) (c_laysBack (A := (cpyR N 0 A 0 (tN N + 3902))) hT (by omega) hRA ?_)
          refine ⟨rfl, fun _ => ?_⟩
          refine r_iload (pc := 93) (i := 5) dX12_rounds_93 rfl ?_
          refine r_if_ne (pc := 95) (tgt := 103) dX12_rounds_95 rfl (fun c95 => ?_) (fun c95 => absurd (by decide) c95)
          refine r_iload_n (pc := 103) (i := 1) dX12_rounds_103 rfl rfl ?_
          refine r_if_ne (pc := 104) (tgt := 111) dX12_rounds_104 rfl (fun c104 => ?_) (fun c104 => ?_)
          · refine r_iload (pc := 111) (i := 4) dX12_rounds_111 rfl ?_
            exact r_iret (pc := 113) dX12_rounds_113 trivial (by have h := hq1 ⟨by omega, c14⟩ (cpyR N 0 A 0 (tN N + 3902)) (K) (cpyR (cpyR N 0 A 0 (tN N + 3902)) 0 (pcI B N i) 0 (tN (cpyR N 0 A 0 (tN N + 3902)) + 3902)) (ag_bk (ag_cp N A) _) hP.2.2; unfold rdV at h; rw [hie, if_pos (by omega), if_neg c104] at h; exact h)
          · have c104 := Decidable.of_not_not c104
            refine r_iload_n (pc := 107) (i := 2) dX12_rounds_107 rfl rfl ?_
            refine r_goto (pc := 108) (tgt := 113) dX12_rounds_108 rfl ?_
            exact r_iret (pc := 113) dX12_rounds_113 trivial (by have h := hq1 ⟨by omega, c14⟩ (cpyR N 0 A 0 (tN N + 3902)) (K) (cpyR (cpyR N 0 A 0 (tN N + 3902)) 0 (pcI B N i) 0 (tN (cpyR N 0 A 0 (tN N + 3902)) + 3902)) (ag_bk (ag_cp N A) _) hP.2.2; unfold rdV at h; rw [hie, if_pos (by omega), if_pos c104] at h; exact h)
      · refine r_aload_n (pc := 39) (i := 0) dX12_rounds_39 rfl rfl ?_
        refine r_getfr (pc := 40) (b := 283) cks dX12_rounds_40 fl_X12_37 rfl (kM274 hT) (ltM hT (by omega)) (rM11 hT) ?_
        refine r_iconst (pc := 43) dX12_rounds_43 (in32_of rfl) ?_
        refine r_ild (pc := 44) (2) dX12_rounds_44 (kM283 hT) (ltM hT (by omega)) (by omega) (by rw [lM283 hT]; omega) ?_
        refine r_top (b := (pcI B N i) 2) (sr_at _ _ _ _) ?_
        refine r_top (b := ((q + i : Nat) : Int)) (hpi.1.2.1) ?_
        refine r_aload_n (pc := 45) (i := 0) dX12_rounds_45 rfl rfl ?_
        refine r_getfr (pc := 46) (b := 280) cks dX12_rounds_46 fl_X12_27 rfl (kM274 hT) (ltM hT (by omega)) (rM6 hT) ?_
        refine r_bipush (pc := 49) dX12_rounds_49 rfl (in32_of rfl) ?_
        refine r_ild (pc := 51) (6) dX12_rounds_51 (kM280 hT) (ltM hT (by omega)) (by omega) (by rw [lM280 hT]; omega) ?_
        refine r_top (b := I 280 6) ((congrFun (sr_ne (by decide)) _).trans ((congrFun (sr_ne (by decide)) _).trans ((congrFun (sr_ne (by decide)) _).trans ((congrFun (sr_ne (by decide)) _).trans ((congrFun (sr_ne (by decide)) _).trans (rfl)))))) ?_
        refine r_top (b := (pp : Int)) ((congrFun hL 6).trans h6) ?_
        refine r_icmp_ge (pc := 52) (tgt := 65) dX12_rounds_52 rfl (fun c52 => ?_) (fun c52 => ?_)
        · have hie : rdE B pp q N = i := by unfold rdE; rw [hP.2.1]; cases h7 : 7 - i with | zero => rfl | succ z => rw [rdS_succ, if_neg (by omega)]
          refine r_aload_n (pc := 65) (i := 0) dX12_rounds_65 rfl rfl ?_
          refine r_getfr (pc := 66) (b := 283) cks dX12_rounds_66 fl_X12_37 rfl (kM274 hT) (ltM hT (by omega)) (rM11 hT) ?_
          refine r_iconst (pc := 69) dX12_rounds_69 (in32_of rfl) ?_
          refine r_ild (pc := 70) (3) dX12_rounds_70 (kM283 hT) (ltM hT (by omega)) (by omega) (by rw [lM283 hT]; omega) ?_
          refine r_top (b := (pcI B N i) 3) (sr_at _ _ _ _) ?_
          refine r_iload_n (pc := 71) (i := 3) dX12_rounds_71 rfl rfl ?_
          refine r_isubN (pc := 72) (c := (w32 (((pcI B N i) 3) - (N 3)))) dX12_rounds_72 rfl ?_
          refine r_istore (pc := 73) (i := 4) (lv' := [_, _, _, _, _, _]) dX12_rounds_73 (by decide) rfl ?_
          refine r_aload_n (pc := 75) (i := 0) dX12_rounds_75 rfl rfl ?_
          refine r_callV1 (pc := 76) (d - 1) [] dX12_rounds_76 (CV.mk2 mk_X12_unlikeMany lk_X12_237) (RC.of (ltM hT (by omega)) (kM274 hT) (by decide) rfl) rfl rfl (by omega) (Nat.le_of_ble_eq_true rfl) (Nat.le_of_ble_eq_true rfl) (c_unlikeMany (n := nN N) hT hn1 hnl ?_)
          refine ⟨_, rfl, fun _ => ?_⟩
          refine r_if_ne (pc := 79) (tgt := 86) dX12_rounds_79 rfl (fun c79 => ?_) (fun c79 => ?_)
          · refine r_iconst (pc := 86) dX12_rounds_86 (in32_of rfl) ?_
            refine r_istore (pc := 87) (i := 5) (lv' := [_, _, _, _, _, _]) dX12_rounds_87 (by decide) rfl ?_
            refine r_aload_n (pc := 89) (i := 0) dX12_rounds_89 rfl rfl ?_
            refine r_callV0 (pc := 90) (d - 1) [] dX12_rounds_90 (CV.mk2 mk_X12_laysBack lk_X12_308) (RC.of (ltM hT (by omega)) (kM274 hT) (by decide) rfl) rfl rfl (by omega) (Nat.le_of_ble_eq_true rfl) (Nat.le_of_ble_eq_true rfl) (c_laysBack (A := (cpyR N 0 A 0 (tN N + 3902))) hT (by omega) hRA ?_)
            refine ⟨rfl, fun _ => ?_⟩
            refine r_iload (pc := 93) (i := 5) dX12_rounds_93 rfl ?_
            refine r_if_ne (pc := 95) (tgt := 103) dX12_rounds_95 rfl (fun c95 => absurd c95 (by decide)) (fun c95 => ?_)
            have c95 := Decidable.of_not_not c95
            refine r_bipush (pc := 98) dX12_rounds_98 rfl (in32_of rfl) ?_
            refine r_goto (pc := 100) (tgt := 113) dX12_rounds_100 rfl ?_
            exact r_iret (pc := 113) dX12_rounds_113 trivial (by have h := hq1 ⟨by omega, c14⟩ (cpyR N 0 A 0 (tN N + 3902)) (K) (cpyR (cpyR N 0 A 0 (tN N + 3902)) 0 (pcI B N i) 0 (tN (cpyR N 0 A 0 (tN N + 3902)) + 3902)) (ag_bk (ag_cp N A) _) hP.2.2; unfold rdV at h; rw [hie, if_neg (by omega)] at h; exact h)
          · have c79 := Decidable.of_not_not c79
            refine r_iconst (pc := 82) dX12_rounds_82 (in32_of rfl) ?_
            refine r_goto (pc := 83) (tgt := 87) dX12_rounds_83 rfl ?_
            refine r_istore (pc := 87) (i := 5) (lv' := [_, _, _, _, _, _]) dX12_rounds_87 (by decide) rfl ?_
            refine r_aload_n (pc := 89) (i := 0) dX12_rounds_89 rfl rfl ?_
            refine r_callV0 (pc := 90) (d - 1) [] dX12_rounds_90 (CV.mk2 mk_X12_laysBack lk_X12_308) (RC.of (ltM hT (by omega)) (kM274 hT) (by decide) rfl) rfl rfl (by omega) (Nat.le_of_ble_eq_true rfl) (Nat.le_of_ble_eq_true rfl) (c_laysBack (A := (cpyR N 0 A 0 (tN N + 3902))) hT (by omega) hRA ?_)
            refine ⟨rfl, fun _ => ?_⟩
            refine r_iload (pc := 93) (i := 5) dX12_rounds_93 rfl ?_
            refine r_if_ne (pc := 95) (tgt := 103) dX12_rounds_95 rfl (fun c95 => ?_) (fun c95 => absurd (by decide) c95)
            refine r_iload_n (pc := 103) (i := 1) dX12_rounds_103 rfl rfl ?_
            refine r_if_ne (pc := 104) (tgt := 111) dX12_rounds_104 rfl (fun c104 => ?_) (fun c104 => ?_)
            · refine r_iload (pc := 111) (i := 4) dX12_rounds_111 rfl ?_
              exact r_iret (pc := 113) dX12_rounds_113 trivial (by have h := hq1 ⟨by omega, c14⟩ (cpyR N 0 A 0 (tN N + 3902)) (K) (cpyR (cpyR N 0 A 0 (tN N + 3902)) 0 (pcI B N i) 0 (tN (cpyR N 0 A 0 (tN N + 3902)) + 3902)) (ag_bk (ag_cp N A) _) hP.2.2; unfold rdV at h; rw [hie, if_pos (by omega), if_neg c104] at h; exact h)
            · have c104 := Decidable.of_not_not c104
              refine r_iload_n (pc := 107) (i := 2) dX12_rounds_107 rfl rfl ?_
              refine r_goto (pc := 108) (tgt := 113) dX12_rounds_108 rfl ?_
              exact r_iret (pc := 113) dX12_rounds_113 trivial (by have h := hq1 ⟨by omega, c14⟩ (cpyR N 0 A 0 (tN N + 3902)) (K) (cpyR (cpyR N 0 A 0 (tN N + 3902)) 0 (pcI B N i) 0 (tN (cpyR N 0 A 0 (tN N + 3902)) + 3902)) (ag_bk (ag_cp N A) _) hP.2.2; unfold rdV at h; rw [hie, if_pos (by omega), if_pos c104] at h; exact h)
        · refine r_aload_n (pc := 55) (i := 0) dX12_rounds_55 rfl rfl ?_
          refine r_callV0 (pc := 56) (d - 1) [] dX12_rounds_56 (CV.mk2 mk_X12_passes lk_X12_204) (RC.of (ltM hT (by omega)) (kM274 hT) (by decide) rfl) rfl rfl (by omega) (Nat.le_of_ble_eq_true rfl) (Nat.le_of_ble_eq_true rfl) (c_ps2 (B := B) (q := q + i) (L := L) hT (by omega) hpi.1 (by omega) hL hBk hB1 hB2 (fun K56 hK56 => ?_))
          refine ⟨rfl, fun _ => ?_⟩
          refine r_iincN (pc := 59) (i := 2) (c := ((i + 1 : Nat) : Int)) (lv' := [_, _, _, _, _, _]) dX12_rounds_59 rfl (by decide) (by unfold w32; omega) rfl ?_
          refine r_goto (pc := 62) (tgt := 32) dX12_rounds_62 rfl ?_
          exact ih (i + 1) K56 ⟨by omega, by rw [hP.2.1, show 7 - i = (7 - (i + 1)) + 1 by omega, rdS_succ, if_pos (by omega)], kpF_trans hP.2.2 hK56⟩ (by omega)
    · have c14 := bi_if.mp (Decidable.of_not_not c14)
      refine r_iconst (pc := 17) dX12_rounds_17 (in32_of rfl) ?_
      exact r_iret (pc := 18) dX12_rounds_18 trivial (hq0 (fun h => by unfold rdOk at h; omega))
end M40

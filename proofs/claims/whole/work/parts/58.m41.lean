section M41
variable {G : Gl} {d : Nat} {T : Sh} {I : Mi} {N : Nat → Int} {Q : Option AV → Sh → Mi → Prop}
/-- but for the block and what was found -/
def kpB (H K : Nat → Int) : Prop := ∀ j, j ≠ 17 → j ≠ 18 → j ≠ 19 → K j = H j
theorem kpB_id {H : Nat → Int} : kpB H H := fun _ _ _ _ => rfl
theorem kpB_trans {H K L : Nat → Int} (h1 : kpB H K) (h2 : kpB K L) : kpB H L := fun j a b c => (h2 j a b c).trans (h1 j a b c)
def tbV (b pp q : Nat) (N : Nat → Int) : Int := if unl (pcI b N (pp - q)) (nN N) = 0 then pcI b N (pp - q) 3 else -1
def beM (A : Nat → Int) (pp q : Nat) (N : Nat → Int) : Nat → (Nat → Int)
  | 0 => N
  | i + 1 => cpyR A 0 (pcI (i + 2) (beM A pp q N i) (pp - q)) 0 (tN A + 3902)
theorem beM_succ (A : Nat → Int) (pp q : Nat) (N : Nat → Int) (i : Nat) : beM A pp q N (i + 1) = cpyR A 0 (pcI (i + 2) (beM A pp q N i) (pp - q)) 0 (tN A + 3902) := rfl
theorem beM_ag {A : Nat → Int} {pp q : Nat} {N : Nat → Int} (h : agN N A) : ∀ i, agN N (beM A pp q N i) := by
  intro i
  cases i with
  | zero => exact agN_id N
  | succ i => exact ag_bk h _
def beR (A : Nat → Int) (pp q : Nat) (N : Nat → Int) : Nat → Int × Int
  | 0 => (-2, -2)
  | i + 1 => if tbV (i + 2) pp q (beM A pp q N i) < 0 ∨ (0 < (beR A pp q N i).1 ∧ (beR A pp q N i).2 ≤ tbV (i + 2) pp q (beM A pp q N i)) then beR A pp q N i else (((i + 2 : Nat) : Int), tbV (i + 2) pp q (beM A pp q N i))
theorem beR_succ (A : Nat → Int) (pp q : Nat) (N : Nat → Int) (i : Nat) : beR A pp q N (i + 1) = if tbV (i + 2) pp q (beM A pp q N i) < 0 ∨ (0 < (beR A pp q N i).1 ∧ (beR A pp q N i).2 ≤ tbV (i + 2) pp q (beM A pp q N i)) then beR A pp q N i else (((i + 2 : Nat) : Int), tbV (i + 2) pp q (beM A pp q N i)) := rfl
def bsOk (N : Nat → Int) (w : Int) : Prop := (0 ≤ w ∧ w ≤ 1) ∧ N 0 = 2
def bsV (A : Nat → Int) (pp q : Nat) (N : Nat → Int) (w : Int) : Int := if w = 0 then (beR A pp q N 63).1 else (beR A pp q N 63).2
theorem c_toldBy {b pp q : Nat} {L : Nat → Int} {P W A H : Nat → Int} (hT : ShM T) (hd : 6 ≤ d) (hp : pOK N q) (hRA : Rng A) (hL : I 280 = L) (hb1 : 2 ≤ b) (hb2 : b ≤ 64) (h6 : L 6 = (pp : Int)) (hpp : pp ≤ 6) (hq : ∀ K2 : Nat → Int, kpB H K2 → K2 17 = -1 → Q (some (aI (tbV b pp q N))) T (sr (sr (sr (sr (sr I 286 P) 285 W) 284 A) 274 K2) 283 (cpyR A 0 (pcI b N (pp - q)) 0 (tN A + 3902)))) : EvE G mX12_toldBy d [aR 274, aI ((b : Nat) : Int)] T (sr (sr (sr (sr (sr I 286 P) 285 W) 284 A) 274 H) 283 N) Q := by
  have hR := hp.1
  have hnl := nN_le hR
  refine EvE.mk (lv0 := [some (aR 274), some (aI ((b : Nat) : Int)), none]) (Nat.le_of_ble_eq_true rfl) (by decide +kernel) rfl ?_
  refine r_aload_n (pc := 0) (i := 0) dX12_toldBy_0 rfl rfl ?_
  refine r_iload_n (pc := 1) (i := 1) dX12_toldBy_1 rfl rfl ?_
  refine r_putfi (pc := 2) cks dX12_toldBy_2 fl_X12_54 (pf_12_17 _ _) rfl (kM274 hT) (ltM hT (by omega)) ?_
  refine r_mem (I2 := sr (sr (sr (sr (sr I 286 P) 285 W) 284 A) 274 (un H 17 ((b : Nat) : Int))) 283 N) (by rw [up2_sr_ne (by decide), up2_sr]) ?_
  refine loop2 (fun (i : Nat) (K : Nat → Int) => i ≤ pp - q ∧ kpF (un H 17 (b : Int)) K) (fun (i : Nat) (K : Nat → Int) => pp - q - i) (fun (i : Nat) (K : Nat → Int) => [some (aR 274), some (aI ((b : Nat) : Int)), none]) (fun _ _ => T) (fun (i : Nat) (K : Nat → Int) => sr (sr (sr (sr (sr I 286 P) 285 W) 284 A) 274 K) 283 (pcI b N i)) ?_ 0 (un H 17 (b : Int)) ⟨Nat.zero_le _, kpF_id⟩
  intro i K hP ih
  have hP : i ≤ pp - q ∧ kpF (un H 17 (b : Int)) K := hP
  have hq6 := hp.2.2.1
  have hpi := pc_ok hb1 hp i (by omega)
  have hn1 : pcI b N i 1 = ((nN N : Nat) : Int) := by rw [← hpi.2.1]; exact nN_rd hpi.1.1
  have hBk : blk K L = (b : Int) := by unfold blk; rw [hP.2 17 (by decide) (by decide), un_at, if_neg (by omega)]
  refine (?_ : Ev G mX12_toldBy d 5 [some (aR 274), some (aI ((b : Nat) : Int)), none] [] T (sr (sr (sr (sr (sr I 286 P) 285 W) 284 A) 274 K) 283 (pcI b N i)) Q)
  refine r_aload_n (pc := 5) (i := 0) dX12_toldBy_5 rfl rfl ?_
  refine r_getfr (pc := 6) (b := 283) cks dX12_toldBy_6 fl_X12_37 rfl (kM274 hT) (ltM hT (by omega)) (rM11 hT) ?_
  refine r_iconst (pc := 9) dX12_toldBy_9 (in32_of rfl) ?_
  refine r_ild (pc := 10) (2) dX12_toldBy_10 (kM283 hT) (ltM hT (by omega)) (by omega) (by rw [lM283 hT]; omega) ?_
  refine r_top (b := (pcI b N i) 2) (sr_at _ _ _ _) ?_
  refine r_top (b := ((q + i : Nat) : Int)) (hpi.1.2.1) ?_
  refine r_aload_n (pc := 11) (i := 0) dX12_toldBy_11 rfl rfl ?_
  refine r_getfr (pc := 12) (b := 280) cks dX12_toldBy_12 fl_X12_27 rfl (kM274 hT) (ltM hT (by omega)) (rM6 hT) ?_
  refine r_bipush (pc := 15) dX12_toldBy_15 rfl (in32_of rfl) ?_
  refine r_ild (pc := 17) (6) dX12_toldBy_17 (kM280 hT) (ltM hT (by omega)) (by omega) (by rw [lM280 hT]; omega) ?_
  refine r_top (b := I 280 6) ((congrFun (sr_ne (by decide)) _).trans ((congrFun (sr_ne (by decide)) _).trans ((congrFun (sr_ne (by decide)) _).trans ((congrFun (sr_ne (by decide)) _).trans ((congrFun (sr_ne (by decide)) _).trans (rfl)))))) ?_
  refine r_top (b := (pp : Int)) ((congrFun hL 6).trans h6) ?_
  refine r_icmp_ge (pc := 18) (tgt := 28) dX12_toldBy_18 rfl (fun c18 => ?_) (fun c18 => ?_)
  · have hie : pp - q = i := by omega
    refine r_aload_n (pc := 28) (i := 0) dX12_toldBy_28 rfl rfl ?_
    refine r_callV1 (pc := 29) (d - 1) [] dX12_toldBy_29 (CV.mk2 mk_X12_unlikeMany lk_X12_237) (RC.of (ltM hT (by omega)) (kM274 hT) (by decide) rfl) rfl rfl (by omega) (Nat.le_of_ble_eq_true rfl) (Nat.le_of_ble_eq_true rfl) (c_unlikeMany (n := nN N) hT hn1 hnl ?_)
    refine ⟨_, rfl, fun _ => ?_⟩
    refine r_if_ne (pc := 32) (tgt := 44) dX12_toldBy_32 rfl (fun c32 => ?_) (fun c32 => ?_)
    · refine r_iconst (pc := 44) dX12_toldBy_44 (in32_of rfl) ?_
      refine r_istore_n (pc := 45) (i := 2) (lv' := [_, _, _]) dX12_toldBy_45 rfl (by decide) rfl ?_
      refine r_aload_n (pc := 46) (i := 0) dX12_toldBy_46 rfl rfl ?_
      refine r_iconst (pc := 47) dX12_toldBy_47 (in32_of rfl) ?_
      refine r_putfi (pc := 48) cks dX12_toldBy_48 fl_X12_54 (pf_12_17 _ _) rfl (kM274 hT) (ltM hT (by omega)) ?_
      refine r_mem (I2 := sr (sr (sr (sr (sr I 286 P) 285 W) 284 A) 274 (un K 17 (-1))) 283 (pcI b N i)) (by rw [up2_sr_ne (by decide), up2_sr]) ?_
      refine r_aload_n (pc := 51) (i := 0) dX12_toldBy_51 rfl rfl ?_
      refine r_callV0 (pc := 52) (d - 1) [] dX12_toldBy_52 (CV.mk2 mk_X12_laysBack lk_X12_308) (RC.of (ltM hT (by omega)) (kM274 hT) (by decide) rfl) rfl rfl (by omega) (Nat.le_of_ble_eq_true rfl) (Nat.le_of_ble_eq_true rfl) (c_laysBack (A := A) hT (by omega) hRA ?_)
      refine ⟨rfl, fun _ => ?_⟩
      refine r_iload_n (pc := 55) (i := 2) dX12_toldBy_55 rfl rfl ?_
      have hv : tbV b pp q N = (-1) := by unfold tbV; rw [hie, if_neg (by omega)]
      exact r_iret (pc := 56) dX12_toldBy_56 trivial (by have h := hq (un K 17 (-1)) (fun j a b c => (un_ne a).trans ((hP.2 j b c).trans (un_ne a))) un_at; rw [hv, hie] at h; exact h)
    · have c32 := Decidable.of_not_not c32
      refine r_aload_n (pc := 35) (i := 0) dX12_toldBy_35 rfl rfl ?_
      refine r_getfr (pc := 36) (b := 283) cks dX12_toldBy_36 fl_X12_37 rfl (kM274 hT) (ltM hT (by omega)) (rM11 hT) ?_
      refine r_iconst (pc := 39) dX12_toldBy_39 (in32_of rfl) ?_
      refine r_ild (pc := 40) (3) dX12_toldBy_40 (kM283 hT) (ltM hT (by omega)) (by omega) (by rw [lM283 hT]; omega) ?_
      refine r_top (b := (pcI b N i) 3) (sr_at _ _ _ _) ?_
      refine r_goto (pc := 41) (tgt := 45) dX12_toldBy_41 rfl ?_
      refine r_istore_n (pc := 45) (i := 2) (lv' := [_, _, _]) dX12_toldBy_45 rfl (by decide) rfl ?_
      refine r_aload_n (pc := 46) (i := 0) dX12_toldBy_46 rfl rfl ?_
      refine r_iconst (pc := 47) dX12_toldBy_47 (in32_of rfl) ?_
      refine r_putfi (pc := 48) cks dX12_toldBy_48 fl_X12_54 (pf_12_17 _ _) rfl (kM274 hT) (ltM hT (by omega)) ?_
      refine r_mem (I2 := sr (sr (sr (sr (sr I 286 P) 285 W) 284 A) 274 (un K 17 (-1))) 283 (pcI b N i)) (by rw [up2_sr_ne (by decide), up2_sr]) ?_
      refine r_aload_n (pc := 51) (i := 0) dX12_toldBy_51 rfl rfl ?_
      refine r_callV0 (pc := 52) (d - 1) [] dX12_toldBy_52 (CV.mk2 mk_X12_laysBack lk_X12_308) (RC.of (ltM hT (by omega)) (kM274 hT) (by decide) rfl) rfl rfl (by omega) (Nat.le_of_ble_eq_true rfl) (Nat.le_of_ble_eq_true rfl) (c_laysBack (A := A) hT (by omega) hRA ?_)
      refine ⟨rfl, fun _ => ?_⟩
      refine r_iload_n (pc := 55) (i := 2) dX12_toldBy_55 rfl rfl ?_
      have hv : tbV b pp q N = ((pcI b N i) 3) := by unfold tbV; rw [hie, if_pos (by omega)]
      exact r_iret (pc := 56) dX12_toldBy_56 trivial (by have h := hq (un K 17 (-1)) (fun j a b c => (un_ne a).trans ((hP.2 j b c).trans (un_ne a))) un_at; rw [hv, hie] at h; exact h)
  · refine r_aload_n (pc := 21) (i := 0) dX12_toldBy_21 rfl rfl ?_
    refine r_callV0 (pc := 22) (d - 1) [] dX12_toldBy_22 (CV.mk2 mk_X12_passes lk_X12_204) (RC.of (ltM hT (by omega)) (kM274 hT) (by decide) rfl) rfl rfl (by omega) (Nat.le_of_ble_eq_true rfl) (Nat.le_of_ble_eq_true rfl) (c_ps2 (B := b) (q := q + i) (L := L) hT (by omega) hpi.1 (by omega) hL hBk hb1 hb2 (fun K22 hK22 => ?_))
    refine ⟨rfl, fun _ => ?_⟩
    refine r_goto (pc := 25) (tgt := 5) dX12_toldBy_25 rfl ?_
    exact ih (i + 1) K22 ⟨by omega, kpF_trans hP.2 hK22⟩ (by omega)
theorem c_best {pp q : Nat} {w : Int} {L : Nat → Int} {P W A H : Nat → Int} (hT : ShM T) (hd : 7 ≤ d) (hP0 : N 0 = 2 → pOK N q) (hL : I 280 = L) (h6 : L 6 = (pp : Int)) (hpp : pp ≤ 6) (h17 : H 17 = -1) (hq0 : ¬ bsOk N w → Q (some (aI (-1))) T (sr (sr (sr (sr (sr I 286 P) 285 W) 284 A) 274 H) 283 N)) (hq1 : bsOk N w → ∀ A2 K2 N2 : Nat → Int, agN N N2 → kpB H K2 → K2 17 = -1 → Q (some (aI (bsV (cpyR N 0 A 0 (tN N + 3902)) pp q N w))) T (sr (sr (sr (sr (sr I 286 P) 285 W) 284 A2) 274 K2) 283 N2)) : EvE G mX12_best d [aR 274, aI w] T (sr (sr (sr (sr (sr I 286 P) 285 W) 284 A) 274 H) 283 N) Q := by
  refine EvE.mk (lv0 := [some (aR 274), some (aI w), none, none, none, none]) (Nat.le_of_ble_eq_true rfl) (by decide +kernel) rfl ?_
  refine r_iload_n (pc := 0) (i := 1) dX12_best_0 rfl rfl ?_
  refine r_i2l (pc := 1) dX12_best_1 ?_
  refine r_lconst (pc := 2) (z := 0) dX12_best_2 rfl (in64_of rfl) ?_
  refine r_lconst (pc := 3) (z := 1) dX12_best_3 rfl (in64_of rfl) ?_
  refine r_callS1 (pc := 4) (d - 1) [aL w, aL 0, aL 1] dX12_best_4 (CS.mk2 mk_X12_isIn1 lk_X12_76) rfl rfl (by omega) (Nat.le_of_ble_eq_true rfl) (Nat.le_of_ble_eq_true rfl) (c_isIn1 ?_)
  refine ⟨_, rfl, fun _ => ?_⟩
  refine r_if_eq (pc := 7) (tgt := 20) dX12_best_7 rfl (fun c7 => ?_) (fun c7 => ?_)
  · have c7 := bi_if.mp c7
    refine r_iconst (pc := 20) dX12_best_20 (in32_of rfl) ?_
    exact r_iret (pc := 21) dX12_best_21 trivial (hq0 (fun h => by unfold bsOk at h; omega))
  · have c7 := bi_1 c7
    refine r_aload_n (pc := 10) (i := 0) dX12_best_10 rfl rfl ?_
    refine r_getfr (pc := 11) (b := 283) cks dX12_best_11 fl_X12_37 rfl (kM274 hT) (ltM hT (by omega)) (rM11 hT) ?_
    refine r_iconst (pc := 14) dX12_best_14 (in32_of rfl) ?_
    refine r_ild (pc := 15) (0) dX12_best_15 (kM283 hT) (ltM hT (by omega)) (by omega) (by rw [lM283 hT]; omega) ?_
    refine r_top (b := N 0) (sr_at _ _ _ _) ?_
    refine r_iconst (pc := 16) dX12_best_16 (in32_of rfl) ?_
    refine r_icmp_eq (pc := 17) (tgt := 22) dX12_best_17 rfl (fun c17 => ?_) (fun c17 => ?_)
    · have hp := hP0 c17
      have hR := hp.1
      have hnl := nN_le hR
      have hRA := Rng_ag hR (ag_cp N A)
      refine r_aload_n (pc := 22) (i := 0) dX12_best_22 rfl rfl ?_
      refine r_callV0 (pc := 23) (d - 1) [] dX12_best_23 (CV.mk2 mk_X12_keepsAside lk_X12_305) (RC.of (ltM hT (by omega)) (kM274 hT) (by decide) rfl) rfl rfl (by omega) (Nat.le_of_ble_eq_true rfl) (Nat.le_of_ble_eq_true rfl) (c_keepsAside hT (by omega) hR ?_)
      refine ⟨rfl, fun _ => ?_⟩
      refine r_bipush (pc := 26) dX12_best_26 rfl (in32_of rfl) ?_
      refine r_istore_n (pc := 28) (i := 2) (lv' := [_, _, _, _, _, _]) dX12_best_28 rfl (by decide) rfl ?_
      refine r_bipush (pc := 29) dX12_best_29 rfl (in32_of rfl) ?_
      refine r_istore_n (pc := 31) (i := 3) (lv' := [_, _, _, _, _, _]) dX12_best_31 rfl (by decide) rfl ?_
      refine r_iconst (pc := 32) dX12_best_32 (in32_of rfl) ?_
      refine r_istore (pc := 33) (i := 4) (lv' := [_, _, _, _, _, _]) dX12_best_33 (by decide) rfl ?_
      refine loop2 (fun (i : Nat) (K : Nat → Int) => i ≤ 63 ∧ kpB H K ∧ K 17 = -1) (fun (i : Nat) (K : Nat → Int) => 63 - i) (fun (i : Nat) (K : Nat → Int) => [some (aR 274), some (aI w), some (aI ((beR (cpyR N 0 A 0 (tN N + 3902)) pp q N i).1)), some (aI ((beR (cpyR N 0 A 0 (tN N + 3902)) pp q N i).2)), some (aI ((i + 2 : Nat) : Int)), none]) (fun _ _ => T) (fun (i : Nat) (K : Nat → Int) => sr (sr (sr (sr (sr I 286 P) 285 W) 284 (cpyR N 0 A 0 (tN N + 3902))) 274 K) 283 (beM (cpyR N 0 A 0 (tN N + 3902)) pp q N i)) ?_ 0 H ⟨Nat.zero_le _, kpB_id, h17⟩
      intro i K hP ih
      have hP : i ≤ 63 ∧ kpB H K ∧ K 17 = -1 := hP
      have hag := beM_ag (pp := pp) (q := q) (ag_cp N A) i
      refine (?_ : Ev G mX12_best d 35 [some (aR 274), some (aI w), some (aI ((beR (cpyR N 0 A 0 (tN N + 3902)) pp q N i).1)), some (aI ((beR (cpyR N 0 A 0 (tN N + 3902)) pp q N i).2)), some (aI ((i + 2 : Nat) : Int)), none] [] T (sr (sr (sr (sr (sr I 286 P) 285 W) 284 (cpyR N 0 A 0 (tN N + 3902))) 274 K) 283 (beM (cpyR N 0 A 0 (tN N + 3902)) pp q N i)) Q)
      refine r_iload (pc := 35) (i := 4) dX12_best_35 rfl ?_
      refine r_bipush (pc := 37) dX12_best_37 rfl (in32_of rfl) ?_
      refine r_icmp_gt (pc := 39) (tgt := 80) dX12_best_39 rfl (fun c39 => ?_) (fun c39 => ?_)
      · refine r_iload_n (pc := 80) (i := 1) dX12_best_80 rfl rfl ?_
        refine r_if_ne (pc := 81) (tgt := 88) dX12_best_81 rfl (fun c81 => ?_) (fun c81 => ?_)
        · refine r_iload_n (pc := 88) (i := 3) dX12_best_88 rfl rfl ?_
          have hie : i = 63 := by omega
          subst hie
          exact r_iret (pc := 89) dX12_best_89 trivial (by have h := hq1 ⟨by omega, c17⟩ (cpyR N 0 A 0 (tN N + 3902)) (K) (beM (cpyR N 0 A 0 (tN N + 3902)) pp q N 63) (beM_ag (ag_cp N A) 63) hP.2.1 hP.2.2; unfold bsV at h; rw [if_neg c81] at h; exact h)
        · have c81 := Decidable.of_not_not c81
          refine r_iload_n (pc := 84) (i := 2) dX12_best_84 rfl rfl ?_
          refine r_goto (pc := 85) (tgt := 89) dX12_best_85 rfl ?_
          have hie : i = 63 := by omega
          subst hie
          exact r_iret (pc := 89) dX12_best_89 trivial (by have h := hq1 ⟨by omega, c17⟩ (cpyR N 0 A 0 (tN N + 3902)) (K) (beM (cpyR N 0 A 0 (tN N + 3902)) pp q N 63) (beM_ag (ag_cp N A) 63) hP.2.1 hP.2.2; unfold bsV at h; rw [if_pos c81] at h; exact h)
      · refine r_aload_n (pc := 42) (i := 0) dX12_best_42 rfl rfl ?_
        refine r_iload (pc := 43) (i := 4) dX12_best_43 rfl ?_
        refine r_callV1 (pc := 45) (d - 1) [aI ((i + 2 : Nat) : Int)] dX12_best_45 (CV.mk2 mk_X12_toldBy lk_X12_311) (RC.of (ltM hT (by omega)) (kM274 hT) (by decide) rfl) rfl rfl (by omega) (Nat.le_of_ble_eq_true rfl) (Nat.le_of_ble_eq_true rfl) (c_toldBy (b := i + 2) (pp := pp) (q := q) (L := L) hT (by omega) (pOK_ag hp hag) hRA hL (by omega) (by omega) h6 hpp (fun K2 hK2 hK3 => ?_))
        refine ⟨_, rfl, fun _ => ?_⟩
        refine r_istore (pc := 48) (i := 5) (lv' := [_, _, _, _, _, _]) dX12_best_48 (by decide) rfl ?_
        refine r_iload (pc := 50) (i := 5) dX12_best_50 rfl ?_
        refine r_if_lt (pc := 52) (tgt := 74) dX12_best_52 rfl (fun c52 => ?_) (fun c52 => ?_)
        · refine r_iincN (pc := 74) (i := 4) (c := ((i + 3 : Nat) : Int)) (lv' := [_, _, _, _, _, _]) dX12_best_74 rfl (by decide) (by unfold w32; omega) rfl ?_
          refine r_goto (pc := 77) (tgt := 35) dX12_best_77 rfl ?_
          refine Ev.weak (lv2 := [some (aR 274), some (aI w), some (aI ((beR (cpyR N 0 A 0 (tN N + 3902)) pp q N i).1)), some (aI ((beR (cpyR N 0 A 0 (tN N + 3902)) pp q N i).2)), some (aI ((i + 3 : Nat) : Int)), none]) ⟨Or.inr rfl, Or.inr rfl, Or.inr rfl, Or.inr rfl, Or.inr rfl, Or.inl rfl, trivial⟩ ?_
          exact Ev.re (by rw [beR_succ, if_pos (Or.inl c52)]) rfl (ih (i + 1) K2 ⟨by omega, kpB_trans hP.2.1 hK2, hK3⟩ (by omega))
        · refine r_iload_n (pc := 55) (i := 2) dX12_best_55 rfl rfl ?_
          refine r_if_le (pc := 56) (tgt := 68) dX12_best_56 rfl (fun c56 => ?_) (fun c56 => ?_)
          · refine r_iload (pc := 68) (i := 4) dX12_best_68 rfl ?_
            refine r_istore_n (pc := 70) (i := 2) (lv' := [_, _, _, _, _, _]) dX12_best_70 rfl (by decide) rfl ?_
            refine r_iload (pc := 71) (i := 5) dX12_best_71 rfl ?_
            refine r_istore_n (pc := 73) (i := 3) (lv' := [_, _, _, _, _, _]) dX12_best_73 rfl (by decide) rfl ?_
            refine r_iincN (pc := 74) (i := 4) (c := ((i + 3 : Nat) : Int)) (lv' := [_, _, _, _, _, _]) dX12_best_74 rfl (by decide) (by unfold w32; omega) rfl ?_
            refine r_goto (pc := 77) (tgt := 35) dX12_best_77 rfl ?_
            refine Ev.weak (lv2 := [some (aR 274), some (aI w), some (aI ((i + 2 : Nat) : Int)), some (aI (tbV (i + 2) pp q (beM (cpyR N 0 A 0 (tN N + 3902)) pp q N i))), some (aI ((i + 3 : Nat) : Int)), none]) ⟨Or.inr rfl, Or.inr rfl, Or.inr rfl, Or.inr rfl, Or.inr rfl, Or.inl rfl, trivial⟩ ?_
            exact Ev.re (by rw [beR_succ, if_neg (fun h => h.elim (fun h => c52 h) (fun h => by omega))]) rfl (ih (i + 1) K2 ⟨by omega, kpB_trans hP.2.1 hK2, hK3⟩ (by omega))
          · refine r_iload (pc := 59) (i := 5) dX12_best_59 rfl ?_
            refine r_iload_n (pc := 61) (i := 3) dX12_best_61 rfl rfl ?_
            refine r_icmp_lt (pc := 62) (tgt := 68) dX12_best_62 rfl (fun c62 => ?_) (fun c62 => ?_)
            · refine r_iload (pc := 68) (i := 4) dX12_best_68 rfl ?_
              refine r_istore_n (pc := 70) (i := 2) (lv' := [_, _, _, _, _, _]) dX12_best_70 rfl (by decide) rfl ?_
              refine r_iload (pc := 71) (i := 5) dX12_best_71 rfl ?_
              refine r_istore_n (pc := 73) (i := 3) (lv' := [_, _, _, _, _, _]) dX12_best_73 rfl (by decide) rfl ?_
              refine r_iincN (pc := 74) (i := 4) (c := ((i + 3 : Nat) : Int)) (lv' := [_, _, _, _, _, _]) dX12_best_74 rfl (by decide) (by unfold w32; omega) rfl ?_
              refine r_goto (pc := 77) (tgt := 35) dX12_best_77 rfl ?_
              refine Ev.weak (lv2 := [some (aR 274), some (aI w), some (aI ((i + 2 : Nat) : Int)), some (aI (tbV (i + 2) pp q (beM (cpyR N 0 A 0 (tN N + 3902)) pp q N i))), some (aI ((i + 3 : Nat) : Int)), none]) ⟨Or.inr rfl, Or.inr rfl, Or.inr rfl, Or.inr rfl, Or.inr rfl, Or.inl rfl, trivial⟩ ?_
              exact Ev.re (by rw [beR_succ, if_neg (fun h => h.elim (fun h => c52 h) (fun h => by omega))]) rfl (ih (i + 1) K2 ⟨by omega, kpB_trans hP.2.1 hK2, hK3⟩ (by omega))
            · refine r_goto (pc := 65) (tgt := 74) dX12_best_65 rfl ?_
              refine r_iincN (pc := 74) (i := 4) (c := ((i + 3 : Nat) : Int)) (lv' := [_, _, _, _, _, _]) dX12_best_74 rfl (by decide) (by unfold w32; omega) rfl ?_
              refine r_goto (pc := 77) (tgt := 35) dX12_best_77 rfl ?_
              refine Ev.weak (lv2 := [some (aR 274), some (aI w), some (aI ((beR (cpyR N 0 A 0 (tN N + 3902)) pp q N i).1)), some (aI ((beR (cpyR N 0 A 0 (tN N + 3902)) pp q N i).2)), some (aI ((i + 3 : Nat) : Int)), none]) ⟨Or.inr rfl, Or.inr rfl, Or.inr rfl, Or.inr rfl, Or.inr rfl, Or.inl rfl, trivial⟩ ?_
              exact Ev.re (by rw [beR_succ, if_pos (Or.inr ⟨by omega, by omega⟩)]) rfl (ih (i + 1) K2 ⟨by omega, kpB_trans hP.2.1 hK2, hK3⟩ (by omega))
    · refine r_iconst (pc := 20) dX12_best_20 (in32_of rfl) ?_
      exact r_iret (pc := 21) dX12_best_21 trivial (hq0 (fun h => by unfold bsOk at h; omega))
end M41

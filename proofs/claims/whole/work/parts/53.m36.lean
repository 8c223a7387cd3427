section M36
variable {G : Gl} {d : Nat} {T : Sh} {I : Mi} {N : Nat → Int} {Q : Option AV → Sh → Mi → Prop}
theorem SM288b {I : Mi} {S Z Y H : Nat → Int} : (sr (sr (sr (sr I 288 S) 289 Z) 290 Y) 274 H) 288 = S := by rw [sr_ne (by decide), sr_ne (by decide), sr_ne (by decide), sr_row]
def kp23 (H K : Nat → Int) : Prop := ∀ j, j ≠ 23 → K j = H j
theorem kp23_un {H : Nat → Int} {x : Int} : kp23 H (un H 23 x) := fun _ h => un_ne h
theorem kp23_id {H : Nat → Int} : kp23 H H := fun _ _ => rfl
def ldA (N : Nat → Int) (n : Nat) (S : Nat → Int) (k w : Int) : Int :=
  if (0 ≤ k ∧ k < N 3) ∧ (0 ≤ w ∧ w ≤ 3) then (if w = 0 then tpN N k 2 1 else if w = 1 then (smS (stF N n k S) n : Int) else if w = 2 then (if tkN N k = 0 then tpN N k 6 3 else if tkN N k = 1 then -2 else -1) else lsS (stF N n k S) n n 0) else -1
def iiA (N : Nat → Int) (n : Nat) (S : Nat → Int) (k p : Int) : Int := if (0 ≤ k ∧ k < N 3) ∧ (0 ≤ p ∧ p < (n : Int)) then bi (inS (stF N n k S) p.toNat = 1) else -1
def rkD (N : Nat → Int) (n : Nat) (S Z Y : Nat → Int) : SZ := tlD N n (S, Z, z8 Y 256, 0) (tN N)
theorem c_ledger {n q : Nat} {k w : Int} {S Z Y H : Nat → Int} (hT : ShM T) (hd : 3 ≤ d) (hn : N 1 = (n : Int)) (hn2 : n ≤ 256) (hR : Rng N) (hL : LdOk N q n) (hq6 : q ≤ 6) (hq : ∀ S2 Z2 Y2 K : Nat → Int, kp23 H K → Q (some (aI (ldA N n S k w))) T (sr (sr (sr (sr (sr I 288 S2) 289 Z2) 290 Y2) 274 K) 283 N)) : EvE G mX12_ledger d [aR 274, aI k, aI w] T (sr (sr (sr (sr (sr I 288 S) 289 Z) 290 Y) 274 H) 283 N) Q := by
  have ht3 := ok_3.mp (hR 3)
  have ht4 := tN_rd hR
  refine EvE.mk (lv0 := [some (aR 274), some (aI k), some (aI w)]) (Nat.le_of_ble_eq_true rfl) (by decide +kernel) rfl ?_
  refine r_aload_n (pc := 0) (i := 0) dX12_ledger_0 rfl rfl ?_
  refine r_iload_n (pc := 1) (i := 1) dX12_ledger_1 rfl rfl ?_
  refine r_callV1 (pc := 2) (d - 1) [aI k] dX12_ledger_2 (CV.mk2 mk_X12_isTold lk_X12_263) (RC.of (ltM hT (by omega)) (kM274 hT) (by decide) rfl) rfl rfl (by omega) (Nat.le_of_ble_eq_true rfl) (Nat.le_of_ble_eq_true rfl) (c_isTold hT ?_)
  refine ⟨_, rfl, fun _ => ?_⟩
  refine r_if_eq (pc := 5) (tgt := 20) dX12_ledger_5 rfl (fun c5 => ?_) (fun c5 => ?_)
  · have c5 := bi_if.mp c5
    refine r_iconst (pc := 20) dX12_ledger_20 (in32_of rfl) ?_
    exact r_iret (pc := 21) dX12_ledger_21 trivial (by rw [show ldA N n S k w = -1 from if_neg (by omega)] at hq; exact hq S Z Y H kp23_id)
  · have c5 := bi_1 c5
    refine r_iload_n (pc := 8) (i := 2) dX12_ledger_8 rfl rfl ?_
    refine r_i2l (pc := 9) dX12_ledger_9 ?_
    refine r_lconst (pc := 10) (z := 0) dX12_ledger_10 rfl (in64_of rfl) ?_
    refine r_ldc2 (pc := 11) (n := 3) dX12_ledger_11 cn_X12_235 (in64_of rfl) ?_
    refine r_callS1 (pc := 14) (d - 1) [aL w, aL 0, aL 3] dX12_ledger_14 (CS.mk2 mk_X12_isIn1 lk_X12_76) rfl rfl (by omega) (Nat.le_of_ble_eq_true rfl) (Nat.le_of_ble_eq_true rfl) (c_isIn1 ?_)
    refine ⟨_, rfl, fun _ => ?_⟩
    refine r_if_ne (pc := 17) (tgt := 22) dX12_ledger_17 rfl (fun c17 => ?_) (fun c17 => ?_)
    · have c17 := bi_1 c17
      obtain ⟨k, rfl⟩ : ∃ e : Nat, k = (e : Int) := ⟨k.toNat, by omega⟩
      refine r_aload_n (pc := 22) (i := 0) dX12_ledger_22 rfl rfl ?_
      refine r_iload_n (pc := 23) (i := 1) dX12_ledger_23 rfl rfl ?_
      refine r_callV0 (pc := 24) (d - 1) [aI ((k : Nat) : Int)] dX12_ledger_24 (CV.mk2 mk_X12_laysSet lk_X12_266) (RC.of (ltM hT (by omega)) (kM274 hT) (by decide) rfl) rfl rfl (by omega) (Nat.le_of_ble_eq_true rfl) (Nat.le_of_ble_eq_true rfl) (c_ls (n := n) (q := q) (k := k) hT (by omega) hn hn2 hR hL hq6 (by omega) ?_)
      refine ⟨rfl, fun _ => ?_⟩
      refine r_iload_n (pc := 27) (i := 2) dX12_ledger_27 rfl rfl ?_
      have hw : w = 0 ∨ w = 1 ∨ w = 2 ∨ w = 3 := by omega
      rcases hw with rfl | rfl | rfl | rfl
      · refine r_tsw_in (pc := 28) (tgt := 56) dX12_ledger_28 (by decide) (by decide) rfl rfl ?_
        refine r_aload_n (pc := 56) (i := 0) dX12_ledger_56 rfl rfl ?_
        refine r_iload_n (pc := 57) (i := 1) dX12_ledger_57 rfl rfl ?_
        refine r_iconst (pc := 58) dX12_ledger_58 (in32_of rfl) ?_
        refine r_iconst (pc := 59) dX12_ledger_59 (in32_of rfl) ?_
        refine r_callV1 (pc := 60) (d - 1) [aI ((k : Nat) : Int), aI 2, aI 1] dX12_ledger_60 (CV.mk2 mk_X12_toldPart lk_X12_251) (RC.of (ltM hT (by omega)) (kM274 hT) (by decide) rfl) rfl rfl (by omega) (Nat.le_of_ble_eq_true rfl) (Nat.le_of_ble_eq_true rfl) (c_toldPart hT (by omega) (by omega) ?_)
        refine ⟨_, rfl, fun _ => ?_⟩
        exact r_iret (pc := 63) dX12_ledger_63 trivial (by rw [show ldA N n S (k : Int) 0 = (tpN N ((k : Nat) : Int) 2 1) from (if_pos (by omega)).trans (if_pos rfl)] at hq; exact hq _ _ _ _ kp23_id)
      · refine r_tsw_in (pc := 28) (tgt := 64) dX12_ledger_28 (by decide) (by decide) rfl rfl ?_
        refine r_aload_n (pc := 64) (i := 0) dX12_ledger_64 rfl rfl ?_
        refine r_callV1 (pc := 65) (d - 1) [] dX12_ledger_65 (CV.mk2 mk_X12_setMany lk_X12_269) (RC.of (ltM hT (by omega)) (kM274 hT) (by decide) rfl) rfl rfl (by omega) (Nat.le_of_ble_eq_true rfl) (Nat.le_of_ble_eq_true rfl) (c_setMany (n := n) hT (by omega) hn hn2 ?_)
        refine ⟨_, rfl, fun _ => ?_⟩
        refine r_top (b := ((smS (stF N n k S) n : Nat) : Int)) (by rw [SM288b]) ?_
        exact r_iret (pc := 68) dX12_ledger_68 trivial (by rw [show ldA N n S (k : Int) 1 = (((smS (stF N n k S) n) : Nat) : Int) from (if_pos (by omega)).trans ((if_neg (by decide)).trans (if_pos rfl))] at hq; exact hq _ _ _ _ kp23_id)
      · refine r_tsw_in (pc := 28) (tgt := 69) dX12_ledger_28 (by decide) (by decide) rfl rfl ?_
        refine r_aload_n (pc := 69) (i := 0) dX12_ledger_69 rfl rfl ?_
        refine r_iload_n (pc := 70) (i := 1) dX12_ledger_70 rfl rfl ?_
        refine r_callV1 (pc := 71) (d - 1) [aI ((k : Nat) : Int)] dX12_ledger_71 (CV.mk2 mk_X12_toldKind lk_X12_254) (RC.of (ltM hT (by omega)) (kM274 hT) (by decide) rfl) rfl rfl (by omega) (Nat.le_of_ble_eq_true rfl) (Nat.le_of_ble_eq_true rfl) (c_toldKind hT (by omega) (by omega) ?_)
        refine ⟨_, rfl, fun _ => ?_⟩
        refine r_if_ne (pc := 74) (tgt := 88) dX12_ledger_74 rfl (fun c74 => ?_) (fun c74 => ?_)
        · refine r_aload_n (pc := 88) (i := 0) dX12_ledger_88 rfl rfl ?_
          refine r_iload_n (pc := 89) (i := 1) dX12_ledger_89 rfl rfl ?_
          refine r_callV1 (pc := 90) (d - 1) [aI ((k : Nat) : Int)] dX12_ledger_90 (CV.mk2 mk_X12_toldKind lk_X12_254) (RC.of (ltM hT (by omega)) (kM274 hT) (by decide) rfl) rfl rfl (by omega) (Nat.le_of_ble_eq_true rfl) (Nat.le_of_ble_eq_true rfl) (c_toldKind hT (by omega) (by omega) ?_)
          refine ⟨_, rfl, fun _ => ?_⟩
          refine r_iconst (pc := 93) dX12_ledger_93 (in32_of rfl) ?_
          refine r_icmp_ne (pc := 94) (tgt := 102) dX12_ledger_94 rfl (fun c94 => ?_) (fun c94 => ?_)
          · refine r_iconst (pc := 102) dX12_ledger_102 (in32_of rfl) ?_
            exact r_iret (pc := 103) dX12_ledger_103 trivial (by rw [show ldA N n S (k : Int) 2 = (-1) from (if_pos (by omega)).trans (((if_neg (by decide)).trans ((if_neg (by decide)).trans (if_pos rfl))).trans ((if_neg c74).trans (if_neg c94)))] at hq; exact hq _ _ _ _ kp23_id)
          · have c94 := Decidable.of_not_not c94
            refine r_bipush (pc := 97) dX12_ledger_97 rfl (in32_of rfl) ?_
            refine r_goto (pc := 99) (tgt := 103) dX12_ledger_99 rfl ?_
            exact r_iret (pc := 103) dX12_ledger_103 trivial (by rw [show ldA N n S (k : Int) 2 = (-2) from (if_pos (by omega)).trans (((if_neg (by decide)).trans ((if_neg (by decide)).trans (if_pos rfl))).trans ((if_neg c74).trans (if_pos c94)))] at hq; exact hq _ _ _ _ kp23_id)
        · have c74 := Decidable.of_not_not c74
          refine r_aload_n (pc := 77) (i := 0) dX12_ledger_77 rfl rfl ?_
          refine r_iload_n (pc := 78) (i := 1) dX12_ledger_78 rfl rfl ?_
          refine r_bipush (pc := 79) dX12_ledger_79 rfl (in32_of rfl) ?_
          refine r_iconst (pc := 81) dX12_ledger_81 (in32_of rfl) ?_
          refine r_callV1 (pc := 82) (d - 1) [aI ((k : Nat) : Int), aI 6, aI 3] dX12_ledger_82 (CV.mk2 mk_X12_toldPart lk_X12_251) (RC.of (ltM hT (by omega)) (kM274 hT) (by decide) rfl) rfl rfl (by omega) (Nat.le_of_ble_eq_true rfl) (Nat.le_of_ble_eq_true rfl) (c_toldPart hT (by omega) (by omega) ?_)
          refine ⟨_, rfl, fun _ => ?_⟩
          refine r_goto (pc := 85) (tgt := 103) dX12_ledger_85 rfl ?_
          exact r_iret (pc := 103) dX12_ledger_103 trivial (by rw [show ldA N n S (k : Int) 2 = (tpN N ((k : Nat) : Int) 6 3) from (if_pos (by omega)).trans (((if_neg (by decide)).trans ((if_neg (by decide)).trans (if_pos rfl))).trans (if_pos c74))] at hq; exact hq _ _ _ _ kp23_id)
      · refine r_tsw_out (pc := 28) (tgt := 104) dX12_ledger_28 (Or.inr (by decide)) rfl ?_
        refine r_aload_n (pc := 104) (i := 0) dX12_ledger_104 rfl rfl ?_
        refine r_callV1 (pc := 105) (d - 1) [] dX12_ledger_105 (CV.mk2 mk_X12_leastInSet lk_X12_272) (RC.of (ltM hT (by omega)) (kM274 hT) (by decide) rfl) rfl rfl (by omega) (Nat.le_of_ble_eq_true rfl) (Nat.le_of_ble_eq_true rfl) (c_leastInSet (n := n) hT (by omega) hn hn2 ?_)
        refine ⟨_, rfl, fun _ => ?_⟩
        refine r_top (b := lsS (stF N n k S) n n 0) (by rw [SM288b]) ?_
        exact r_iret (pc := 108) dX12_ledger_108 trivial (by rw [show ldA N n S (k : Int) 3 = (lsS (stF N n k S) n n 0) from (if_pos (by omega)).trans ((if_neg (by decide)).trans ((if_neg (by decide)).trans (if_neg (by decide))))] at hq; exact hq _ _ _ _ kp23_id)
    · have c17 := bi_if.mp (Decidable.of_not_not c17)
      refine r_iconst (pc := 20) dX12_ledger_20 (in32_of rfl) ?_
      exact r_iret (pc := 21) dX12_ledger_21 trivial (by rw [show ldA N n S k w = -1 from if_neg (by omega)] at hq; exact hq S Z Y H kp23_id)
theorem c_isIn {n q : Nat} {k p : Int} {S Z Y H : Nat → Int} (hT : ShM T) (hd : 3 ≤ d) (hn : N 1 = (n : Int)) (hn2 : n ≤ 256) (hR : Rng N) (hL : LdOk N q n) (hq6 : q ≤ 6) (hq : ∀ S2 Z2 Y2 K : Nat → Int, kp23 H K → Q (some (aI (iiA N n S k p))) T (sr (sr (sr (sr (sr I 288 S2) 289 Z2) 290 Y2) 274 K) 283 N)) : EvE G mX12_isIn d [aR 274, aI k, aI p] T (sr (sr (sr (sr (sr I 288 S) 289 Z) 290 Y) 274 H) 283 N) Q := by
  have ht3 := ok_3.mp (hR 3)
  have ht4 := tN_rd hR
  refine EvE.mk (lv0 := [some (aR 274), some (aI k), some (aI p)]) (Nat.le_of_ble_eq_true rfl) (by decide +kernel) rfl ?_
  refine r_aload_n (pc := 0) (i := 0) dX12_isIn_0 rfl rfl ?_
  refine r_iload_n (pc := 1) (i := 1) dX12_isIn_1 rfl rfl ?_
  refine r_callV1 (pc := 2) (d - 1) [aI k] dX12_isIn_2 (CV.mk2 mk_X12_isTold lk_X12_263) (RC.of (ltM hT (by omega)) (kM274 hT) (by decide) rfl) rfl rfl (by omega) (Nat.le_of_ble_eq_true rfl) (Nat.le_of_ble_eq_true rfl) (c_isTold hT ?_)
  refine ⟨_, rfl, fun _ => ?_⟩
  refine r_if_eq (pc := 5) (tgt := 16) dX12_isIn_5 rfl (fun c5 => ?_) (fun c5 => ?_)
  · have c5 := bi_if.mp c5
    refine r_iconst (pc := 16) dX12_isIn_16 (in32_of rfl) ?_
    exact r_iret (pc := 17) dX12_isIn_17 trivial (by rw [show iiA N n S k p = -1 from if_neg (by omega)] at hq; exact hq S Z Y H kp23_id)
  · have c5 := bi_1 c5
    refine r_aload_n (pc := 8) (i := 0) dX12_isIn_8 rfl rfl ?_
    refine r_iload_n (pc := 9) (i := 2) dX12_isIn_9 rfl rfl ?_
    refine r_callV1 (pc := 10) (d - 1) [aI p] dX12_isIn_10 (CV.mk2 mk_X12_isPlace lk_X12_232) (RC.of (ltM hT (by omega)) (kM274 hT) (by decide) rfl) rfl rfl (by omega) (Nat.le_of_ble_eq_true rfl) (Nat.le_of_ble_eq_true rfl) (c_isPlace hT hn ?_)
    refine ⟨_, rfl, fun _ => ?_⟩
    refine r_if_ne (pc := 13) (tgt := 18) dX12_isIn_13 rfl (fun c13 => ?_) (fun c13 => ?_)
    · have c13 := bi_1 c13
      obtain ⟨k, rfl⟩ : ∃ e : Nat, k = (e : Int) := ⟨k.toNat, by omega⟩
      obtain ⟨p, rfl⟩ : ∃ e : Nat, p = (e : Int) := ⟨p.toNat, by omega⟩
      refine r_aload_n (pc := 18) (i := 0) dX12_isIn_18 rfl rfl ?_
      refine r_iload_n (pc := 19) (i := 1) dX12_isIn_19 rfl rfl ?_
      refine r_callV0 (pc := 20) (d - 1) [aI ((k : Nat) : Int)] dX12_isIn_20 (CV.mk2 mk_X12_laysSet lk_X12_266) (RC.of (ltM hT (by omega)) (kM274 hT) (by decide) rfl) rfl rfl (by omega) (Nat.le_of_ble_eq_true rfl) (Nat.le_of_ble_eq_true rfl) (c_ls (n := n) (q := q) (k := k) hT (by omega) hn hn2 hR hL hq6 (by omega) ?_)
      refine ⟨rfl, fun _ => ?_⟩
      refine r_aload_n (pc := 23) (i := 0) dX12_isIn_23 rfl rfl ?_
      refine r_iload_n (pc := 24) (i := 2) dX12_isIn_24 rfl rfl ?_
      refine r_callV1 (pc := 25) (d - 1) [aI ((p : Nat) : Int)] dX12_isIn_25 (CV.mk2 mk_X12_isInSet lk_X12_260) (RC.of (ltM hT (by omega)) (kM274 hT) (by decide) rfl) rfl rfl (by omega) (Nat.le_of_ble_eq_true rfl) (Nat.le_of_ble_eq_true rfl) (c_isInSet (p := p) hT (by omega) ?_)
      refine ⟨_, rfl, fun _ => ?_⟩
      refine r_top (b := bi (inS (stF N n k S) p = 1)) (by rw [SM288]) ?_
      refine r_if_eq (pc := 28) (tgt := 35) dX12_isIn_28 rfl (fun c28 => ?_) (fun c28 => ?_)
      · have c28 := bi_if.mp c28
        refine r_iconst (pc := 35) dX12_isIn_35 (in32_of rfl) ?_
        exact r_iret (pc := 36) dX12_isIn_36 trivial (by rw [show iiA N n S (k : Int) (p : Int) = 0 from (if_pos (by omega)).trans (bi_f c28)] at hq; exact hq _ _ _ _ kp23_id)
      · have c28 := bi_1 c28
        refine r_iconst (pc := 31) dX12_isIn_31 (in32_of rfl) ?_
        refine r_goto (pc := 32) (tgt := 36) dX12_isIn_32 rfl ?_
        exact r_iret (pc := 36) dX12_isIn_36 trivial (by rw [show iiA N n S (k : Int) (p : Int) = 1 from (if_pos (by omega)).trans (bi_t c28)] at hq; exact hq _ _ _ _ kp23_id)
    · have c13 := bi_if.mp (Decidable.of_not_not c13)
      refine r_iconst (pc := 16) dX12_isIn_16 (in32_of rfl) ?_
      exact r_iret (pc := 17) dX12_isIn_17 trivial (by rw [show iiA N n S k p = -1 from if_neg (by omega)] at hq; exact hq S Z Y H kp23_id)
theorem c_rk {n q : Nat} {S Z Y H : Nat → Int} (hT : ShM T) (hd : 4 ≤ d) (hn : N 1 = (n : Int)) (hn2 : n ≤ 256) (hR : Rng N) (hL : LdOk N q n) (hq6 : q ≤ 6) (hq : Q (some (aI (rkD N n S Z Y).2.2.2)) T (sr (sr (sr (sr (sr I 288 ((rkD N n S Z Y).1)) 289 ((rkD N n S Z Y).2.1)) 290 ((rkD N n S Z Y).2.2.1)) 274 (un H 23 (rkD N n S Z Y).2.2.2)) 283 N)) : EvE G mX12_rank d [aR 274] T (sr (sr (sr (sr (sr I 288 S) 289 Z) 290 Y) 274 H) 283 N) Q := by
  refine EvE.mk (lv0 := [some (aR 274)]) (Nat.le_of_ble_eq_true rfl) (by decide +kernel) rfl ?_
  refine r_aload_n (pc := 0) (i := 0) dX12_rank_0 rfl rfl ?_
  refine r_callV0 (pc := 1) (d - 1) [] dX12_rank_1 (CV.mk2 mk_X12_basesNone lk_X12_284) (RC.of (ltM hT (by omega)) (kM274 hT) (by decide) rfl) rfl rfl (by omega) (Nat.le_of_ble_eq_true rfl) (Nat.le_of_ble_eq_true rfl) (c_basesNone hT ?_)
  refine ⟨rfl, fun _ => ?_⟩
  refine r_aload_n (pc := 4) (i := 0) dX12_rank_4 rfl rfl ?_
  refine r_callV0 (pc := 5) (d - 1) [] dX12_rank_5 (CV.mk2 mk_X12_takesLedger lk_X12_287) (RC.of (ltM hT (by omega)) (kM274 hT) (by decide) rfl) rfl rfl (by omega) (Nat.le_of_ble_eq_true rfl) (Nat.le_of_ble_eq_true rfl) (c_takesLedger (n := n) (q := q) (D := (S, Z, z8 Y 256, (0 : Int))) hT (by omega) hn hn2 hR hL hq6 ?_)
  refine ⟨rfl, fun _ => ?_⟩
  refine r_aload_n (pc := 8) (i := 0) dX12_rank_8 rfl rfl ?_
  refine r_getfi (pc := 9) cks dX12_rank_9 fl_X12_275 rfl (kM274 hT) (ltM hT (by omega)) ?_
  refine r_top (b := (un H 23 (rkD N n S Z Y).2.2.2) 23) ((congrFun (sr_ne (by decide)) _).trans (sr_at _ _ _ _)) ?_
  refine r_top (b := ((rkD N n S Z Y).2.2.2)) (un_at) ?_
  exact r_iret (pc := 12) dX12_rank_12 trivial hq
theorem c_rank {n q : Nat} {S Z Y H : Nat → Int} (hT : ShM T) (hd : 4 ≤ d) (hn : N 1 = (n : Int)) (hn2 : n ≤ 256) (hR : Rng N) (hL : LdOk N q n) (hq6 : q ≤ 6) (hq : ∀ S2 Z2 Y2 K : Nat → Int, kp23 H K → Q (some (aI ((rkD N n S Z Y).2.2.2))) T (sr (sr (sr (sr (sr I 288 S2) 289 Z2) 290 Y2) 274 K) 283 N)) : EvE G mX12_rank d [aR 274] T (sr (sr (sr (sr (sr I 288 S) 289 Z) 290 Y) 274 H) 283 N) Q := c_rk hT hd hn hn2 hR hL hq6 (hq _ _ _ _ kp23_un)
end M36

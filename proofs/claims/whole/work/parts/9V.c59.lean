section C59
variable {G : Gl} {d : Nat} {T : Sh} {I : Mi} {N : Nat → Int} {Q : Option AV → Sh → Mi → Prop}
theorem bi_c {p q : Prop} [Decidable p] [Decidable q] (h : p ↔ q) : bi p = bi q := by
  by_cases g : p
  · rw [bi_t g, bi_t (h.mp g)]
  · rw [bi_f g, bi_f (fun x => g (h.mpr x))]
theorem ld_pl {L : Nat → Int} {I : Mi} {s p o t q n k : Nat} {N X : Nat → Int} (h : StR L I s p o t N) (hNo : NOk N q n) (hk : k < tN N) : cnB (stB I t k) 256 = smS (stF N n k X) n ∧ lsB (stB I t k) 256 0 = lsS (stF N n k X) n n 0 := by
  have hs := stB_sb (X := X) h hNo hk
  have hh := stF_hi (hNo.2.1 k hk) hNo.1 X
  have hn := hNo.1.2.2.1
  constructor
  · rw [smS_cn, cnB_ext 256 hs]
    exact cn_hi 256 hn (fun x h1 h2 => hh x h2 h1)
  · exact ls_lsB hs hn hh n 0 (by omega)
theorem k_ledger {A : AN} {L : Nat → Int} {p o t c q n : Nat} (hK : KSh T A) (hS : ShS T 9 p o t c) {s w : Int} {X : Nat → Int} (hd : 2 ≤ d) (hst : StR L I 9 p o t N) (htc : tN N ≤ c) (hNo : NOk N q n) (hq : Q (some (aI (ldA N n X s w))) T I) : EvE G mX11_ledger d [aR 0, aI s, aI w] T I Q := by
  have hn2 := hNo.1.2.2.1
  have h6r := ok_6.mp (hNo.1.1 6)
  have ht3 := tN_rd hNo.1.1
  refine EvE.mk (lv0 := [some (aR 0), some (aI s), some (aI w)]) (Nat.le_of_ble_eq_true rfl) (by decide +kernel) rfl ?_
  refine r_aload_n (pc := 0) (i := 0) dX11_ledger_0 rfl rfl ?_
  refine r_getfr (pc := 1) (b := 9) cks dX11_ledger_1 fl_X11_34 rfl (kK0 hK) (ltK hK (by decide)) (rK0_4 hK) ?_
  refine r_getfr (pc := 4) (b := 9 + 7) cks dX11_ledger_4 fl_X11_210 rfl (kS0 hS) (ltS0 hS) (rS0_12 hS) ?_
  refine r_iload_n (pc := 7) (i := 1) dX11_ledger_7 rfl rfl ?_
  refine r_callV1 (pc := 8) (d - 1) [aI s] dX11_ledger_8 (CV.mk2 mk_X4_has lk_X11_214) (RC.of (ltS (k := 7) hS (by omega)) (kS7 hS) (by decide) rfl) rfl rfl (by omega) (Nat.le_of_ble_eq_true rfl) (Nat.le_of_ble_eq_true rfl) (k_ledHas (n0 := tN N) hS (hst.2.2.2.2.1.1.trans (tN_rd hNo.1.1)) ?_)
  refine ⟨_, rfl, fun _ => ?_⟩
  refine r_if_ne (pc := 11) (tgt := 16) dX11_ledger_11 rfl (fun c11 => ?_) (fun c11 => ?_)
  · have c11 := bi_1 c11
    obtain ⟨k, rfl⟩ : ∃ e : Nat, s = (e : Int) := ⟨s.toNat, by omega⟩
    have hk : k < tN N := by omega
    have hpl := ld_pl (X := X) hst hNo hk
    refine r_iload_n (pc := 16) (i := 2) dX11_ledger_16 rfl rfl ?_
    rcases (by omega : (w < 0 ∨ 3 < w) ∨ w = 0 ∨ w = 1 ∨ w = 2 ∨ w = 3) with hw | rfl | rfl | rfl | rfl
    · refine r_tsw_out (pc := 17) (tgt := 98) dX11_ledger_17 hw rfl ?_
      refine r_iconst (pc := 98) dX11_ledger_98 (in32_of rfl) ?_
      exact r_iret (pc := 99) dX11_ledger_99 trivial (by rw [show ldA N n X ((k : Nat) : Int) w = -1 from if_neg (by omega)] at hq; exact hq)
    · refine r_tsw_in (pc := 17) (tgt := 48) dX11_ledger_17 (by decide) (by decide) rfl rfl ?_
      refine r_aload_n (pc := 48) (i := 0) dX11_ledger_48 rfl rfl ?_
      refine r_getfr (pc := 49) (b := 9) cks dX11_ledger_49 fl_X11_34 rfl (kK0 hK) (ltK hK (by decide)) (rK0_4 hK) ?_
      refine r_getfr (pc := 52) (b := 9 + 7) cks dX11_ledger_52 fl_X11_210 rfl (kS0 hS) (ltS0 hS) (rS0_12 hS) ?_
      refine r_getfr (pc := 55) (b := p) cks dX11_ledger_55 fl_X11_217 rfl (kS7 hS) (ltS (k := 7) hS (by omega)) (rS7_1 hS) ?_
      refine r_iload_n (pc := 58) (i := 1) dX11_ledger_58 rfl rfl ?_
      refine r_ild (pc := 59) (k) dX11_ledger_59 (kp_ hS) (ltp hS) rfl (by rw [lp_ hS]; omega) ?_
      refine r_top (b := tpN N k 2 1) ((hst.2.2.2.2.1.2 k hk).1) ?_
      exact r_iret (pc := 60) dX11_ledger_60 trivial (by rw [show ldA N n X ((k : Nat) : Int) 0 = (tpN N k 2 1) from (if_pos ⟨⟨by omega, by omega⟩, by decide, by decide⟩).trans (if_pos rfl)] at hq; exact hq)
    · refine r_tsw_in (pc := 17) (tgt := 61) dX11_ledger_17 (by decide) (by decide) rfl rfl ?_
      refine r_aload_n (pc := 61) (i := 0) dX11_ledger_61 rfl rfl ?_
      refine r_getfr (pc := 62) (b := 9) cks dX11_ledger_62 fl_X11_34 rfl (kK0 hK) (ltK hK (by decide)) (rK0_4 hK) ?_
      refine r_getfr (pc := 65) (b := 9 + 7) cks dX11_ledger_65 fl_X11_210 rfl (kS0 hS) (ltS0 hS) (rS0_12 hS) ?_
      refine r_iload_n (pc := 68) (i := 1) dX11_ledger_68 rfl rfl ?_
      refine r_callV1 (pc := 69) (d - 1) [aI ((k : Nat) : Int)] dX11_ledger_69 (CV.mk2 mk_X4_places lk_X11_220) (RC.of (ltS (k := 7) hS (by omega)) (kS7 hS) (by decide) rfl) rfl rfl (by omega) (Nat.le_of_ble_eq_true rfl) (Nat.le_of_ble_eq_true rfl) (k_places (k := k) hS (by omega) (by omega) ?_)
      refine ⟨_, rfl, fun _ => ?_⟩
      exact r_iret (pc := 72) dX11_ledger_72 trivial (by rw [show ldA N n X ((k : Nat) : Int) 1 = (((cnB (stB I t k) 256) : Nat) : Int) from (if_pos ⟨⟨by omega, by omega⟩, by decide, by decide⟩).trans ((if_neg (by decide)).trans ((if_pos rfl).trans (by rw [hpl.1])))] at hq; exact hq)
    · refine r_tsw_in (pc := 17) (tgt := 73) dX11_ledger_17 (by decide) (by decide) rfl rfl ?_
      refine r_aload_n (pc := 73) (i := 0) dX11_ledger_73 rfl rfl ?_
      refine r_getfr (pc := 74) (b := 9) cks dX11_ledger_74 fl_X11_34 rfl (kK0 hK) (ltK hK (by decide)) (rK0_4 hK) ?_
      refine r_getfr (pc := 77) (b := 9 + 7) cks dX11_ledger_77 fl_X11_210 rfl (kS0 hS) (ltS0 hS) (rS0_12 hS) ?_
      refine r_getfr (pc := 80) (b := o) cks dX11_ledger_80 fl_X11_223 rfl (kS7 hS) (ltS (k := 7) hS (by omega)) (rS7_2 hS) ?_
      refine r_iload_n (pc := 83) (i := 1) dX11_ledger_83 rfl rfl ?_
      refine r_ild (pc := 84) (k) dX11_ledger_84 (ko_ hS) (lto hS) rfl (by rw [lo_ hS]; omega) ?_
      refine r_top (b := (if tkN N k = 0 then tpN N k 6 3 else if tkN N k = 1 then -2 else -1)) ((hst.2.2.2.2.1.2 k hk).2.1) ?_
      exact r_iret (pc := 85) dX11_ledger_85 trivial (by rw [show ldA N n X ((k : Nat) : Int) 2 = (if tkN N k = 0 then tpN N k 6 3 else if tkN N k = 1 then -2 else -1) from (if_pos ⟨⟨by omega, by omega⟩, by decide, by decide⟩).trans ((if_neg (by decide)).trans ((if_neg (by decide)).trans (if_pos rfl)))] at hq; exact hq)
    · refine r_tsw_in (pc := 17) (tgt := 86) dX11_ledger_17 (by decide) (by decide) rfl rfl ?_
      refine r_aload_n (pc := 86) (i := 0) dX11_ledger_86 rfl rfl ?_
      refine r_getfr (pc := 87) (b := 9) cks dX11_ledger_87 fl_X11_34 rfl (kK0 hK) (ltK hK (by decide)) (rK0_4 hK) ?_
      refine r_getfr (pc := 90) (b := 9 + 7) cks dX11_ledger_90 fl_X11_210 rfl (kS0 hS) (ltS0 hS) (rS0_12 hS) ?_
      refine r_iload_n (pc := 93) (i := 1) dX11_ledger_93 rfl rfl ?_
      refine r_callV1 (pc := 94) (d - 1) [aI ((k : Nat) : Int)] dX11_ledger_94 (CV.mk2 mk_X4_least lk_X11_226) (RC.of (ltS (k := 7) hS (by omega)) (kS7 hS) (by decide) rfl) rfl rfl (by omega) (Nat.le_of_ble_eq_true rfl) (Nat.le_of_ble_eq_true rfl) (k_least (k := k) hS (by omega) (by omega) ?_)
      refine ⟨_, rfl, fun _ => ?_⟩
      exact r_iret (pc := 97) dX11_ledger_97 trivial (by rw [show ldA N n X ((k : Nat) : Int) 3 = (lsB (stB I t k) 256 0) from (if_pos ⟨⟨by omega, by omega⟩, by decide, by decide⟩).trans ((if_neg (by decide)).trans ((if_neg (by decide)).trans ((if_neg (by decide)).trans hpl.2.symm)))] at hq; exact hq)
  · have c11 := bi_if.mp (Decidable.of_not_not c11)
    refine r_iconst (pc := 14) dX11_ledger_14 (in32_of rfl) ?_
    exact r_iret (pc := 15) dX11_ledger_15 trivial (by rw [show ldA N n X s w = -1 from if_neg (by omega)] at hq; exact hq)
theorem k_isIn {A : AN} {L : Nat → Int} {p o t c q n : Nat} (hK : KSh T A) (hS : ShS T 9 p o t c) {s y : Int} {X : Nat → Int} (hd : 1 ≤ d) (hst : StR L I 9 p o t N) (htc : tN N ≤ c) (hNo : NOk N q n) (hq : Q (some (aI (iiA N n X s y))) T I) : EvE G mX11_isIn d [aR 0, aI s, aI y] T I Q := by
  have hn2 := hNo.1.2.2.1
  have h6r := ok_6.mp (hNo.1.1 6)
  have ht3 := tN_rd hNo.1.1
  refine EvE.mk (lv0 := [some (aR 0), some (aI s), some (aI y)]) (Nat.le_of_ble_eq_true rfl) (by decide +kernel) rfl ?_
  refine r_aload_n (pc := 0) (i := 0) dX11_isIn_0 rfl rfl ?_
  refine r_getfr (pc := 1) (b := 9) cks dX11_isIn_1 fl_X11_34 rfl (kK0 hK) (ltK hK (by decide)) (rK0_4 hK) ?_
  refine r_getfr (pc := 4) (b := 9 + 7) cks dX11_isIn_4 fl_X11_210 rfl (kS0 hS) (ltS0 hS) (rS0_12 hS) ?_
  refine r_iload_n (pc := 7) (i := 1) dX11_isIn_7 rfl rfl ?_
  refine r_callV1 (pc := 8) (d - 1) [aI s] dX11_isIn_8 (CV.mk2 mk_X4_has lk_X11_214) (RC.of (ltS (k := 7) hS (by omega)) (kS7 hS) (by decide) rfl) rfl rfl (by omega) (Nat.le_of_ble_eq_true rfl) (Nat.le_of_ble_eq_true rfl) (k_ledHas (n0 := tN N) hS (hst.2.2.2.2.1.1.trans (tN_rd hNo.1.1)) ?_)
  refine ⟨_, rfl, fun _ => ?_⟩
  refine r_if_eq (pc := 11) (tgt := 28) dX11_isIn_11 rfl (fun c11 => ?_) (fun c11 => ?_)
  · have c11 := bi_if.mp c11
    refine r_iconst (pc := 28) dX11_isIn_28 (in32_of rfl) ?_
    exact r_iret (pc := 29) dX11_isIn_29 trivial (by rw [show iiA N n X s y = -1 from if_neg (by omega)] at hq; exact hq)
  · have c11 := bi_1 c11
    refine r_aload_n (pc := 14) (i := 0) dX11_isIn_14 rfl rfl ?_
    refine r_getfr (pc := 15) (b := 9) cks dX11_isIn_15 fl_X11_34 rfl (kK0 hK) (ltK hK (by decide)) (rK0_4 hK) ?_
    refine r_getfr (pc := 18) (b := 9 + 3) cks dX11_isIn_18 fl_X11_117 rfl (kS0 hS) (ltS0 hS) (rS0_11 hS) ?_
    refine r_iload_n (pc := 21) (i := 2) dX11_isIn_21 rfl rfl ?_
    refine r_callV1 (pc := 22) (d - 1) [aI y] dX11_isIn_22 (CV.mk2 mk_X3_has lk_X11_175) (RC.of (ltS (k := 3) hS (by omega)) (kS3 hS) (by decide) rfl) rfl rfl (by omega) (Nat.le_of_ble_eq_true rfl) (Nat.le_of_ble_eq_true rfl) (k_has (n := n) hS (hst.2.2.2.1.1.trans hNo.1.2.1) hn2 ?_)
    refine ⟨_, rfl, fun _ => ?_⟩
    refine r_if_ne (pc := 25) (tgt := 30) dX11_isIn_25 rfl (fun c25 => ?_) (fun c25 => ?_)
    · have c25 := bi_1 c25
      obtain ⟨k, rfl⟩ : ∃ e : Nat, s = (e : Int) := ⟨s.toNat, by omega⟩
      have hk : k < tN N := by omega
      have hpl := ld_pl (X := X) hst hNo hk
      obtain ⟨x, rfl⟩ : ∃ e : Nat, y = (e : Int) := ⟨(y).toNat, by omega⟩
      refine r_aload_n (pc := 30) (i := 0) dX11_isIn_30 rfl rfl ?_
      refine r_getfr (pc := 31) (b := 9) cks dX11_isIn_31 fl_X11_34 rfl (kK0 hK) (ltK hK (by decide)) (rK0_4 hK) ?_
      refine r_getfr (pc := 34) (b := 9 + 7) cks dX11_isIn_34 fl_X11_210 rfl (kS0 hS) (ltS0 hS) (rS0_12 hS) ?_
      refine r_iload_n (pc := 37) (i := 1) dX11_isIn_37 rfl rfl ?_
      refine r_iload_n (pc := 38) (i := 2) dX11_isIn_38 rfl rfl ?_
      refine r_callV1 (pc := 39) (d - 1) [aI ((k : Nat) : Int), aI ((x : Nat) : Int)] dX11_isIn_39 (CV.mk2 mk_X4_holds lk_X11_229) (RC.of (ltS (k := 7) hS (by omega)) (kS7 hS) (by decide) rfl) rfl rfl (by omega) (Nat.le_of_ble_eq_true rfl) (Nat.le_of_ble_eq_true rfl) (k_holds (k := k) (x := x) hS (by omega) (by omega) ?_)
      refine ⟨_, rfl, fun _ => ?_⟩
      refine r_if_eq (pc := 42) (tgt := 49) dX11_isIn_42 rfl (fun c42 => ?_) (fun c42 => ?_)
      · have c42 := bi_if.mp c42
        refine r_iconst (pc := 49) dX11_isIn_49 (in32_of rfl) ?_
        have hii : iiA N n X ((k : Nat) : Int) ((x : Nat) : Int) = 0 := by unfold iiA; rw [if_pos ⟨⟨by omega, by omega⟩, by omega, by omega⟩, Int.toNat_natCast]; exact bi_f (fun h => c42 (by rw [stB_sb (X := X) hst hNo hk x (by omega)]; exact inS_1.mp h))
        exact r_iret (pc := 50) dX11_isIn_50 trivial (by rw [hii] at hq; exact hq)
      · have c42 := bi_1 c42
        refine r_iconst (pc := 45) dX11_isIn_45 (in32_of rfl) ?_
        refine r_goto (pc := 46) (tgt := 50) dX11_isIn_46 rfl ?_
        have hii : iiA N n X ((k : Nat) : Int) ((x : Nat) : Int) = 1 := by unfold iiA; rw [if_pos ⟨⟨by omega, by omega⟩, by omega, by omega⟩, Int.toNat_natCast]; exact bi_t (inS_1.mpr (by rw [← stB_sb hst hNo hk x (by omega)]; exact c42))
        exact r_iret (pc := 50) dX11_isIn_50 trivial (by rw [hii] at hq; exact hq)
    · have c25 := bi_if.mp (Decidable.of_not_not c25)
      refine r_iconst (pc := 28) dX11_isIn_28 (in32_of rfl) ?_
      exact r_iret (pc := 29) dX11_isIn_29 trivial (by rw [show iiA N n X s y = -1 from if_neg (by omega)] at hq; exact hq)
theorem k_block {A : AN} {L : Nat → Int} {p o t c q n : Nat} (hK : KSh T A) (hS : ShS T 9 p o t c) {s x w : Int} {B : Nat} (hd : 4 ≤ d) (hst : StR L I 9 p o t N) (htc : tN N ≤ c) (hNo : NOk N q n) (hL : ∀ k, k < 9 → I (2 + 1) k = L k) (h5 : L 5 = (B : Int)) (hB1 : 2 ≤ B) (hB2 : B ≤ 64) (hq0 : ¬ bkOk N n B s x w → Q (some (aI (-1))) T I) (hq1 : ∀ p2 k2 : Nat, s = (p2 : Int) → x = (k2 : Int) → bkOk N n B s x w → Q (some (aI (bkA N n B p2 k2 w))) T I) : EvE G mX11_block d [aR 0, aI s, aI x, aI w] T I Q := by
  have hn2 := hNo.1.2.2.1
  have h6r := ok_6.mp (hNo.1.1 6)
  have hq6 := hNo.1.2.2.2.1
  have hN2 := hNo.2.2.1
  refine EvE.mk (lv0 := [some (aR 0), some (aI s), some (aI x), some (aI w), none, none, none]) (Nat.le_of_ble_eq_true rfl) (by decide +kernel) rfl ?_
  refine r_aload_n (pc := 0) (i := 0) dX11_block_0 rfl rfl ?_
  refine r_getfr (pc := 1) (b := 9) cks dX11_block_1 fl_X11_34 rfl (kK0 hK) (ltK hK (by decide)) (rK0_4 hK) ?_
  refine r_iload_n (pc := 4) (i := 1) dX11_block_4 rfl rfl ?_
  refine r_callV1 (pc := 5) (d - 1) [aI s] dX11_block_5 (CV.mk2 mk_X9_hasDone lk_X11_204) (RC.of (ltS0 hS) (kS0 hS) (by decide) rfl) rfl rfl (by omega) (Nat.le_of_ble_eq_true rfl) (Nat.le_of_ble_eq_true rfl) (k_hasDone hS ?_)
  refine ⟨_, rfl, fun _ => ?_⟩
  refine r_top (b := bi (0 ≤ s ∧ s < N 2)) (by rw [hst.1.2.2.2.2.2.2.1]) ?_
  refine r_if_ne (pc := 8) (tgt := 13) dX11_block_8 rfl (fun c8 => ?_) (fun c8 => ?_)
  · have c8 := bi_1 c8
    obtain ⟨y, rfl⟩ : ∃ e : Nat, s = (e : Int) := ⟨s.toNat, by omega⟩
    have hy6 : y < 6 := by omega
    have hz2 := pw_le hB2 hy6
    have hz1 : 1 ≤ B * 2 ^ y := Nat.mul_pos (by omega) (Nat.two_pow_pos y)
    refine r_aload_n (pc := 13) (i := 0) dX11_block_13 rfl rfl ?_
    refine r_getfr (pc := 14) (b := 2) cks dX11_block_14 fl_X11_20 rfl (kK0 hK) (ltK hK (by decide)) (rK0_2 hK) ?_
    refine r_iconst (pc := 17) dX11_block_17 (in32_of rfl) ?_
    refine r_callV1 (pc := 18) (d - 1) [aI 5] dX11_block_18 (CV.mk2 mk_X6_number lk_X11_105) (RC.of (ltP0 (pK2 hK)) (kP0 (pK2 hK)) (by decide) rfl) rfl rfl (by omega) (Nat.le_of_ble_eq_true rfl) (Nat.le_of_ble_eq_true rfl) (k_num (L := L) (pK2 hK) 5 (by decide) hL ?_)
    refine ⟨_, rfl, fun _ => ?_⟩
    refine r_top (b := ((B : Nat) : Int)) h5 ?_
    refine r_iload_n (pc := 21) (i := 1) dX11_block_21 rfl rfl ?_
    refine r_ishl (pc := 22) dX11_block_22 ?_
    refine r_top (b := (((B * 2 ^ y) : Nat) : Int)) (by rw [isl_n (by omega) (by omega) (by omega)]; simp) ?_
    refine r_istore (pc := 23) (i := 4) (lv' := [_, _, _, _, _, _, _]) dX11_block_23 (by decide) rfl ?_
    refine r_iload_n (pc := 25) (i := 2) dX11_block_25 rfl rfl ?_
    refine r_if_lt (pc := 26) (tgt := 48) dX11_block_26 rfl (fun c26 => ?_) (fun c26 => ?_)
    · refine r_iconst (pc := 48) dX11_block_48 (in32_of rfl) ?_
      exact r_iret (pc := 49) dX11_block_49 trivial (hq0 (fun h => absurd h.2.1 (by omega)))
    · refine r_iload_n (pc := 29) (i := 2) dX11_block_29 rfl rfl ?_
      refine r_aload_n (pc := 30) (i := 0) dX11_block_30 rfl rfl ?_
      refine r_getfr (pc := 31) (b := 9) cks dX11_block_31 fl_X11_34 rfl (kK0 hK) (ltK hK (by decide)) (rK0_4 hK) ?_
      refine r_getfr (pc := 34) (b := 9 + 3) cks dX11_block_34 fl_X11_117 rfl (kS0 hS) (ltS0 hS) (rS0_11 hS) ?_
      refine r_getfi (pc := 37) cks dX11_block_37 fl_X11_121 rfl (kS3 hS) (ltS (k := 3) hS (by omega)) ?_
      refine r_top (b := ((n : Nat) : Int)) (hst.2.2.2.1.1.trans hNo.1.2.1) ?_
      refine r_iload (pc := 40) (i := 4) dX11_block_40 rfl ?_
      refine r_callS1 (pc := 42) (d - 1) [aI ((n : Nat) : Int), aI (((B * 2 ^ y) : Nat) : Int)] dX11_block_42 (CS.mk2 mk_X11_blocksOf lk_X11_235) rfl rfl (by omega) (Nat.le_of_ble_eq_true rfl) (Nat.le_of_ble_eq_true rfl) (k_blocksOf (n := n) (z := B * 2 ^ y) hn2 hz1 (by omega) ?_)
      refine ⟨_, rfl, fun _ => ?_⟩
      refine r_icmp_lt (pc := 45) (tgt := 50) dX11_block_45 rfl (fun c45 => ?_) (fun c45 => ?_)
      · obtain ⟨k, rfl⟩ : ∃ e : Nat, x = (e : Int) := ⟨x.toNat, by omega⟩
        have hkn := (nbk_lt hz1).mp (show k < nbk n (B * 2 ^ y) by omega)
        have hll : k * (B * 2 ^ y) + lnB n (B * 2 ^ y) (k * (B * 2 ^ y)) ≤ n := by unfold lnB; omega
        refine r_iload_n (pc := 50) (i := 2) dX11_block_50 rfl rfl ?_
        refine r_iload (pc := 51) (i := 4) dX11_block_51 rfl ?_
        refine r_imulN (pc := 53) (c := (((k * (B * 2 ^ y)) : Nat) : Int)) dX11_block_53 (w32_mul (by omega)) ?_
        refine r_istore (pc := 54) (i := 5) (lv' := [_, _, _, _, _, _, _]) dX11_block_54 (by decide) rfl ?_
        refine r_aload_n (pc := 56) (i := 0) dX11_block_56 rfl rfl ?_
        refine r_getfr (pc := 57) (b := 9) cks dX11_block_57 fl_X11_34 rfl (kK0 hK) (ltK hK (by decide)) (rK0_4 hK) ?_
        refine r_getfr (pc := 60) (b := 9 + 3) cks dX11_block_60 fl_X11_117 rfl (kS0 hS) (ltS0 hS) (rS0_11 hS) ?_
        refine r_getfi (pc := 63) cks dX11_block_63 fl_X11_121 rfl (kS3 hS) (ltS (k := 3) hS (by omega)) ?_
        refine r_top (b := ((n : Nat) : Int)) (hst.2.2.2.1.1.trans hNo.1.2.1) ?_
        refine r_iload (pc := 66) (i := 4) dX11_block_66 rfl ?_
        refine r_iload_n (pc := 68) (i := 2) dX11_block_68 rfl rfl ?_
        refine r_callS1 (pc := 69) (d - 1) [aI ((n : Nat) : Int), aI (((B * 2 ^ y) : Nat) : Int), aI ((k : Nat) : Int)] dX11_block_69 (CS.mk2 mk_X11_lengthOf lk_X11_238) rfl rfl (by omega) (Nat.le_of_ble_eq_true rfl) (Nat.le_of_ble_eq_true rfl) (k_lengthOf (n := n) (z := B * 2 ^ y) (k := k) (by omega) hn2 hz2 (by omega) ?_)
        refine ⟨_, rfl, fun _ => ?_⟩
        refine r_istore (pc := 72) (i := 6) (lv' := [_, _, _, _, _, _, _]) dX11_block_72 (by decide) rfl ?_
        refine r_iload_n (pc := 74) (i := 3) dX11_block_74 rfl rfl ?_
        rcases (by omega : (w < 0 ∨ 2 < w) ∨ w = 0 ∨ w = 1 ∨ w = 2) with hw | rfl | rfl | rfl
        · refine r_tsw_out (pc := 75) (tgt := 119) dX11_block_75 hw rfl ?_
          refine r_iconst (pc := 119) dX11_block_119 (in32_of rfl) ?_
          exact r_iret (pc := 120) dX11_block_120 trivial (hq0 (fun h => by have := h.2.2.1; omega))
        · refine r_tsw_in (pc := 75) (tgt := 100) dX11_block_75 (by decide) (by decide) rfl rfl ?_
          refine r_iload (pc := 100) (i := 5) dX11_block_100 rfl ?_
          have hb := hq1 y k rfl rfl ⟨⟨by omega, by omega⟩, by omega, by decide, by rw [Int.toNat_natCast, Int.toNat_natCast]; exact hkn⟩
          exact r_iret (pc := 102) dX11_block_102 trivial hb
        · refine r_tsw_in (pc := 75) (tgt := 103) dX11_block_75 (by decide) (by decide) rfl rfl ?_
          refine r_iload (pc := 103) (i := 6) dX11_block_103 rfl ?_
          have hb := hq1 y k rfl rfl ⟨⟨by omega, by omega⟩, by omega, by decide, by rw [Int.toNat_natCast, Int.toNat_natCast]; exact hkn⟩
          exact r_iret (pc := 105) dX11_block_105 trivial hb
        · refine r_tsw_in (pc := 75) (tgt := 106) dX11_block_75 (by decide) (by decide) rfl rfl ?_
          refine r_aload_n (pc := 106) (i := 0) dX11_block_106 rfl rfl ?_
          refine r_getfr (pc := 107) (b := 9) cks dX11_block_107 fl_X11_34 rfl (kK0 hK) (ltK hK (by decide)) (rK0_4 hK) ?_
          refine r_iload_n (pc := 110) (i := 1) dX11_block_110 rfl rfl ?_
          refine r_iload (pc := 111) (i := 5) dX11_block_111 rfl ?_
          refine r_iload (pc := 113) (i := 6) dX11_block_113 rfl ?_
          refine r_callV1 (pc := 115) (d - 1) [aI ((y : Nat) : Int), aI (((k * (B * 2 ^ y)) : Nat) : Int), aI (((lnB n (B * 2 ^ y) (k * (B * 2 ^ y))) : Nat) : Int)] dX11_block_115 (CV.mk2 mk_X9_unlikeAlong lk_X11_242) (RC.of (ltS0 hS) (kS0 hS) (by decide) rfl) rfl rfl (by omega) (Nat.le_of_ble_eq_true rfl) (Nat.le_of_ble_eq_true rfl) (k_unlikeAlong (q := y) (b := k * (B * 2 ^ y)) (x0 := lnB n (B * 2 ^ y) (k * (B * 2 ^ y))) (n := n) (N := N) hS (by omega) (hst.2.2.2.1.1.trans hNo.1.2.1) hn2 (by omega) hll (fun i hi => ⟨(hst.2.2.1 y (by omega) i (by rw [hNo.1.nn]; exact hi)).trans (oP_rd (Rng_O hNo.1.1) (by omega)).1, hNo.1.2.2.2.2.1 y (by omega) i hi⟩) (fun i hi => by have h := hst.2.2.2.1.2 i (by rw [hNo.1.nn]; exact hi); exact ⟨h.1, h.2.1⟩) ?_)
          refine ⟨_, rfl, fun _ => ?_⟩
          have hb := hq1 y k rfl rfl ⟨⟨by omega, by omega⟩, by omega, by decide, by rw [Int.toNat_natCast, Int.toNat_natCast]; exact hkn⟩
          exact r_iret (pc := 118) dX11_block_118 trivial hb
      · refine r_iconst (pc := 48) dX11_block_48 (in32_of rfl) ?_
        exact r_iret (pc := 49) dX11_block_49 trivial (hq0 (fun h => absurd ((nbk_lt hz1).mpr (by have h4 := h.2.2.2; rw [Int.toNat_natCast] at h4; exact h4)) (by omega)))
  · have c8 := bi_if.mp (Decidable.of_not_not c8)
    refine r_iconst (pc := 11) dX11_block_11 (in32_of rfl) ?_
    exact r_iret (pc := 12) dX11_block_12 trivial (hq0 (fun h => c8 h.1))
def cntB (L N : Nat → Int) (n u tp : Nat) (w : Int) : Int :=
  if w = 0 then N 0 else if w = 1 then (n : Int) else if w = 2 then ((unl N n : Nat) : Int) else if w = 3 then N 2 else if w = 4 then N 3 else if w = 5 then N 4 else if w = 6 then N 5 else if w = 7 then N 6 else if w = 8 then N 7 else if w = 9 then ssM N (sgV L N).toNat else if w = 10 then N 8 else if w = 11 then (u : Int) else if w = 12 then (tp : Int) else if w = 13 then sgV L N else if w = 14 then N 9 else if w = 15 then N 10 else if w = 16 then N 11 else -1
theorem k_count {A : AN} {L : Nat → Int} {p o t c q n : Nat} (hK : KSh T A) (hS : ShS T 9 p o t c) {w : Int} {u tp : Nat} (hd : 1 ≤ d) (hst : StR L I 9 p o t N) (htc : tN N ≤ c) (hNo : NOk N q n) (hu : I 24 2 = (u : Int)) (htp : I 0 1 = (tp : Int)) (hq : Q (some (aI (cntB L N n u tp w))) T I) : EvE G mX11_count d [aR 0, aI w] T I Q := by
  have hn2 := hNo.1.2.2.1
  have h6r := ok_6.mp (hNo.1.1 6)
  refine EvE.mk (lv0 := [some (aR 0), some (aI w)]) (Nat.le_of_ble_eq_true rfl) (by decide +kernel) rfl ?_
  refine r_iload_n (pc := 0) (i := 1) dX11_count_0 rfl rfl ?_
  rcases (by omega : (w < 0 ∨ 16 < w) ∨ w = 0 ∨ w = 1 ∨ w = 2 ∨ w = 3 ∨ w = 4 ∨ w = 5 ∨ w = 6 ∨ w = 7 ∨ w = 8 ∨ w = 9 ∨ w = 10 ∨ w = 11 ∨ w = 12 ∨ w = 13 ∨ w = 14 ∨ w = 15 ∨ w = 16) with hw | rfl | rfl | rfl | rfl | rfl | rfl | rfl | rfl | rfl | rfl | rfl | rfl | rfl | rfl | rfl | rfl | rfl
  · refine r_tsw_out (pc := 1) (tgt := 238) dX11_count_1 hw rfl ?_
    refine r_iconst (pc := 238) dX11_count_238 (in32_of rfl) ?_
    exact r_iret (pc := 239) dX11_count_239 trivial (by rw [show cntB L N n u tp w = (-1) from by unfold cntB; rw [if_neg (by omega)]; rw [if_neg (by omega)]; rw [if_neg (by omega)]; rw [if_neg (by omega)]; rw [if_neg (by omega)]; rw [if_neg (by omega)]; rw [if_neg (by omega)]; rw [if_neg (by omega)]; rw [if_neg (by omega)]; rw [if_neg (by omega)]; rw [if_neg (by omega)]; rw [if_neg (by omega)]; rw [if_neg (by omega)]; rw [if_neg (by omega)]; rw [if_neg (by omega)]; rw [if_neg (by omega)]; rw [if_neg (by omega)]] at hq; exact hq)
  · refine r_tsw_in (pc := 1) (tgt := 84) dX11_count_1 (by decide) (by decide) rfl rfl ?_
    refine r_aload_n (pc := 84) (i := 0) dX11_count_84 rfl rfl ?_
    refine r_getfr (pc := 85) (b := 9) cks dX11_count_85 fl_X11_34 rfl (kK0 hK) (ltK hK (by decide)) (rK0_4 hK) ?_
    refine r_getfi (pc := 88) cks dX11_count_88 fl_X11_126 rfl (kS0 hS) (ltS0 hS) ?_
    refine r_top (b := N 0) (hst.1.1) ?_
    exact r_iret (pc := 91) dX11_count_91 trivial (by rw [show cntB L N n u tp 0 = (N 0) from rfl] at hq; exact hq)
  · refine r_tsw_in (pc := 1) (tgt := 92) dX11_count_1 (by decide) (by decide) rfl rfl ?_
    refine r_aload_n (pc := 92) (i := 0) dX11_count_92 rfl rfl ?_
    refine r_getfr (pc := 93) (b := 9) cks dX11_count_93 fl_X11_34 rfl (kK0 hK) (ltK hK (by decide)) (rK0_4 hK) ?_
    refine r_getfr (pc := 96) (b := 9 + 3) cks dX11_count_96 fl_X11_117 rfl (kS0 hS) (ltS0 hS) (rS0_11 hS) ?_
    refine r_getfi (pc := 99) cks dX11_count_99 fl_X11_121 rfl (kS3 hS) (ltS (k := 3) hS (by omega)) ?_
    refine r_top (b := ((n : Nat) : Int)) (hst.2.2.2.1.1.trans hNo.1.2.1) ?_
    exact r_iret (pc := 102) dX11_count_102 trivial (by rw [show cntB L N n u tp 1 = ((n : Nat) : Int) from rfl] at hq; exact hq)
  · refine r_tsw_in (pc := 1) (tgt := 103) dX11_count_1 (by decide) (by decide) rfl rfl ?_
    refine r_aload_n (pc := 103) (i := 0) dX11_count_103 rfl rfl ?_
    refine r_getfr (pc := 104) (b := 9) cks dX11_count_104 fl_X11_34 rfl (kK0 hK) (ltK hK (by decide)) (rK0_4 hK) ?_
    refine r_getfr (pc := 107) (b := 9 + 3) cks dX11_count_107 fl_X11_117 rfl (kS0 hS) (ltS0 hS) (rS0_11 hS) ?_
    refine r_callV1 (pc := 110) (d - 1) [] dX11_count_110 (CV.mk2 mk_X3_unlike lk_X11_182) (RC.of (ltS (k := 3) hS (by omega)) (kS3 hS) (by decide) rfl) rfl rfl (by omega) (Nat.le_of_ble_eq_true rfl) (Nat.le_of_ble_eq_true rfl) (k_unlike (n := n) hS (hst.2.2.2.1.1.trans hNo.1.2.1) hn2 ?_)
    refine ⟨_, rfl, fun _ => ?_⟩
    refine r_top (b := ((unl N n : Nat) : Int)) (St_unl hst hNo.1) ?_
    exact r_iret (pc := 113) dX11_count_113 trivial (by rw [show cntB L N n u tp 2 = (((unl N n) : Nat) : Int) from rfl] at hq; exact hq)
  · refine r_tsw_in (pc := 1) (tgt := 114) dX11_count_1 (by decide) (by decide) rfl rfl ?_
    refine r_aload_n (pc := 114) (i := 0) dX11_count_114 rfl rfl ?_
    refine r_getfr (pc := 115) (b := 9) cks dX11_count_115 fl_X11_34 rfl (kK0 hK) (ltK hK (by decide)) (rK0_4 hK) ?_
    refine r_getfi (pc := 118) cks dX11_count_118 fl_X11_139 rfl (kS0 hS) (ltS0 hS) ?_
    refine r_top (b := N 2) (hst.1.2.2.2.2.2.2.1) ?_
    exact r_iret (pc := 121) dX11_count_121 trivial (by rw [show cntB L N n u tp 3 = (N 2) from rfl] at hq; exact hq)
  · refine r_tsw_in (pc := 1) (tgt := 122) dX11_count_1 (by decide) (by decide) rfl rfl ?_
    refine r_aload_n (pc := 122) (i := 0) dX11_count_122 rfl rfl ?_
    refine r_getfr (pc := 123) (b := 9) cks dX11_count_123 fl_X11_34 rfl (kK0 hK) (ltK hK (by decide)) (rK0_4 hK) ?_
    refine r_getfr (pc := 126) (b := 9 + 7) cks dX11_count_126 fl_X11_210 rfl (kS0 hS) (ltS0 hS) (rS0_12 hS) ?_
    refine r_getfi (pc := 129) cks dX11_count_129 fl_X11_245 rfl (kS7 hS) (ltS (k := 7) hS (by omega)) ?_
    refine r_top (b := N 3) (hst.2.2.2.2.1.1) ?_
    exact r_iret (pc := 132) dX11_count_132 trivial (by rw [show cntB L N n u tp 4 = (N 3) from rfl] at hq; exact hq)
  · refine r_tsw_in (pc := 1) (tgt := 133) dX11_count_1 (by decide) (by decide) rfl rfl ?_
    refine r_aload_n (pc := 133) (i := 0) dX11_count_133 rfl rfl ?_
    refine r_getfr (pc := 134) (b := 9) cks dX11_count_134 fl_X11_34 rfl (kK0 hK) (ltK hK (by decide)) (rK0_4 hK) ?_
    refine r_getfi (pc := 137) cks dX11_count_137 fl_X11_132 rfl (kS0 hS) (ltS0 hS) ?_
    refine r_top (b := N 4) (hst.1.2.2.2.2.1) ?_
    exact r_iret (pc := 140) dX11_count_140 trivial (by rw [show cntB L N n u tp 5 = (N 4) from rfl] at hq; exact hq)
  · refine r_tsw_in (pc := 1) (tgt := 141) dX11_count_1 (by decide) (by decide) rfl rfl ?_
    refine r_aload_n (pc := 141) (i := 0) dX11_count_141 rfl rfl ?_
    refine r_getfr (pc := 142) (b := 9) cks dX11_count_142 fl_X11_34 rfl (kK0 hK) (ltK hK (by decide)) (rK0_4 hK) ?_
    refine r_getfi (pc := 145) cks dX11_count_145 fl_X11_248 rfl (kS0 hS) (ltS0 hS) ?_
    refine r_top (b := N 5) (hst.1.2.2.2.2.2.1) ?_
    exact r_iret (pc := 148) dX11_count_148 trivial (by rw [show cntB L N n u tp 6 = (N 5) from rfl] at hq; exact hq)
  · refine r_tsw_in (pc := 1) (tgt := 149) dX11_count_1 (by decide) (by decide) rfl rfl ?_
    refine r_aload_n (pc := 149) (i := 0) dX11_count_149 rfl rfl ?_
    refine r_getfr (pc := 150) (b := 9) cks dX11_count_150 fl_X11_34 rfl (kK0 hK) (ltK hK (by decide)) (rK0_4 hK) ?_
    refine r_getfr (pc := 153) (b := 9 + 11) cks dX11_count_153 fl_X11_159 rfl (kS0 hS) (ltS0 hS) (rS0_13 hS) ?_
    refine r_getfi (pc := 156) cks dX11_count_156 fl_X11_163 rfl (kS11 hS) (ltS (k := 11) hS (by omega)) ?_
    refine r_top (b := N 6) (hst.2.2.2.2.2.1) ?_
    exact r_iret (pc := 159) dX11_count_159 trivial (by rw [show cntB L N n u tp 7 = (N 6) from rfl] at hq; exact hq)
  · refine r_tsw_in (pc := 1) (tgt := 160) dX11_count_1 (by decide) (by decide) rfl rfl ?_
    refine r_aload_n (pc := 160) (i := 0) dX11_count_160 rfl rfl ?_
    refine r_getfr (pc := 161) (b := 9) cks dX11_count_161 fl_X11_34 rfl (kK0 hK) (ltK hK (by decide)) (rK0_4 hK) ?_
    refine r_getfi (pc := 164) cks dX11_count_164 fl_X11_251 rfl (kS0 hS) (ltS0 hS) ?_
    refine r_top (b := N 7) (hst.1.2.2.2.2.2.2.2.2) ?_
    exact r_iret (pc := 167) dX11_count_167 trivial (by rw [show cntB L N n u tp 8 = (N 7) from rfl] at hq; exact hq)
  · refine r_tsw_in (pc := 1) (tgt := 168) dX11_count_1 (by decide) (by decide) rfl rfl ?_
    refine r_aload_n (pc := 168) (i := 0) dX11_count_168 rfl rfl ?_
    refine r_getfr (pc := 169) (b := 9) cks dX11_count_169 fl_X11_34 rfl (kK0 hK) (ltK hK (by decide)) (rK0_4 hK) ?_
    refine r_getfi (pc := 172) cks dX11_count_172 fl_X11_254 rfl (kS0 hS) (ltS0 hS) ?_
    refine r_top (b := ssM N (sgV L N).toNat) (hst.1.2.2.2.1) ?_
    exact r_iret (pc := 175) dX11_count_175 trivial (by rw [show cntB L N n u tp 9 = (ssM N (sgV L N).toNat) from rfl] at hq; exact hq)
  · refine r_tsw_in (pc := 1) (tgt := 176) dX11_count_1 (by decide) (by decide) rfl rfl ?_
    refine r_aload_n (pc := 176) (i := 0) dX11_count_176 rfl rfl ?_
    refine r_getfr (pc := 177) (b := 9) cks dX11_count_177 fl_X11_34 rfl (kK0 hK) (ltK hK (by decide)) (rK0_4 hK) ?_
    refine r_getfi (pc := 180) cks dX11_count_180 fl_X11_257 rfl (kS0 hS) (ltS0 hS) ?_
    refine r_top (b := N 8) (hst.1.2.1) ?_
    exact r_iret (pc := 183) dX11_count_183 trivial (by rw [show cntB L N n u tp 10 = (N 8) from rfl] at hq; exact hq)
  · refine r_tsw_in (pc := 1) (tgt := 184) dX11_count_1 (by decide) (by decide) rfl rfl ?_
    refine r_aload_n (pc := 184) (i := 0) dX11_count_184 rfl rfl ?_
    refine r_getfr (pc := 185) (b := 24) cks dX11_count_185 fl_X11_41 rfl (kK0 hK) (ltK hK (by decide)) (rK0_5 hK) ?_
    refine r_getfi (pc := 188) cks dX11_count_188 fl_X11_185 rfl (kK24 hK) (ltK hK (by decide)) ?_
    refine r_top (b := ((u : Nat) : Int)) (hu) ?_
    exact r_iret (pc := 191) dX11_count_191 trivial (by rw [show cntB L N n u tp 11 = ((u : Nat) : Int) from rfl] at hq; exact hq)
  · refine r_tsw_in (pc := 1) (tgt := 192) dX11_count_1 (by decide) (by decide) rfl rfl ?_
    refine r_aload_n (pc := 192) (i := 0) dX11_count_192 rfl rfl ?_
    refine r_getfi (pc := 193) cks dX11_count_193 fl_X11_13 rfl (kK0 hK) (ltK hK (by decide)) ?_
    refine r_top (b := ((tp : Nat) : Int)) (htp) ?_
    exact r_iret (pc := 196) dX11_count_196 trivial (by rw [show cntB L N n u tp 12 = ((tp : Nat) : Int) from rfl] at hq; exact hq)
  · refine r_tsw_in (pc := 1) (tgt := 197) dX11_count_1 (by decide) (by decide) rfl rfl ?_
    refine r_aload_n (pc := 197) (i := 0) dX11_count_197 rfl rfl ?_
    refine r_getfr (pc := 198) (b := 9) cks dX11_count_198 fl_X11_34 rfl (kK0 hK) (ltK hK (by decide)) (rK0_4 hK) ?_
    refine r_getfi (pc := 201) cks dX11_count_201 fl_X11_191 rfl (kS0 hS) (ltS0 hS) ?_
    refine r_top (b := sgV L N) (hst.1.2.2.1) ?_
    exact r_iret (pc := 204) dX11_count_204 trivial (by rw [show cntB L N n u tp 13 = (sgV L N) from rfl] at hq; exact hq)
  · refine r_tsw_in (pc := 1) (tgt := 205) dX11_count_1 (by decide) (by decide) rfl rfl ?_
    refine r_aload_n (pc := 205) (i := 0) dX11_count_205 rfl rfl ?_
    refine r_getfr (pc := 206) (b := 9) cks dX11_count_206 fl_X11_34 rfl (kK0 hK) (ltK hK (by decide)) (rK0_4 hK) ?_
    refine r_getfr (pc := 209) (b := 9 + 11) cks dX11_count_209 fl_X11_159 rfl (kS0 hS) (ltS0 hS) (rS0_13 hS) ?_
    refine r_getfi (pc := 212) cks dX11_count_212 fl_X11_260 rfl (kS11 hS) (ltS (k := 11) hS (by omega)) ?_
    refine r_top (b := N 9) (hst.2.2.2.2.2.2.1) ?_
    exact r_iret (pc := 215) dX11_count_215 trivial (by rw [show cntB L N n u tp 14 = (N 9) from rfl] at hq; exact hq)
  · refine r_tsw_in (pc := 1) (tgt := 216) dX11_count_1 (by decide) (by decide) rfl rfl ?_
    refine r_aload_n (pc := 216) (i := 0) dX11_count_216 rfl rfl ?_
    refine r_getfr (pc := 217) (b := 9) cks dX11_count_217 fl_X11_34 rfl (kK0 hK) (ltK hK (by decide)) (rK0_4 hK) ?_
    refine r_getfr (pc := 220) (b := 9 + 11) cks dX11_count_220 fl_X11_159 rfl (kS0 hS) (ltS0 hS) (rS0_13 hS) ?_
    refine r_getfi (pc := 223) cks dX11_count_223 fl_X11_263 rfl (kS11 hS) (ltS (k := 11) hS (by omega)) ?_
    refine r_top (b := N 10) (hst.2.2.2.2.2.2.2.1) ?_
    exact r_iret (pc := 226) dX11_count_226 trivial (by rw [show cntB L N n u tp 15 = (N 10) from rfl] at hq; exact hq)
  · refine r_tsw_in (pc := 1) (tgt := 227) dX11_count_1 (by decide) (by decide) rfl rfl ?_
    refine r_aload_n (pc := 227) (i := 0) dX11_count_227 rfl rfl ?_
    refine r_getfr (pc := 228) (b := 9) cks dX11_count_228 fl_X11_34 rfl (kK0 hK) (ltK hK (by decide)) (rK0_4 hK) ?_
    refine r_getfr (pc := 231) (b := 9 + 11) cks dX11_count_231 fl_X11_159 rfl (kS0 hS) (ltS0 hS) (rS0_13 hS) ?_
    refine r_getfi (pc := 234) cks dX11_count_234 fl_X11_266 rfl (kS11 hS) (ltS (k := 11) hS (by omega)) ?_
    refine r_top (b := N 11) (hst.2.2.2.2.2.2.2.2.1) ?_
    exact r_iret (pc := 237) dX11_count_237 trivial (by rw [show cntB L N n u tp 16 = (N 11) from rfl] at hq; exact hq)
end C59

section C42
variable {G : Gl} {d : Nat} {T : Sh} {I : Mi} {N : Nat → Int} {Q : Option AV → Sh → Mi → Prop}
theorem bs_new {R K Z Y W S : Nat → Int} {n q : Nat} (h : BsP R K n Z Y) (hn : n ≤ 256) (hW : WkP W S) (hq : q < n) (hs : sb S q = true) (hl : ∀ j, j < q → sb S j = false) (hh : hiP S n) : BsP (cpyR W 0 R (4 * q) 4) (un K q 1) n (bsS S Z q 8) (un Y q 1) := by
  intro p hp
  obtain ⟨h0, h1⟩ := h p hp
  by_cases g : p = q
  · subst g
    refine ⟨by rw [un_at, un_at], fun _ => ⟨hq, fun j hj => ?_, ?_, fun j hj => ?_, fun j j1 j2 => ?_⟩⟩
    · rw [sb_bs hj, cpyR_in (by omega), show 0 + (4 * p + j / 64 - 4 * p) = j / 64 by omega]
      exact hW j hj
    · rw [sb_bs hp]; exact hs
    · rw [sb_bs (by omega)]; exact hl j hj
    · rw [sb_bs j1]; exact hh j j1 j2
  · refine ⟨by rw [un_ne g, un_ne g]; exact h0, fun hy => ?_⟩
    rw [un_ne g] at hy
    obtain ⟨a1, a2, a3, a4, a5⟩ := h1 hy
    refine ⟨a1, fun j hj => ?_, ?_, fun j hj => ?_, fun j j1 j2 => ?_⟩
    · rw [sb_bn g hj, cpyR_out (by omega)]; exact a2 j hj
    · rw [sb_bn g hp]; exact a3
    · rw [sb_bn g (by omega)]; exact a4 j hj
    · rw [sb_bn g j1]; exact a5 j j1 j2
/-- the bases and their count lie in a Span -/
def SpP (K : Mi) (z n : Nat) (E : (Nat → Int) × (Nat → Int) × Int) : Prop := BsP (K (z + 1)) (K (z + 2)) n E.1 E.2.1 ∧ K z 3 = E.2.2
theorem tk_0 {n : Nat} {S Z Y : Nat → Int} {r : Int} (h : (rdF Z Y n 0 S).1 = 0) : tkD n (S, Z, Y, r) = ((rdF Z Y n 0 S).2, Z, Y, r) := by
  unfold tkD
  rw [if_neg (show ¬ (rdF Z Y n 0 S).1 = 1 by rw [h]; decide)]
theorem tk_1 {n q : Nat} {S Z Y : Nat → Int} {r : Int} (h : (rdF Z Y n 0 S).1 = 1) (hq : q < n) (hs : sb (rdF Z Y n 0 S).2 q = true) (hl : ∀ j, j < q → sb (rdF Z Y n 0 S).2 j = false) : tkD n (S, Z, Y, r) = ((rdF Z Y n 0 S).2, bsS (rdF Z Y n 0 S).2 Z q 8, un Y q 1, w32 (r + 1)) := by
  unfold tkD
  rw [if_pos (show (rdF Z Y n 0 S).1 = 1 from h)]
  have e : lsS (rdF Z Y n 0 S).2 n n 0 = (q : Int) := lsS_lo n 0 q (Nat.zero_le _) (by omega) hs (fun j _ hj => hl j hj)
  show (_, _) = _
  rw [show lsS (rdF (S, Z, Y, r).2.1 (S, Z, Y, r).2.2.1 n 0 (S, Z, Y, r).1).2 n n 0 = (q : Int) from e, Int.toNat_natCast]
theorem k_addWork {z n : Nat} {Z Y S : Nat → Int} {r : Int} (hZ : ShZ T z) (hd : 2 ≤ d) (hn : n ≤ 256) (hW : WkP (I (z + 3)) S) (hhi : hiP S n) (hB : BsP (I (z + 1)) (I (z + 2)) n Z Y) (hr : I z 3 = r) (hq : ∀ K : Mi, (∀ b, b < z ∨ z + 4 ≤ b → K b = I b) → SpP K z n (tkD n (S, Z, Y, r)).2 → Q none T K) : EvE G mX8_addWork d [aR z] T I Q := by
  refine EvE.mk (lv0 := [some (aR z), none]) (Nat.le_of_ble_eq_true rfl) (by decide +kernel) rfl ?_
  refine r_aload_n (pc := 0) (i := 0) dX8_addWork_0 rfl rfl ?_
  refine r_callV1 (pc := 1) (d - 1) [] dX8_addWork_1 (CV.mk2 mk_X8_reduceWork lk_X8_73) (RC.of (ltZ0 hZ) (kZ0 hZ) (by decide) rfl) rfl rfl (by omega) (Nat.le_of_ble_eq_true rfl) (Nat.le_of_ble_eq_true rfl) (k_reduceWork hZ (by omega) hn hW hhi hB ?_ ?_)
  · intro h0 W hW2
    refine ⟨_, rfl, fun _ => ?_⟩
    refine r_istore_n (pc := 4) (i := 1) (lv' := [_, _]) dX8_addWork_4 rfl (by decide) rfl ?_
    refine r_iload_n (pc := 5) (i := 1) dX8_addWork_5 rfl rfl ?_
    refine r_iconst (pc := 6) dX8_addWork_6 (in32_of rfl) ?_
    refine r_icmp_eq (pc := 7) (tgt := 43) dX8_addWork_7 rfl (fun c7 => ?_) (fun c7 => absurd (by omega) c7)
    exact r_vret (pc := 43) dX8_addWork_43 trivial (hq _ (fun b hb => sr_ne (by omega)) (by rw [tk_0 h0]; exact ⟨by rw [sr_ne (by omega), sr_ne (by omega)]; exact hB, (congrFun (sr_ne (by omega)) 3).trans hr⟩))
  · intro q h1 hqn hqs hql hqh W hW2
    refine ⟨_, rfl, fun _ => ?_⟩
    refine r_istore_n (pc := 4) (i := 1) (lv' := [_, _]) dX8_addWork_4 rfl (by decide) rfl ?_
    refine r_iload_n (pc := 5) (i := 1) dX8_addWork_5 rfl rfl ?_
    refine r_iconst (pc := 6) dX8_addWork_6 (in32_of rfl) ?_
    refine r_icmp_eq (pc := 7) (tgt := 43) dX8_addWork_7 rfl (fun c7 => absurd c7 (by omega)) (fun c7 => ?_)
    refine r_aload_n (pc := 10) (i := 0) dX8_addWork_10 rfl rfl ?_
    refine r_getfr (pc := 11) (b := z + 3) cks dX8_addWork_11 fl_X8_19 rfl (kZ0 hZ) (ltZ0 hZ) (rZ0_2 hZ) ?_
    refine r_iconst (pc := 14) dX8_addWork_14 (in32_of rfl) ?_
    refine r_aload_n (pc := 15) (i := 0) dX8_addWork_15 rfl rfl ?_
    refine r_getfr (pc := 16) (b := z + 1) cks dX8_addWork_16 fl_X8_9 rfl (kZ0 hZ) (ltZ0 hZ) (rZ0_0 hZ) ?_
    refine r_iload_n (pc := 19) (i := 1) dX8_addWork_19 rfl rfl ?_
    refine r_iconst (pc := 20) dX8_addWork_20 (in32_of rfl) ?_
    refine r_imulN (pc := 21) (c := ((4 * q : Nat) : Int)) dX8_addWork_21 (by unfold w32; omega) ?_
    refine r_iconst (pc := 22) dX8_addWork_22 (in32_of rfl) ?_
    refine r_cpN (pc := 23) (a := z + 1) (a0 := z + 3) (0) (4 * q) (4) dX8_addWork_23 (by omega) ac_X8_38 (Nat.le_of_ble_eq_true rfl) (Or.inr (kZ1 hZ)) ((kZ3 hZ).trans (kZ1 hZ).symm) (ltZ (k := 1) hZ (by omega)) (ltZ (k := 3) hZ (by omega)) (by omega) (by omega) (by omega) (by rw [lZ3 hZ]; omega) (by rw [lZ1 hZ]; omega) ?_
    refine r_mem (I2 := sr (sr I (z + 3) W) (z + 1) (cpyR W 0 (I (z + 1)) (4 * q) 4)) ((congr (congrArg (fun fz_ gz_ => sr (sr I (z + 3) W) (z + 1) (cpyR fz_ 0 gz_ (4 * q) 4)) (show (sr I (z + 3) W) (z + 3) = W from sr_row _ _ _)) (show (sr I (z + 3) W) (z + 1) = I (z + 1) from (sr_ne (by omega)).trans (rfl))).trans (rfl)) ?_
    refine r_aload_n (pc := 26) (i := 0) dX8_addWork_26 rfl rfl ?_
    refine r_getfr (pc := 27) (b := z + 2) cks dX8_addWork_27 fl_X8_15 rfl (kZ0 hZ) (ltZ0 hZ) (rZ0_1 hZ) ?_
    refine r_iload_n (pc := 30) (i := 1) dX8_addWork_30 rfl rfl ?_
    refine r_iconst (pc := 31) dX8_addWork_31 (in32_of rfl) ?_
    refine r_ist (pc := 32) (q) dX8_addWork_32 (kZ2 hZ) (ltZ (k := 2) hZ (by omega)) rfl (by rw [lZ2 hZ]; omega) ?_
    refine r_mem (I2 := sr (sr (sr I (z + 3) W) (z + 1) (cpyR W 0 (I (z + 1)) (4 * q) 4)) (z + 2) (un (I (z + 2)) q 1)) ((up2_row _ _ _ _).trans ((congrArg (fun fz_ => sr (sr (sr I (z + 3) W) (z + 1) (cpyR W 0 (I (z + 1)) (4 * q) 4)) (z + 2) (un fz_ q 1)) (show (sr (sr I (z + 3) W) (z + 1) (cpyR W 0 (I (z + 1)) (4 * q) 4)) (z + 2) = I (z + 2) from (sr_ne (by omega)).trans ((sr_ne (by omega)).trans (rfl)))).trans (rfl))) ?_
    refine r_aload_n (pc := 33) (i := 0) dX8_addWork_33 rfl rfl ?_
    refine r_dup (pc := 34) dX8_addWork_34 rfl ?_
    refine r_getfi (pc := 35) cks dX8_addWork_35 fl_X8_22 rfl (kZ0 hZ) (ltZ0 hZ) ?_
    refine r_top (b := I z 3) ((congrFun (sr_ne (by omega)) _).trans ((congrFun (sr_ne (by omega)) _).trans ((congrFun (sr_ne (by omega)) _).trans (rfl)))) ?_
    refine r_top (b := r) (hr) ?_
    refine r_iconst (pc := 38) dX8_addWork_38 (in32_of rfl) ?_
    refine r_iaddN (pc := 39) (c := (w32 (r + 1))) dX8_addWork_39 rfl ?_
    refine r_putfi (pc := 40) cks dX8_addWork_40 fl_X8_22 (pf_8_3 _ _) rfl (kZ0 hZ) (ltZ0 hZ) ?_
    refine r_mem (I2 := sr (sr (sr (sr I (z + 3) W) (z + 1) (cpyR W 0 (I (z + 1)) (4 * q) 4)) (z + 2) (un (I (z + 2)) q 1)) z (un (I z) 3 (w32 (r + 1)))) ((up2_row _ _ _ _).trans ((congrArg (fun fz_ => sr (sr (sr (sr I (z + 3) W) (z + 1) (cpyR W 0 (I (z + 1)) (4 * q) 4)) (z + 2) (un (I (z + 2)) q 1)) z (un fz_ 3 (w32 (r + 1)))) (show (sr (sr (sr I (z + 3) W) (z + 1) (cpyR W 0 (I (z + 1)) (4 * q) 4)) (z + 2) (un (I (z + 2)) q 1)) z = I z from (sr_ne (by omega)).trans ((sr_ne (by omega)).trans ((sr_ne (by omega)).trans (rfl))))).trans (rfl))) ?_
    refine r_vret (pc := 43) dX8_addWork_43 trivial (hq _ (fun b hb => by rw [sr_ne (show b ≠ z by omega), sr_ne (show b ≠ z + 2 by omega), sr_ne (show b ≠ z + 1 by omega), sr_ne (show b ≠ z + 3 by omega)]) ?_)
    rw [tk_1 h1 hqn hqs hql]
    refine ⟨?_, ?_⟩
    · have e1 : (sr (sr (sr (sr I (z + 3) W) (z + 1) (cpyR W 0 (I (z + 1)) (4 * q) 4)) (z + 2) (un (I (z + 2)) q 1)) z (un (I z) 3 (w32 (r + 1)))) (z + 1) = cpyR W 0 (I (z + 1)) (4 * q) 4 := by rw [sr_ne (show z + 1 ≠ z by omega), sr_ne (show z + 1 ≠ z + 2 by omega), sr_row]
      have e2 : (sr (sr (sr (sr I (z + 3) W) (z + 1) (cpyR W 0 (I (z + 1)) (4 * q) 4)) (z + 2) (un (I (z + 2)) q 1)) z (un (I z) 3 (w32 (r + 1)))) (z + 2) = un (I (z + 2)) q 1 := by rw [sr_ne (show z + 2 ≠ z by omega), sr_row]
      rw [e1, e2]
      exact bs_new hB hn hW2 hqn hqs hql hqh
    · have e0 : (sr (sr (sr (sr I (z + 3) W) (z + 1) (cpyR W 0 (I (z + 1)) (4 * q) 4)) (z + 2) (un (I (z + 2)) q 1)) z (un (I z) 3 (w32 (r + 1)))) z = un (I z) 3 (w32 (r + 1)) := by rw [sr_row]
      rw [e0, un_at]
theorem wk_1 {F S : Nat → Int} {x : Nat} (hx : x < 256) : WkP (un (fiR F 0 4) (x / 64) (lsl 1 ((x % 64 : Nat) : Int))) (adS (z8 S 8) x) := by
  intro q hq
  rw [sb_adS, sb_z8 hq, Bool.false_xor]
  unfold un
  by_cases g : q / 64 = x / 64
  · rw [if_pos g, b64_bit]
    by_cases h : x = q
    · rw [decide_eq_true h, decide_eq_true (by rw [h])]
    · rw [decide_eq_false h, decide_eq_false (by omega)]
  · rw [if_neg g, fiR_in (by omega), b64_0]
    exact (decide_eq_false (by intro e; exact g (by rw [e]))).symm
theorem hi_1 {S : Nat → Int} {x n : Nat} (hx : x < n) : hiP (adS (z8 S 8) x) n := by
  intro q q1 q2
  rw [sb_adS, sb_z8 q1, Bool.false_xor]
  exact decide_eq_false (by omega)
theorem k_setPlace {z x : Nat} (hZ : ShZ T z) (hd : 1 ≤ d) (hx : x < 256) (hq : Q none T (sr I (z + 3) (un (fiR (I (z + 3)) 0 4) (x / 64) (lsl 1 ((x % 64 : Nat) : Int))))) : EvE G mX8_setPlace d [aR z, aI ((x : Nat) : Int)] T I Q := by
  refine EvE.mk (lv0 := [some (aR z), some (aI ((x : Nat) : Int))]) (Nat.le_of_ble_eq_true rfl) (by decide +kernel) rfl ?_
  refine r_aload_n (pc := 0) (i := 0) dX8_setPlace_0 rfl rfl ?_
  refine r_getfr (pc := 1) (b := z + 3) cks dX8_setPlace_1 fl_X8_19 rfl (kZ0 hZ) (ltZ0 hZ) (rZ0_2 hZ) ?_
  refine r_lconst (pc := 4) (z := 0) dX8_setPlace_4 rfl (in64_of rfl) ?_
  refine r_callS0 (pc := 5) (d - 1) [aR (z + 3), aL 0] dX8_setPlace_5 (CS.mk2 mk_J7_fill_d0a16 lk_X8_77) rfl rfl (by omega) (Nat.le_of_ble_eq_true rfl) (Nat.le_of_ble_eq_true rfl) (k_fillL (x := z + 3) (lx := 4) (kZ3 hZ) (ltZ hZ (by omega)) (lZ3 hZ) (by omega) ?_)
  refine ⟨rfl, fun _ => ?_⟩
  refine r_mem (I2 := sr I (z + 3) (fiR (I (z + 3)) 0 4)) ((congrArg (fun v0_ => (sr I (z + 3) (fiR v0_ 0 4))) (show I (z + 3) = I (z + 3) from rfl)).trans (rfl)) ?_
  refine r_aload_n (pc := 8) (i := 0) dX8_setPlace_8 rfl rfl ?_
  refine r_getfr (pc := 9) (b := z + 3) cks dX8_setPlace_9 fl_X8_19 rfl (kZ0 hZ) (ltZ0 hZ) (rZ0_2 hZ) ?_
  refine r_iload_n (pc := 12) (i := 1) dX8_setPlace_12 rfl rfl ?_
  refine r_bipush (pc := 13) dX8_setPlace_13 rfl (in32_of rfl) ?_
  refine r_ishr (pc := 15) dX8_setPlace_15 ?_
  refine r_top (b := (((x / 64) : Nat) : Int)) (isr_6 (by omega)) ?_
  refine r_lconst (pc := 16) (z := 1) dX8_setPlace_16 rfl (in64_of rfl) ?_
  refine r_iload_n (pc := 17) (i := 1) dX8_setPlace_17 rfl rfl ?_
  refine r_bipush (pc := 18) dX8_setPlace_18 rfl (in32_of rfl) ?_
  refine r_iand (pc := 20) dX8_setPlace_20 ?_
  refine r_top (b := (((x % 64) : Nat) : Int)) (ian_63 (by omega)) ?_
  refine r_lshl (pc := 21) dX8_setPlace_21 ?_
  refine r_lst (pc := 22) ((x / 64)) dX8_setPlace_22 (kZ3 hZ) (ltZ (k := 3) hZ (by omega)) rfl (by rw [lZ3 hZ]; omega) ?_
  refine r_mem (I2 := sr I (z + 3) (un (fiR (I (z + 3)) 0 4) (x / 64) (lsl 1 (((x % 64) : Nat) : Int)))) ((up2_row _ _ _ _).trans ((congrArg (fun fz_ => sr (sr I (z + 3) (fiR (I (z + 3)) 0 4)) (z + 3) (un fz_ (x / 64) (lsl 1 (((x % 64) : Nat) : Int)))) (show (sr I (z + 3) (fiR (I (z + 3)) 0 4)) (z + 3) = fiR (I (z + 3)) 0 4 from sr_row _ _ _)).trans (sr_sr _ _ _ _))) ?_
  exact r_vret (pc := 23) dX8_setPlace_23 trivial hq
theorem k_holdsPlace {z n x : Nat} {Z Y S : Nat → Int} (hZ : ShZ T z) (hd : 2 ≤ d) (hn : n ≤ 256) (hx : x < n) (hB : BsP (I (z + 1)) (I (z + 2)) n Z Y) (hq : ∀ W, Q (some (aI (fxI Z Y S n x))) T (sr I (z + 3) W)) : EvE G mX8_holdsPlace d [aR z, aI ((x : Nat) : Int)] T I Q := by
  refine EvE.mk (lv0 := [some (aR z), some (aI ((x : Nat) : Int))]) (Nat.le_of_ble_eq_true rfl) (by decide +kernel) rfl ?_
  refine r_aload_n (pc := 0) (i := 0) dX8_holdsPlace_0 rfl rfl ?_
  refine r_iload_n (pc := 1) (i := 1) dX8_holdsPlace_1 rfl rfl ?_
  refine r_callV0 (pc := 2) (d - 1) [aI ((x : Nat) : Int)] dX8_holdsPlace_2 (CV.mk2 mk_X8_setPlace lk_X8_55) (RC.of (ltZ0 hZ) (kZ0 hZ) (by decide) rfl) rfl rfl (by omega) (Nat.le_of_ble_eq_true rfl) (Nat.le_of_ble_eq_true rfl) (k_setPlace (x := x) hZ (by omega) (by omega) ?_)
  refine ⟨rfl, fun _ => ?_⟩
  refine r_mem (I2 := sr I (z + 3) (un (fiR (I (z + 3)) 0 4) (x / 64) (lsl 1 ((x % 64 : Nat) : Int)))) ((congrArg (fun v0_ => (sr I (z + 3) (un (fiR v0_ 0 4) (x / 64) (lsl 1 ((x % 64 : Nat) : Int))))) (show I (z + 3) = I (z + 3) from rfl)).trans (rfl)) ?_
  refine r_aload_n (pc := 5) (i := 0) dX8_holdsPlace_5 rfl rfl ?_
  refine r_callV1 (pc := 6) (d - 1) [] dX8_holdsPlace_6 (CV.mk2 mk_X8_reduceWork lk_X8_73) (RC.of (ltZ0 hZ) (kZ0 hZ) (by decide) rfl) rfl rfl (by omega) (Nat.le_of_ble_eq_true rfl) (Nat.le_of_ble_eq_true rfl) (k_reduceWork (n := n) (Z := Z) (Y := Y) (S0 := adS (z8 S 8) x) hZ (by omega) hn (by rw [sr_row]; exact wk_1 (by omega)) (hi_1 hx) (by rw [sr_ne (by omega), sr_ne (by omega)]; exact hB) ?_ ?_)
  · intro h0 W hW2
    refine ⟨_, rfl, fun _ => ?_⟩
    refine r_iconst (pc := 9) dX8_holdsPlace_9 (in32_of rfl) ?_
    refine r_icmp_ne (pc := 10) (tgt := 17) dX8_holdsPlace_10 rfl (fun c10 => absurd c10 (by omega)) (fun c10 => ?_)
    have c10 := Decidable.of_not_not c10
    refine r_iconst (pc := 13) dX8_holdsPlace_13 (in32_of rfl) ?_
    refine r_goto (pc := 14) (tgt := 18) dX8_holdsPlace_14 rfl ?_
    exact r_iret (pc := 18) dX8_holdsPlace_18 (Or.inr rfl) (by rw [sr_sr]; have h := hq W; rw [show fxI Z Y S n x = 1 from bi_t h0] at h; exact h)
  · intro q h1 hqn hqs hql hqh W hW2
    refine ⟨_, rfl, fun _ => ?_⟩
    refine r_iconst (pc := 9) dX8_holdsPlace_9 (in32_of rfl) ?_
    refine r_icmp_ne (pc := 10) (tgt := 17) dX8_holdsPlace_10 rfl (fun c10 => ?_) (fun c10 => absurd (by omega) c10)
    refine r_iconst (pc := 17) dX8_holdsPlace_17 (in32_of rfl) ?_
    exact r_iret (pc := 18) dX8_holdsPlace_18 (Or.inl rfl) (by rw [sr_sr]; have h := hq W; rw [show fxI Z Y S n x = 0 from bi_f (by rw [h1]; decide)] at h; exact h)
theorem k_spClear {z n : Nat} {Z Y : Nat → Int} (hZ : ShZ T z) (hd : 1 ≤ d) (hq : ∀ K : Mi, (∀ b, b < z ∨ z + 4 ≤ b → K b = I b) → SpP K z n (Z, z8 Y 256, 0) → Q none T K) : EvE G mX8_clear d [aR z] T I Q := by
  refine EvE.mk (lv0 := [some (aR z)]) (Nat.le_of_ble_eq_true rfl) (by decide +kernel) rfl ?_
  refine r_aload_n (pc := 0) (i := 0) dX8_clear_0 rfl rfl ?_
  refine r_getfr (pc := 1) (b := z + 2) cks dX8_clear_1 fl_X8_15 rfl (kZ0 hZ) (ltZ0 hZ) (rZ0_1 hZ) ?_
  refine r_iconst (pc := 4) dX8_clear_4 (in32_of rfl) ?_
  refine r_callS0 (pc := 5) (d - 1) [aR (z + 2), aI 0] dX8_clear_5 (CS.mk2 mk_J7_fill_53178 lk_X8_26) rfl rfl (by omega) (Nat.le_of_ble_eq_true rfl) (Nat.le_of_ble_eq_true rfl) (k_fillI (x := z + 2) (lx := 256) (kZ2 hZ) (ltZ hZ (by omega)) (lZ2 hZ) (by omega) ?_)
  refine ⟨rfl, fun _ => ?_⟩
  refine r_mem (I2 := sr I (z + 2) (fiR (I (z + 2)) 0 256)) ((congrArg (fun v0_ => (sr I (z + 2) (fiR v0_ 0 256))) (show I (z + 2) = I (z + 2) from rfl)).trans (rfl)) ?_
  refine r_aload_n (pc := 8) (i := 0) dX8_clear_8 rfl rfl ?_
  refine r_iconst (pc := 9) dX8_clear_9 (in32_of rfl) ?_
  refine r_putfi (pc := 10) cks dX8_clear_10 fl_X8_22 (pf_8_3 _ _) rfl (kZ0 hZ) (ltZ0 hZ) ?_
  refine r_mem (I2 := sr (sr I (z + 2) (fiR (I (z + 2)) 0 256)) z (un (I z) 3 0)) ((up2_row _ _ _ _).trans ((congrArg (fun fz_ => sr (sr I (z + 2) (fiR (I (z + 2)) 0 256)) z (un fz_ 3 0)) (show (sr I (z + 2) (fiR (I (z + 2)) 0 256)) z = I z from (sr_ne (by omega)).trans (rfl))).trans (rfl))) ?_
  exact r_vret (pc := 13) dX8_clear_13 trivial (hq _ (fun b hb => by rw [sr_ne (by omega), sr_ne (by omega)]) ⟨fun p hp => ⟨by rw [sr_ne (show z + 2 ≠ z by omega), sr_row, fiR_in hp]; exact ⟨fun _ => if_pos hp, fun _ => rfl⟩, fun h => absurd (show z8 Y 256 p = 0 from if_pos hp) h⟩, by rw [sr_row, un_at]⟩)
theorem adS_c {S X : Nat → Int} {x q : Nat} (h : sb S q = sb X q) : sb (adS S x) q = sb (adS X x) q := by rw [sb_adS, sb_adS, h]
theorem stO_c {N S X : Nat → Int} {p b q : Nat} (h : sb S q = sb X q) : ∀ m, sb (stO N p b S m) q = sb (stO N p b X m) q := by
  intro m
  induction m with
  | zero => exact h
  | succ m ih => rw [stO_succ, stO_succ]; exact adS_c ih
theorem stE_c {S X : Nat → Int} {c : Int} {b q : Nat} (h : sb S q = sb X q) : ∀ m, sb (stE c b S m) q = sb (stE c b X m) q := by
  intro m
  induction m with
  | zero => exact h
  | succ m ih =>
    rw [stE_succ, stE_succ]
    split
    · exact adS_c ih
    · split
      · exact adS_c ih
      · exact ih
theorem lrS_c {N S X : Nat → Int} {r i q : Nat} (h : sb S q = sb X q) (k : Nat) : sb (lrS N r i S k) q = sb (lrS N r i X k) q := by rw [sb_lrS, sb_lrS, h]
theorem stF_sb {N : Nat → Int} {n k q : Nat} (hq : q < 256) (hn : nN N = n) (X : Nat → Int) : sb (stF N n k X) q = sbR N k q := by
  rw [sbR_eq, hn]
  have h : sb (z8 X 8) q = sb (z8 (fun _ => 0) 8) q := by rw [sb_z8 hq, sb_z8 hq]
  unfold stF
  split
  · exact stO_c h _
  · split
    · exact stE_c h _
    · exact lrS_c h _
theorem stF_hi {N : Nat → Int} {n k qq : Nat} (hc : cdOk N qq n k) (hP : PmO N qq n) (X : Nat → Int) : hiP (stF N n k X) n := by
  intro q q1 q2
  have hn := hP.2.2.1
  have hq6 := hP.2.2.2.1
  have hz := sb_z8 (S := X) q1
  unfold stF
  rcases hc with ⟨a, p, b, m, h1, h2, h3, h4, h5⟩ | ⟨a, e, j, h1, h2, h3, h4⟩ | ⟨a, i, h1, h2, h3⟩
  · obtain ⟨c1, c2, c3, c4, c5⟩ := cd_0 h1 (by omega) (by omega) h5
    rw [if_pos c1, c3, c4, c5, Int.toNat_natCast, Int.toNat_natCast, Int.toNat_natCast]
    have key : ∀ x, x ≤ m → sb (stO N p b (z8 X 8) x) q = false := by
      intro x
      induction x with
      | zero => intro _; exact hz
      | succ x ih =>
        intro hx
        have := hP.2.2.2.2.1 p h2 (b + x) (by omega)
        rw [stO_succ, sb_adS, ih (by omega), Bool.false_xor]
        exact decide_eq_false (by omega)
    exact key m (Nat.le_refl m)
  · obtain ⟨c1, c2, c3, c4⟩ := cd_1 h1 (by omega) h3 h4
    rw [if_neg (by rw [c1]; decide), if_pos c1, c3, c4, Int.toNat_natCast]
    have key : ∀ x, x ≤ 8 → sb (stE (j : Int) e (z8 X 8) x) q = false := by
      intro x
      induction x with
      | zero => intro _; exact hz
      | succ x ih =>
        intro hx
        have ih2 := ih (by omega)
        rw [stE_succ]
        have hf : decide (8 * e + x = q) = false := decide_eq_false (by omega)
        split
        · rw [sb_adS, ih2, hf]; rfl
        · split
          · rw [sb_adS, ih2, hf]; rfl
          · exact ih2
    exact key 8 (Nat.le_refl 8)
  · obtain ⟨c1, c2, c3⟩ := cd_2 h1 h2 h3
    rw [if_neg (by rw [c1]; decide), if_neg (by rw [c1]; decide), sb_lrS, hz, decide_eq_false (show ¬ q < n by omega)]
    rfl
end C42

section C54
variable {G : Gl} {d : Nat} {T : Sh} {I : Mi} {N : Nat → Int} {Q : Option AV → Sh → Mi → Prop}
theorem cpy_sr (I : Mi) (a : Nat) (F : Nat → Int) (sp dp n : Nat) : cpy I a F sp dp n = sr I a (cpyR F sp (I a) dp n) := by
  funext b j
  unfold cpy sr cpyR
  by_cases g : b = a
  · subst g
    by_cases g2 : dp ≤ j ∧ j < dp + n
    · rw [if_pos ⟨rfl, g2⟩, if_pos rfl, if_pos g2]
    · rw [if_neg (fun h => g2 h.2), if_pos rfl, if_neg g2]
  · rw [if_neg (fun h => g h.1), if_neg g]
theorem k_planClear {u : Nat} (hu : ShP T u) (hd : 1 ≤ d) (hq : Q none T (sr I (u + 1) (cpyR eUsual 0 (I (u + 1)) 0 9))) : EvE G mX6_clear d [aR u] T I Q := by
  refine EvE.mk (lv0 := [some (aR u)]) (Nat.le_of_ble_eq_true rfl) (by decide +kernel) rfl ?_
  refine r_getsA (pc := 0) (e := 2) (by decide) dX6_clear_0 sl_X6_9 ?_
  refine r_iconst (pc := 3) dX6_clear_3 (in32_of rfl) ?_
  refine r_aload_n (pc := 4) (i := 0) dX6_clear_4 rfl rfl ?_
  refine r_getfr (pc := 5) (b := u + 1) cks dX6_clear_5 fl_X6_18 rfl (kP0 hu) (ltP0 hu) (rP0_0 hu) ?_
  refine r_iconst (pc := 8) dX6_clear_8 (in32_of rfl) ?_
  refine r_bipush (pc := 9) dX6_clear_9 rfl (in32_of rfl) ?_
  refine r_xcopy (pc := 11) (e := 3) (by decide) (by decide) dX6_clear_11 (by omega) ac_X6_23 (Nat.le_of_ble_eq_true rfl) (kP1 hu) (ltP (k := 1) hu (by omega)) (by decide) (by decide) (by decide) (by decide) (by rw [lP1 hu]; decide) ?_
  refine r_mem (I2 := sr I (u + 1) (cpyR eUsual 0 (I (u + 1)) 0 9)) (cpy_sr _ _ _ _ _ _) ?_
  exact r_vret (pc := 14) dX6_clear_14 trivial hq
theorem lnF_bd {B X : Nat → Int} {tp a : Nat} (ha : a ≤ tp) (ht : tp ≤ 200) : 0 ≤ lnF B tp eLeast eMost X a ∧ lnF B tp eLeast eMost X a ≤ 1700 := by
  have h1 := sA_le (B := B) ha
  have h2 := tA_le (B := B) ha
  unfold lnF
  split
  · omega
  · split
    · omega
    · split
      · omega
      · split
        · omega
        · omega
theorem cnB_un {D : Nat → Int} {w : Nat} (h : D w = 0) : ∀ m, cnB (fun k => decide (¬ un D w 1 k = 0)) m = cnB (fun k => decide (¬ D k = 0)) m + (if w < m then 1 else 0) := by
  intro m
  induction m with
  | zero => rfl
  | succ m ih =>
    show cnB (fun k => decide (¬ un D w 1 k = 0)) m + (if decide (¬ un D w 1 m = 0) = true then 1 else 0) = cnB (fun k => decide (¬ D k = 0)) m + (if decide (¬ D m = 0) = true then 1 else 0) + (if w < m + 1 then 1 else 0)
    rw [ih]
    by_cases g : m = w
    · subst g
      rw [un_at, h, if_neg (Nat.lt_irrefl m), if_pos (Nat.lt_succ_self m)]
      simp
    · rw [un_ne g]
      by_cases g2 : w < m
      · rw [if_pos g2, if_pos (show w < m + 1 by omega)]; omega
      · rw [if_neg g2, if_neg (show ¬ w < m + 1 by omega)]; omega
theorem w101 {z : Nat} (h : z ≤ 200) : w32 (-2 - ((8 * z + 1 : Nat) : Int)) = -2 - (8 * ((z : Nat) : Int) + 1) := by unfold w32; omega
abbrev RY := Nat × Nat × (Nat → Int) × (Nat → Int)
/-- the reader before a text is given -/
def ShQ (T : Sh) (r : Nat) : Prop := (r + 4 ≤ 291 ∧ 291 ≤ nx T) ∧ kd T r = 7 ∧ (kd T (r + 3) = 20 ∧ ln T (r + 3) = 9) ∧ (rf T r 0 = some (r + 1) ∧ rf T r 1 = some (r + 3)) ∧ ShP T (r + 1)
theorem ShR_of {T : Sh} {r x : Nat} (h : ShQ T r) (h1 : kd T x = 20) (h2 : ln T x = 200) (h3 : x < nx T) : ShR (rsT T r 2 x) r x := by
  obtain ⟨a, b, c, ⟨e1, e2⟩, ⟨p1, p2, p3, p4⟩⟩ := h
  refine ⟨a, b, c, ⟨?_, ?_, rs_at⟩, ⟨p1, p2, p3, ?_⟩, h1, h2, h3⟩
  · rw [rs_ne (by omega)]; exact e1
  · rw [rs_ne (by omega)]; exact e2
  · rw [rs_ne (by omega)]; exact p4
theorem k_read {r x tp : Nat} {B R0 X0 : Nat → Int} (hd : 7 ≤ d) (hq0 : ShQ T r) (hk1 : kd T x = 20) (hk2 : ln T x = 200) (hk3 : x < nx T) (htp2 : tp ≤ 200) (hB : ∀ k, k < tp → I x k = bA B tp k) (hxr : x ≠ r) (hx3 : x ≠ r + 3 ∧ x ≠ r + 2) (hR0 : ∀ k, k < 9 → R0 k = eUsual k) (hX0 : ∀ k, k < 9 → X0 k = 0) (hq : ∀ K : Mi, (∀ b, b ≠ r → b ≠ r + 2 → b ≠ r + 3 → K b = I b) → (0 ≤ (plF B tp eLeast eMost 201 0 R0 X0 0).1 → ∀ k, k < 9 → K (r + 2) k = (plF B tp eLeast eMost 201 0 R0 X0 0).2 k) → Q (some (aI (plF B tp eLeast eMost 201 0 R0 X0 0).1)) (rsT T r 2 x) K) : EvE G mX7_read d [aR r, aR x, aI ((tp : Nat) : Int)] T I Q := by
  have hr0 := hq0.1
  refine EvE.mk (lv0 := [some (aR r), some (aR x), some (aI ((tp : Nat) : Int)), none, none]) (Nat.le_of_ble_eq_true rfl) (by decide +kernel) rfl ?_
  refine r_aload_n (pc := 0) (i := 0) dX7_read_0 rfl rfl ?_
  refine r_aload_n (pc := 1) (i := 1) dX7_read_1 rfl rfl ?_
  refine r_putfr (pc := 2) cks dX7_read_2 fl_X7_22 (pf_7_2 _ _) rfl hq0.2.1 (by have := hq0.1; omega) ?_
  change Ev G mX7_read d _ _ _ (rsT T r 2 x) _ Q
  have hr := ShR_of hq0 hk1 hk2 hk3
  refine r_aload_n (pc := 5) (i := 0) dX7_read_5 rfl rfl ?_
  refine r_iload_n (pc := 6) (i := 2) dX7_read_6 rfl rfl ?_
  refine r_aload_n (pc := 7) (i := 1) dX7_read_7 rfl rfl ?_
  refine r_alen (pc := 8) dX7_read_8 (by rw [hr.2.2.2.2.2.1]; omega) hr.2.2.2.2.2.2.2 ?_
  refine r_top (b := 200) (by rw [hr.2.2.2.2.2.2.1] <;> rfl) ?_
  refine r_min (pc := 9) dX7_read_9 (by omega) ml_X7_32 (Nat.le_of_ble_eq_true rfl) ?_
  refine r_top (b := ((tp : Nat) : Int)) (by split <;> omega) ?_
  refine r_putfi (pc := 12) cks dX7_read_12 fl_X7_25 (pf_7_3 _ _) rfl hr.2.1 (by have := hr.1; omega) ?_
  refine r_mem (I2 := sr I r (un (I r) 3 ((tp : Nat) : Int))) ((up2_row _ _ _ _).trans ((congrArg (fun fz_ => sr I r (un fz_ 3 ((tp : Nat) : Int))) (show I r = I r from rfl)).trans (rfl))) ?_
  refine r_aload_n (pc := 15) (i := 0) dX7_read_15 rfl rfl ?_
  refine r_iconst (pc := 16) dX7_read_16 (in32_of rfl) ?_
  refine r_putfi (pc := 17) cks dX7_read_17 fl_X7_29 (pf_7_4 _ _) rfl hr.2.1 (by have := hr.1; omega) ?_
  refine r_mem (I2 := sr I r (un (un (I r) 3 ((tp : Nat) : Int)) 4 0)) ((up2_row _ _ _ _).trans ((congrArg (fun fz_ => sr (sr I r (un (I r) 3 ((tp : Nat) : Int))) r (un fz_ 4 0)) (show (sr I r (un (I r) 3 ((tp : Nat) : Int))) r = un (I r) 3 ((tp : Nat) : Int) from sr_row _ _ _)).trans (sr_sr _ _ _ _))) ?_
  refine r_aload_n (pc := 20) (i := 0) dX7_read_20 rfl rfl ?_
  refine r_getfr (pc := 21) (b := r + 1) cks dX7_read_21 fl_X7_12 rfl hr.2.1 (by have := hr.1; omega) hr.2.2.2.1.1 ?_
  refine r_callV0 (pc := 24) (d - 1) [] dX7_read_24 (CV.mk2 mk_X6_clear lk_X7_38) (RC.of (by have := hr.1; omega) (kP0 hr.2.2.2.2.1) (by decide) rfl) rfl rfl (by omega) (Nat.le_of_ble_eq_true rfl) (Nat.le_of_ble_eq_true rfl) (k_planClear hr.2.2.2.2.1 (by omega) ?_)
  refine ⟨rfl, fun _ => ?_⟩
  refine r_mem (I2 := sr (sr I r (un (un (I r) 3 ((tp : Nat) : Int)) 4 0)) (r + 1 + 1) (cpyR eUsual 0 (I (r + 1 + 1)) 0 9)) ((congrArg (fun v0_ => (sr (sr I r (un (un (I r) 3 ((tp : Nat) : Int)) 4 0)) (r + 1 + 1) (cpyR eUsual 0 v0_ 0 9))) (show (sr I r (un (un (I r) 3 ((tp : Nat) : Int)) 4 0)) (r + 1 + 1) = I (r + 1 + 1) from (sr_ne (by omega)).trans (rfl))).trans (rfl)) ?_
  refine r_aload_n (pc := 27) (i := 0) dX7_read_27 rfl rfl ?_
  refine r_getfr (pc := 28) (b := r + 3) cks dX7_read_28 fl_X7_18 rfl hr.2.1 (by have := hr.1; omega) hr.2.2.2.1.2.1 ?_
  refine r_iconst (pc := 31) dX7_read_31 (in32_of rfl) ?_
  refine r_callS0 (pc := 32) (d - 1) [aR (r + 3), aI 0] dX7_read_32 (CS.mk2 mk_J7_fill_53178 lk_X7_41) rfl rfl (by omega) (Nat.le_of_ble_eq_true rfl) (Nat.le_of_ble_eq_true rfl) (k_fillI (x := r + 3) (lx := 9) hr.2.2.1.1 (show r + 3 < nx T by omega) hr.2.2.1.2 (by omega) ?_)
  refine ⟨rfl, fun _ => ?_⟩
  refine r_mem (I2 := sr (sr (sr I r (un (un (I r) 3 ((tp : Nat) : Int)) 4 0)) (r + 1 + 1) (cpyR eUsual 0 (I (r + 1 + 1)) 0 9)) (r + 3) (fiR (I (r + 3)) 0 9)) ((congrArg (fun v0_ => (sr (sr (sr I r (un (un (I r) 3 ((tp : Nat) : Int)) 4 0)) (r + 1 + 1) (cpyR eUsual 0 (I (r + 1 + 1)) 0 9)) (r + 3) (fiR v0_ 0 9))) (show (sr (sr I r (un (un (I r) 3 ((tp : Nat) : Int)) 4 0)) (r + 1 + 1) (cpyR eUsual 0 (I (r + 1 + 1)) 0 9)) (r + 3) = I (r + 3) from (sr_ne (by omega)).trans ((sr_ne (by omega)).trans (rfl)))).trans (rfl)) ?_
  refine r_iconst (pc := 35) dX7_read_35 (in32_of rfl) ?_
  refine r_istore_n (pc := 36) (i := 3) (lv' := [_, _, _, _, _]) dX7_read_36 rfl (by decide) rfl ?_
  obtain ⟨K0, hK0⟩ : ∃ K0, K0 = sr (sr (sr I r (un (un (I r) 3 ((tp : Nat) : Int)) 4 0)) (r + 1 + 1) (cpyR eUsual 0 (I (r + 1 + 1)) 0 9)) (r + 3) (fiR (I (r + 3)) 0 9) := ⟨_, rfl⟩
  rw [← hK0]
  have hf0 : ∀ b, b ≠ r → b ≠ r + 2 → b ≠ r + 3 → K0 b = I b := fun b b0 b2 b3 => by rw [hK0, sr_ne (show b ≠ r + 3 by omega), sr_ne (show b ≠ r + 1 + 1 by omega), sr_ne (show b ≠ r by omega)]
  have h03 : K0 r 3 = (tp : Int) := by rw [hK0, sr_ne (show r ≠ r + 3 by omega), sr_ne (show r ≠ r + 1 + 1 by omega), sr_row]; exact (un_ne (by decide)).trans un_at
  have h04 : K0 r 4 = ((0 : Nat) : Int) := by rw [hK0, sr_ne (show r ≠ r + 3 by omega), sr_ne (show r ≠ r + 1 + 1 by omega), sr_row]; exact un_at
  have h0t : ∀ k, k < 9 → K0 (r + 3) k = 0 := fun k hk => by rw [hK0, sr_row]; exact fiR_in hk
  have h0n : ∀ k, k < 9 → K0 (r + 2) k = R0 k := fun k hk => by rw [show K0 (r + 2) = K0 (r + 1 + 1) from rfl, hK0, sr_ne (show r + 1 + 1 ≠ r + 3 by omega), sr_row, cpyR_in (by omega), hR0 k hk]; congr 1; omega
  have h0c : cnB (fun k => decide (¬ K0 (r + 3) k = 0)) 9 = 0 := by rw [cnB_ext (g := fun _ => false) 9 (fun k hk => by rw [h0t k hk]; rfl)]; rfl
  refine loop3 (fun (c : Nat) (K : Mi) (Y : RY) => (Y.1 ≤ tp ∧ 201 ≤ Y.2.1 + Y.1) ∧ plF B tp eLeast eMost Y.2.1 Y.1 Y.2.2.1 Y.2.2.2 c = plF B tp eLeast eMost 201 0 R0 X0 0 ∧ (∀ b, b ≠ r → b ≠ r + 2 → b ≠ r + 3 → K b = I b) ∧ (K r 3 = (tp : Int) ∧ K r 4 = ((Y.1 : Nat) : Int)) ∧ (∀ k, k < 9 → (K (r + 3) k = 0 ↔ Y.2.2.2 k = 0)) ∧ (∀ k, k < 9 → K (r + 2) k = Y.2.2.1 k) ∧ cnB (fun k => decide (¬ K (r + 3) k = 0)) 9 = c) (fun (c : Nat) (K : Mi) (Y : RY) => Y.2.1) (fun (c : Nat) (K : Mi) (Y : RY) => [some (aR r), some (aR x), some (aI ((tp : Nat) : Int)), some (aI ((c + 1 : Nat) : Int)), none]) (fun (c : Nat) (K : Mi) (Y : RY) => rsT T r 2 x) (fun (c : Nat) (K : Mi) (Y : RY) => K) ?_ 0 K0 (0, 201, R0, X0) ⟨⟨Nat.zero_le _, Nat.le_refl _⟩, rfl, hf0, ⟨h03, h04⟩, fun k hk => ⟨fun _ => hX0 k hk, fun _ => h0t k hk⟩, h0n, h0c⟩
  intro c K Y hP ih
  have hP : (Y.1 ≤ tp ∧ 201 ≤ Y.2.1 + Y.1) ∧ plF B tp eLeast eMost Y.2.1 Y.1 Y.2.2.1 Y.2.2.2 c = plF B tp eLeast eMost 201 0 R0 X0 0 ∧ (∀ b, b ≠ r → b ≠ r + 2 → b ≠ r + 3 → K b = I b) ∧ (K r 3 = (tp : Int) ∧ K r 4 = ((Y.1 : Nat) : Int)) ∧ (∀ k, k < 9 → (K (r + 3) k = 0 ↔ Y.2.2.2 k = 0)) ∧ (∀ k, k < 9 → K (r + 2) k = Y.2.2.1 k) ∧ cnB (fun k => decide (¬ K (r + 3) k = 0)) 9 = c := hP
  have hc9 : c ≤ 9 := by have := cnB_le (fun k => decide (¬ K (r + 3) k = 0)) 9; omega
  have hlr := lnF_bd (B := B) (X := Y.2.2.2) hP.1.1 htp2
  have hBk : ∀ k, k < tp → K x k = bA B tp k := fun k hk => (congrFun (hP.2.2.1 x hxr (by omega) (by omega)) k).trans (hB k hk)
  have hpu := plF_succ B tp eLeast eMost (Y.2.1 - 1) Y.1 Y.2.2.1 Y.2.2.2 c
  rw [show Y.2.1 - 1 + 1 = Y.2.1 by omega, hP.2.1] at hpu
  have hs200 : sA B tp (zA B tp Y.1) ≤ tp := sA_le (zA_le hP.1.1)
  refine (?_ : Ev G mX7_read d 37 [some (aR r), some (aR x), some (aI ((tp : Nat) : Int)), some (aI ((c + 1 : Nat) : Int)), none] [] (rsT T r 2 x) K Q)
  refine r_iload_n (pc := 37) (i := 3) dX7_read_37 rfl rfl ?_
  refine r_bipush (pc := 38) dX7_read_38 rfl (in32_of rfl) ?_
  refine r_icmp_gt (pc := 40) (tgt := 119) dX7_read_40 rfl (fun c40 => absurd c40 (by omega)) (fun c40 => ?_)
  refine r_aload_n (pc := 43) (i := 0) dX7_read_43 rfl rfl ?_
  refine r_callV1 (pc := 44) (d - 1) [] dX7_read_44 (CV.mk2 mk_X7_readLine lk_X7_47) (RC.of (by have := hr.1; omega) hr.2.1 (by decide) rfl) rfl rfl (by omega) (Nat.le_of_ble_eq_true rfl) (Nat.le_of_ble_eq_true rfl) (k_readLine (tp := tp) (a := Y.1) (B := B) (X := Y.2.2.2) hr (by omega) hP.2.2.2.1.1 htp2 hBk hxr hP.2.2.2.1.2 hP.1.1 hP.2.2.2.2.1 ⟨by omega, by omega⟩ ?_ ?_)
  · intro hln K1 hfr
    refine ⟨_, rfl, fun _ => ?_⟩
    refine r_istore (pc := 47) (i := 4) (lv' := [_, _, _, _, _]) dX7_read_47 (by decide) rfl ?_
    refine r_iload (pc := 49) (i := 4) dX7_read_49 rfl ?_
    refine r_if_eq (pc := 51) (tgt := 60) dX7_read_51 rfl (fun c51 => absurd c51 (by omega)) (fun c51 => ?_)
    refine r_bipush (pc := 54) dX7_read_54 rfl (in32_of rfl) ?_
    refine r_iload (pc := 56) (i := 4) dX7_read_56 rfl ?_
    refine r_isubN (pc := 58) (c := (-2 - lnF B tp eLeast eMost Y.2.2.2 Y.1)) dX7_read_58 (by unfold w32; omega) ?_
    rw [if_pos hln] at hpu
    exact r_iret (pc := 59) dX7_read_59 trivial (by have h := hq K1 (fun b b0 b2 b3 => (hfr b b0 b2 b3).trans (hP.2.2.1 b b0 b2 b3)) (by rw [hpu]; exact fun h => absurd (show (0 : Int) ≤ -2 - lnF B tp eLeast eMost Y.2.2.2 Y.1 from h) (by omega)); rw [hpu] at h; exact h)
  · intro hln K1 w hw1 hw9 hXw hfr h13 h14 h1t h1n
    refine ⟨_, rfl, fun _ => ?_⟩
    refine r_istore (pc := 47) (i := 4) (lv' := [_, _, _, _, _]) dX7_read_47 (by decide) rfl ?_
    refine r_iload (pc := 49) (i := 4) dX7_read_49 rfl ?_
    refine r_if_eq (pc := 51) (tgt := 60) dX7_read_51 rfl (fun c51 => ?_) (fun c51 => absurd (by omega) c51)
    refine r_aload_n (pc := 60) (i := 0) dX7_read_60 rfl rfl ?_
    refine r_callV0 (pc := 61) (d - 1) [] dX7_read_61 (CV.mk2 mk_X7_skipBlanks lk_X7_51) (RC.of (by have := hr.1; omega) hr.2.1 (by decide) rfl) rfl rfl (by omega) (Nat.le_of_ble_eq_true rfl) (Nat.le_of_ble_eq_true rfl) (k_blanks (tp := tp) (a := zA B tp Y.1) (B := B) hr (by omega) h13 htp2 (fun k hk => (congrFun (hfr x hxr (by omega) (by omega)) k).trans (hBk k hk)) hxr h14 (zA_le hP.1.1) ?_)
    refine ⟨rfl, fun _ => ?_⟩
    refine r_mem (I2 := sr K1 r (un (K1 r) 4 ((sA B tp (zA B tp Y.1) : Nat) : Int))) ((congrArg (fun v0_ => (sr K1 r (un v0_ 4 ((sA B tp (zA B tp Y.1) : Nat) : Int)))) (show K1 r = K1 r from rfl)).trans (rfl)) ?_
    refine r_aload_n (pc := 64) (i := 0) dX7_read_64 rfl rfl ?_
    refine r_getfi (pc := 65) cks dX7_read_65 fl_X7_29 rfl hr.2.1 (by have := hr.1; omega) ?_
    refine r_top (b := (un (K1 r) 4 ((sA B tp (zA B tp Y.1) : Nat) : Int)) 4) (sr_at _ _ _ _) ?_
    refine r_top (b := (((sA B tp (zA B tp Y.1)) : Nat) : Int)) (un_at) ?_
    refine r_aload_n (pc := 68) (i := 0) dX7_read_68 rfl rfl ?_
    refine r_getfi (pc := 69) cks dX7_read_69 fl_X7_25 rfl hr.2.1 (by have := hr.1; omega) ?_
    refine r_top (b := (un (K1 r) 4 ((sA B tp (zA B tp Y.1) : Nat) : Int)) 3) (sr_at _ _ _ _) ?_
    refine r_top (b := ((tp : Nat) : Int)) ((un_ne (by decide)).trans h13) ?_
    refine r_icmp_lt (pc := 72) (tgt := 77) dX7_read_72 rfl (fun c72 => ?_) (fun c72 => ?_)
    · refine r_aload_n (pc := 77) (i := 0) dX7_read_77 rfl rfl ?_
      refine r_getfr (pc := 78) (b := x) cks dX7_read_78 fl_X7_22 rfl hr.2.1 (by have := hr.1; omega) hr.2.2.2.1.2.2 ?_
      refine r_aload_n (pc := 81) (i := 0) dX7_read_81 rfl rfl ?_
      refine r_getfi (pc := 82) cks dX7_read_82 fl_X7_29 rfl hr.2.1 (by have := hr.1; omega) ?_
      refine r_top (b := (un (K1 r) 4 ((sA B tp (zA B tp Y.1) : Nat) : Int)) 4) (sr_at _ _ _ _) ?_
      refine r_top (b := (((sA B tp (zA B tp Y.1)) : Nat) : Int)) (un_at) ?_
      refine r_ild (pc := 85) ((sA B tp (zA B tp Y.1))) dX7_read_85 hr.2.2.2.2.2.1 hr.2.2.2.2.2.2.2 rfl (by rw [hr.2.2.2.2.2.2.1]; omega) ?_
      refine r_top (b := K1 x (sA B tp (zA B tp Y.1))) ((congrFun (sr_ne (by omega)) _).trans (rfl)) ?_
      refine r_top (b := bA B tp (sA B tp (zA B tp Y.1))) ((congrFun (hfr x hxr (by omega) (by omega)) _).trans (hBk _ (by omega))) ?_
      refine r_bipush (pc := 86) dX7_read_86 rfl (in32_of rfl) ?_
      refine r_icmp_eq (pc := 88) (tgt := 103) dX7_read_88 rfl (fun c88 => ?_) (fun c88 => ?_)
      · refine r_aload_n (pc := 103) (i := 0) dX7_read_103 rfl rfl ?_
        refine r_dup (pc := 104) dX7_read_104 rfl ?_
        refine r_getfi (pc := 105) cks dX7_read_105 fl_X7_29 rfl hr.2.1 (by have := hr.1; omega) ?_
        refine r_top (b := (un (K1 r) 4 ((sA B tp (zA B tp Y.1) : Nat) : Int)) 4) (sr_at _ _ _ _) ?_
        refine r_top (b := (((sA B tp (zA B tp Y.1)) : Nat) : Int)) (un_at) ?_
        refine r_iconst (pc := 108) dX7_read_108 (in32_of rfl) ?_
        refine r_iaddN (pc := 109) (c := (((sA B tp (zA B tp Y.1)) + 1 : Nat) : Int)) dX7_read_109 (by unfold w32; omega) ?_
        refine r_putfi (pc := 110) cks dX7_read_110 fl_X7_29 (pf_7_4 _ _) rfl hr.2.1 (by have := hr.1; omega) ?_
        refine r_mem (I2 := sr K1 r (un (un (K1 r) 4 ((sA B tp (zA B tp Y.1) : Nat) : Int)) 4 (((sA B tp (zA B tp Y.1)) + 1 : Nat) : Int))) ((up2_row _ _ _ _).trans ((congrArg (fun fz_ => sr (sr K1 r (un (K1 r) 4 ((sA B tp (zA B tp Y.1) : Nat) : Int))) r (un fz_ 4 (((sA B tp (zA B tp Y.1)) + 1 : Nat) : Int))) (show (sr K1 r (un (K1 r) 4 ((sA B tp (zA B tp Y.1) : Nat) : Int))) r = un (K1 r) 4 ((sA B tp (zA B tp Y.1) : Nat) : Int) from sr_row _ _ _)).trans (sr_sr _ _ _ _))) ?_
        refine r_iincN (pc := 113) (i := 3) (c := ((c + 2 : Nat) : Int)) (lv' := [_, _, _, _, _]) dX7_read_113 rfl (by decide) (by unfold w32; omega) rfl ?_
        refine r_goto (pc := 116) (tgt := 37) dX7_read_116 rfl ?_
        refine Ev.weak (lv2 := [some (aR r), some (aR x), some (aI ((tp : Nat) : Int)), some (aI ((c + 2 : Nat) : Int)), none]) ⟨Or.inr rfl, Or.inr rfl, Or.inr rfl, Or.inr rfl, Or.inl rfl, trivial⟩ ?_
        rw [if_neg (fun h => h hln), if_pos (by omega), hw1, Int.toNat_natCast] at hpu
        refine ih (c + 1) (sr K1 r (un (un (K1 r) 4 ((sA B tp (zA B tp Y.1) : Nat) : Int)) 4 (((sA B tp (zA B tp Y.1)) + 1 : Nat) : Int))) (sA B tp (zA B tp Y.1) + 1, Y.2.1 - 1, (un Y.2.2.1 w (xA B tp Y.1)), (un Y.2.2.2 w (ibw true 1))) ⟨⟨show sA B tp (zA B tp Y.1) + 1 ≤ tp by omega, show 201 ≤ (Y.2.1 - 1) + (sA B tp (zA B tp Y.1) + 1) by have g1 := zA_ge B tp Y.1; have g2 := sA_ge B tp (zA B tp Y.1); omega⟩, hpu.symm, fun b b0 b2 b3 => (sr_ne b0).trans ((hfr b b0 b2 b3).trans (hP.2.2.1 b b0 b2 b3)), ⟨?_, ?_⟩, fun k hk => ?_, fun k hk => ?_, ?_⟩ (show Y.2.1 - 1 < Y.2.1 by omega)
        · rw [sr_row, un_ne (by decide)]; exact (un_ne (by decide)).trans h13
        · show _ = (((sA B tp (zA B tp Y.1) + 1) : Nat) : Int); rw [sr_row, un_at]
        · show (_ = 0 ↔ (un Y.2.2.2 w (ibw true 1)) k = 0)
          rw [sr_ne (show r + 3 ≠ r by omega), h1t]
          by_cases g : k = w
          · rw [g, un_at, un_at]; exact ⟨fun h => absurd h (by decide), fun h => absurd h (by decide +kernel)⟩
          · rw [un_ne g, un_ne g]; exact hP.2.2.2.2.1 k hk
        · show _ = (un Y.2.2.1 w (xA B tp Y.1)) k
          rw [sr_ne (show r + 2 ≠ r by omega), h1n]
          by_cases g : k = w
          · rw [g, un_at, un_at]
          · rw [un_ne g, un_ne g]; exact hP.2.2.2.2.2.1 k hk
        · rw [sr_ne (show r + 3 ≠ r by omega), h1t, cnB_un ((hP.2.2.2.2.1 w hw9).mpr hXw), if_pos hw9, hP.2.2.2.2.2.2]
      · refine r_bipush (pc := 91) dX7_read_91 rfl (in32_of rfl) ?_
        refine r_aload_n (pc := 93) (i := 0) dX7_read_93 rfl rfl ?_
        refine r_getfi (pc := 94) cks dX7_read_94 fl_X7_29 rfl hr.2.1 (by have := hr.1; omega) ?_
        refine r_top (b := (un (K1 r) 4 ((sA B tp (zA B tp Y.1) : Nat) : Int)) 4) (sr_at _ _ _ _) ?_
        refine r_top (b := (((sA B tp (zA B tp Y.1)) : Nat) : Int)) (un_at) ?_
        refine r_iconst (pc := 97) dX7_read_97 (in32_of rfl) ?_
        refine r_callS1 (pc := 98) (d - 1) [aI (((sA B tp (zA B tp Y.1)) : Nat) : Int), aI 1] dX7_read_98 (CS.mk2 mk_X7_faultAt lk_X7_54) rfl rfl (by omega) (Nat.le_of_ble_eq_true rfl) (Nat.le_of_ble_eq_true rfl) (k_faultAt (pl := sA B tp (zA B tp Y.1)) (kk := 1) (by omega) (by decide) ?_)
        refine ⟨_, rfl, fun _ => ?_⟩
        refine r_isubN (pc := 101) (c := (-2 - (8 * ((sA B tp (zA B tp Y.1) : Nat) : Int) + 1))) dX7_read_101 (w101 (by omega)) ?_
        have hb0 := bA_rng (B := B) (tp := tp) (k := sA B tp (zA B tp Y.1)) (by omega)
        rw [if_neg (fun h => h hln), if_neg (by omega), if_neg (by omega)] at hpu
        exact r_iret (pc := 102) dX7_read_102 trivial (by have h := hq (sr K1 r (un (K1 r) 4 ((sA B tp (zA B tp Y.1) : Nat) : Int))) (fun b b0 b2 b3 => (sr_ne b0).trans ((hfr b b0 b2 b3).trans (hP.2.2.1 b b0 b2 b3))) (by rw [hpu]; exact fun h => absurd (show (0 : Int) ≤ -2 - (8 * (sA B tp (zA B tp Y.1) : Int) + 1) from h) (by omega)); rw [hpu] at h; exact h)
    · refine r_iload_n (pc := 75) (i := 3) dX7_read_75 rfl rfl ?_
      have hb1 : bA B tp (sA B tp (zA B tp Y.1)) = -1 := bA_out (by omega)
      rw [if_neg (fun h => h hln), hb1, if_neg (by decide), if_pos rfl, hw1, Int.toNat_natCast] at hpu
      exact r_iret (pc := 76) dX7_read_76 trivial (by have h := hq (sr K1 r (un (K1 r) 4 ((sA B tp (zA B tp Y.1) : Nat) : Int))) (fun b b0 b2 b3 => (sr_ne b0).trans ((hfr b b0 b2 b3).trans (hP.2.2.1 b b0 b2 b3))) (by rw [hpu]; exact fun _ k hk => by rw [sr_ne (show r + 2 ≠ r by omega), h1n]; by_cases g : k = w; (rw [g]; exact un_at.trans un_at.symm); exact (un_ne g).trans ((hP.2.2.2.2.2.1 k hk).trans (un_ne g).symm)); rw [hpu] at h; exact h)
end C54

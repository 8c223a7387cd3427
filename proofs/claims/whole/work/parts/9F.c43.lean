section C43
variable {G : Gl} {d : Nat} {T : Sh} {I : Mi} {N : Nat → Int} {Q : Option AV → Sh → Mi → Prop}
theorem wk_led {I K : Mi} {p o t k n : Nat} {N F X : Nat → Int} (hE : LdE I p o t N k) (hK : K t = I t) (hn : nN N = n) : WkP (cpyR (K t) (4 * k) F 0 4) (stF N n k X) := by
  intro q hq
  rw [stF_sb hq hn, cpyR_in (by omega), hK, Nat.sub_zero]
  exact hE.2.2 q hq
theorem wk_row {K : Mi} {x i n : Nat} {N F S : Nat → Int} (hn : n ≤ 256) (hR : Rng N) (h : ∀ k, k < n → K x (i + k) = N (2870 + i + k)) (hi : 2870 + i + n ≤ 3902) : WkP (rsW (fun j => K x (i + j)) (fiR F 0 4) n) (lrS N 2870 i (z8 S 8) n) := by
  intro z hz
  rw [b64_rsW n (fun k hk => by show K x (i + k) = 0 ∨ K x (i + k) = 1; rw [h k hk]; exact Rng_row hR (by omega) (by omega)), fiR_in (by omega), b64_0, Bool.false_or, sb_lrS, sb_z8 hz, Bool.false_xor]
  by_cases g : z < n
  · rw [h z g]
  · rw [decide_eq_false g]; rfl
theorem hi_row {N S : Nat → Int} {i n : Nat} : hiP (lrS N 2870 i (z8 S 8) n) n := by
  intro q q1 q2
  rw [sb_lrS, sb_z8 q1, decide_eq_false (show ¬ q < n by omega)]
  rfl
theorem tN_b {N : Nat → Int} (h : Rng N) : tN N ≤ 13608 := by have := ok_3.mp (h 3); unfold tN; omega
theorem k_addLedger {z n qq : Nat} {D : SZ} (hZ : ShZ T z) {s p o t c : Nat} (hS : ShS T s p o t c) (hd : 3 ≤ d) (hdz : z + 4 ≤ s ∨ s + 15 ≤ z) (hP0 : PmO N qq n) (hLd : LdOk N qq n) (hld : LdR I s p o t N) (htc : tN N ≤ c) (hsp : SpP I z n D.2) (hq : ∀ K : Mi, (∀ b, b < z ∨ z + 4 ≤ b → K b = I b) → SpP K z n (tlD N n D (tN N)).2 → Q none T K) : EvE G mX8_addLedger d [aR z, aR (s + 7)] T I Q := by
  have hz0 := hZ.1
  have hs0 := hS.1.1
  have hn2 := hP0.2.2.1
  have htz : t ≠ z + 3 := by have := neS hS; omega
  have htb := tN_b hP0.1
  refine EvE.mk (lv0 := [some (aR z), some (aR (s + 7)), none]) (Nat.le_of_ble_eq_true rfl) (by decide +kernel) rfl ?_
  refine r_iconst (pc := 0) dX8_addLedger_0 (in32_of rfl) ?_
  refine r_istore_n (pc := 1) (i := 2) (lv' := [_, _, _]) dX8_addLedger_1 rfl (by decide) rfl ?_
  refine loop2 (fun (k : Nat) (K : Mi) => k ≤ tN N ∧ (∀ b, b < z ∨ z + 4 ≤ b → K b = I b) ∧ SpP K z n (tlD N n D k).2) (fun (k : Nat) (K : Mi) => tN N - k) (fun (k : Nat) (K : Mi) => [some (aR z), some (aR (s + 7)), some (aI ((k : Nat) : Int))]) (fun _ _ => T) (fun (k : Nat) (K : Mi) => K) ?_ 0 I ⟨Nat.zero_le _, fun _ _ => rfl, hsp⟩
  intro k K hP ih
  have hP : k ≤ tN N ∧ (∀ b, b < z ∨ z + 4 ≤ b → K b = I b) ∧ SpP K z n (tlD N n D k).2 := hP
  refine (?_ : Ev G mX8_addLedger d 2 [some (aR z), some (aR (s + 7)), some (aI ((k : Nat) : Int))] [] T K Q)
  refine r_iload_n (pc := 2) (i := 2) dX8_addLedger_2 rfl rfl ?_
  refine r_aload_n (pc := 3) (i := 1) dX8_addLedger_3 rfl rfl ?_
  refine r_getfi (pc := 4) cks dX8_addLedger_4 fl_X8_32 rfl (kS7 hS) (ltS (k := 7) hS (by omega)) ?_
  refine r_top (b := ((tN N : Nat) : Int)) ((congrFun (hP.2.1 (s + 7) (by omega)) 0).trans (hld.1.trans (tN_rd hP0.1))) ?_
  refine r_icmp_ge (pc := 7) (tgt := 36) dX8_addLedger_7 rfl (fun c7 => ?_) (fun c7 => ?_)
  · have hkt : k = tN N := by omega
    subst hkt
    exact r_vret (pc := 36) dX8_addLedger_36 trivial (hq K hP.2.1 hP.2.2)
  · refine r_aload_n (pc := 10) (i := 1) dX8_addLedger_10 rfl rfl ?_
    refine r_getfr (pc := 11) (b := t) cks dX8_addLedger_11 fl_X8_35 rfl (kS7 hS) (ltS (k := 7) hS (by omega)) (rS7_3 hS) ?_
    refine r_iload_n (pc := 14) (i := 2) dX8_addLedger_14 rfl rfl ?_
    refine r_iconst (pc := 15) dX8_addLedger_15 (in32_of rfl) ?_
    refine r_imulN (pc := 16) (c := ((4 * k : Nat) : Int)) dX8_addLedger_16 (by unfold w32; omega) ?_
    refine r_aload_n (pc := 17) (i := 0) dX8_addLedger_17 rfl rfl ?_
    refine r_getfr (pc := 18) (b := z + 3) cks dX8_addLedger_18 fl_X8_19 rfl (kZ0 hZ) (ltZ0 hZ) (rZ0_2 hZ) ?_
    refine r_iconst (pc := 21) dX8_addLedger_21 (in32_of rfl) ?_
    refine r_iconst (pc := 22) dX8_addLedger_22 (in32_of rfl) ?_
    refine r_cpN (pc := 23) (a := z + 3) (a0 := t) (4 * k) (0) (4) dX8_addLedger_23 (by omega) ac_X8_38 (Nat.le_of_ble_eq_true rfl) (Or.inr (kZ3 hZ)) ((kt_ hS).trans (kZ3 hZ).symm) (ltZ (k := 3) hZ (by omega)) (ltt hS) (by omega) (by omega) (by omega) (by rw [lt_ hS]; omega) (by rw [lZ3 hZ]; omega) ?_
    refine r_mem (I2 := sr K (z + 3) (cpyR (K t) (4 * k) (K (z + 3)) 0 4)) ((congr (congrArg (fun fz_ gz_ => sr K (z + 3) (cpyR fz_ (4 * k) gz_ 0 4)) (show K t = K t from rfl)) (show K (z + 3) = K (z + 3) from rfl)).trans (rfl)) ?_
    refine r_aload_n (pc := 26) (i := 0) dX8_addLedger_26 rfl rfl ?_
    refine r_callV0 (pc := 27) (d - 1) [] dX8_addLedger_27 (CV.mk2 mk_X8_addWork lk_X8_44) (RC.of (ltZ0 hZ) (kZ0 hZ) (by decide) rfl) rfl rfl (by omega) (Nat.le_of_ble_eq_true rfl) (Nat.le_of_ble_eq_true rfl) (k_addWork (n := n) (S := stF N n k (tlD N n D k).1) (Z := (tlD N n D k).2.1) (Y := (tlD N n D k).2.2.1) (r := (tlD N n D k).2.2.2) hZ (by omega) hn2 (by rw [sr_row]; exact wk_led (hld.2 k (by omega)) (hP.2.1 t (by have := neS hS; omega)) hP0.nn) (stF_hi (hLd k (by omega)) hP0 _) (by rw [sr_ne (by omega), sr_ne (by omega)]; exact hP.2.2.1) ((congrFun (sr_ne (by omega)) 3).trans hP.2.2.2) (fun K2 hf2 hs2 => ?_))
    refine ⟨rfl, fun _ => ?_⟩
    refine r_iincN (pc := 30) (i := 2) (c := ((k + 1 : Nat) : Int)) (lv' := [_, _, _]) dX8_addLedger_30 rfl (by decide) (by unfold w32; omega) rfl ?_
    refine r_goto (pc := 33) (tgt := 2) dX8_addLedger_33 rfl ?_
    exact ih (k + 1) K2 ⟨by omega, fun b hb => (hf2 b hb).trans ((sr_ne (by omega)).trans (hP.2.1 b hb)), hs2⟩ (by omega)
theorem k_addKnown {z n : Nat} {D : SZ} (hZ : ShZ T z) {s p o t c : Nat} (hS : ShS T s p o t c) (hd : 3 ≤ d) (hdz : z + 4 ≤ s ∨ s + 15 ≤ z) (hn : I (s + 3) 0 = (n : Int)) (hn2 : n ≤ 256) (hkn : ∀ k, k < n → I (s + 6) k = spI N k) (hsp : SpP I z n D.2) (hq : ∀ K : Mi, (∀ b, b < z ∨ z + 4 ≤ b → K b = I b) → SpP K z n (scD N n D n).2 → Q none T K) : EvE G mX8_addKnown d [aR z, aR (s + 3)] T I Q := by
  have hz0 := hZ.1
  have hs0 := hS.1.1
  refine EvE.mk (lv0 := [some (aR z), some (aR (s + 3)), none]) (Nat.le_of_ble_eq_true rfl) (by decide +kernel) rfl ?_
  refine r_iconst (pc := 0) dX8_addKnown_0 (in32_of rfl) ?_
  refine r_istore_n (pc := 1) (i := 2) (lv' := [_, _, _]) dX8_addKnown_1 rfl (by decide) rfl ?_
  refine loop2 (fun (k : Nat) (K : Mi) => k ≤ n ∧ (∀ b, b < z ∨ z + 4 ≤ b → K b = I b) ∧ SpP K z n (scD N n D k).2) (fun (k : Nat) (K : Mi) => n - k) (fun (k : Nat) (K : Mi) => [some (aR z), some (aR (s + 3)), some (aI ((k : Nat) : Int))]) (fun _ _ => T) (fun (k : Nat) (K : Mi) => K) ?_ 0 I ⟨Nat.zero_le _, fun _ _ => rfl, hsp⟩
  intro k K hP ih
  have hP : k ≤ n ∧ (∀ b, b < z ∨ z + 4 ≤ b → K b = I b) ∧ SpP K z n (scD N n D k).2 := hP
  refine (?_ : Ev G mX8_addKnown d 2 [some (aR z), some (aR (s + 3)), some (aI ((k : Nat) : Int))] [] T K Q)
  refine r_iload_n (pc := 2) (i := 2) dX8_addKnown_2 rfl rfl ?_
  refine r_aload_n (pc := 3) (i := 1) dX8_addKnown_3 rfl rfl ?_
  refine r_getfi (pc := 4) cks dX8_addKnown_4 fl_X8_47 rfl (kS3 hS) (ltS (k := 3) hS (by omega)) ?_
  refine r_top (b := (n : Int)) ((congrFun (hP.2.1 (s + 3) (by omega)) 0).trans hn) ?_
  refine r_icmp_ge (pc := 7) (tgt := 35) dX8_addKnown_7 rfl (fun c7 => ?_) (fun c7 => ?_)
  · have hkt : k = n := by omega
    subst hkt
    exact r_vret (pc := 35) dX8_addKnown_35 trivial (hq K hP.2.1 hP.2.2)
  · refine r_aload_n (pc := 10) (i := 1) dX8_addKnown_10 rfl rfl ?_
    refine r_getfr (pc := 11) (b := s + 6) cks dX8_addKnown_11 fl_X8_52 rfl (kS3 hS) (ltS (k := 3) hS (by omega)) (rS3_3 hS) ?_
    refine r_iload_n (pc := 14) (i := 2) dX8_addKnown_14 rfl rfl ?_
    refine r_ild (pc := 15) (k) dX8_addKnown_15 (kS6 hS) (ltS (k := 6) hS (by omega)) rfl (by rw [lS6 hS]; omega) ?_
    refine r_top (b := spI N k) ((congrFun (hP.2.1 (s + 6) (by omega)) k).trans (hkn k (by omega))) ?_
    refine r_iconst (pc := 16) dX8_addKnown_16 (in32_of rfl) ?_
    refine r_icmp_ne (pc := 17) (tgt := 29) dX8_addKnown_17 rfl (fun c17 => ?_) (fun c17 => ?_)
    · refine r_iincN (pc := 29) (i := 2) (c := ((k + 1 : Nat) : Int)) (lv' := [_, _, _]) dX8_addKnown_29 rfl (by decide) (by unfold w32; omega) rfl ?_
      refine r_goto (pc := 32) (tgt := 2) dX8_addKnown_32 rfl ?_
      exact ih (k + 1) K ⟨by omega, hP.2.1, by rw [show scD N n D (k + 1) = if spI N k = 0 then scD N n D k else tkD n (adS (z8 (scD N n D k).1 8) k, (scD N n D k).2) from rfl, if_pos (by have h01 : spI N k = 0 ∨ spI N k = 1 := bi_01 _; omega)]; exact hP.2.2⟩ (by omega)
    · have c17 := Decidable.of_not_not c17
      refine r_aload_n (pc := 20) (i := 0) dX8_addKnown_20 rfl rfl ?_
      refine r_iload_n (pc := 21) (i := 2) dX8_addKnown_21 rfl rfl ?_
      refine r_callV0 (pc := 22) (d - 1) [aI ((k : Nat) : Int)] dX8_addKnown_22 (CV.mk2 mk_X8_setPlace lk_X8_55) (RC.of (ltZ0 hZ) (kZ0 hZ) (by decide) rfl) rfl rfl (by omega) (Nat.le_of_ble_eq_true rfl) (Nat.le_of_ble_eq_true rfl) (k_setPlace (x := k) hZ (by omega) (by omega) ?_)
      refine ⟨rfl, fun _ => ?_⟩
      refine r_mem (I2 := sr K (z + 3) (un (fiR (K (z + 3)) 0 4) (k / 64) (lsl 1 ((k % 64 : Nat) : Int)))) ((congrArg (fun v0_ => (sr K (z + 3) (un (fiR v0_ 0 4) (k / 64) (lsl 1 ((k % 64 : Nat) : Int))))) (show K (z + 3) = K (z + 3) from rfl)).trans (rfl)) ?_
      refine r_aload_n (pc := 25) (i := 0) dX8_addKnown_25 rfl rfl ?_
      refine r_callV0 (pc := 26) (d - 1) [] dX8_addKnown_26 (CV.mk2 mk_X8_addWork lk_X8_44) (RC.of (ltZ0 hZ) (kZ0 hZ) (by decide) rfl) rfl rfl (by omega) (Nat.le_of_ble_eq_true rfl) (Nat.le_of_ble_eq_true rfl) (k_addWork (n := n) (S := adS (z8 (scD N n D k).1 8) k) (Z := (scD N n D k).2.1) (Y := (scD N n D k).2.2.1) (r := (scD N n D k).2.2.2) hZ (by omega) hn2 (by rw [sr_row]; exact wk_1 (by omega)) (hi_1 (by omega)) (by rw [sr_ne (by omega), sr_ne (by omega)]; exact hP.2.2.1) ((congrFun (sr_ne (by omega)) 3).trans hP.2.2.2) (fun K2 hf2 hs2 => ?_))
      refine ⟨rfl, fun _ => ?_⟩
      refine r_iincN (pc := 29) (i := 2) (c := ((k + 1 : Nat) : Int)) (lv' := [_, _, _]) dX8_addKnown_29 rfl (by decide) (by unfold w32; omega) rfl ?_
      refine r_goto (pc := 32) (tgt := 2) dX8_addKnown_32 rfl ?_
      exact ih (k + 1) K2 ⟨by omega, fun b hb => (hf2 b hb).trans ((sr_ne (by omega)).trans (hP.2.1 b hb)), by rw [show scD N n D (k + 1) = if spI N k = 0 then scD N n D k else tkD n (adS (z8 (scD N n D k).1 8) k, (scD N n D k).2) from rfl, if_neg (by omega)]; exact hs2⟩ (by omega)
theorem k_addFinals {z n l : Nat} {D : SZ} (hZ : ShZ T z) {s p o t c : Nat} (hS : ShS T s p o t c) (hd : 3 ≤ d) (hdz : z + 4 ≤ s ∨ s + 15 ≤ z) (hn2 : n ≤ 256) (hR : Rng N) (hl : I (s + 11) 0 = (l : Int)) (hl2 : l ≤ 256) (hfr : ∀ i, i + 1 < n + l → I (s + 12) i = N (i + 2870)) (hsp : SpP I z n D.2) (hq : ∀ K : Mi, (∀ b, b < z ∨ z + 4 ≤ b → K b = I b) → SpP K z n (seD N n D l).2 → Q none T K) : EvE G mX8_addFinals d [aR z, aR (s + 11), aI ((n : Nat) : Int)] T I Q := by
  have hz0 := hZ.1
  have hs0 := hS.1.1
  refine EvE.mk (lv0 := [some (aR z), some (aR (s + 11)), some (aI ((n : Nat) : Int)), none]) (Nat.le_of_ble_eq_true rfl) (by decide +kernel) rfl ?_
  refine r_iconst (pc := 0) dX8_addFinals_0 (in32_of rfl) ?_
  refine r_istore_n (pc := 1) (i := 3) (lv' := [_, _, _, _]) dX8_addFinals_1 rfl (by decide) rfl ?_
  refine loop2 (fun (k : Nat) (K : Mi) => k ≤ l ∧ (∀ b, b < z ∨ z + 4 ≤ b → K b = I b) ∧ SpP K z n (seD N n D k).2) (fun (k : Nat) (K : Mi) => l - k) (fun (k : Nat) (K : Mi) => [some (aR z), some (aR (s + 11)), some (aI ((n : Nat) : Int)), some (aI ((k : Nat) : Int))]) (fun _ _ => T) (fun (k : Nat) (K : Mi) => K) ?_ 0 I ⟨Nat.zero_le _, fun _ _ => rfl, hsp⟩
  intro k K hP ih
  have hP : k ≤ l ∧ (∀ b, b < z ∨ z + 4 ≤ b → K b = I b) ∧ SpP K z n (seD N n D k).2 := hP
  refine (?_ : Ev G mX8_addFinals d 2 [some (aR z), some (aR (s + 11)), some (aI ((n : Nat) : Int)), some (aI ((k : Nat) : Int))] [] T K Q)
  refine r_iload_n (pc := 2) (i := 3) dX8_addFinals_2 rfl rfl ?_
  refine r_aload_n (pc := 3) (i := 1) dX8_addFinals_3 rfl rfl ?_
  refine r_getfi (pc := 4) cks dX8_addFinals_4 fl_X8_59 rfl (kS11 hS) (ltS (k := 11) hS (by omega)) ?_
  refine r_top (b := (l : Int)) ((congrFun (hP.2.1 (s + 11) (by omega)) 0).trans hl) ?_
  refine r_icmp_ge (pc := 7) (tgt := 33) dX8_addFinals_7 rfl (fun c7 => ?_) (fun c7 => ?_)
  · have hkt : k = l := by omega
    subst hkt
    exact r_vret (pc := 33) dX8_addFinals_33 trivial (hq K hP.2.1 hP.2.2)
  · refine r_aload_n (pc := 10) (i := 1) dX8_addFinals_10 rfl rfl ?_
    refine r_getfr (pc := 11) (b := s + 12) cks dX8_addFinals_11 fl_X8_64 rfl (kS11 hS) (ltS (k := 11) hS (by omega)) (rS11_1 hS) ?_
    refine r_iload_n (pc := 14) (i := 3) dX8_addFinals_14 rfl rfl ?_
    refine r_iload_n (pc := 15) (i := 2) dX8_addFinals_15 rfl rfl ?_
    refine r_aload_n (pc := 16) (i := 0) dX8_addFinals_16 rfl rfl ?_
    refine r_getfr (pc := 17) (b := z + 3) cks dX8_addFinals_17 fl_X8_19 rfl (kZ0 hZ) (ltZ0 hZ) (rZ0_2 hZ) ?_
    refine r_callS0 (pc := 20) (d - 1) [aR (s + 12), aI ((k : Nat) : Int), aI ((n : Nat) : Int), aR (z + 3)] dX8_addFinals_20 (CS.mk2 mk_X0_setOfRow lk_X8_67) rfl rfl (by omega) (Nat.le_of_ble_eq_true rfl) (Nat.le_of_ble_eq_true rfl) (k_setOfRow (x := s + 12) (lx := 512) (w := z + 3) (i := k) (n := n) (by omega) (kS12 hS) (ltS hS (by omega)) (lS12 hS) (kZ3 hZ) (ltZ hZ (by omega)) (lZ3 hZ) (by omega) hn2 (by omega) (by omega) ?_)
    refine ⟨rfl, fun _ => ?_⟩
    refine r_mem (I2 := sr K (z + 3) (rsW (fun j => K (s + 12) (k + j)) (fiR (K (z + 3)) 0 4) n)) ((congrArg (fun v0_ => (sr K (z + 3) (rsW (fun j => K (s + 12) (k + j)) (fiR v0_ 0 4) n))) (show K (z + 3) = K (z + 3) from rfl)).trans (rfl)) ?_
    refine r_aload_n (pc := 23) (i := 0) dX8_addFinals_23 rfl rfl ?_
    refine r_callV0 (pc := 24) (d - 1) [] dX8_addFinals_24 (CV.mk2 mk_X8_addWork lk_X8_44) (RC.of (ltZ0 hZ) (kZ0 hZ) (by decide) rfl) rfl rfl (by omega) (Nat.le_of_ble_eq_true rfl) (Nat.le_of_ble_eq_true rfl) (k_addWork (n := n) (S := lrS N 2870 k (z8 (seD N n D k).1 8) n) (Z := (seD N n D k).2.1) (Y := (seD N n D k).2.2.1) (r := (seD N n D k).2.2.2) hZ (by omega) hn2 (by rw [sr_row]; exact wk_row hn2 hR (fun j hj => (congrFun (hP.2.1 (s + 12) (by omega)) (k + j)).trans ((hfr (k + j) (by omega)).trans (congrArg N (by omega)))) (by omega)) (hi_row) (by rw [sr_ne (by omega), sr_ne (by omega)]; exact hP.2.2.1) ((congrFun (sr_ne (by omega)) 3).trans hP.2.2.2) (fun K2 hf2 hs2 => ?_))
    refine ⟨rfl, fun _ => ?_⟩
    refine r_iincN (pc := 27) (i := 3) (c := ((k + 1 : Nat) : Int)) (lv' := [_, _, _, _]) dX8_addFinals_27 rfl (by decide) (by unfold w32; omega) rfl ?_
    refine r_goto (pc := 30) (tgt := 2) dX8_addFinals_30 rfl ?_
    exact ih (k + 1) K2 ⟨by omega, fun b hb => (hf2 b hb).trans ((sr_ne (by omega)).trans (hP.2.1 b hb)), hs2⟩ (by omega)
end C43

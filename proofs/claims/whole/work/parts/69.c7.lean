section C7
variable {G : Gl} {d : Nat} {T : Sh} {I : Mi} {N : Nat → Int} {Q : Option AV → Sh → Mi → Prop}
theorem k_rootOf {q : Int} (hq0 : q ≤ 600) (hq : Q (some (aI ((rtA q : Nat) : Int))) T I) : EvE G mX0_rootOf d [aI q] T I Q := by
  refine EvE.mk (lv0 := [some (aI q), none, none]) (Nat.le_of_ble_eq_true rfl) (by decide +kernel) rfl ?_
  refine r_iconst (pc := 0) dX0_rootOf_0 (in32_of rfl) ?_
  refine r_istore_n (pc := 1) (i := 1) (lv' := [_, _, _]) dX0_rootOf_1 rfl (by decide) rfl ?_
  refine r_iconst (pc := 2) dX0_rootOf_2 (in32_of rfl) ?_
  refine r_istore_n (pc := 3) (i := 2) (lv' := [_, _, _]) dX0_rootOf_3 rfl (by decide) rfl ?_
  refine loop1 (fun (r : Nat) => r ≤ 600 ∧ rtA q = rtS q (700 - r) r) (fun (r : Nat) => 700 - r) (fun (r : Nat) => [some (aI q), some (aI ((r : Nat) : Int)), some (aI ((r + 1 : Nat) : Int))]) (fun _ => T) (fun (r : Nat) => I) ?_ 0 ⟨by omega, rfl⟩
  intro r hP ih
  have hP : r ≤ 600 ∧ rtA q = rtS q (700 - r) r := hP
  have hm : (r + 1) * (r + 1) ≤ 601 * 601 := Nat.mul_le_mul (by omega) (by omega)
  refine (?_ : Ev G mX0_rootOf d 4 [some (aI q), some (aI ((r : Nat) : Int)), some (aI ((r + 1 : Nat) : Int))] [] T I Q)
  refine r_iload_n (pc := 4) (i := 2) dX0_rootOf_4 rfl rfl ?_
  refine r_sipush (pc := 5) dX0_rootOf_5 rfl (in32_of rfl) ?_
  refine r_icmp_gt (pc := 8) (tgt := 26) dX0_rootOf_8 rfl (fun c8 => absurd c8 (by omega)) (fun c8 => ?_)
  refine r_iload_n (pc := 11) (i := 2) dX0_rootOf_11 rfl rfl ?_
  refine r_iload_n (pc := 12) (i := 2) dX0_rootOf_12 rfl rfl ?_
  refine r_imulN (pc := 13) (c := ((((r + 1) * (r + 1)) : Nat) : Int)) dX0_rootOf_13 (by unfold w32; omega) ?_
  refine r_iload_n (pc := 14) (i := 0) dX0_rootOf_14 rfl rfl ?_
  refine r_icmp_gt (pc := 15) (tgt := 26) dX0_rootOf_15 rfl (fun c15 => ?_) (fun c15 => ?_)
  · refine r_iload_n (pc := 26) (i := 1) dX0_rootOf_26 rfl rfl ?_
    exact r_iret (pc := 27) dX0_rootOf_27 trivial (by rw [hP.2, show 700 - r = (700 - (r + 1)) + 1 by omega, rtS_succ, if_neg (by omega)] at hq; exact hq)
  · refine r_iload_n (pc := 18) (i := 2) dX0_rootOf_18 rfl rfl ?_
    refine r_istore_n (pc := 19) (i := 1) (lv' := [_, _, _]) dX0_rootOf_19 rfl (by decide) rfl ?_
    refine r_iincN (pc := 20) (i := 2) (c := ((r + 2 : Nat) : Int)) (lv' := [_, _, _]) dX0_rootOf_20 rfl (by decide) (by unfold w32; omega) rfl ?_
    refine r_goto (pc := 23) (tgt := 4) dX0_rootOf_23 rfl ?_
    exact ih (r + 1) ⟨by have : r + 1 ≤ (r + 1) * (r + 1) := Nat.le_mul_of_pos_left _ (by omega); omega, by rw [hP.2, show 700 - r = (700 - (r + 1)) + 1 by omega, rtS_succ, if_pos (by omega)]⟩ (by omega)
theorem k_boundOf {e : Int} {m : Nat} (hd : 1 ≤ d) (he0 : 0 ≤ e) (he1 : e ≤ 128) (hm : m ≤ 128) (hq : Q (some (aI (bdF e m))) T I) : EvE G mX0_boundOf d [aI e, aI ((m : Nat) : Int)] T I Q := by
  have hrt := rtA_le (4 * e + 4)
  refine EvE.mk (lv0 := [some (aI e), some (aI ((m : Nat) : Int)), none]) (Nat.le_of_ble_eq_true rfl) (by decide +kernel) rfl ?_
  refine r_iload_n (pc := 0) (i := 1) dX0_boundOf_0 rfl rfl ?_
  refine r_if_gt (pc := 1) (tgt := 8) dX0_boundOf_1 rfl (fun c1 => ?_) (fun c1 => ?_)
  · refine r_iload_n (pc := 8) (i := 0) dX0_boundOf_8 rfl rfl ?_
    refine r_iconst (pc := 9) dX0_boundOf_9 (in32_of rfl) ?_
    refine r_iaddN (pc := 10) (c := (e + 1)) dX0_boundOf_10 (by unfold w32; omega) ?_
    refine r_iconst (pc := 11) dX0_boundOf_11 (in32_of rfl) ?_
    refine r_iload_n (pc := 12) (i := 0) dX0_boundOf_12 rfl rfl ?_
    refine r_imulN (pc := 13) (c := (4 * e)) dX0_boundOf_13 (by unfold w32; omega) ?_
    refine r_iconst (pc := 14) dX0_boundOf_14 (in32_of rfl) ?_
    refine r_iaddN (pc := 15) (c := (4 * e + 4)) dX0_boundOf_15 (by unfold w32; omega) ?_
    refine r_callS1 (pc := 16) (d - 1) [aI (4 * e + 4)] dX0_boundOf_16 (CS.mk2 mk_X0_rootOf lk_X0_81) rfl rfl (by omega) (Nat.le_of_ble_eq_true rfl) (Nat.le_of_ble_eq_true rfl) (k_rootOf (by omega) ?_)
    refine ⟨_, rfl, fun _ => ?_⟩
    refine r_iaddN (pc := 19) (c := (e + (((rtA (4 * e + 4)) : Nat) : Int) + 1)) dX0_boundOf_19 (by unfold w32; omega) ?_
    refine r_istore_n (pc := 20) (i := 2) (lv' := [_, _, _]) dX0_boundOf_20 rfl (by decide) rfl ?_
    refine r_sipush (pc := 21) dX0_boundOf_21 rfl (in32_of rfl) ?_
    refine r_sipush (pc := 24) dX0_boundOf_24 rfl (in32_of rfl) ?_
    refine r_iload_n (pc := 27) (i := 2) dX0_boundOf_27 rfl rfl ?_
    refine r_imulN (pc := 28) (c := (1000 * e + 1000 * (((rtA (4 * e + 4)) : Nat) : Int) + 1000)) dX0_boundOf_28 (by unfold w32; omega) ?_
    refine r_iload_n (pc := 29) (i := 1) dX0_boundOf_29 rfl rfl ?_
    refine r_idiv (pc := 30) dX0_boundOf_30 (by omega) ?_
    refine r_top (b := (1000 * (e + 1 + ((rtA (4 * e + 4) : Nat) : Int)) / (m : Int))) (by rw [idv_n (by unfold in32; omega) (by unfold in32; omega) (by omega) (by omega)]; congr 1; omega) ?_
    refine r_min (pc := 31) dX0_boundOf_31 (by omega) ml_X0_84 (Nat.le_of_ble_eq_true rfl) ?_
    have e : bdF e m = (if (1000 * (e + 1 + ((rtA (4 * e + 4) : Nat) : Int)) / (m : Int)) < 500 then (1000 * (e + 1 + ((rtA (4 * e + 4) : Nat) : Int)) / (m : Int)) else 500) := by unfold bdF bdE; rw [if_neg (show ¬ m = 0 by omega)]; split <;> split <;> omega
    exact r_iret (pc := 34) dX0_boundOf_34 trivial (by rw [e] at hq; exact hq)
  · refine r_sipush (pc := 4) dX0_boundOf_4 rfl (in32_of rfl) ?_
    have e : bdF e m = 250 := by unfold bdF bdE; rw [if_pos (show m = 0 by omega)]; rfl
    exact r_iret (pc := 7) dX0_boundOf_7 trivial (by rw [e] at hq; exact hq)
theorem shfS_at {M : Nat → Int} {p : Nat} : ∀ c, p + c ≤ 255 → ∀ i, i < 256 → shfS M p c (i + 276) = (if p ≤ i ∧ i < p + c then M (i + 277) else M (i + 276)) ∧ shfS M p c (i + 532) = (if p ≤ i ∧ i < p + c then M (i + 533) else M (i + 532)) ∧ shfS M p c (i + 788) = (if p ≤ i ∧ i < p + c then M (i + 789) else M (i + 788)) := by
  intro c
  induction c with
  | zero => intro _ i hi; rw [if_neg (by omega), if_neg (by omega), if_neg (by omega)]; exact ⟨rfl, rfl, rfl⟩
  | succ c ih =>
    intro hc i hi
    obtain ⟨a1, a2, a3⟩ := ih (by omega) i hi
    obtain ⟨b1, b2, b3⟩ := ih (by omega) (p + c + 1) (by omega)
    rw [if_neg (by omega)] at b1 b2 b3
    rw [shfS_succ]
    by_cases g : i = p + c
    · subst g
      rw [if_pos (by omega), if_pos (by omega), if_pos (by omega)]
      refine ⟨?_, ?_, ?_⟩
      · rw [un_ne (by omega), un_ne (by omega), un_at]; exact b1
      · rw [un_ne (by omega), un_at]; exact b2
      · rw [un_at]; exact b3
    · have e1 : (p ≤ i ∧ i < p + (c + 1)) = (p ≤ i ∧ i < p + c) := by
        apply propext
        omega
      rw [un_ne (by omega), un_ne (by omega), un_ne (by omega), un_ne (by omega), un_ne (by omega), un_ne (by omega), un_ne (by omega), un_ne (by omega), un_ne (by omega), a1, a2, a3]
      refine ⟨?_, ?_, ?_⟩
      · by_cases g2 : p ≤ i ∧ i < p + c
        · rw [if_pos g2, if_pos (by omega)]
        · rw [if_neg g2, if_neg (by omega)]
      · by_cases g2 : p ≤ i ∧ i < p + c
        · rw [if_pos g2, if_pos (by omega)]
        · rw [if_neg g2, if_neg (by omega)]
      · by_cases g2 : p ≤ i ∧ i < p + c
        · rw [if_pos g2, if_pos (by omega)]
        · rw [if_neg g2, if_neg (by omega)]
/-- the rows of a state while its sample is told; z places are left -/
def tsI (F0 F K A B W M : Nat → Int) (z : Nat) : Prop := (F 1 = M 8 ∧ F 4 = M 4 ∧ ∀ j, j ≠ 1 → j ≠ 4 → F j = F0 j) ∧ K 0 = (z : Int) ∧ ∀ i, i < z → A i = M (i + 276) ∧ B i = M (i + 532) ∧ W i = spI M i
theorem ts_step {F0 F K A B W M : Nat → Int} {z p : Nat} (h : tsI F0 F K A B W M z) (hR : Rng M) (hz : z ≤ 256) (hp : p < z) : tsI F0 (un (un F 1 (dN M 8)) 4 (erF M p)) (un K 0 ((z - 1 : Nat) : Int)) (cpyR A (p + 1) A p (z - 1 - p)) (cpyR B (p + 1) B p (z - 1 - p)) (cpyR W (p + 1) W p (z - 1 - p)) (shfS (un (un (dN M) 4 (erF M p)) 1 ((z - 1 : Nat) : Int)) p (z - 1 - p)) (z - 1) := by
  obtain ⟨⟨a1, a4, aj⟩, k0, c⟩ := h
  obtain ⟨X, hX⟩ : ∃ X, X = un (un (dN M) 4 (erF M p)) 1 ((z - 1 : Nat) : Int) := ⟨_, rfl⟩
  rw [← hX]
  have hRX : Rng M → ∀ j, j ≠ 1 → j ≠ 4 → j ≠ 8 → X j = M j := fun _ j h1 h4 h8 => by rw [hX, un_ne h1, un_ne h4, dN_ne h8]
  have hx := hRX hR
  have hlow : ∀ j, ¬ (276 ≤ j ∧ j < 1044) → shfS X p (z - 1 - p) j = X j := by
    have : ∀ c, p + c ≤ 255 → ∀ j, ¬ (276 ≤ j ∧ j < 1044) → shfS X p c j = X j := by
      intro c
      induction c with
      | zero => intro _ j _; rfl
      | succ c ih =>
        intro hc j hj
        rw [shfS_succ, un_ne (by omega), un_ne (by omega), un_ne (by omega)]
        exact ih (by omega) j hj
    exact this _ (by omega)
  have hat := shfS_at (M := X) (p := p) (z - 1 - p) (by omega)
  refine ⟨⟨?_, ?_, ?_⟩, un_at, ?_⟩
  · rw [un_ne (by decide), un_at, hlow 8 (by omega), hX, un_ne (by decide), un_ne (by decide)]
  · rw [un_at, hlow 4 (by omega), hX, un_ne (by decide), un_at]
  · intro j h1 h4; rw [un_ne h4, un_ne h1]; exact aj j h1 h4
  · intro i hi
    obtain ⟨b1, b2, b3⟩ := hat i (by omega)
    obtain ⟨c1, c2, c3⟩ := c i (by omega)
    rw [b1, b2, spI_kn, b3]
    by_cases g : p ≤ i ∧ i < p + (z - 1 - p)
    · obtain ⟨d1, d2, d3⟩ := c (i + 1) (by omega)
      rw [if_pos g, if_pos g, if_pos g, cpyR_in g, cpyR_in g, cpyR_in g, show p + 1 + (i - p) = i + 1 by omega, d1, d2, d3, spI_kn, hx _ (by omega) (by omega) (by omega), hx _ (by omega) (by omega) (by omega), hx _ (by omega) (by omega) (by omega)]
      have ho := Rng_of (j := i + 1 + 788) hR (by omega) (by omega)
      refine ⟨rfl, rfl, ?_⟩
      exact (knV_ext (by rw [hlow _ (by omega)]; exact hx _ (by omega) (by omega) (by omega))).symm
    · rw [if_neg g, if_neg g, if_neg g, cpyR_out g, cpyR_out g, cpyR_out g, c1, c2, c3, spI_kn, hx _ (by omega) (by omega) (by omega), hx _ (by omega) (by omega) (by omega), hx _ (by omega) (by omega) (by omega)]
      have ho := Rng_of (j := i + 788) hR (by omega) (by omega)
      refine ⟨rfl, rfl, ?_⟩
      exact (knV_ext (by rw [hlow _ (by omega)]; exact hx _ (by omega) (by omega) (by omega))).symm
end C7

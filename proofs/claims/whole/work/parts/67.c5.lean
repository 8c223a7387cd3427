section C5
variable {G : Gl} {d : Nat} {T : Sh} {I : Mi} {N : Nat → Int} {Q : Option AV → Sh → Mi → Prop}
def sgV (L N : Nat → Int) : Int := if N 0 = 0 then 0 else L 0
theorem k_ds {k : Nat} {spy no : Int} {s p o t c : Nat} {M : Nat → Int} (hS : ShS T s p o t c) (hd : 1 ≤ d) (hX : I s 1 = M 8) (hx : xOk M) (hq : Q (some (aI (mkC (snd1 M k spy no (k + 20))))) T (sr I s (un (I s) 1 (snd1 M k spy no 8)))) : EvE G mX0_drawSignal d [aR s, aI spy, aI no] T I Q := by
  have h := k_drawSignal (G := G) (d := d) (I := I) (Q := Q) (N := M) (k := k) (spy := spy) (no := no) hS hd hX hx hq
  rw [dX_id hX] at h
  exact h
theorem mkb : ∀ c : Nat, c < 64 → (∀ w : Nat, w < 5 → ian (isr (mkC c) w) 1 = ian (isr c w) 1) ∧ ian (isr (mkC c) 5) 1 = (if ian (isr c 1) 1 = ian (isr c 2) 1 then 1 else 0) ∧ ian (isr (mkC c) 6) 1 = (if ian (isr c 4) 1 = 1 ∧ ian (isr c 5) 1 = ian (isr c 1) 1 then 1 else 0) := by decide +kernel
theorem mk_w {M : Nat → Int} {k : Nat} (hR : Rng M) (hk : k < 256) (w : Nat) (hw : w < 5) : ian (isr (mkC (M (k + 20))) w) 1 = ofS M k w := by
  have h := (ok_sig (j := k + 20) (by omega) (by omega)).mp (hR (k + 20))
  unfold ofS
  rw [Int.toNat_natCast]
  have h2 := (mkb (M (k + 20)).toNat (by omega)).1 w hw
  rw [show (((M (k + 20)).toNat : Nat) : Int) = M (k + 20) by omega] at h2
  exact h2
theorem mk_5 {M : Nat → Int} {k : Nat} (hR : Rng M) (hk : k < 256) : ian (isr (mkC (M (k + 20))) 5) 1 = siS M k := by
  have h := (ok_sig (j := k + 20) (by omega) (by omega)).mp (hR (k + 20))
  unfold siS ofS bi
  rw [Int.toNat_natCast]
  have h2 := (mkb (M (k + 20)).toNat (by omega)).2.1
  rw [show (((M (k + 20)).toNat : Nat) : Int) = M (k + 20) by omega] at h2
  exact h2
/-- whether E knows a signal's bit -/
def knV (M : Nat → Int) (k : Int) : Int := bi (ofS M k 4 = 1 ∧ ofS M k 5 = ofS M k 1)
theorem mk_6 {M : Nat → Int} {k : Nat} (hR : Rng M) (hk : k < 256) : ian (isr (mkC (M (k + 20))) 6) 1 = knV M k := by
  have h := (ok_sig (j := k + 20) (by omega) (by omega)).mp (hR (k + 20))
  unfold knV ofS bi
  rw [Int.toNat_natCast]
  have h2 := (mkb (M (k + 20)).toNat (by omega)).2.2
  rw [show (((M (k + 20)).toNat : Nat) : Int) = M (k + 20) by omega] at h2
  exact h2
theorem spI_kn (N : Nat → Int) (p : Nat) : spI N p = knV N (N (p + 788)) := by
  unfold spI knV
  rw [Int.toNat_natCast]
abbrev SD := (Nat → Int) × (Nat → Int) × (Nat → Int) × (Nat → Int) × (Nat → Int) × (Nat → Int)
/-- the rows of a state while its signals are drawn -/
def dsI (F Mk K A B W M : Nat → Int) (k : Nat) : Prop :=
  (F 0 = 0 ∧ F 1 = M 8 ∧ F 2 = (k : Int) ∧ F 3 = ssM M k ∧ F 4 = 0 ∧ F 5 = -1 ∧ F 6 = 0 ∧ F 7 = 0 ∧ F 8 = 0) ∧ (∀ i, i < k → Mk i = mkC (M (i + 20))) ∧
  K 0 = (nN M : Int) ∧ (∀ i, i < nN M → A i = M (i + 276) ∧ B i = M (i + 532) ∧ W i = spI M i) ∧ ∀ i, i < nN M → 0 ≤ M (i + 788) ∧ M (i + 788) < (k : Int)
theorem ssM_ext {N M : Nat → Int} : ∀ k, (∀ i, i < k → M (i + 20) = N (i + 20)) → ssM M k = ssM N k := by
  intro k
  induction k with
  | zero => intro _; rfl
  | succ k ih =>
    intro h
    unfold ssM
    rw [ih (fun i hi => h i (by omega))]
    unfold ofS
    rw [Int.toNat_natCast, h k (by omega)]
theorem ofS_ext {N M : Nat → Int} {k : Int} (h : M (k.toNat + 20) = N (k.toNat + 20)) (w : Int) : ofS M k w = ofS N k w := by unfold ofS; rw [h]
theorem knV_ext {N M : Nat → Int} {k : Int} (h : M (k.toNat + 20) = N (k.toNat + 20)) : knV M k = knV N k := by unfold knV; rw [ofS_ext h, ofS_ext h, ofS_ext h]
def dsF (F : Nat → Int) (k : Nat) (M1 : Nat → Int) : Nat → Int := un (un (un F 1 (M1 8)) 2 ((k + 1 : Nat) : Int)) 3 (w32 (F 3 + ofS M1 k 4))
theorem ds_0 {F Mk K A B W M : Nat → Int} {k : Nat} {spy no : Int} (h : dsI F Mk K A B W M k) (hn : nN M ≤ k) (hk : k < 256) : dsI (dsF F k (snd1 M k spy no)) (un Mk k (mkC (snd1 M k spy no (k + 20)))) K A B W (snd1 M k spy no) (k + 1) := by
  obtain ⟨⟨a0, a1, a2, a3, a4, a5, a6, a7, a8⟩, b, c0, c, e⟩ := h
  have hne : ∀ j, j ≠ 8 → j ≠ k + 20 → snd1 M k spy no j = M j := fun j h1 h2 => snd1_ne h1 h2
  have en : nN (snd1 M k spy no) = nN M := by unfold nN; rw [hne 1 (by decide) (by omega)]
  unfold dsF
  refine ⟨⟨?_, ?_, ?_, ?_, ?_, ?_, ?_, ?_, ?_⟩, ?_, ?_, ?_, ?_⟩
  · show un _ _ _ 0 = _; rw [un_ne (by decide), un_ne (by decide), un_ne (by decide)]; exact a0
  · show un _ _ _ 1 = _; rw [un_ne (by decide), un_ne (by decide), un_at]
  · show un _ _ _ 2 = _; rw [un_ne (by decide), un_at]
  · show un _ _ _ 3 = _
    rw [un_at, a3, show ssM (snd1 M k spy no) (k + 1) = w32 (ssM (snd1 M k spy no) k + ofS (snd1 M k spy no) k 4) from rfl, ssM_ext (N := M) (M := snd1 M k spy no) k (fun i hi => hne _ (by omega) (by omega))]
  · show un _ _ _ 4 = _; rw [un_ne (by decide), un_ne (by decide), un_ne (by decide)]; exact a4
  · show un _ _ _ 5 = _; rw [un_ne (by decide), un_ne (by decide), un_ne (by decide)]; exact a5
  · show un _ _ _ 6 = _; rw [un_ne (by decide), un_ne (by decide), un_ne (by decide)]; exact a6
  · show un _ _ _ 7 = _; rw [un_ne (by decide), un_ne (by decide), un_ne (by decide)]; exact a7
  · show un _ _ _ 8 = _; rw [un_ne (by decide), un_ne (by decide), un_ne (by decide)]; exact a8
  · intro i hi
    show un _ _ _ i = _
    by_cases g : i = k
    · subst g; rw [un_at]
    · rw [un_ne g, hne _ (by omega) (by omega)]; exact b i (by omega)
  · show K 0 = _; rw [en]; exact c0
  · intro i hi
    rw [en] at hi
    have hi2 := e i hi
    obtain ⟨c1, c2, c3⟩ := c i hi
    refine ⟨?_, ?_, ?_⟩
    · show A i = _; rw [hne _ (by omega) (by omega)]; exact c1
    · show B i = _; rw [hne _ (by omega) (by omega)]; exact c2
    · show W i = _
      rw [c3, spI_kn, spI_kn, hne (i + 788) (by omega) (by omega)]
      exact (knV_ext (hne _ (by omega) (by omega))).symm
  · intro i hi
    rw [en] at hi
    rw [hne (i + 788) (by omega) (by omega)]
    have := e i hi
    omega
theorem ds_1 {F Mk K A B W M1 : Nat → Int} {k : Nat} (h : dsI F Mk K A B W M1 (k + 1)) (hR : Rng M1) (hn : nN M1 ≤ k) (hk : k < 256) : dsI F Mk (un K 0 ((nN M1 + 1 : Nat) : Int)) (un A (nN M1) (ofS M1 k 0)) (un B (nN M1) (ofS M1 k 3)) (un W (nN M1) (knV M1 k)) (kadd M1 k) (k + 1) := by
  obtain ⟨⟨a0, a1, a2, a3, a4, a5, a6, a7, a8⟩, b, c0, c, e⟩ := h
  have en : nN (kadd M1 k) = nN M1 + 1 := kadd_n M1 k
  have hne : ∀ j, j ≠ 1 → j ≠ nN M1 + 276 → j ≠ nN M1 + 532 → j ≠ nN M1 + 788 → kadd M1 k j = M1 j := fun j h1 h2 h3 h4 => by
    unfold kadd; rw [un_ne h1, un_ne h4, un_ne h3, un_ne h2]
  have hsig : ∀ i : Nat, i < 256 → kadd M1 k (i + 20) = M1 (i + 20) := fun i hi => hne _ (by omega) (by omega) (by omega) (by omega)
  refine ⟨⟨a0, ?_, a2, ?_, a4, a5, a6, a7, a8⟩, ?_, ?_, ?_, ?_⟩
  · rw [hne 8 (by decide) (by omega) (by omega) (by omega)]; exact a1
  · rw [ssM_ext (N := M1) (k + 1) (fun i hi => hsig i (by omega))]; exact a3
  · intro i hi
    rw [hsig i (by omega)]
    exact b i hi
  · show un _ _ _ 0 = _; rw [un_at, en]
  · intro i hi
    rw [en] at hi
    have h788 : kadd M1 k (nN M1 + 788) = (k : Int) := by unfold kadd; rw [un_ne (by omega), un_at]
    by_cases g : i = nN M1
    · subst g
      refine ⟨?_, ?_, ?_⟩
      · show un _ _ _ _ = _; rw [un_at]; unfold kadd; rw [un_ne (by omega), un_ne (by omega), un_ne (by omega), un_at]
      · show un _ _ _ _ = _
        rw [un_at]
        unfold kadd
        rw [un_ne (by omega), un_ne (by omega), un_at]
        exact (ofS_ext (by rw [Int.toNat_natCast, un_ne (by omega)]) 3).symm
      · show un _ _ _ _ = _
        rw [un_at, spI_kn, h788]
        exact (knV_ext (by rw [Int.toNat_natCast]; exact hsig k hk)).symm
    · have hi2 := e i (by omega)
      obtain ⟨c1, c2, c3⟩ := c i (by omega)
      refine ⟨?_, ?_, ?_⟩
      · show un _ _ _ i = _; rw [un_ne g, hne _ (by omega) (by omega) (by omega) (by omega)]; exact c1
      · show un _ _ _ i = _; rw [un_ne g, hne _ (by omega) (by omega) (by omega) (by omega)]; exact c2
      · show un _ _ _ i = _
        rw [un_ne g, c3, spI_kn, spI_kn, hne (i + 788) (by omega) (by omega) (by omega) (by omega)]
        exact (knV_ext (hsig _ (by omega))).symm
  · intro i hi
    rw [en] at hi
    by_cases g : i = nN M1
    · subst g
      have h788 : kadd M1 k (nN M1 + 788) = (k : Int) := by unfold kadd; rw [un_ne (by omega), un_at]
      rw [h788]; omega
    · rw [hne (i + 788) (by omega) (by omega) (by omega) (by omega)]
      exact e i (by omega)
end C5

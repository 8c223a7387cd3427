section C30
variable {G : Gl} {d : Nat} {T : Sh} {I : Mi} {N : Nat → Int} {Q : Option AV → Sh → Mi → Prop}
theorem PmO_o {M K : Nat → Int} {e n : Nat} (h : PmO M e n) (hR : Rng K) (h1 : K 1 = M 1) (hj : ∀ j, 1044 ≤ j → j < 2580 → K j = M j) : PmO K e n := by
  obtain ⟨a1, a2, a3, a4, a5, a6, a7⟩ := h
  have ho : ∀ q k, 256 * q + k < 1536 → oP K q k = oP M q k := fun q k hq => by unfold oP; rw [hj _ (by omega) (by omega)]
  refine ⟨hR, by rw [h1]; exact a2, a3, a4, fun q hq k hk => ?_, fun q hq i j hi hj hij => ?_, fun q hq x hx => ?_⟩
  · rw [ho q k (by omega)]; exact a5 q hq k hk
  · rw [ho q i (by omega), ho q j (by omega)] at hij; exact a6 q hq i j hi hj hij
  · obtain ⟨i, h1, h2⟩ := a7 q hq x hx
    exact ⟨i, h1, by rw [ho q i (by omega)]; exact h2⟩
theorem LdOk_c {N K : Nat → Int} {q n : Nat} (h : LdOk N q n) (ht : tN K = tN N) (hc : ∀ k, k < tN N → K (k + 3902) = N (k + 3902)) : LdOk K q n := by
  intro k hk
  rw [ht] at hk
  have := h k hk
  unfold cdOk at this ⊢
  rw [hc k hk]
  exact this
/-- a State whose own rows but the fields, the keys' b and the finals stay, stands for a row that differs there alone -/
theorem St_ch {T : Sh} {I K : Mi} {s p o t c q n : Nat} {L N M : Nat → Int} (hS : ShS T s p o t c) (hst : StR L I s p o t N) (hP : PmO N q n) (hL : LdOk N q n) (hN2 : N 2 = (q : Int)) (hN0 : ¬ N 0 = 0) (hM0 : ¬ M 0 = 0) (hLs : (sgV L N).toNat ≤ 256) (hR : Rng M)
   (hM : ∀ j, j < 3902 → j ≠ 0 → j ≠ 6 → j ≠ 7 → j ≠ 8 → j ≠ 9 → j ≠ 10 → j ≠ 11 → ¬ (532 ≤ j ∧ j < 788) → j < 2870 → M j = N j) (hc : ∀ k, M (k + 3902) = N (k + 3902))
   (hf : K s 0 = M 0 ∧ K s 1 = M 8 ∧ K s 8 = M 7) (hfo : ∀ j, j ≠ 0 → j ≠ 1 → j ≠ 8 → K s j = I s j) (hb : ∀ k, k < n → K (s + 5) k = M (k + 532))
   (hk : ∀ k, k < 15 → k ≠ 0 → k ≠ 5 → k < 8 → K (s + k) = I (s + k)) (hl : K p = I p ∧ K o = I o ∧ K t = I t) (hfn : FnR K s M) : StR L K s p o t M ∧ PmO M q n ∧ LdOk M q n := by
  obtain ⟨hfl, hmk, hor, hky, hld, _⟩ := hst
  have hn2 := hP.2.2.1
  have he6 := hP.2.2.2.1
  have hnn := hP.nn
  have hm : ∀ j, j < 2870 → j ≠ 0 → j ≠ 6 → j ≠ 7 → j ≠ 8 → j ≠ 9 → j ≠ 10 → j ≠ 11 → ¬ (532 ≤ j ∧ j < 788) → M j = N j := fun j a b c e f g h i w => hM j (by omega) b c e f g h i w a
  have ht : tN M = tN N := by unfold tN; rw [hm 3 (by decide) (by decide) (by decide) (by decide) (by decide) (by decide) (by decide) (by decide) (by omega)]
  have hn1 : nN M = n := by rw [← hnn]; unfold nN; rw [hm 1 (by decide) (by decide) (by decide) (by decide) (by decide) (by decide) (by decide) (by decide) (by omega)]
  have hP2 : PmO M q n := PmO_o hP hR (hm 1 (by decide) (by decide) (by decide) (by decide) (by decide) (by decide) (by decide) (by decide) (by omega)) (fun j h1 h2 => hm j (by omega) (by omega) (by omega) (by omega) (by omega) (by omega) (by omega) (by omega) (by omega))
  have hsg : sgV L M = sgV L N := by unfold sgV; rw [if_neg hM0, if_neg hN0]
  have hsi : ∀ i, i < 256 → M (i + 20) = N (i + 20) := fun i hi => hm _ (by omega) (by omega) (by omega) (by omega) (by omega) (by omega) (by omega) (by omega) (by omega)
  refine ⟨⟨⟨hf.1, hf.2.1, ?_, ?_, ?_, ?_, ?_, ?_, hf.2.2⟩, ?_, ?_, ⟨?_, ?_⟩, ⟨?_, ?_⟩, hfn⟩, hP2, LdOk_c hL ht (fun k _ => hc k)⟩
  · rw [hfo 2 (by decide) (by decide) (by decide), hsg]; exact hfl.2.2.1
  · rw [hfo 3 (by decide) (by decide) (by decide), hsg]
    exact hfl.2.2.2.1.trans (ssM_ext _ (fun i hi => hsi i (by omega))).symm
  · rw [hfo 4 (by decide) (by decide) (by decide), hm 4 (by decide) (by decide) (by decide) (by decide) (by decide) (by decide) (by decide) (by decide) (by omega)]; exact hfl.2.2.2.2.1
  · rw [hfo 5 (by decide) (by decide) (by decide), hm 5 (by decide) (by decide) (by decide) (by decide) (by decide) (by decide) (by decide) (by decide) (by omega)]; exact hfl.2.2.2.2.2.1
  · rw [hfo 6 (by decide) (by decide) (by decide), hm 2 (by decide) (by decide) (by decide) (by decide) (by decide) (by decide) (by decide) (by decide) (by omega)]; exact hfl.2.2.2.2.2.2.1
  · rw [hfo 7 (by decide) (by decide) (by decide), hm 12 (by decide) (by decide) (by decide) (by decide) (by decide) (by decide) (by decide) (by decide) (by omega)]; exact hfl.2.2.2.2.2.2.2.1
  · intro i hi
    rw [hsg] at hi
    rw [hk 1 (by decide) (by decide) (by decide) (by decide), hmk i hi, hsi i (by omega)]
  · intro y hy k hk2
    rw [hm 2 (by decide) (by decide) (by decide) (by decide) (by decide) (by decide) (by decide) (by decide) (by omega)] at hy
    rw [hn1] at hk2
    rw [hk 2 (by decide) (by decide) (by decide) (by decide), hm _ (by omega) (by omega) (by omega) (by omega) (by omega) (by omega) (by omega) (by omega) (by omega)]
    exact hor y hy k (by omega)
  · rw [hk 3 (by decide) (by decide) (by decide) (by decide), hm 1 (by decide) (by decide) (by decide) (by decide) (by decide) (by decide) (by decide) (by decide) (by omega)]; exact hky.1
  · intro k hk2
    rw [hn1] at hk2
    obtain ⟨c1, c2, c3⟩ := hky.2 k (by omega)
    rw [hk 4 (by decide) (by decide) (by decide) (by decide), hk 6 (by decide) (by decide) (by decide) (by decide), c1, c3, spI_kn, spI_kn, hm (k + 788) (by omega) (by omega) (by omega) (by omega) (by omega) (by omega) (by omega) (by omega) (by omega)]
    have ho := Rng_of (j := k + 788) hP.1 (by omega) (by omega)
    exact ⟨(hm _ (by omega) (by omega) (by omega) (by omega) (by omega) (by omega) (by omega) (by omega) (by omega)).symm, hb k hk2, (knV_ext (hsi _ (by omega))).symm⟩
  · rw [hk 7 (by decide) (by decide) (by decide) (by decide), hm 3 (by decide) (by decide) (by decide) (by decide) (by decide) (by decide) (by decide) (by decide) (by omega)]; exact hld.1
  · intro k hk2
    rw [ht] at hk2
    have g1 := LdE_mv (K := K) (p2 := p) (o2 := o) (t2 := t) (hld.2 k hk2) (by rw [hl.1]) (by rw [hl.2.1]) (fun j _ => by rw [hl.2.2])
    exact LdE_ext g1 (hL k hk2) he6 hnn hn2 hn1 (hc k) (fun y i hy hi => by unfold oP; rw [hm _ (by omega) (by omega) (by omega) (by omega) (by omega) (by omega) (by omega) (by omega) (by omega)]) (fun j j1 j2 => hm j (by omega) (by omega) (by omega) (by omega) (by omega) (by omega) (by omega) (by omega) (by omega))
end C30

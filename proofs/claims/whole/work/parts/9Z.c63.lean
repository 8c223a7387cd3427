section C63
variable {G : Gl} {d : Nat} {T : Sh} {I : Mi} {N : Nat → Int} {Q : Option AV → Sh → Mi → Prop}
def okP (L N : Nat → Int) : Prop := (N 0 = 2 ∨ N 0 = 3) ∧ ¬ N 2 = L 6
theorem sg_of {L N : Nat → Int} (hL : plOk L) : (sgV L N).toNat ≤ 256 := sg_256 hL
theorem FnR_c {I K : Mi} {s : Nat} {N M : Nat → Int} (h : FnR I s N) (h1 : K (s + 11) = I (s + 11)) (h2 : K (s + 12) = I (s + 12)) (h3 : K (s + 13) = I (s + 13)) (h4 : K (s + 14) = I (s + 14)) (hM : ∀ j, (j = 1 ∨ j = 6 ∨ j = 9 ∨ j = 10 ∨ j = 11 ∨ 2870 ≤ j) → M j = N j) : FnR K s M := by
  obtain ⟨a1, a2, a3, a4, a5, a6⟩ := h
  have hn : nN M = nN N := by unfold nN; rw [hM 1 (by omega)]
  unfold FnR
  rw [h1, h2, h3, h4, hM 6 (by omega), hM 9 (by omega), hM 10 (by omega), hM 11 (by omega), hn]
  exact ⟨a1, a2, a3, a4, fun i hi => by rw [hM _ (by omega), hM _ (by omega)]; exact a5 i hi, fun h i hi => by rw [hM _ (by omega)]; exact a6 h i hi⟩
theorem NOk_sl {N : Nat → Int} {q n x : Nat} (h : NOk N q n) (hx : x < n) (h1 : PmO (slF N x) q n) (h2 : LdOk (slF N x) q n) : NOk (slF N x) q n := by
  obtain ⟨hP, hLd, hN2, s1, s2, s3, s4⟩ := h
  have hn2 := hP.2.2.1
  have e : ∀ j, (j < 532 ∨ 788 ≤ j) → slF N x j = N j := fun j hj => by unfold slF; rw [un_ne (by omega)]
  refine ⟨h1, h2, by rw [e 2 (by omega)]; exact hN2, ?_, ?_, ?_, ?_⟩
  · rw [e 0 (by omega), e 6 (by omega)]; exact s1
  · rw [e 0 (by omega), e 2 (by omega), e 3 (by omega), e 4 (by omega)]; exact s2
  · rw [e 0 (by omega)]
    intro g
    obtain ⟨p1, p2⟩ := s3 g
    have ht : tN (slF N x) = tN N := by unfold tN; rw [e 3 (by omega)]
    refine ⟨⟨h1.1, by rw [e 2 (by omega)]; exact hN2, p1.2.2.1, fun p hp k hk => ?_, by rw [ht, e 12 (by omega)]; exact p1.2.2.2.2⟩, No2_lo p2 ht (fun k hk => e _ (by omega))⟩
    rw [h1.nn] at hk ⊢
    exact h1.2.2.2.2.1 p hp k hk
  · rw [e 0 (by omega), e 5 (by omega)]; exact s4
theorem St_sl {T : Sh} {K : Mi} {p o t c q n x : Nat} {L N : Nat → Int} (hS : ShS T 9 p o t c) (hst : StR L K 9 p o t N) (hNo : NOk N q n) (hLp : plOk L) (hx : x < n) (h0 : ¬ N 0 = 0) :
   StR L (sr K (9 + 5) (un (K (9 + 5)) x (ixo (K (9 + 5) x) 1))) 9 p o t (slF N x) ∧ PmO (slF N x) q n ∧ LdOk (slF N x) q n := by
  have hn2 := hNo.1.2.2.1
  have hne := neS hS
  have e : ∀ j, (j < 532 ∨ 788 ≤ j) → slF N x j = N j := fun j hj => by unfold slF; rw [un_ne (by omega)]
  have hR : Rng (slF N x) := Rng_sl hNo.1.1 (by omega) (by omega)
  have hb0 := hst.2.2.2.1.2
  refine St_ch hS hst hNo.1 hNo.2.1 hNo.2.2.1 h0 (by rw [e 0 (by omega)]; exact h0) (sg_of hLp) hR (fun j a b c d f g h i w y => e j (by omega)) (fun k => e _ (by omega)) ⟨?_, ?_, ?_⟩ (fun j _ _ _ => ?_) (fun k hk => ?_) (fun k h1 h2 h3 h4 => sr_ne (by omega)) ⟨sr_ne (by omega), sr_ne (by omega), sr_ne (by omega)⟩ (FnR_c hst.2.2.2.2.2 (sr_ne (by decide)) (sr_ne (by decide)) (sr_ne (by decide)) (sr_ne (by decide)) (fun j hj => e j (by omega)))
  · rw [sr_ne (by decide), e 0 (by omega)]; exact hst.1.1
  · rw [sr_ne (by decide), e 8 (by omega)]; exact hst.1.2.1
  · rw [sr_ne (by decide), e 7 (by omega)]; exact hst.1.2.2.2.2.2.2.2.2
  · rw [sr_ne (by decide)]
  · rw [sr_row]
    by_cases g : k = x
    · subst g
      have h01 := Rng_key (j := k + 532) hNo.1.1 (by omega) (by omega)
      rw [un_at, (hb0 k (by rw [hNo.1.nn]; exact hk)).2.1, ixo_1 h01]
      unfold slF
      rw [Int.toNat_natCast, un_at]
    · rw [un_ne g, (hb0 k (by rw [hNo.1.nn]; exact hk)).2.1]
      unfold slF
      rw [un_ne (by omega)]
theorem NOk_sd {N : Nat → Int} {q n : Nat} {v : Int} (h : NOk N q n) (h0 : N 0 = 5) (h1 : PmO (sdF N v) q n) (h2 : LdOk (sdF N v) q n) : NOk (sdF N v) q n := by
  obtain ⟨hP, hLd, hN2, s1, s2, s3, s4⟩ := h
  have e : ∀ j, j ≠ 9 → j ≠ 10 → j ≠ 11 → sdF N v j = N j := fun j a b c => by unfold sdF sd2 sd1; rw [un_ne a, un_ne c, un_ne b]
  have f0 : sdF N v 0 = 5 := (e 0 (by decide) (by decide) (by decide)).trans h0
  exact ⟨h1, h2, (e 2 (by decide) (by decide) (by decide)).trans hN2, fun h => absurd f0 h, fun h => absurd h (by rw [f0]; decide), fun h => absurd h (by rw [f0]; decide), fun _ _ => by rw [e 5 (by decide) (by decide) (by decide)]; exact s4 (by omega) (by omega)⟩
theorem St_sd {T : Sh} {K : Mi} {p o t c q n u l : Nat} {v : Int} {L N : Nat → Int} (hS : ShS T 9 p o t c) (hst : StR L K 9 p o t N) (hNo : NOk N q n) (hLp : plOk L) (h0 : N 0 = 5) (hu : N 9 = (u : Int)) (hl : N 6 = (l : Int)) (hul : u + 8 ≤ l) (hl2 : l ≤ 256) (hv : 0 ≤ v ∧ v ≤ 255) :
   cyS v (fun i => K (9 + 13) (u + i)) 8 = ixo v (byN N 3390 u 8) ∧ StR L (sr K (9 + 11) (un (un (un (K (9 + 11)) 5 (cyS v (fun i => K (9 + 13) (u + i)) 8)) 4 ((u + 8 : Nat) : Int)) 6 (ixo (cyS v (fun i => K (9 + 13) (u + i)) 8) (cyS 0 (fun i => K (9 + 14) (u + i)) 8)))) 9 p o t (sdF N v) ∧ PmO (sdF N v) q n ∧ LdOk (sdF N v) q n := by
  have hne := neS hS
  have hv32 : in32 v := by unfold in32; omega
  obtain ⟨g1, g2, g3, g4, g5, g6⟩ := hst.2.2.2.2.2
  have hA : cyS v (fun i => K (9 + 13) (u + i)) 8 = ixo v (byN N 3390 u 8) := by
    rw [cyS_v hv32, cyS_by (fun i hi => by show K (9 + 13) (u + i) = 0 ∨ _; rw [(g5 (u + i) (by omega)).1]; exact Rng_row hNo.1.1 (by omega) (by omega)), by8_N]
    congr 1
    have e : ∀ m, m ≤ 8 → by8 (fun i => K (9 + 13) (u + i)) m = by8 (fun i => N (3390 + u + i)) m := by
      intro m
      induction m with
      | zero => intro _; rfl
      | succ m ih =>
        intro hm
        show iro (isl (by8 _ m) 1) (K (9 + 13) (u + m)) = iro (isl (by8 _ m) 1) (N (3390 + u + m))
        rw [ih (by omega), (g5 (u + m) (by omega)).1, show u + m + 3390 = 3390 + u + m by omega]
    exact e 8 (Nat.le_refl _)
  have hB : cyS 0 (fun i => K (9 + 14) (u + i)) 8 = byN N 3646 u 8 := by
    rw [cyS_by (fun i hi => by show K (9 + 14) (u + i) = 0 ∨ _; rw [(g5 (u + i) (by omega)).2]; exact Rng_row hNo.1.1 (by omega) (by omega)), by8_N]
    have e : ∀ m, m ≤ 8 → by8 (fun i => K (9 + 14) (u + i)) m = by8 (fun i => N (3646 + u + i)) m := by
      intro m
      induction m with
      | zero => intro _; rfl
      | succ m ih =>
        intro hm
        show iro (isl (by8 _ m) 1) (K (9 + 14) (u + m)) = iro (isl (by8 _ m) 1) (N (3646 + u + m))
        rw [ih (by omega), (g5 (u + m) (by omega)).2, show u + m + 3646 = 3646 + u + m by omega]
    exact e 8 (Nat.le_refl _)
  have hun : uN N = u := by unfold uN; omega
  have hB2 : byN (sd1 N v) 3646 u 8 = byN N 3646 u 8 := by
    rw [by8_N, by8_N]
    have e : (fun i => sd1 N v (3646 + u + i)) = (fun i => N (3646 + u + i)) := funext fun i => by unfold sd1; rw [un_ne (by omega)]
    rw [e]
  have e : ∀ j, j ≠ 9 → j ≠ 10 → j ≠ 11 → sdF N v j = N j := fun j a b c => by unfold sdF sd2 sd1; rw [un_ne a, un_ne c, un_ne b]
  have f9 : sdF N v 9 = ((u + 8 : Nat) : Int) := by unfold sdF; rw [un_at, hun]
  have f10 : sdF N v 10 = ixo v (byN N 3390 u 8) := by unfold sdF sd2 sd1; rw [un_ne (by decide), un_ne (by decide), un_at, hun]
  have f11 : sdF N v 11 = ixo (ixo v (byN N 3390 u 8)) (byN N 3646 u 8) := by unfold sdF sd2; rw [un_ne (by decide), un_at, hun, hB2]
  have hR : Rng (sdF N v) := by
    unfold sdF sd2 sd1
    exact Rng_un (Rng_un (Rng_un hNo.1.1 (ok_free (by decide))) (ok_free (by decide))) (ok_9.mpr (by rw [hun]; omega))
  have hnn : nN (sdF N v) = nN N := by unfold nN; rw [e 1 (by decide) (by decide) (by decide)]
  refine ⟨hA, ?_⟩
  rw [hA, hB]
  refine St_ch hS hst hNo.1 hNo.2.1 hNo.2.2.1 (by rw [h0]; decide) (by rw [e 0 (by decide) (by decide) (by decide), h0]; decide) (sg_of hLp) hR (fun j a b c d f g h i w y => e j (by omega) (by omega) (by omega)) (fun k => e _ (by omega) (by omega) (by omega)) ⟨?_, ?_, ?_⟩ (fun j _ _ _ => ?_) (fun k hk => ?_) (fun k h1 h2 h3 h4 => sr_ne (by omega)) ⟨sr_ne (by omega), sr_ne (by omega), sr_ne (by omega)⟩ ⟨?_, ?_, ?_, ?_, fun i hi => ?_, fun hh i hi => ?_⟩
  · rw [sr_ne (by decide), e 0 (by decide) (by decide) (by decide)]; exact hst.1.1
  · rw [sr_ne (by decide), e 8 (by decide) (by decide) (by decide)]; exact hst.1.2.1
  · rw [sr_ne (by decide), e 7 (by decide) (by decide) (by decide)]; exact hst.1.2.2.2.2.2.2.2.2
  · rw [sr_ne (by decide)]
  · rw [sr_ne (by decide), e _ (by omega) (by omega) (by omega)]; exact (hst.2.2.2.1.2 k (by rw [hNo.1.nn]; exact hk)).2.1
  · rw [sr_row, un_ne (by decide), un_ne (by decide), un_ne (by decide), e 6 (by decide) (by decide) (by decide)]; exact g1
  · rw [sr_row, un_ne (by decide), un_at, f9]
  · rw [sr_row, un_ne (by decide), un_ne (by decide), un_at, f10]
  · rw [sr_row, un_at, f11]
  · rw [e 6 (by decide) (by decide) (by decide)] at hi
    rw [sr_ne (by decide), sr_ne (by decide), e _ (by omega) (by omega) (by omega), e _ (by omega) (by omega) (by omega)]
    exact g5 i hi
  · rw [e 6 (by decide) (by decide) (by decide)] at hh hi
    rw [hnn] at hi
    rw [sr_ne (by decide), e _ (by omega) (by omega) (by omega)]
    exact g6 hh i hi
end C63

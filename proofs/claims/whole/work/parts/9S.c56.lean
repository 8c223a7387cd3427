section C56
variable {G : Gl} {d : Nat} {T : Sh} {I : Mi} {N : Nat → Int} {Q : Option AV → Sh → Mi → Prop}
def stgOk (M : Nat → Int) (q : Nat) : Prop := (¬ M 0 = 5 → M 6 = 0) ∧ (M 0 = 1 → M 2 = 0 ∧ M 3 = 0 ∧ M 4 = 0) ∧ (M 0 = 2 ∨ M 0 = 3 → pOK M q ∧ No2 M) ∧ (2 ≤ M 0 → M 0 ≤ 5 → 0 ≤ M 5)
/-- what holds of each row that is reached -/
def NOk (M : Nat → Int) (q n : Nat) : Prop := PmO M q n ∧ LdOk M q n ∧ M 2 = (q : Int) ∧ stgOk M q
def SRel (L : Nat → Int) (I : Mi) (A : AN) (i : Nat) (M : Nat → Int) : Prop := StR L I (sN i) (A i).1 (A i).2.1 (A i).2.2.1 M ∧ tN M ≤ (A i).2.2.2 ∧ (∃ q n, NOk M q n) ∧ M 2 ≤ L 6
theorem NOk_ag {M K : Nat → Int} {q n : Nat} (h : NOk M q n) (ha : agN M K) : NOk K q n := by
  obtain ⟨h1, h2, h3, h4, h5, h6, h7⟩ := h
  have e : ∀ j, j < 3902 → K j = M j := fun j hj => ha j (by omega)
  refine ⟨PmO_ag h1 ha, LdOk_ag h2 ha, by rw [e 2 (by decide)]; exact h3, ?_, ?_, ?_, ?_⟩
  · rw [e 0 (by decide), e 6 (by decide)]; exact h4
  · rw [e 0 (by decide), e 2 (by decide), e 3 (by decide), e 4 (by decide)]; exact h5
  · rw [e 0 (by decide)]
    exact fun g => ⟨pOK_ag (h6 g).1 ha, No2_lo (h6 g).2 (agN_t ha) (fun k hk => ha _ (by omega))⟩
  · rw [e 0 (by decide), e 5 (by decide)]; exact h7
theorem SRel_ag {L : Nat → Int} {I : Mi} {A : AN} {i : Nat} {M K : Nat → Int} (hL : plOk L) (h : SRel L I A i M) (ha : agN M K) : SRel L I A i K := by
  obtain ⟨h1, h2, ⟨q, n, h3⟩, h4⟩ := h
  exact ⟨StR_ag h1 h3.1 h3.2.1 h3.2.2.1 (sg_256 hL) ha, by rw [agN_t ha]; exact h2, ⟨q, n, NOk_ag h3 ha⟩, by rw [ha 2 (by omega)]; exact h4⟩
/-- one State was changed: the others stand as they did -/
theorem SRel_tr {L : Nat → Int} {T U : Sh} {I K : Mi} {A : AN} {i j p2 o2 t2 c2 z w : Nat} {M : Nat → Int} (hK : KSh T A) (hi : i < 16) (hj : j < 16) (hij : j ≠ i) (h : TrP T U I K (sN i) (A i).1 (A i).2.1 (A i).2.2.1 (A i).2.2.2 p2 o2 t2 c2 z w) (hz : sN j + 15 ≤ z ∨ z + w ≤ sN j) (hzb : z + w ≤ 291) (hr : SRel L I A j M) : SRel L K (upA A i (p2, o2, t2, c2)) j M := by
  obtain ⟨h1, h2, h3⟩ := hr
  have e : upA A i (p2, o2, t2, c2) j = A j := if_neg hij
  have g := (h.st (hK.2.2.1 i hi) (hK.2.2.1 j hj) (sN_dj hi hj (Ne.symm hij)) (hK.2.2.2.1 i j hi hj (Ne.symm hij)) hz hzb h1).1
  unfold SRel
  rw [e]
  exact ⟨g, h2, h3⟩
theorem SRel_fr {L : Nat → Int} {T : Sh} {I K : Mi} {A : AN} {j z w : Nat} {M : Nat → Int} (hK : KSh T A) (hj : j < 16) (h : ∀ b, b < z ∨ z + w ≤ b → K b = I b) (hz : sN j + 15 ≤ z ∨ z + w ≤ sN j) (hzb : z + w ≤ 291) (hr : SRel L I A j M) : SRel L K A j M := by
  obtain ⟨h1, h2, h3⟩ := hr
  have q2 := nm_z (hK.2.2.1 j hj) hz hzb
  exact ⟨StR_eq h1 (fun k hk _ _ _ => h _ (by omega)) (h _ q2.1) (h _ q2.2.1) (h _ q2.2.2), h2, h3⟩
def wRow (W : Nat → Int) (j : Nat) : Nat → Int := fun k => W (17510 * j + k)
def ringI (e u j : Nat) : Nat := (e + 12 - u + j) % 12 + 1
theorem ringI_le (e u j : Nat) : 1 ≤ ringI e u j ∧ ringI e u j ≤ 12 := by unfold ringI; omega
/-- the component stands for the reference's rows: tape, plan, what can be undone, images, now -/
def KC (I : Mi) (A : AN) (tp : Nat) (L Bt : Nat → Int) (u e : Nat) (W P Y N : Nat → Int) : Prop :=
  ((∀ k, k < 9 → I 3 k = L k) ∧ plOk L) ∧ (I 0 1 = (tp : Int) ∧ tp ≤ 200 ∧ ∀ k, k < tp → I 1 k = ian (Bt k) 255) ∧ SRel L I A 0 N ∧
  ((u ≤ 12 ∧ e < 12) ∧ (I 24 2 = (u : Int) ∧ I 24 1 = (e : Int)) ∧ ∀ j, j < u → SRel L I A (ringI e u j) (wRow W j)) ∧
  ∀ k, k < 2 → (I 207 k = 0 ↔ Y k = 0) ∧ (¬ Y k = 0 → SRel L I A (k + 14) (wRow P k))
theorem sN_z {z w j : Nat} (hj : j < 16) (h : (208 ≤ z ∧ z + w ≤ 219) ∨ 274 ≤ z ∨ w = 0 ∧ z = 0) : sN j + 15 ≤ z ∨ z + w ≤ sN j := by
  have h1 := sN_le hj
  have h2 : sN j + 15 ≤ 208 ∨ 219 ≤ sN j := by unfold sN; split; omega; split; omega; split <;> omega
  omega
theorem sN_13 {j : Nat} (hj : j < 16) (h : j ≠ 13) : sN j + 15 ≤ 219 ∨ 244 ≤ sN j := by
  unfold sN
  split
  · omega
  · split
    · omega
    · first | omega | (split <;> omega)
/-- an act of now's -/
theorem KC_now {T U : Sh} {I K : Mi} {A : AN} {tp u e p2 o2 t2 c2 z w : Nat} {L Bt W P Y N N2 : Nat → Int} (hK : KSh T A) (h : KC I A tp L Bt u e W P Y N) (hT : TrP T U I K 9 (A 0).1 (A 0).2.1 (A 0).2.2.1 (A 0).2.2.2 p2 o2 t2 c2 z w) (hz : (208 ≤ z ∧ z + w ≤ 219) ∨ w = 0 ∧ z = 0) (hN : StR L K 9 p2 o2 t2 N2 ∧ tN N2 ≤ c2 ∧ (∃ q n, NOk N2 q n) ∧ N2 2 ≤ L 6) : KSh U (upA A 0 (p2, o2, t2, c2)) ∧ KC K (upA A 0 (p2, o2, t2, c2)) tp L Bt u e W P Y N2 := by
  obtain ⟨⟨h1, h1b⟩, ⟨h2, h2b, h2c⟩, h3, ⟨h4, h5, h6⟩, h7⟩ := h
  have hS := sK0 hK
  have f : ∀ b, b < 291 → (b < 9 ∨ 24 ≤ b) → (b < z ∨ z + w ≤ b) → K b = I b := fun b b1 b2 b3 => hT.fr hS b1 (by omega) b3
  have hf : ∀ b, (b = 0 ∨ b = 1 ∨ b = 3 ∨ b = 24 ∨ b = 207) → K b = I b := fun b hb => f b (by omega) (by omega) (by omega)
  have hr : ∀ j M, j < 16 → j ≠ 0 → SRel L I A j M → SRel L K (upA A 0 (p2, o2, t2, c2)) j M := fun j M hj hj0 hs => SRel_tr hK (by decide) hj hj0 hT (sN_z hj (by omega)) (by omega) hs
  refine ⟨KSh_ext (by decide) hK hT.2.1.1 hT.1 hT.2.1.2, ⟨fun k hk => ?_, h1b⟩, ⟨?_, h2b, fun k hk => ?_⟩, hN, ⟨h4, ⟨?_, ?_⟩, fun j hj => ?_⟩, fun k hk => ⟨?_, fun hy => ?_⟩⟩
  · rw [hf 3 (by omega)]; exact h1 k hk
  · rw [hf 0 (by omega)]; exact h2
  · rw [hf 1 (by omega)]; exact h2c k hk
  · rw [hf 24 (by omega)]; exact h5.1
  · rw [hf 24 (by omega)]; exact h5.2
  · have := ringI_le e u j
    exact hr _ _ (by omega) (by omega) (h6 j hj)
  · rw [hf 207 (by omega)]; exact (h7 k hk).1
  · exact hr _ _ (by omega) (by omega) ((h7 k hk).2 hy)
/-- a trying -/
theorem KC_tri {T U : Sh} {I K : Mi} {A : AN} {tp u e p2 o2 t2 c2 : Nat} {L Bt W P Y N : Nat → Int} (hK : KSh T A) (h : KC I A tp L Bt u e W P Y N) (hT : TrP T U I K 220 (A 13).1 (A 13).2.1 (A 13).2.2.1 (A 13).2.2.2 p2 o2 t2 c2 235 9) : KSh U (upA A 13 (p2, o2, t2, c2)) ∧ KC K (upA A 13 (p2, o2, t2, c2)) tp L Bt u e W P Y N := by
  obtain ⟨⟨h1, h1b⟩, ⟨h2, h2b, h2c⟩, h3, ⟨h4, h5, h6⟩, h7⟩ := h
  have hS := sK13 hK
  have hf : ∀ b, (b = 0 ∨ b = 1 ∨ b = 3 ∨ b = 24 ∨ b = 207) → K b = I b := fun b hb => hT.fr hS (by omega) (by omega) (by omega)
  have hr : ∀ j M, j < 16 → j ≠ 13 → SRel L I A j M → SRel L K (upA A 13 (p2, o2, t2, c2)) j M := fun j M hj hj0 hs => SRel_tr hK (by decide) hj hj0 hT (by have := sN_13 hj hj0; omega) (by decide) hs
  refine ⟨KSh_ext (by decide) hK hT.2.1.1 hT.1 hT.2.1.2, ⟨fun k hk => ?_, h1b⟩, ⟨?_, h2b, fun k hk => ?_⟩, hr 0 N (by decide) (by decide) h3, ⟨h4, ⟨?_, ?_⟩, fun j hj => ?_⟩, fun k hk => ⟨?_, fun hy => ?_⟩⟩
  · rw [hf 3 (by omega)]; exact h1 k hk
  · rw [hf 0 (by omega)]; exact h2
  · rw [hf 1 (by omega)]; exact h2c k hk
  · rw [hf 24 (by omega)]; exact h5.1
  · rw [hf 24 (by omega)]; exact h5.2
  · have := ringI_le e u j
    exact hr _ _ (by omega) (by omega) (h6 j hj)
  · rw [hf 207 (by omega)]; exact (h7 k hk).1
  · exact hr _ _ (by omega) (by omega) ((h7 k hk).2 hy)
/-- rows that it does not speak of -/
theorem KC_fr {T : Sh} {I K : Mi} {A : AN} {tp u e z w : Nat} {L Bt W P Y N : Nat → Int} (hK : KSh T A) (h : KC I A tp L Bt u e W P Y N) (hf : ∀ b, b < z ∨ z + w ≤ b → K b = I b) (hz : (208 ≤ z ∧ z + w ≤ 219) ∨ (274 ≤ z ∧ z + w ≤ 291)) : KC K A tp L Bt u e W P Y N := by
  obtain ⟨⟨h1, h1b⟩, ⟨h2, h2b, h2c⟩, h3, ⟨h4, h5, h6⟩, h7⟩ := h
  have hr : ∀ j M, j < 16 → SRel L I A j M → SRel L K A j M := fun j M hj hs => SRel_fr hK hj hf (sN_z hj (by omega)) (by omega) hs
  refine ⟨⟨fun k hk => ?_, h1b⟩, ⟨?_, h2b, fun k hk => ?_⟩, hr 0 N (by decide) h3, ⟨h4, ⟨?_, ?_⟩, fun j hj => ?_⟩, fun k hk => ⟨?_, fun hy => ?_⟩⟩
  · rw [hf 3 (by omega)]; exact h1 k hk
  · rw [hf 0 (by omega)]; exact h2
  · rw [hf 1 (by omega)]; exact h2c k hk
  · rw [hf 24 (by omega)]; exact h5.1
  · rw [hf 24 (by omega)]; exact h5.2
  · have := ringI_le e u j
    exact hr _ _ (by omega) (h6 j hj)
  · rw [hf 207 (by omega)]; exact (h7 k hk).1
  · exact hr _ _ (by omega) ((h7 k hk).2 hy)
end C56

section C23
variable {G : Gl} {d : Nat} {T : Sh} {I : Mi} {N : Nat → Int} {Q : Option AV → Sh → Mi → Prop}
theorem LdOk_mono {N : Nat → Int} {q e n : Nat} (h : LdOk N q n) (hq : q ≤ e) : LdOk N e n := by
  intro k hk
  rcases h k hk with ⟨a, p, b, m, h1, h2, h3⟩ | h | h
  · exact Or.inl ⟨a, p, b, m, h1, by omega, h3⟩
  · exact Or.inr (Or.inl h)
  · exact Or.inr (Or.inr h)
theorem sh_t {N : Nat → Int} {q n : Nat} (hR : Rng N) (hq : q < 6) (hn : n ≤ 256) : tN (shF N q n) = tN N := by unfold tN; rw [(shF_ok (p := q) hR hq hn).2.1 3 (by decide) (by omega)]
theorem rp_0 {T : Sh} {I : Mi} {s m p o t c n q B : Nat} {L N : Nat → Int} {F : Nat → Int} (hS : ShS T s p o t c) (hm : m + 4 ≤ 291) (hdm : m + 4 ≤ s ∨ s + 15 ≤ m) (h : StR L I s p o t N) (htc : tN N ≤ c) (hP : PmO N q n) (hL : LdOk N q n) (hN2 : N 2 = (q : Int)) (hq : q < 6) :
   MwR T (sr (sr (sr I m F) (s + 2) (opR (I (s + 2)) (shF N q n) q n)) s (un (I s) 1 (shF N q n 8))) s p o t c (shF N q n) (q + 1) n ∧ PmO (shF N q n) (q + 1) n ∧ LdOk (shF N q n) (q + 1) n := by
  obtain ⟨hfl, hmk, hor, hky, hld, hfn⟩ := h
  have hn2 := hP.2.2.1
  have hnn := hP.nn
  obtain ⟨s1, s2, s3⟩ := shF_ok (p := q) hP.1 hq hn2
  have hP2 := PmO_sh hP hq
  have hcell : ∀ k, shF N q n (k + 3902) = N (k + 3902) := fun k => s2 _ (by omega) (by omega)
  have ht := sh_t (N := N) (q := q) (n := n) hP.1 hq hn2
  have hL2 : LdOk (shF N q n) (q + 1) n := by
    intro k hk
    rw [ht] at hk
    have := (LdOk_mono hL (Nat.le_succ q)) k hk
    unfold cdOk at this ⊢
    rw [hcell]
    exact this
  obtain ⟨J, hJ⟩ : ∃ J, J = sr (sr (sr I m F) (s + 2) (opR (I (s + 2)) (shF N q n) q n)) s (un (I s) 1 (shF N q n 8)) := ⟨_, rfl⟩
  rw [← hJ]
  have f0 : ∀ b, b ≠ s → b ≠ s + 2 → b ≠ m → J b = I b := fun b h1 h2 h3 => by rw [hJ, sr_ne h1, sr_ne h2, sr_ne h3]
  have fk : ∀ k, k < 15 → k ≠ 0 → k ≠ 2 → J (s + k) = I (s + k) := fun k h1 h2 h3 => f0 _ (by omega) (by omega) (ne_ms (j := 0) hdm h1 (by decide))
  have q0 := ne_sk hS (k := 0) (by decide) (by decide) (by decide) (by decide)
  have q2 := ne_sk hS (k := 2) (by decide) (by decide) (by decide) (by decide)
  have qm := ne_mk hS hm hdm (k := 0) (by decide)
  refine ⟨⟨hS, ⟨?_, fun k hk => ⟨?_, ?_⟩⟩, fun y hy k hk => ?_, ⟨?_, fun k hk => ?_⟩, ?_, by rw [ht]; exact htc⟩, hP2, hL2⟩
  · rw [fk 3 (by decide) (by decide) (by decide)]; exact hky.1.trans hP.2.1
  · rw [fk 4 (by decide) (by decide) (by decide), s2 _ (by omega) (by omega)]; exact (hky.2 k (by omega)).1
  · rw [fk 5 (by decide) (by decide) (by decide), s2 _ (by omega) (by omega)]; exact (hky.2 k (by omega)).2.1
  · have e : J (s + 2) = opR (I (s + 2)) (shF N q n) q n := by rw [hJ, sr_ne (by omega), sr_row]
    rw [e]
    by_cases g : y = q
    · subst g; exact opR_in hk
    · unfold opR
      rw [if_neg (by omega), s2 _ (by omega) (by omega)]
      exact hor y (by omega) k (by omega)
  · rw [fk 7 (by decide) (by decide) (by decide), s2 3 (by decide) (by omega)]; exact hld.1
  · rw [ht] at hk
    have h1 := LdE_mv (K := J) (p2 := p) (o2 := o) (t2 := t) (hld.2 k hk) (by rw [f0 _ q0.1 q2.1 qm.1]) (by rw [f0 _ q0.2.1 q2.2.1 qm.2.1]) (fun j hj => by rw [f0 _ q0.2.2 q2.2.2 qm.2.2])
    exact LdE_ext h1 (hL k hk) (by omega) hnn hn2 hP2.nn (hcell k) (fun y i hy hi => by unfold oP; rw [s2 _ (by omega) (by omega)]) (fun j j1 j2 => s2 _ (by omega) (by omega))
  · have e : J s = un (I s) 1 (shF N q n 8) := by rw [hJ, sr_row]
    rw [e, un_ne (by decide), s2 7 (by decide) (by omega)]
    exact hfl.2.2.2.2.2.2.2.2
theorem rp_1 {T : Sh} {I J : Mi} {s m p o t c n q B : Nat} {N M1 F O : Nat → Int} (hS : ShS T s p o t c) (hm : m + 4 ≤ 291) (hdm : m + 4 ≤ s ∨ s + 15 ≤ m)
   (hJ : J = sr (sr (sr I m (un (un (I m) 3 (B : Int)) 4 (q : Int))) (s + 2) (opR (I (s + 2)) M1 q n)) s (un (I s) 1 (M1 8))) (hW : MwR T J s p o t c M1 (q + 1) n) (hP : PmO M1 (q + 1) n) (hL : LdOk M1 (q + 1) n)
   (hF : ∀ v, v < q + 1 → ∀ i, i < n → F (256 * v + oP M1 v i) = ((i / (B * 2 ^ v) : Nat) : Int)) (hO : ∀ v, v < q + 1 → ∀ w, w < nbk n (B * 2 ^ v) → O (128 * v + w) = ukO M1 v (w * (B * 2 ^ v)) (lnB n (B * 2 ^ v) (w * (B * 2 ^ v)))) :
   RpI T I s m p o t c (T, sr (sr J (m + 1) F) (m + 2) O, p, o, t, c) M1 M1 n B q := by
  have f0 : ∀ b, b ≠ m + 1 → b ≠ m + 2 → (sr (sr J (m + 1) F) (m + 2) O) b = J b := fun b h1 h2 => by rw [sr_ne h2, sr_ne h1]
  have fk : ∀ k, k < 15 → (sr (sr J (m + 1) F) (m + 2) O) (s + k) = J (s + k) := fun k hk => f0 _ (ne_ms hdm hk (by decide)) (ne_ms hdm hk (by decide))
  have q1 := ne_mk hS hm hdm (k := 1) (by decide)
  have q2 := ne_mk hS hm hdm (k := 2) (by decide)
  have hJs : J s = un (I s) 1 (M1 8) := by rw [hJ, sr_row]
  have hJm : J m = un (un (I m) 3 (B : Int)) 4 (q : Int) := by rw [hJ, sr_ne (show m ≠ s by omega), sr_ne (show m ≠ s + 2 by omega), sr_row]
  refine ⟨MwR_rows hW (congrFun (fk 0 (by decide)) 8) (fk 2 (by decide)) (fk 3 (by decide)) (fk 4 (by decide)) (fk 5 (by decide)) (fk 7 (by decide)) (f0 _ q1.1 q2.1) (f0 _ q1.2.1 q2.2.1) (f0 _ q1.2.2 q2.2.2), ⟨hP, hL⟩, ⟨?_, ?_⟩, ⟨Ext.id _ _ _, Or.inl rfl, Or.inl rfl, Or.inl rfl⟩, fun b b0 b1 b2 b3 b4 b5 b6 b7 b8 b9 b10 b11 => ?_, fun j j1 j8 => ?_, ?_, ?_, ?_⟩
  · show OdR ((sr (sr J (m + 1) F) (m + 2) O) (m + 2)) M1 B n q
    rw [sr_row]
    intro y hy z hz
    exact hO y (by omega) z hz
  · show BoR ((sr (sr J (m + 1) F) (m + 2) O) (m + 1)) M1 B n q
    rw [sr_ne (by omega), sr_row]
    intro y hy i hi
    exact hF y (by omega) i hi
  · show (sr (sr J (m + 1) F) (m + 2) O) b = I b
    rw [f0 b b9 b10, hJ, sr_ne b1, sr_ne b2, sr_ne b8]
  · show (sr (sr J (m + 1) F) (m + 2) O) s j = _
    rw [show (sr (sr J (m + 1) F) (m + 2) O) s = J s from fk 0 (by decide), hJs, un_ne j1]
  · show (sr (sr J (m + 1) F) (m + 2) O) s 1 = _
    rw [show (sr (sr J (m + 1) F) (m + 2) O) s = J s from fk 0 (by decide), hJs, un_at]
  · show (sr (sr J (m + 1) F) (m + 2) O) m 3 = _
    rw [f0 m (by omega) (by omega), hJm, un_ne (by decide), un_at]
  · show (sr (sr J (m + 1) F) (m + 2) O) m 4 = _
    rw [f0 m (by omega) (by omega), hJm, un_at]
theorem as_m {T U : Sh} {I K : Mi} {s m p o t c p2 o2 t2 c2 e n : Nat} {M : Nat → Int} (hS : ShS T s p o t c) (hm : m + 4 ≤ 291) (hdm : m + 4 ≤ s ∨ s + 15 ≤ m) (hA : AsP T U I K s m p o t c p2 o2 t2 c2 M e n) : K m = I m := by
  have q := ne_mk hS hm hdm (k := 0) (by decide)
  have := hS.1.2.1
  exact hA.2.2.2 m (by omega) (Ne.symm (ne_ms (k := 7) (j := 0) hdm (by decide) (by decide))) (Ne.symm q.1) (Ne.symm q.2.1) (Ne.symm q.2.2) (by omega)
/-- what a pass leaves -/
def RpP (T U : Sh) (I K : Mi) (s m p o t c p2 o2 t2 c2 : Nat) (L M : Nat → Int) (q n : Nat) : Prop :=
  ShS U s p2 o2 t2 c2 ∧ (Ext s T U c c2 ∧ (p2 = p ∨ nx T ≤ p2) ∧ (o2 = o ∨ nx T ≤ o2) ∧ (t2 = t ∨ nx T ≤ t2)) ∧
  (∀ b, b < nx T → (b < s ∨ s + 15 ≤ b) → b ≠ p → b ≠ o → b ≠ t → b ≠ m → b ≠ m + 1 → b ≠ m + 2 → b ≠ m + 3 → K b = I b) ∧
  StR L K s p2 o2 t2 M ∧ tN M ≤ c2 ∧ PmO M q n ∧ LdOk M q n
theorem rp_end {T : Sh} {I : Mi} {s m p o t c n q B : Nat} {E : WE} {L N : Nat → Int} (hS : ShS T s p o t c) (hm : m + 4 ≤ 291) (hdm : m + 4 ≤ s ∨ s + 15 ≤ m) (hst : StR L I s p o t N) (hP0 : PmO N q n) (hN2 : N 2 = (q : Int)) (hN0 : ¬ N 0 = 0) (hq : q < 6) (hN6 : N 6 = 0) (hLs : (sgV L N).toNat ≤ 256)
   (h : RpI T I s m p o t c E (psS B n q (shF N q n) (nbk n (B * 2 ^ q))) (shF N q n) n B q) (hI : mInv (shF N q n) (psS B n q (shF N q n) (nbk n (B * 2 ^ q))) n (nbk n (B * 2 ^ q))) :
   RpP T E.1 I (sr E.2.1 s (un (un (E.2.1 s) 6 ((q + 1 : Nat) : Int)) 0 3)) s m p o t c E.2.2.1 E.2.2.2.1 E.2.2.2.2.1 E.2.2.2.2.2 L (psF B N) (q + 1) n ∧ E.2.1 s 8 = psF B N 7 := by
  obtain ⟨h1, ⟨h2, h3⟩, ⟨h4, h5⟩, ⟨h6, h7⟩, h8, h9, h10, h11, h12⟩ := h
  obtain ⟨hfl, hmk, hor, hky, hld, hfn⟩ := hst
  obtain ⟨a1, a2, a3, a4, a5, a6⟩ := h1
  have hn2 := hP0.2.2.1
  have hnn := hP0.nn
  have hnx := hS.1.2.1
  have hs0 := hS.1.1
  obtain ⟨M, hM⟩ : ∃ M, M = psS B n q (shF N q n) (nbk n (B * 2 ^ q)) := ⟨_, rfl⟩
  rw [← hM] at a2 a3 a4 a5 a6 h2 h3 hI
  obtain ⟨s1, s2, s3⟩ := shF_ok (p := q) hP0.1 hq hn2
  have ePs : psF B N = un (un M 2 ((q + 1 : Nat) : Int)) 0 3 := by
    unfold psF
    rw [hnn, show (N 2).toNat = q by omega, ← hM]
  -- cells of the new row
  have hX : ∀ j, j < 3902 → j ≠ 0 → j ≠ 2 → j ≠ 3 → j ≠ 7 → j ≠ 8 → ¬ (532 ≤ j ∧ j < 788) → ¬ (256 * q + 1044 ≤ j ∧ j < 256 * q + 1300) → psF B N j = N j := by
    intro j b1 b2 b3 b4 b5 b6 b7 b8
    rw [ePs, un_ne b2, un_ne b3, hI.2.1 j b1 b4 b5 b7, s2 j b6 b8]
  have hM2 : ∀ j, j ≠ 0 → j ≠ 2 → psF B N j = M j := fun j b1 b2 => by rw [ePs, un_ne b1, un_ne b2]
  have hn1 : nN (psF B N) = n := by unfold nN; rw [hM2 1 (by decide) (by decide), h2.2.1]; omega
  have ht1 : tN (psF B N) = tN M := by unfold tN; rw [hM2 3 (by decide) (by decide)]
  have hoP : ∀ y k, y < q + 1 → k < n → oP (psF B N) y k = oP M y k := fun y k hy hk => by unfold oP; rw [hM2 _ (by omega) (by omega)]
  have e0 : psF B N 0 = 3 := by rw [ePs, un_at]
  have hsg : sgV L (psF B N) = sgV L N := by unfold sgV; rw [e0, if_neg (by decide), if_neg hN0]
  have hsi : ∀ i, i < 256 → psF B N (i + 20) = N (i + 20) := fun i hi => hX _ (by omega) (by omega) (by omega) (by omega) (by omega) (by omega) (by omega) (by omega)
  obtain ⟨K, hK⟩ : ∃ K, K = sr E.2.1 s (un (un (E.2.1 s) 6 ((q + 1 : Nat) : Int)) 0 3) := ⟨_, rfl⟩
  rw [← hK]
  have fs : K s = un (un (E.2.1 s) 6 ((q + 1 : Nat) : Int)) 0 3 := by rw [hK, sr_row]
  have f0 : ∀ b, b ≠ s → K b = E.2.1 b := fun b hb => by rw [hK, sr_ne hb]
  have fI : ∀ k, k < 15 → k ≠ 0 → k ≠ 2 → k ≠ 5 → k ≠ 7 → k ≠ 8 → k ≠ 9 → k ≠ 10 → K (s + k) = I (s + k) := fun k k0 k1 k2 k5 k7 k8 k9 k10 => by
    have q := ne_sk hS (k := k) k0 k8 k9 k10
    exact (f0 _ (by omega)).trans (h8 _ (by omega) (by omega) (by omega) (by omega) (by omega) (Ne.symm q.1) (Ne.symm q.2.1) (Ne.symm q.2.2) (ne_ms (j := 0) hdm k0 (by decide)) (ne_ms hdm k0 (by decide)) (ne_ms hdm k0 (by decide)) (ne_ms hdm k0 (by decide)))
  have ql := ne_sk a1 (k := 0) (by decide) (by decide) (by decide) (by decide)
  have hP2 : PmO (psF B N) (q + 1) n := by
    obtain ⟨c1, c2, c3, c4, c5, c6, c7⟩ := h2
    refine ⟨by rw [ePs]; exact Rng_un (Rng_un c1 (ok_2.mpr (by omega))) (ok_0.mpr (by omega)), by rw [hM2 1 (by decide) (by decide)]; exact c2, c3, c4, fun y hy k hk => by rw [hoP y k hy hk]; exact c5 y hy k hk, fun y hy i j hi hj hij => by rw [hoP y i hy hi, hoP y j hy hj] at hij; exact c6 y hy i j hi hj hij, fun y hy x hx => ?_⟩
    obtain ⟨i, i1, i2⟩ := c7 y hy x hx
    exact ⟨i, i1, by rw [hoP y i hy i1]; exact i2⟩
  have hL2 : LdOk (psF B N) (q + 1) n := by
    intro k hk
    rw [ht1] at hk
    have := h3 k hk
    unfold cdOk at this ⊢
    rw [hM2 _ (by omega) (by omega)]
    exact this
  refine ⟨⟨a1, ⟨h6, h7⟩, fun b b0 bs bp bo bt bm bm1 bm2 bm3 => ?_, ⟨⟨?_, ?_, ?_, ?_, ?_, ?_, ?_, ?_, ?_⟩, ?_, ?_, ⟨?_, ?_⟩, ⟨?_, ?_⟩, ⟨?_, ?_, ?_, ?_, ?_, ?_⟩⟩, by rw [ht1]; exact a6, hP2, hL2⟩, ?_⟩
  · exact (f0 b (by omega)).trans (h8 b b0 (by omega) (by omega) (by omega) (by omega) bp bo bt bm bm1 bm2 bm3)
  · rw [fs, un_at, e0]
  · rw [fs, un_ne (by decide), un_ne (by decide), h10, hM2 8 (by decide) (by decide)]; exact (hI.2.1 8 (by decide) (by decide) (by decide) (by omega)).symm
  · rw [fs, un_ne (by decide), un_ne (by decide), h9 2 (by decide) (by decide), hsg]; exact hfl.2.2.1
  · rw [fs, un_ne (by decide), un_ne (by decide), h9 3 (by decide) (by decide), hsg]
    refine hfl.2.2.2.1.trans (ssM_ext _ (fun i hi => ?_)).symm
    exact hsi i (by omega)
  · rw [fs, un_ne (by decide), un_ne (by decide), h9 4 (by decide) (by decide), hX 4 (by decide) (by decide) (by decide) (by decide) (by decide) (by decide) (by omega) (by omega)]; exact hfl.2.2.2.2.1
  · rw [fs, un_ne (by decide), un_ne (by decide), h9 5 (by decide) (by decide), hX 5 (by decide) (by decide) (by decide) (by decide) (by decide) (by decide) (by omega) (by omega)]; exact hfl.2.2.2.2.2.1
  · rw [fs, un_ne (by decide), un_at, ePs, un_ne (by decide), un_at]
  · rw [fs, un_ne (by decide), un_ne (by decide), h9 7 (by decide) (by decide), hX 12 (by decide) (by decide) (by decide) (by decide) (by decide) (by decide) (by omega) (by omega)]; exact hfl.2.2.2.2.2.2.2.1
  · rw [fs, un_ne (by decide), un_ne (by decide), hM2 7 (by decide) (by decide)]; exact a5
  · intro i hi
    rw [hsg] at hi
    rw [fI 1 (by decide) (by decide) (by decide) (by decide) (by decide) (by decide) (by decide) (by decide), hmk i hi, hsi i (by omega)]
  · intro y hy k hk
    rw [ePs, un_ne (by decide), un_at, Int.toNat_natCast] at hy
    rw [hn1] at hk
    rw [f0 _ (by omega), hM2 _ (by omega) (by omega)]
    exact a3 y hy k hk
  · rw [f0 _ (by omega), hM2 1 (by decide) (by decide), h2.2.1]; exact a2.1
  · intro k hk
    rw [hn1] at hk
    rw [f0 _ (by omega), f0 _ (by omega), hM2 _ (by omega) (by omega), hM2 _ (by omega) (by omega)]
    refine ⟨(a2.2 k hk).1, (a2.2 k hk).2, ?_⟩
    rw [fI 6 (by decide) (by decide) (by decide) (by decide) (by decide) (by decide) (by decide) (by decide), (hky.2 k (by omega)).2.2, spI_kn, spI_kn, hX (k + 788) (by omega) (by omega) (by omega) (by omega) (by omega) (by omega) (by omega) (by omega)]
    have ho := Rng_of (j := k + 788) hP0.1 (by omega) (by omega)
    exact (knV_ext (hsi _ (by omega))).symm
  · rw [f0 _ (by omega), hM2 3 (by decide) (by decide)]; exact a4.1
  · intro k hk
    rw [ht1] at hk
    have g1 := LdE_mv (K := K) (p2 := E.2.2.1) (o2 := E.2.2.2.1) (t2 := E.2.2.2.2.1) (a4.2 k hk) (by rw [f0 _ ql.1]) (by rw [f0 _ ql.2.1]) (fun j hj => by rw [f0 _ ql.2.2])
    exact LdE_ext g1 (h3 k hk) (by omega) h2.nn hn2 hn1 (hM2 _ (by omega) (by omega)) (fun y i hy hi => hoP y i hy hi) (fun j j1 j2 => hM2 _ (by omega) (by omega))
  · rw [fI 11 (by decide) (by decide) (by decide) (by decide) (by decide) (by decide) (by decide) (by decide), hX 6 (by decide) (by decide) (by decide) (by decide) (by decide) (by decide) (by omega) (by omega)]; exact hfn.1
  · rw [fI 11 (by decide) (by decide) (by decide) (by decide) (by decide) (by decide) (by decide) (by decide), hX 9 (by decide) (by decide) (by decide) (by decide) (by decide) (by decide) (by omega) (by omega)]; exact hfn.2.1
  · rw [fI 11 (by decide) (by decide) (by decide) (by decide) (by decide) (by decide) (by decide) (by decide), hX 10 (by decide) (by decide) (by decide) (by decide) (by decide) (by decide) (by omega) (by omega)]; exact hfn.2.2.1
  · rw [fI 11 (by decide) (by decide) (by decide) (by decide) (by decide) (by decide) (by decide) (by decide), hX 11 (by decide) (by decide) (by decide) (by decide) (by decide) (by decide) (by omega) (by omega)]; exact hfn.2.2.2.1
  · intro i hi
    rw [hX 6 (by decide) (by decide) (by decide) (by decide) (by decide) (by decide) (by omega) (by omega), hN6] at hi
    exact absurd hi (Nat.not_lt_zero i)
  · intro hh
    rw [hX 6 (by decide) (by decide) (by decide) (by decide) (by decide) (by decide) (by omega) (by omega), hN6] at hh
    exact absurd hh (by decide)
  · rw [hM2 7 (by decide) (by decide)]; exact a5
end C23

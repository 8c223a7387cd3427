section C28
variable {G : Gl} {d : Nat} {T : Sh} {I : Mi} {N : Nat → Int} {Q : Option AV → Sh → Mi → Prop}
theorem ShA_ext {T U : Sh} {s a c e : Nat} (h : ShA T a) (hx : Ext s T U c e) (hd : a + 3 ≤ s ∨ s + 15 ≤ a) : ShA U a := by
  obtain ⟨x1, x2, x3, _⟩ := hx
  have h0 := h.1
  have lt : ∀ k, k < 3 → a + k < nx T := fun k hk => by omega
  obtain ⟨a0, b, ⟨c1, c2⟩, d1, d2⟩ := h
  refine ⟨⟨a0.1, by omega⟩, (x2 a (by omega)).1.trans b, ⟨⟨(x2 _ (lt 1 (by decide))).1.trans c1.1, (x2 _ (lt 1 (by decide))).2.trans c1.2⟩, ⟨(x2 _ (lt 2 (by decide))).1.trans c2.1, (x2 _ (lt 2 (by decide))).2.trans c2.2⟩⟩, (x3 _ _ (by omega) (by omega)).trans d1, (x3 _ _ (by omega) (by omega)).trans d2⟩
/-- what an act of the keys leaves; the rows z .. z + w - 1 are scratch -/
def AcP (T U : Sh) (I K : Mi) (s p o t c p2 o2 t2 c2 : Nat) (L M : Nat → Int) (q n z w : Nat) : Prop :=
  ShS U s p2 o2 t2 c2 ∧ (Ext s T U c c2 ∧ (p2 = p ∨ nx T ≤ p2) ∧ (o2 = o ∨ nx T ≤ o2) ∧ (t2 = t ∨ nx T ≤ t2)) ∧
  (∀ b, b < nx T → (b < s ∨ s + 15 ≤ b) → b ≠ p → b ≠ o → b ≠ t → (b < z ∨ z + w ≤ b) → K b = I b) ∧
  StR L K s p2 o2 t2 M ∧ tN M ≤ c2 ∧ PmO M q n ∧ LdOk M q n
def CkI (T : Sh) (I : Mi) (s a p o t c : Nat) (E : WE) (M R : Nat → Int) (n q b : Nat) : Prop :=
  MwR E.1 E.2.1 s E.2.2.1 E.2.2.2.1 E.2.2.2.2.1 E.2.2.2.2.2 M q n ∧ (PmO M q n ∧ LdOk M q n) ∧ (Ext s T E.1 c E.2.2.2.2.2 ∧ (E.2.2.1 = p ∨ nx T ≤ E.2.2.1) ∧ (E.2.2.2.1 = o ∨ nx T ≤ E.2.2.2.1) ∧ (E.2.2.2.2.1 = t ∨ nx T ≤ E.2.2.2.2.1)) ∧
  (∀ b, b < nx T → b ≠ s → b ≠ s + 7 → b ≠ p → b ≠ o → b ≠ t → b ≠ a + 1 → b ≠ a + 2 → E.2.1 b = I b) ∧ (∀ j, j ≠ 1 → E.2.1 s j = I s j) ∧ E.2.1 s 1 = R 8 ∧ ∀ j, j < b → E.2.1 (a + 1) j = R (2580 + j)
theorem St_Mw {T : Sh} {I : Mi} {s p o t c q n : Nat} {L N : Nat → Int} (hS : ShS T s p o t c) (h : StR L I s p o t N) (htc : tN N ≤ c) (hP : PmO N q n) (hN2 : N 2 = (q : Int)) : MwR T I s p o t c N q n := by
  obtain ⟨hfl, hmk, hor, hky, hld, hfn⟩ := h
  have hnn := hP.nn
  exact ⟨hS, ⟨hky.1.trans hP.2.1, fun k hk => ⟨(hky.2 k (by omega)).1, (hky.2 k (by omega)).2.1⟩⟩, fun y hy k hk => hor y (by omega) k (by omega), hld, hfl.2.2.2.2.2.2.2.2, htc⟩
theorem cki_0 {T : Sh} {I : Mi} {s a p o t c q n b : Nat} {L N : Nat → Int} (hS : ShS T s p o t c) (ha : a + 3 ≤ 291) (hda : a + 3 ≤ s ∨ s + 15 ≤ a) (h : StR L I s p o t N) (htc : tN N ≤ c) (hP : PmO N q n) (hL : LdOk N q n) (h2 : No2 N) (hN2 : N 2 = (q : Int)) (hb : 2580 + b ≤ 3902) :
   CkI T I s a p o t c (T, sr (sr I s (un (I s) 1 (rwS N 2580 b 8))) (a + 1) (rowR (I (a + 1)) (rwS N 2580 b) 2580 b), p, o, t, c) (rwS N 2580 b) (rwS N 2580 b) n q b := by
  obtain ⟨m1, m2, m3, m4, m5, m6⟩ := St_Mw hS h htc hP hN2
  have hn2 := hP.2.2.1
  have he6 := hP.2.2.2.1
  have hnn := hP.nn
  obtain ⟨r1, r2⟩ := rwS_ok (r := 2580) hP.1 (by decide) b hb
  have hrj : ∀ j, j < 2580 → j ≠ 8 → rwS N 2580 b j = N j := fun j h1 h2 => r2 j h2 (Or.inl h1)
  have hrc : ∀ j, rwS N 2580 b (j + 3902) = N (j + 3902) := fun j => r2 _ (by omega) (Or.inr (by omega))
  have htr : tN (rwS N 2580 b) = tN N := by unfold tN; rw [hrj 3 (by decide) (by decide)]
  have hP2 : PmO (rwS N 2580 b) q n := PmO_lo hP r1 (fun j j0 _ _ j8 _ _ _ => hrj j j0 j8)
  have hL2 : LdOk (rwS N 2580 b) q n := by
    intro k hk
    rw [htr] at hk
    have := hL k hk
    unfold cdOk at this ⊢
    rw [hrc]
    exact this
  obtain ⟨J, hJ⟩ : ∃ J, J = sr (sr I s (un (I s) 1 (rwS N 2580 b 8))) (a + 1) (rowR (I (a + 1)) (rwS N 2580 b) 2580 b) := ⟨_, rfl⟩
  rw [← hJ]
  have hd1 : a + 1 < s ∨ s + 15 ≤ a + 1 := by omega
  have f0 : ∀ x, x ≠ s → x ≠ a + 1 → J x = I x := fun x h1 h2 => by rw [hJ, sr_ne h2, sr_ne h1]
  have fk : ∀ k, k < 15 → k ≠ 0 → J (s + k) = I (s + k) := fun k h1 h2 => f0 _ (by omega) (ne_sx hd1 h1)
  have fs : J s = un (I s) 1 (rwS N 2580 b 8) := by rw [hJ, sr_ne (show s ≠ a + 1 by omega), sr_row]
  have q0 := ne_sk hS (k := 0) (by decide) (by decide) (by decide) (by decide)
  have ql := ne_lw hS (show a + 1 < 291 by omega) hd1
  refine ⟨⟨hS, ⟨?_, fun k hk => ?_⟩, fun y hy k hk => ?_, ⟨?_, fun k hk => ?_⟩, ?_, by rw [htr]; exact m6⟩, ⟨hP2, hL2⟩, ⟨Ext.id _ _ _, Or.inl rfl, Or.inl rfl, Or.inl rfl⟩, fun x _ xs _ _ _ _ x1 _ => f0 x xs x1, fun j hj => ?_, ?_, fun j hj => ?_⟩
  · show J (s + 3) 0 = _; rw [fk 3 (by decide) (by decide)]; exact m2.1
  · show J (s + 4) k = _ ∧ J (s + 5) k = _
    rw [fk 4 (by decide) (by decide), fk 5 (by decide) (by decide), hrj _ (by omega) (by omega), hrj _ (by omega) (by omega)]; exact m2.2 k hk
  · show J (s + 2) _ = _; rw [fk 2 (by decide) (by decide), hrj _ (by omega) (by omega)]; exact m3 y hy k hk
  · show J (s + 7) 0 = _; rw [fk 7 (by decide) (by decide), hrj 3 (by decide) (by decide)]; exact m4.1
  · rw [htr] at hk
    obtain ⟨e1, e2, e3⟩ := m4.2 k hk
    refine ⟨?_, ?_, fun x hx => ?_⟩
    · show J p k = _; rw [f0 _ q0.1 ql.1, tpN_ext (hrc k)]; exact e1
    · show J o k = _; rw [f0 _ q0.2.1 ql.2.1, tkN_ext (hrc k), tpN_ext (hrc k)]; exact e2
    · show b64 (J t _) _ = _
      rw [f0 _ q0.2.2 ql.2.2, sbR_ext01 (hL k hk) (h2 k hk) he6 hnn hn2 hP2.nn (hrc k) (fun v i hv hi => by unfold oP; rw [hrj _ (by omega) (by omega)])]
      exact e3 x hx
  · show J s 8 = _; rw [fs, un_ne (by decide), hrj 7 (by decide) (by decide)]; exact m5
  · show J s j = _; rw [fs, un_ne hj]
  · show J s 1 = _; rw [fs, un_at]
  · show J (a + 1) j = _; rw [hJ, sr_row, rowR_in hj]
theorem ck_step {T U : Sh} {I K : Mi} {s a p o t c p2 o2 t2 c2 n q b : Nat} {E : WE} {M M2 R : Nat → Int} (hS : ShS T s p o t c) (ha : a + 3 ≤ 291) (hda : a + 3 ≤ s ∨ s + 15 ≤ a) (h : CkI T I s a p o t c E M R n q b)
   (hA : AsW E.1 U E.2.1 K s (a + 2) E.2.2.1 E.2.2.2.1 E.2.2.2.2.1 E.2.2.2.2.2 p2 o2 t2 c2 M2 q n) (hP : PmO M2 q n) (hL : LdOk M2 q n) : CkI T I s a p o t c (U, K, p2, o2, t2, c2) M2 R n q b := by
  obtain ⟨h1, h2, ⟨h6, h7⟩, h8, h9, h10, h11⟩ := h
  obtain ⟨a1, a2, a3, a4⟩ := hA
  have hx := h6.1
  have hnx := hS.1.2.1
  have hs0 := hS.1.1
  have kk : ∀ b, b < nx T → b ≠ s + 7 → b ≠ p → b ≠ o → b ≠ t → b ≠ a + 2 → K b = E.2.1 b := fun b hb b7 bp bo bt bm => by
    obtain ⟨f1, f2, f3⟩ := frm (U := U) (I := I) (K := K) (L := K) h7 hb bp bo bt
    exact a4 b (by omega) b7 f1 f2 f3 bm
  have ks : K s = E.2.1 s := by
    have q := ne_sk hS (k := 0) (by decide) (by decide) (by decide) (by decide)
    exact kk _ (by omega) (by omega) (Ne.symm q.1) (Ne.symm q.2.1) (Ne.symm q.2.2) (by omega)
  have k1 : K (a + 1) = E.2.1 (a + 1) := by
    have q := ne_lw hS (show a + 1 < 291 by omega) (show a + 1 < s ∨ s + 15 ≤ a + 1 by omega)
    exact kk _ (by omega) (by omega) (Ne.symm q.1) (Ne.symm q.2.1) (Ne.symm q.2.2) (by omega)
  refine ⟨a1, ⟨hP, hL⟩, ⟨h6.tr a2, npt hx h7 a3⟩, fun b b0 bs b7 bp bo bt b1 b2 => (kk b b0 b7 bp bo bt b2).trans (h8 b b0 bs b7 bp bo bt b1 b2), fun j hj => (congrFun ks j).trans (h9 j hj), (congrFun ks 1).trans h10, fun j hj => (congrFun k1 j).trans (h11 j hj)⟩
theorem ck_end {T : Sh} {I : Mi} {s a p o t c n q b h : Nat} {E : WE} {L N : Nat → Int} {v : Int} (hS : ShS T s p o t c) (ha : a + 3 ≤ 291) (hda : a + 3 ≤ s ∨ s + 15 ≤ a) (hst : StR L I s p o t N) (hP0 : PmO N q n) (hN2 : N 2 = (q : Int)) (hN0 : ¬ N 0 = 0) (hN6 : N 6 = 0) (hLs : (sgV L N).toNat ≤ 256) (hb : 2580 + b ≤ 2870) (hv : v = 4 ∨ v = 6)
   (hI : CkI T I s a p o t c E (ckS (rwS N 2580 b) n h) (rwS N 2580 b) n q b) (hj : ∀ j, j < 3902 → j ≠ 3 → ckS (rwS N 2580 b) n h j = rwS N 2580 b j) :
   AcP T E.1 I (sr E.2.1 s (un (E.2.1 s) 0 v)) s p o t c E.2.2.1 E.2.2.2.1 E.2.2.2.2.1 E.2.2.2.2.2 L (un (ckS (rwS N 2580 b) n h) 0 v) q n a 3 := by
  obtain ⟨⟨a1, a2, a3, a4, a5, a6⟩, ⟨h2, h3⟩, ⟨h6, h7⟩, h8, h9, h10, h11⟩ := hI
  obtain ⟨hfl, hmk, hor, hky, hld, hfn⟩ := hst
  have hn2 := hP0.2.2.1
  have hnn := hP0.nn
  have hnx := hS.1.2.1
  have hs0 := hS.1.1
  obtain ⟨r1, r2⟩ := rwS_ok (r := 2580) hP0.1 (by decide) b (by omega)
  obtain ⟨M, hM⟩ : ∃ M, M = ckS (rwS N 2580 b) n h := ⟨_, rfl⟩
  rw [← hM] at a2 a3 a4 a5 a6 h2 h3 hj ⊢
  have hX : ∀ j, j < 3902 → j ≠ 0 → j ≠ 3 → j ≠ 8 → (j < 2580 ∨ 2870 ≤ j) → un M 0 v j = N j := fun j j0 j1 j3 j8 jr => by rw [un_ne j1, hj j j0 j3, r2 j j8 (by omega)]
  have h12 := h2.2.2.2.1
  have hn1 : nN (un M 0 v) = n := by unfold nN; rw [un_ne (by decide), h2.2.1]; omega
  have ht1 : tN (un M 0 v) = tN M := by unfold tN; rw [un_ne (by decide)]
  have hRv : Rng (un M 0 v) := Rng_un h2.1 (ok_0.mpr (by omega))
  have hP2 : PmO (un M 0 v) q n := PmO_lo h2 hRv (fun j _ _ j0 _ _ _ _ => un_ne j0)
  have hL2 : LdOk (un M 0 v) q n := by
    intro k hk
    rw [ht1] at hk
    have := h3 k hk
    unfold cdOk at this ⊢
    rw [un_ne (by omega)]
    exact this
  have e0 : un M 0 v 0 = v := un_at
  have hsg : sgV L (un M 0 v) = sgV L N := by unfold sgV; rw [e0, if_neg (by omega), if_neg hN0]
  have hsi : ∀ i, i < 256 → un M 0 v (i + 20) = N (i + 20) := fun i hi => hX _ (by omega) (by omega) (by omega) (by omega) (by omega)
  obtain ⟨K, hK⟩ : ∃ K, K = sr E.2.1 s (un (E.2.1 s) 0 v) := ⟨_, rfl⟩
  rw [← hK]
  have fs : K s = un (E.2.1 s) 0 v := by rw [hK, sr_row]
  have f0 : ∀ b, b ≠ s → K b = E.2.1 b := fun b hb => by rw [hK, sr_ne hb]
  have fI : ∀ k, k < 15 → k ≠ 0 → k ≠ 7 → k ≠ 8 → k ≠ 9 → k ≠ 10 → K (s + k) = I (s + k) := fun k k0 k1 k7 k8 k9 k10 => by
    have q := ne_sk hS (k := k) k0 k8 k9 k10
    exact (f0 _ (by omega)).trans (h8 _ (by omega) (by omega) (by omega) (Ne.symm q.1) (Ne.symm q.2.1) (Ne.symm q.2.2) (by omega) (by omega))
  have ql := ne_sk a1 (k := 0) (by decide) (by decide) (by decide) (by decide)
  refine ⟨a1, ⟨h6, h7⟩, fun b b0 bs bp bo bt bz => ?_, ⟨⟨?_, ?_, ?_, ?_, ?_, ?_, ?_, ?_, ?_⟩, ?_, ?_, ⟨?_, ?_⟩, ⟨?_, ?_⟩, ⟨?_, ?_, ?_, ?_, ?_, ?_⟩⟩, by rw [ht1]; exact a6, hP2, hL2⟩
  · exact (f0 b (by omega)).trans (h8 b b0 (by omega) (by omega) bp bo bt (by omega) (by omega))
  · rw [fs, un_at, e0]
  · rw [fs, un_ne (by decide), h10, un_ne (by decide), hj 8 (by decide) (by decide)]
  · rw [fs, un_ne (by decide), h9 2 (by decide), hsg]; exact hfl.2.2.1
  · rw [fs, un_ne (by decide), h9 3 (by decide), hsg]
    exact hfl.2.2.2.1.trans (ssM_ext _ (fun i hi => hsi i (by omega))).symm
  · rw [fs, un_ne (by decide), h9 4 (by decide), hX 4 (by decide) (by decide) (by decide) (by decide) (Or.inl (by decide))]; exact hfl.2.2.2.2.1
  · rw [fs, un_ne (by decide), h9 5 (by decide), hX 5 (by decide) (by decide) (by decide) (by decide) (Or.inl (by decide))]; exact hfl.2.2.2.2.2.1
  · rw [fs, un_ne (by decide), h9 6 (by decide), hX 2 (by decide) (by decide) (by decide) (by decide) (Or.inl (by decide))]; exact hfl.2.2.2.2.2.2.1
  · rw [fs, un_ne (by decide), h9 7 (by decide), hX 12 (by decide) (by decide) (by decide) (by decide) (Or.inl (by decide))]; exact hfl.2.2.2.2.2.2.2.1
  · rw [fs, un_ne (by decide), h9 8 (by decide), hX 7 (by decide) (by decide) (by decide) (by decide) (Or.inl (by decide))]; exact hfl.2.2.2.2.2.2.2.2
  · intro i hi
    rw [hsg] at hi
    rw [fI 1 (by decide) (by decide) (by decide) (by decide) (by decide) (by decide), hmk i hi, hsi i (by omega)]
  · intro y hy k hk
    rw [hX 2 (by decide) (by decide) (by decide) (by decide) (Or.inl (by decide)), hN2, Int.toNat_natCast] at hy
    rw [hn1] at hk
    rw [f0 _ (by omega), un_ne (by omega)]
    exact a3 y hy k hk
  · rw [f0 _ (by omega), un_ne (by decide), h2.2.1]; exact a2.1
  · intro k hk
    rw [hn1] at hk
    rw [f0 _ (by omega), f0 _ (by omega), un_ne (by omega), un_ne (by omega)]
    refine ⟨(a2.2 k hk).1, (a2.2 k hk).2, ?_⟩
    rw [fI 6 (by decide) (by decide) (by decide) (by decide) (by decide) (by decide), (hky.2 k (by omega)).2.2, spI_kn, spI_kn, hX (k + 788) (by omega) (by omega) (by omega) (by omega) (Or.inl (by omega))]
    have ho := Rng_of (j := k + 788) hP0.1 (by omega) (by omega)
    exact (knV_ext (hsi _ (by omega))).symm
  · rw [f0 _ (by omega), un_ne (by decide)]; exact a4.1
  · intro k hk
    rw [ht1] at hk
    have g1 := LdE_mv (K := K) (p2 := E.2.2.1) (o2 := E.2.2.2.1) (t2 := E.2.2.2.2.1) (a4.2 k hk) (by rw [f0 _ ql.1]) (by rw [f0 _ ql.2.1]) (fun j hj => by rw [f0 _ ql.2.2])
    exact LdE_ext g1 (h3 k hk) (by omega) h2.nn hn2 hn1 (un_ne (by omega)) (fun y i hy hi => by unfold oP; rw [un_ne (by omega)]) (fun j j1 j2 => un_ne (by omega))
  · rw [fI 11 (by decide) (by decide) (by decide) (by decide) (by decide) (by decide), hX 6 (by decide) (by decide) (by decide) (by decide) (Or.inl (by decide))]; exact hfn.1
  · rw [fI 11 (by decide) (by decide) (by decide) (by decide) (by decide) (by decide), hX 9 (by decide) (by decide) (by decide) (by decide) (Or.inl (by decide))]; exact hfn.2.1
  · rw [fI 11 (by decide) (by decide) (by decide) (by decide) (by decide) (by decide), hX 10 (by decide) (by decide) (by decide) (by decide) (Or.inl (by decide))]; exact hfn.2.2.1
  · rw [fI 11 (by decide) (by decide) (by decide) (by decide) (by decide) (by decide), hX 11 (by decide) (by decide) (by decide) (by decide) (Or.inl (by decide))]; exact hfn.2.2.2.1
  · intro i hi
    rw [hX 6 (by decide) (by decide) (by decide) (by decide) (Or.inl (by decide)), hN6] at hi
    exact absurd hi (Nat.not_lt_zero i)
  · intro hh
    rw [hX 6 (by decide) (by decide) (by decide) (by decide) (Or.inl (by decide)), hN6] at hh
    exact absurd hh (by decide)
end C28

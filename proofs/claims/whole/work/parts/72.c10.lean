section C10
variable {G : Gl} {d : Nat} {T : Sh} {I : Mi} {N : Nat → Int} {Q : Option AV → Sh → Mi → Prop}
/-- a State whose ledger's arrays may be of any length -/
def ShG (T : Sh) (s p o t cp co ct : Nat) : Prop := (s + 15 ≤ 291 ∧ 291 ≤ nx T ∧ (∀ q ∈ tabS, kd T (s + q.1) = q.2.1 ∧ ln T (s + q.1) = q.2.2) ∧ (∀ q ∈ objS, kd T (s + q.1) = q.2) ∧ ∀ q ∈ refS, rf T (s + q.1) q.2.1 = some (s + q.2.2)) ∧
  (rf T (s + 7) 1 = some p ∧ rf T (s + 7) 2 = some o ∧ rf T (s + 7) 3 = some t ∧ kd T p = 20 ∧ kd T o = 20 ∧ kd T t = 23 ∧ ln T p = cp ∧ ln T o = co ∧ ln T t = ct) ∧ p < nx T ∧ o < nx T ∧ t < nx T
theorem ShS.g {T : Sh} {s p o t c : Nat} (h : ShS T s p o t c) : ShG T s p o t c c (4 * c) := ⟨h.1, h.2.1, h.2.2.1.1, h.2.2.1.2.1, h.2.2.1.2.2.1⟩
theorem nw_kdn {T : Sh} {k n m b : Nat} (h : b < nx T) : kd (nwT T k n m) b = kd T b ∧ ln (nwT T k n m) b = ln T b := nw_kd.2 (by omega)
theorem nw_rf {T : Sh} {k n m b j : Nat} (h : b < nx T) : rf (nwT T k n m) b j = rf T b j := if_neg (by omega)
theorem tabS_lt : ∀ q ∈ tabS, q.1 < 15 := by decide
theorem objS_lt : ∀ q ∈ objS, q.1 < 15 := by decide
theorem refS_lt : ∀ q ∈ refS, q.1 < 15 ∧ q.1 ≠ 7 := by decide
theorem ShG.nw {T : Sh} {s p o t cp co ct : Nat} (h : ShG T s p o t cp co ct) (k n m : Nat) : ShG (nwT T k n m) s p o t cp co ct := by
  obtain ⟨⟨a1, a2, a3, a4, a5⟩, ⟨b1, b2, b3, b4, b5, b6, b7, b8, b9⟩, c1, c2, c3⟩ := h
  have hn : nx (nwT T k n m) = nx T + 1 := rfl
  have hlt : ∀ x, x < 15 → s + x < nx T := fun x hx => by omega
  refine ⟨⟨a1, by rw [hn]; omega, fun q hq => ?_, fun q hq => ?_, fun q hq => ?_⟩, ⟨?_, ?_, ?_, ?_, ?_, ?_, ?_, ?_, ?_⟩, by rw [hn]; omega, by rw [hn]; omega, by rw [hn]; omega⟩
  · have := nw_kdn (k := k) (n := n) (m := m) (hlt q.1 (tabS_lt q hq))
    rw [this.1, this.2]; exact a3 q hq
  · rw [(nw_kdn (hlt q.1 (objS_lt q hq))).1]; exact a4 q hq
  · rw [nw_rf (hlt q.1 (refS_lt q hq).1)]; exact a5 q hq
  · rw [nw_rf (hlt 7 (by decide))]; exact b1
  · rw [nw_rf (hlt 7 (by decide))]; exact b2
  · rw [nw_rf (hlt 7 (by decide))]; exact b3
  · rw [(nw_kdn c1).1]; exact b4
  · rw [(nw_kdn c2).1]; exact b5
  · rw [(nw_kdn c3).1]; exact b6
  · rw [(nw_kdn c1).2]; exact b7
  · rw [(nw_kdn c2).2]; exact b8
  · rw [(nw_kdn c3).2]; exact b9
/-- the shape with one reference set -/
def rsT (T : Sh) (a k x : Nat) : Sh := (kd T, ln T, upr (rf T) a k (some x), nx T, sl T)
theorem rs_ne {T : Sh} {a k x b j : Nat} (h : ¬ (b = a ∧ j = k)) : rf (rsT T a k x) b j = rf T b j := if_neg h
theorem rs_at {T : Sh} {a k x : Nat} : rf (rsT T a k x) a k = some x := if_pos ⟨rfl, rfl⟩
theorem ShG.p {T : Sh} {s p o t cp co ct x : Nat} (h : ShG T s p o t cp co ct) (hk : kd T x = 20) (hx : x < nx T) : ShG (rsT T (s + 7) 1 x) s x o t (ln T x) co ct := by
  obtain ⟨⟨a1, a2, a3, a4, a5⟩, ⟨b1, b2, b3, b4, b5, b6, b7, b8, b9⟩, c1, c2, c3⟩ := h
  refine ⟨⟨a1, a2, a3, a4, fun q hq => ?_⟩, ⟨rs_at, ?_, ?_, hk, b5, b6, rfl, b8, b9⟩, hx, c2, c3⟩
  · rw [rs_ne (by have := (refS_lt q hq).2; omega)]; exact a5 q hq
  · rw [rs_ne (by omega)]; exact b2
  · rw [rs_ne (by omega)]; exact b3
theorem ShG.o {T : Sh} {s p o t cp co ct x : Nat} (h : ShG T s p o t cp co ct) (hk : kd T x = 20) (hx : x < nx T) : ShG (rsT T (s + 7) 2 x) s p x t cp (ln T x) ct := by
  obtain ⟨⟨a1, a2, a3, a4, a5⟩, ⟨b1, b2, b3, b4, b5, b6, b7, b8, b9⟩, c1, c2, c3⟩ := h
  refine ⟨⟨a1, a2, a3, a4, fun q hq => ?_⟩, ⟨?_, rs_at, ?_, b4, hk, b6, b7, rfl, b9⟩, c1, hx, c3⟩
  · rw [rs_ne (by have := (refS_lt q hq).2; omega)]; exact a5 q hq
  · rw [rs_ne (by omega)]; exact b1
  · rw [rs_ne (by omega)]; exact b3
theorem ShG.t {T : Sh} {s p o t cp co ct x : Nat} (h : ShG T s p o t cp co ct) (hk : kd T x = 23) (hx : x < nx T) : ShG (rsT T (s + 7) 3 x) s p o x cp co (ln T x) := by
  obtain ⟨⟨a1, a2, a3, a4, a5⟩, ⟨b1, b2, b3, b4, b5, b6, b7, b8, b9⟩, c1, c2, c3⟩ := h
  refine ⟨⟨a1, a2, a3, a4, fun q hq => ?_⟩, ⟨?_, ?_, rs_at, b4, b5, hk, b7, b8, rfl⟩, c1, c2, hx⟩
  · rw [rs_ne (by have := (refS_lt q hq).2; omega)]; exact a5 q hq
  · rw [rs_ne (by omega)]; exact b1
  · rw [rs_ne (by omega)]; exact b2
theorem ShG.s {T : Sh} {s p o t c : Nat} (h : ShG T s p o t c c (4 * c)) (hp : p = s + 8 ∨ 291 ≤ p) (ho : o = s + 9 ∨ 291 ≤ o) (ht : t = s + 10 ∨ 291 ≤ t) (h1 : p ≠ o) (h2 : p ≠ t) (h3 : o ≠ t) (hc : ∃ k, k ≤ 8 ∧ c = 64 * 2 ^ k) : ShS T s p o t c := ⟨h.1, h.2.1, ⟨h.2.2.1, h.2.2.2.1, h.2.2.2.2, hp, ho, ht, h1, h2, h3⟩, hc⟩
theorem ShG.k7 {T : Sh} {s p o t cp co ct : Nat} (h : ShG T s p o t cp co ct) : kd T (s + 7) = 4 ∧ s + 7 < nx T := ⟨h.1.2.2.2.1 (7, 4) (List.mem_of_getElem? (i := 2) rfl), by have := h.1; omega⟩
/-- how shapes grow: all that was is as it was, but for the references of one ledger, and what is made is paid by the ledger's cells -/
def Ext (s : Nat) (T U : Sh) (c e : Nat) : Prop := nx T ≤ nx U ∧ (∀ b, b < nx T → kd U b = kd T b ∧ ln U b = ln T b) ∧ (∀ b k, b < nx T → b ≠ s + 7 → rf U b k = rf T b k) ∧ c ≤ e ∧ sl U + 12 * c ≤ sl T + 12 * e ∧ 64 * nx U + 3 * c ≤ 64 * nx T + 3 * e
theorem Ext.id (s : Nat) (T : Sh) (c : Nat) : Ext s T T c c := ⟨Nat.le_refl _, fun _ _ => ⟨rfl, rfl⟩, fun _ _ _ _ => rfl, Nat.le_refl _, Nat.le_refl _, Nat.le_refl _⟩
theorem Ext.tr {s : Nat} {T U V : Sh} {c e f : Nat} (h1 : Ext s T U c e) (h2 : Ext s U V e f) : Ext s T V c f := by
  obtain ⟨a1, a2, a3, a4, a5, a6⟩ := h1
  obtain ⟨b1, b2, b3, b4, b5, b6⟩ := h2
  refine ⟨by omega, fun b hb => ?_, fun b k hb hk => ?_, by omega, by omega, by omega⟩
  · have x := a2 b hb
    have y := b2 b (by omega)
    exact ⟨y.1.trans x.1, y.2.trans x.2⟩
  · exact (b3 b k (by omega) hk).trans (a3 b k hb hk)
/-- what a telling leaves -/
def TlP (T U : Sh) (I K : Mi) (s p o t c p2 o2 t2 c2 n0 : Nat) (x y : Int) (w : Nat → Int) : Prop :=
  ShS U s p2 o2 t2 c2 ∧ Ext s T U c c2 ∧ ((p2 = p ∨ nx T ≤ p2) ∧ (o2 = o ∨ nx T ≤ o2) ∧ (t2 = t ∨ nx T ≤ t2)) ∧
  (∀ b, b < nx T → b ≠ s + 7 → b ≠ p → b ≠ o → b ≠ t → K b = I b) ∧ K (s + 7) = un (I (s + 7)) 0 ((n0 + 1 : Nat) : Int) ∧
  ((∀ k, k < n0 → K p2 k = I p k ∧ K o2 k = I o k) ∧ ∀ k, k < 4 * n0 → K t2 k = I t k) ∧ K p2 n0 = x ∧ K o2 n0 = y ∧ (∀ j, j < 4 → K t2 (4 * n0 + j) = w j) ∧ n0 < c2
end C10

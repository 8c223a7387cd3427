section C21
variable {G : Gl} {d : Nat} {T : Sh} {I : Mi} {N : Nat → Int} {Q : Option AV → Sh → Mi → Prop}
/-- while a pass goes on -/
def RpI (T : Sh) (I : Mi) (s m p o t c : Nat) (E : WE) (M M1 : Nat → Int) (n B q : Nat) : Prop :=
  MwR E.1 E.2.1 s E.2.2.1 E.2.2.2.1 E.2.2.2.2.1 E.2.2.2.2.2 M (q + 1) n ∧ (PmO M (q + 1) n ∧ LdOk M (q + 1) n) ∧ (OdR (E.2.1 (m + 2)) M B n q ∧ BoR (E.2.1 (m + 1)) M B n q) ∧
  (Ext s T E.1 c E.2.2.2.2.2 ∧ (E.2.2.1 = p ∨ nx T ≤ E.2.2.1) ∧ (E.2.2.2.1 = o ∨ nx T ≤ E.2.2.2.1) ∧ (E.2.2.2.2.1 = t ∨ nx T ≤ E.2.2.2.2.1)) ∧
  (∀ b, b < nx T → b ≠ s → b ≠ s + 2 → b ≠ s + 5 → b ≠ s + 7 → b ≠ p → b ≠ o → b ≠ t → b ≠ m → b ≠ m + 1 → b ≠ m + 2 → b ≠ m + 3 → E.2.1 b = I b) ∧
  (∀ j, j ≠ 1 → j ≠ 8 → E.2.1 s j = I s j) ∧ E.2.1 s 1 = M1 8 ∧ E.2.1 m 3 = (B : Int) ∧ E.2.1 m 4 = (q : Int)
theorem frm {T U : Sh} {I K L : Mi} {p o t p2 o2 t2 b : Nat} (np : (p2 = p ∨ nx T ≤ p2) ∧ (o2 = o ∨ nx T ≤ o2) ∧ (t2 = t ∨ nx T ≤ t2)) (hb : b < nx T) (h1 : b ≠ p) (h2 : b ≠ o) (h3 : b ≠ t) : b ≠ p2 ∧ b ≠ o2 ∧ b ≠ t2 := by
  obtain ⟨a, c, e⟩ := np
  refine ⟨?_, ?_, ?_⟩
  · clear c e; omega
  · clear a e; omega
  · clear a c; omega
theorem npt {T U : Sh} {p o t p2 o2 t2 p3 o3 t3 : Nat} (h : nx T ≤ nx U) (n1 : (p2 = p ∨ nx T ≤ p2) ∧ (o2 = o ∨ nx T ≤ o2) ∧ (t2 = t ∨ nx T ≤ t2)) (n2 : (p3 = p2 ∨ nx U ≤ p3) ∧ (o3 = o2 ∨ nx U ≤ o3) ∧ (t3 = t2 ∨ nx U ≤ t3)) : (p3 = p ∨ nx T ≤ p3) ∧ (o3 = o ∨ nx T ≤ o3) ∧ (t3 = t ∨ nx T ≤ t3) := by
  obtain ⟨a, b, c⟩ := n1
  obtain ⟨e, f, g⟩ := n2
  refine ⟨?_, ?_, ?_⟩
  · clear b c f g; omega
  · clear a c e g; omega
  · clear a b e f; omega
theorem RpI_ask {T U : Sh} {I K : Mi} {s m p o t c p2 o2 t2 c2 n B q b l : Nat} {E : WE} {M M1 : Nat → Int} (hS : ShS T s p o t c) (hm : m + 4 ≤ 291) (hdm : m + 4 ≤ s ∨ s + 15 ≤ m) (h : RpI T I s m p o t c E M M1 n B q) (hq : q < 6) (ht : tN M < 13608) (hb : b + l ≤ n) (hl : 1 ≤ l)
   (hA : AsP E.1 U E.2.1 K s m E.2.2.1 E.2.2.2.1 E.2.2.2.2.1 E.2.2.2.2.2 p2 o2 t2 c2 (askF M q b l) (q + 1) n) : RpI T I s m p o t c (U, K, p2, o2, t2, c2) (askF M q b l) M1 n B q := by
  obtain ⟨h1, ⟨h2, h3⟩, ⟨h4, h5⟩, ⟨h6, h7⟩, h8, h9, h10, h11, h12⟩ := h
  obtain ⟨a1, a2, a3, a4⟩ := hA
  have hn2 := h2.2.2.1
  have hx := h6.1
  have hnx := hS.1.2.1
  have kk : ∀ b, b < nx T → b ≠ s + 7 → b ≠ p → b ≠ o → b ≠ t → b ≠ m + 3 → K b = E.2.1 b := fun b hb b7 bp bo bt bm => by
    obtain ⟨f1, f2, f3⟩ := frm (U := U) (I := I) (K := K) (L := K) h7 hb bp bo bt
    exact a4 b (by omega) b7 f1 f2 f3 bm
  have km : ∀ j, j < 3 → K (m + j) = E.2.1 (m + j) := fun j hj => by
    have q := ne_mk hS hm hdm (k := j) (by omega)
    exact kk _ (by omega) (Ne.symm (ne_ms hdm (by decide) (by omega))) (Ne.symm q.1) (Ne.symm q.2.1) (Ne.symm q.2.2) (by omega)
  have ks : K s = E.2.1 s := by
    have q := ne_sk hS (k := 0) (by decide) (by decide) (by decide) (by decide)
    have := hS.1.1
    exact kk _ (by omega) (by omega) (Ne.symm q.1) (Ne.symm q.2.1) (Ne.symm q.2.2) (ne_ms (k := 0) hdm (by decide) (by decide))
  refine ⟨a1, ⟨PmO_ask h2 ht, LdOk_ask h3 h2.1 (by omega) hn2 (by omega) hb hl⟩, ⟨?_, ?_⟩, ⟨h6.tr a2, npt hx h7 a3⟩, fun b b0 b1 b2 b3 b4 b5 b6 b7 b8 b9 b10 b11 => ?_, fun j j1 j8 => ?_, ?_, ?_, ?_⟩
  · show OdR (K (m + 2)) _ B n q; rw [km 2 (by decide)]; exact Od_ask h4 h2.1 hn2 hq
  · show BoR (K (m + 1)) _ B n q; rw [km 1 (by decide)]; exact Bo_ask h5 hn2 hq
  · exact (kk b b0 b4 b5 b6 b7 b11).trans (h8 b b0 b1 b2 b3 b4 b5 b6 b7 b8 b9 b10 b11)
  · show K s j = _; rw [ks]; exact h9 j j1 j8
  · show K s 1 = _; rw [ks]; exact h10
  · show K m 3 = _; rw [show K m = E.2.1 m from km 0 (by decide)]; exact h11
  · show K m 4 = _; rw [show K m = E.2.1 m from km 0 (by decide)]; exact h12
theorem RpI_hv {T U : Sh} {I K : Mi} {s m p o t c p2 o2 t2 c2 n B q : Nat} {E : WE} {M M2 M1 : Nat → Int} (hS : ShS T s p o t c) (hm : m + 4 ≤ 291) (hdm : m + 4 ≤ s ∨ s + 15 ≤ m) (h : RpI T I s m p o t c E M M1 n B q)
   (hA : HvP E.1 U E.2.1 K s m E.2.2.1 E.2.2.2.1 E.2.2.2.2.1 E.2.2.2.2.2 p2 o2 t2 c2 M2 (q + 1) n B q) : RpI T I s m p o t c (U, K, p2, o2, t2, c2) M2 M1 n B q ∧ K m = E.2.1 m := by
  obtain ⟨h1, ⟨h2, h3⟩, ⟨h4, h5⟩, ⟨h6, h7⟩, h8, h9, h10, h11, h12⟩ := h
  obtain ⟨a1, a2, a3, a4, a5, a6, a7, a8, a9⟩ := hA
  have hx := h6.1
  have hnx := hS.1.2.1
  have hs0 := hS.1.1
  have km : K m = E.2.1 m := by
    have q := ne_mk hS hm hdm (k := 0) (by decide)
    obtain ⟨f1, f2, f3⟩ := frm (T := T) (U := U) (I := I) (K := K) (L := K) (b := m) h7 (by omega) (Ne.symm q.1) (Ne.symm q.2.1) (Ne.symm q.2.2)
    exact a4 m (by omega) (Ne.symm (ne_ms (k := 0) (j := 0) hdm (by decide) (by decide))) (Ne.symm (ne_ms (k := 5) (j := 0) hdm (by decide) (by decide))) (Ne.symm (ne_ms (k := 7) (j := 0) hdm (by decide) (by decide))) f1 f2 f3 (by omega) (by omega)
  refine ⟨⟨a1, ⟨a8, a9⟩, ⟨a6, a7⟩, ⟨h6.tr a2, npt hx h7 a3⟩, fun b b0 b1 b2 b3 b4 b5 b6 b7 b8 b9 b10 b11 => ?_, fun j j1 j8 => (a5 j j8).trans (h9 j j1 j8), (a5 1 (by decide)).trans h10, ?_, ?_⟩, km⟩
  · obtain ⟨f1, f2, f3⟩ := frm (T := T) (U := U) (I := I) (K := K) (L := K) (b := b) h7 b0 b5 b6 b7
    exact (a4 b (by omega) b1 b3 b4 f1 f2 f3 b10 b11).trans (h8 b b0 b1 b2 b3 b4 b5 b6 b7 b8 b9 b10 b11)
  · show K m 3 = _; rw [km]; exact h11
  · show K m 4 = _; rw [km]; exact h12
theorem MwR_rows {T : Sh} {I K : Mi} {s p o t c e n : Nat} {M : Nat → Int} (h : MwR T I s p o t c M e n) (h0 : K s 8 = I s 8) (h2 : K (s + 2) = I (s + 2)) (h3 : K (s + 3) = I (s + 3)) (h4 : K (s + 4) = I (s + 4)) (h5 : K (s + 5) = I (s + 5)) (h7 : K (s + 7) = I (s + 7)) (hp : K p = I p) (ho : K o = I o) (ht : K t = I t) : MwR T K s p o t c M e n := by
  obtain ⟨a1, a2, a3, a4, a5, a6⟩ := h
  refine ⟨a1, ⟨by rw [h3]; exact a2.1, fun k hk => by rw [h4, h5]; exact a2.2 k hk⟩, fun q hq k hk => by rw [h2]; exact a3 q hq k hk, ⟨by rw [h7]; exact a4.1, fun k hk => ?_⟩, h0.trans a5, a6⟩
  exact LdE_mv (a4.2 k hk) (by rw [hp]) (by rw [ho]) (fun j _ => by rw [ht])
theorem RpI_m5 {T : Sh} {I : Mi} {s m p o t c n B q : Nat} {E : WE} {M M1 : Nat → Int} {x : Int} (hS : ShS T s p o t c) (hm : m + 4 ≤ 291) (hdm : m + 4 ≤ s ∨ s + 15 ≤ m) (h : RpI T I s m p o t c E M M1 n B q) : RpI T I s m p o t c (E.1, sr E.2.1 m (un (E.2.1 m) 5 x), E.2.2) M M1 n B q := by
  obtain ⟨h1, ⟨h2, h3⟩, ⟨h4, h5⟩, ⟨h6, h7⟩, h8, h9, h10, h11, h12⟩ := h
  have hE := h1.1
  have qk : ∀ k, k < 15 → (sr E.2.1 m (un (E.2.1 m) 5 x)) (s + k) = E.2.1 (s + k) := fun k hk => sr_ne (ne_ms (j := 0) hdm hk (by decide))
  have ql := ne_mk hE hm hdm (k := 0) (by decide)
  have q0 : (sr E.2.1 m (un (E.2.1 m) 5 x)) s = E.2.1 s := qk 0 (by decide)
  refine ⟨MwR_rows h1 (congrFun q0 8) (qk 2 (by decide)) (qk 3 (by decide)) (qk 4 (by decide)) (qk 5 (by decide)) (qk 7 (by decide)) (sr_ne ql.1) (sr_ne ql.2.1) (sr_ne ql.2.2), ⟨h2, h3⟩, ⟨?_, ?_⟩, ⟨h6, h7⟩, fun b b0 b1 b2 b3 b4 b5 b6 b7 b8 b9 b10 b11 => ?_, fun j j1 j8 => ?_, ?_, ?_, ?_⟩
  · show OdR ((sr E.2.1 m (un (E.2.1 m) 5 x)) (m + 2)) M B n q; rw [sr_ne (by omega)]; exact h4
  · show BoR ((sr E.2.1 m (un (E.2.1 m) 5 x)) (m + 1)) M B n q; rw [sr_ne (by omega)]; exact h5
  · exact (sr_ne b8).trans (h8 b b0 b1 b2 b3 b4 b5 b6 b7 b8 b9 b10 b11)
  · exact (congrFun q0 j).trans (h9 j j1 j8)
  · exact (congrFun q0 1).trans h10
  · exact (congrFun (sr_row _ _ _) 3).trans ((un_ne (by decide)).trans h11)
  · exact (congrFun (sr_row _ _ _) 4).trans ((un_ne (by decide)).trans h12)
end C21

section C26
variable {G : Gl} {d : Nat} {T : Sh} {I : Mi} {N : Nat → Int} {Q : Option AV → Sh → Mi → Prop}
/-- what a telling out of the set's row w leaves -/
def AsW (T U : Sh) (I K : Mi) (s w p o t c p2 o2 t2 c2 : Nat) (M : Nat → Int) (e n : Nat) : Prop :=
  MwR U K s p2 o2 t2 c2 M e n ∧ Ext s T U c c2 ∧ ((p2 = p ∨ nx T ≤ p2) ∧ (o2 = o ∨ nx T ≤ o2) ∧ (t2 = t ∨ nx T ≤ t2)) ∧
  ∀ b, b < nx T → b ≠ s + 7 → b ≠ p → b ≠ o → b ≠ t → b ≠ w → K b = I b
theorem ne_sx {s w k : Nat} (h : w < s ∨ s + 15 ≤ w) (hk : k < 15) : s + k ≠ w := by omega
theorem ne_lw {T : Sh} {s p o t c w : Nat} (h : ShS T s p o t c) (hw : w < 291) (hd : w < s ∨ s + 15 ≤ w) : p ≠ w ∧ o ≠ w ∧ t ≠ w := by
  obtain ⟨a, b, c, e, _, _, _⟩ := neS h
  refine ⟨?_, ?_, ?_⟩
  · clear c e; omega
  · clear b e; omega
  · clear b c; omega
theorem tl_lo {M : Nat → Int} {k a b c e : Int} {j : Nat} (h3 : j ≠ 3) (h : j < 3902) : tlF M k a b c e j = M j := tl_ne h3 h
theorem tl_cell {M : Nat → Int} {k a b c e : Int} {i : Nat} (hi : i < tN M) : tlF M k a b c e (i + 3902) = M (i + 3902) := by unfold tlF; rw [un_ne (by omega), un_ne (by omega)]
theorem tl_new {M : Nat → Int} {k a b c e : Int} : tlF M k a b c e (tN M + 3902) = cdL k a b c e := by unfold tlF; rw [un_ne (by omega), un_at]
theorem PmO_lo {M K : Nat → Int} {e n : Nat} (h : PmO M e n) (hR : Rng K) (hj : ∀ j, j < 2580 → j ≠ 3 → j ≠ 0 → j ≠ 8 → j ≠ 7 → j ≠ 12 → ¬ (532 ≤ j ∧ j < 788) → K j = M j) : PmO K e n := by
  obtain ⟨a1, a2, a3, a4, a5, a6, a7⟩ := h
  have ho : ∀ q k, 256 * q + k < 1536 → oP K q k = oP M q k := fun q k hq => by unfold oP; rw [hj _ (by omega) (by omega) (by omega) (by omega) (by omega) (by omega) (by omega)]
  refine ⟨hR, by rw [hj 1 (by decide) (by decide) (by decide) (by decide) (by decide) (by decide) (by omega)]; exact a2, a3, a4, fun q hq k hk => ?_, fun q hq i j hi hj hij => ?_, fun q hq x hx => ?_⟩
  · rw [ho q k (by omega)]; exact a5 q hq k hk
  · rw [ho q i (by omega), ho q j (by omega)] at hij; exact a6 q hq i j hi hj hij
  · obtain ⟨i, h1, h2⟩ := a7 q hq x hx
    exact ⟨i, h1, by rw [ho q i (by omega)]; exact h2⟩
theorem tl_P {T U : Sh} {I K : Mi} {s w p o t c p2 o2 t2 c2 : Nat} {M W : Nat → Int} {q n : Nat} {k a b c0 e x y : Int} (hM : MwR T I s p o t c M q n) (hP : PmO M q n) (hL : LdOk M q n) (hw : w < 291) (hdw : w < s ∨ s + 15 ≤ w) (ht : tN M < 13608)
   (hcd : cdOk (tlF M k a b c0 e) q n (tN M)) (hx : x = tpN (tlF M k a b c0 e) (tN M) 2 1) (hy : y = if tkN (tlF M k a b c0 e) (tN M) = 0 then tpN (tlF M k a b c0 e) (tN M) 6 3 else if tkN (tlF M k a b c0 e) (tN M) = 1 then -2 else -1)
   (hW : ∀ z, z < 256 → b64 (W (z / 64)) (z % 64) = sbR (tlF M k a b c0 e) (tN M) z)
   (h : TlP T U (sr I w W) K s p o t c p2 o2 t2 c2 (tN M) x y W) : AsW T U I K s w p o t c p2 o2 t2 c2 (tlF M k a b c0 e) q n ∧ PmO (tlF M k a b c0 e) q n ∧ LdOk (tlF M k a b c0 e) q n := by
  obtain ⟨m1, m2, m3, m4, m5, m6⟩ := hM
  obtain ⟨t1, t2_, t3, t4, t5, t6, t7, t8, t9, t10⟩ := h
  have hnx := m1.1.2.1
  have hs0 := m1.1.1
  have hR := hP.1
  have hR2 : Rng (tlF M k a b c0 e) := Rng_tl hR ht
  have hP2 : PmO (tlF M k a b c0 e) q n := PmO_lo hP hR2 (fun j j0 j1 _ _ _ _ _ => tl_lo j1 (by omega))
  have he6 := hP.2.2.2.1
  have hn2 := hP.2.2.1
  have hnn := hP.nn
  have hlw := ne_lw m1 hw hdw
  have hfr : ∀ b, b < nx T → b ≠ s + 7 → b ≠ p → b ≠ o → b ≠ t → b ≠ w → K b = I b := fun b h1 h2 h3 h4 h5 h6 => (t4 b h1 h2 h3 h4 h5).trans (sr_ne h6)
  have hk : ∀ j, j < 15 → j ≠ 7 → j ≠ 8 → j ≠ 9 → j ≠ 10 → K (s + j) = I (s + j) := fun j j0 j7 j8 j9 j10 => by
    have g := ne_sk m1 (k := j) j0 j8 j9 j10
    exact hfr _ (by omega) (by omega) (Ne.symm g.1) (Ne.symm g.2.1) (Ne.symm g.2.2) (ne_sx hdw j0)
  have hL2 : LdOk (tlF M k a b c0 e) q n := by
    intro i hi
    rw [tl_t] at hi
    by_cases g : i < tN M
    · have := hL i g
      unfold cdOk at this ⊢
      rw [tl_cell g]
      exact this
    · have e0 : i = tN M := by omega
      subst e0
      exact hcd
  refine ⟨⟨⟨t1, ⟨?_, fun z hz => ?_⟩, fun v hv z hz => ?_, ⟨?_, fun i hi => ?_⟩, ?_, by rw [tl_t]; omega⟩, t2_, t3, hfr⟩, hP2, hL2⟩
  · rw [hk 3 (by decide) (by decide) (by decide) (by decide) (by decide)]; exact m2.1
  · rw [hk 4 (by decide) (by decide) (by decide) (by decide) (by decide), hk 5 (by decide) (by decide) (by decide) (by decide) (by decide), tl_lo (by omega) (by omega), tl_lo (by omega) (by omega)]; exact m2.2 z hz
  · rw [hk 2 (by decide) (by decide) (by decide) (by decide) (by decide), tl_lo (by omega) (by omega)]; exact m3 v hv z hz
  · rw [t5, un_at, tN_rd hR2, tl_t]
  · rw [tl_t] at hi
    by_cases g : i < tN M
    · have h0 := m4.2 i g
      have h1 := LdE_mv (K := K) (p2 := p2) (o2 := o2) (t2 := t2) h0 ((t6.1 i g).1.trans (congrFun (sr_ne hlw.1) i)) ((t6.1 i g).2.trans (congrFun (sr_ne hlw.2.1) i)) (fun j hj => (t6.2 (4 * i + j) (by omega)).trans (congrFun (sr_ne hlw.2.2) _))
      exact LdE_ext h1 (hL i g) he6 hnn hn2 hP2.nn (tl_cell g) (fun v z hv hz => by unfold oP; rw [tl_lo (by omega) (by omega)]) (fun j j1 j2 => tl_lo (by omega) (by omega))
    · have e0 : i = tN M := by omega
      subst e0
      exact ⟨t7.trans hx, t8.trans hy, fun z hz => by rw [t9 (z / 64) (by omega)]; exact hW z hz⟩
  · rw [show K s = I s from hk 0 (by decide) (by decide) (by decide) (by decide) (by decide), tl_lo (by decide) (by decide)]; exact m5
/-- a telling of the row's run from i on -/
theorem ck_P {T U : Sh} {I K : Mi} {s w p o t c p2 o2 t2 c2 : Nat} {M W : Nat → Int} {q n i : Nat} (hM : MwR T I s p o t c M q n) (hP : PmO M q n) (hL : LdOk M q n) (hw : w < 291) (hdw : w < s ∨ s + 15 ≤ w) (ht : tN M < 13608) (hi : i < 30)
   (hW : ∀ z, z < 256 → b64 (W (z / 64)) (z % 64) = (decide (z < n) && decide (M (2580 + i + z) = 1)))
   (h : TlP T U (sr I w W) K s p o t c p2 o2 t2 c2 (tN M) (parR M 276 2580 i n) (-1) W) : AsW T U I K s w p o t c p2 o2 t2 c2 (tlF M 2 (parR M 276 2580 i n) 0 i 0) q n ∧ PmO (tlF M 2 (parR M 276 2580 i n) 0 i 0) q n ∧ LdOk (tlF M 2 (parR M 276 2580 i n) 0 i 0) q n := by
  have hn2 := hP.2.2.1
  have h01 := parR_01 (N := M) (y := 276) (r := 2580) (i := i) hP.1 (Or.inl rfl) (by omega) n hn2 (by omega)
  have ec : tlF M 2 (parR M 276 2580 i n) 0 i 0 (tN M + 3902) = cdL 2 ((parR M 276 2580 i n).toNat : Nat) 0 i 0 := by rw [tl_new]; congr 1; omega
  obtain ⟨e1, e2, e3⟩ := cd_2 (N := tlF M 2 (parR M 276 2580 i n) 0 i 0) (k := tN M) (a := (parR M 276 2580 i n).toNat) (i := i) (by omega) hi ec
  have hR2 : Rng (tlF M 2 (parR M 276 2580 i n) 0 i 0) := Rng_tl hP.1 ht
  have hnn : nN (tlF M 2 (parR M 276 2580 i n) 0 i 0) = n := by unfold nN; rw [tl_lo (by decide) (by decide), hP.2.1]; omega
  refine tl_P hM hP hL hw hdw ht (Or.inr (Or.inr ⟨_, i, by omega, hi, ec⟩)) (by rw [e2]; omega) (by rw [if_neg (by rw [e1]; decide), if_neg (by rw [e1]; decide)]) (fun z hz => ?_) h
  rw [hW z hz, sbR_eq]
  unfold stF
  have z0 : ¬ tkN (tlF M 2 (parR M 276 2580 i n) 0 i 0) (tN M : Int) = 0 := by rw [e1]; decide
  have z1 : ¬ tkN (tlF M 2 (parR M 276 2580 i n) 0 i 0) (tN M : Int) = 1 := by rw [e1]; decide
  rw [if_neg z0, if_neg z1, e3, Int.toNat_natCast, hnn, sb_lrS, sb_z8 hz, Bool.false_xor]
  by_cases g : z < n
  · rw [tl_lo (by omega) (by omega)]
  · rw [decide_eq_false g]; rfl
end C26

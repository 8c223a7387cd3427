section C16
variable {G : Gl} {d : Nat} {T : Sh} {I : Mi} {N : Nat → Int} {Q : Option AV → Sh → Mi → Prop}
theorem ne_sk {T : Sh} {s p o t c : Nat} (h : ShS T s p o t c) {k : Nat} (hk : k < 15) (h8 : k ≠ 8) (h9 : k ≠ 9) (h10 : k ≠ 10) : p ≠ s + k ∧ o ≠ s + k ∧ t ≠ s + k := by
  obtain ⟨a, b, c, e, _, _, _⟩ := neS h
  refine ⟨?_, ?_, ?_⟩
  · clear c e; omega
  · clear b e; omega
  · clear b c; omega
theorem ne_mk {T : Sh} {s p o t c m : Nat} (h : ShS T s p o t c) (hm : m + 4 ≤ 291) (hdm : m + 4 ≤ s ∨ s + 15 ≤ m) {k : Nat} (hk : k < 4) : p ≠ m + k ∧ o ≠ m + k ∧ t ≠ m + k := by
  obtain ⟨a, b, c, e, _, _, _⟩ := neS h
  refine ⟨?_, ?_, ?_⟩
  · clear c e; omega
  · clear b e; omega
  · clear b c; omega
theorem ne_ms {s m : Nat} (hdm : m + 4 ≤ s ∨ s + 15 ≤ m) {k j : Nat} (hk : k < 15) (hj : j < 4) : s + k ≠ m + j := by omega
theorem ShD_ext {T U : Sh} {s m c e : Nat} (h : ShD T m) (hx : Ext s T U c e) (hd : m + 4 ≤ s ∨ s + 15 ≤ m) : ShD U m := by
  obtain ⟨x1, x2, x3, _⟩ := hx
  have h0 := h.1
  have lt : ∀ k, k < 4 → m + k < nx T := fun k hk => by omega
  obtain ⟨a, b, ⟨c1, c2, c3⟩, d1, d2, d3⟩ := h
  refine ⟨⟨a.1, by omega⟩, (x2 m (by omega)).1.trans b, ⟨⟨(x2 _ (lt 1 (by decide))).1.trans c1.1, (x2 _ (lt 1 (by decide))).2.trans c1.2⟩, ⟨(x2 _ (lt 2 (by decide))).1.trans c2.1, (x2 _ (lt 2 (by decide))).2.trans c2.2⟩, ⟨(x2 _ (lt 3 (by decide))).1.trans c3.1, (x2 _ (lt 3 (by decide))).2.trans c3.2⟩⟩, (x3 _ _ (by omega) (by omega)).trans d1, (x3 _ _ (by omega) (by omega)).trans d2, (x3 _ _ (by omega) (by omega)).trans d3⟩
theorem AsP.tr {T U V : Sh} {I K L : Mi} {s m p o t c p2 o2 t2 c2 p3 o3 t3 c3 e n : Nat} {M1 M2 : Nat → Int} (h1 : AsP T U I K s m p o t c p2 o2 t2 c2 M1 e n) (h2 : AsP U V K L s m p2 o2 t2 c2 p3 o3 t3 c3 M2 e n) : AsP T V I L s m p o t c p3 o3 t3 c3 M2 e n := by
  obtain ⟨a1, a2, a3, a4⟩ := h1
  obtain ⟨b1, b2, b3, b4⟩ := h2
  have hx := a2.1
  refine ⟨b1, a2.tr b2, ⟨?_, ?_, ?_⟩, fun b h0 h7 hp ho ht hm => ?_⟩
  · rcases b3.1 with h | h
    · rw [h]; exact a3.1
    · exact Or.inr (by omega)
  · rcases b3.2.1 with h | h
    · rw [h]; exact a3.2.1
    · exact Or.inr (by omega)
  · rcases b3.2.2 with h | h
    · rw [h]; exact a3.2.2
    · exact Or.inr (by omega)
  · have n1 := a3.1
    have n2 := a3.2.1
    have n3 := a3.2.2
    rw [b4 b (by omega) h7 (by omega) (by omega) (by omega) hm]
    exact a4 b h0 h7 hp ho ht hm
theorem AsP.id {T : Sh} {I : Mi} {s m p o t c e n : Nat} {M : Nat → Int} (h : MwR T I s p o t c M e n) : AsP T T I I s m p o t c p o t c M e n := ⟨h, Ext.id _ _ _, ⟨Or.inl rfl, Or.inl rfl, Or.inl rfl⟩, fun _ _ _ _ _ _ _ => rfl⟩
/-- what a halving leaves -/
def HvP (T U : Sh) (I K : Mi) (s m p o t c p2 o2 t2 c2 : Nat) (M : Nat → Int) (e n B q : Nat) : Prop :=
  MwR U K s p2 o2 t2 c2 M e n ∧ Ext s T U c c2 ∧ ((p2 = p ∨ nx T ≤ p2) ∧ (o2 = o ∨ nx T ≤ o2) ∧ (t2 = t ∨ nx T ≤ t2)) ∧
  (∀ b, b < nx T → b ≠ s → b ≠ s + 5 → b ≠ s + 7 → b ≠ p → b ≠ o → b ≠ t → b ≠ m + 2 → b ≠ m + 3 → K b = I b) ∧ (∀ j, j ≠ 8 → K s j = I s j) ∧
  OdR (K (m + 2)) M B n q ∧ BoR (K (m + 1)) M B n q ∧ PmO M e n ∧ LdOk M e n
theorem PmO_md {M : Nat → Int} {e n x : Nat} (h : PmO M e n) (hx : x < n) : PmO (mdF M x) e n := by
  obtain ⟨a1, a2, a3, a4, a5, a6, a7⟩ := h
  have ho : ∀ q k, q < e → k < n → oP (mdF M x) q k = oP M q k := fun q k hq hk => md_oP (by omega) (by omega)
  refine ⟨Rng_md a1 (by omega), by rw [md_lo (by decide) (by omega)]; exact a2, a3, a4, fun q hq k hk => ?_, fun q hq i j hi hj hij => ?_, fun q hq y hy => ?_⟩
  · rw [ho q k hq hk]; exact a5 q hq k hk
  · rw [ho q i hq hi, ho q j hq hj] at hij; exact a6 q hq i j hi hj hij
  · obtain ⟨i, h1, h2⟩ := a7 q hq y hy
    exact ⟨i, h1, by rw [ho q i hq h1]; exact h2⟩
theorem md_t (M : Nat → Int) (x : Nat) : tN (mdF M x) = tN M := by unfold tN; rw [md_lo (by decide) (by omega)]
theorem LdOk_md {M : Nat → Int} {e n x : Nat} (h : LdOk M e n) (hx : x < 256) : LdOk (mdF M x) e n := by
  intro k hk
  rw [md_t] at hk
  have := h k hk
  unfold cdOk at this ⊢
  rw [md_lo (by omega) (by omega)]
  exact this
theorem hv_end {T U : Sh} {I K : Mi} {s m p o t c p2 o2 t2 c2 : Nat} {M : Nat → Int} {e n B q x : Nat} (hA : AsP T U I K s m p o t c p2 o2 t2 c2 M e n) (hP : PmO M e n) (hL : LdOk M e n) (he : e = q + 1) (hx : x < n) (hB : 2 ≤ B) (hm : m + 4 ≤ 291) (hdm : m + 4 ≤ s ∨ s + 15 ≤ m) (hS0 : ShS T s p o t c) (hOd : OdR (I (m + 2)) M B n q) (hBo : BoR (I (m + 1)) M B n q) :
   HvP T U I (sr (sr (sr K (s + 5) (un (K (s + 5)) x (ixo (K (s + 5) x) 1))) s (un (K s) 8 (w32 (M 7 + 1)))) (m + 2) (tgR (K (m + 2)) (fun y => (K (m + 1) (256 * y + x)).toNat) (q + 1))) s m p o t c p2 o2 t2 c2 (mdF M x) e n B q := by
  subst he
  obtain ⟨⟨m1, m2, m3, m4, m5, m6⟩, a2, a3, a4⟩ := hA
  have hnx := hS0.1.2.1
  have hs291 := hS0.1.1
  have hlo := lto hS0
  have hlp := ltp hS0
  have hlt := ltt hS0
  have hn2 := hP.2.2.1
  have he6 := hP.2.2.2.1
  obtain ⟨L, hLe⟩ : ∃ L, L = sr (sr (sr K (s + 5) (un (K (s + 5)) x (ixo (K (s + 5) x) 1))) s (un (K s) 8 (w32 (M 7 + 1)))) (m + 2) (tgR (K (m + 2)) (fun y => (K (m + 1) (256 * y + x)).toNat) (q + 1)) := ⟨_, rfl⟩
  rw [← hLe]
  have f0 : ∀ b, b ≠ s → b ≠ s + 5 → b ≠ m + 2 → L b = K b := fun b h1 h2 h3 => by rw [hLe, sr_ne h3, sr_ne h1, sr_ne h2]
  have fk : ∀ k, k < 15 → k ≠ 0 → k ≠ 5 → L (s + k) = K (s + k) := fun k h1 h2 h3 => f0 _ (by omega) (by omega) (ne_ms hdm h1 (by decide))
  have fl : L p2 = K p2 ∧ L o2 = K o2 ∧ L t2 = K t2 := by
    have q0 := ne_sk m1 (k := 0) (by decide) (by decide) (by decide) (by decide)
    have q5 := ne_sk m1 (k := 5) (by decide) (by decide) (by decide) (by decide)
    have qm := ne_mk m1 hm hdm (k := 2) (by decide)
    exact ⟨f0 _ q0.1 q5.1 qm.1, f0 _ q0.2.1 q5.2.1 qm.2.1, f0 _ q0.2.2 q5.2.2 qm.2.2⟩
  have f5 : L (s + 5) = un (K (s + 5)) x (ixo (K (s + 5) x) 1) := by rw [hLe, sr_ne (ne_ms hdm (by decide) (by decide)), sr_ne (show s + 5 ≠ s by omega), sr_row]
  have fs : L s = un (K s) 8 (w32 (M 7 + 1)) := by rw [hLe, sr_ne (show s ≠ m + 2 from ne_ms (k := 0) (j := 2) hdm (by decide) (by decide)), sr_row]
  have fm : L (m + 2) = tgR (K (m + 2)) (fun y => (K (m + 1) (256 * y + x)).toNat) (q + 1) := by rw [hLe, sr_row]
  have qm1 := ne_mk hS0 hm hdm (k := 1) (by decide)
  have qm2 := ne_mk hS0 hm hdm (k := 2) (by decide)
  have qs := ne_sk hS0 (k := 0) (by decide) (by decide) (by decide) (by decide)
  have hkm1 : K (m + 1) = I (m + 1) := a4 _ (by omega) (Ne.symm (ne_ms hdm (by decide) (by decide))) (Ne.symm qm1.1) (Ne.symm qm1.2.1) (Ne.symm qm1.2.2) (by omega)
  have hkm2 : K (m + 2) = I (m + 2) := a4 _ (by omega) (Ne.symm (ne_ms hdm (by decide) (by decide))) (Ne.symm qm2.1) (Ne.symm qm2.2.1) (Ne.symm qm2.2.2) (by omega)
  have hks : K s = I s := a4 _ (by omega) (by omega) (Ne.symm qs.1) (Ne.symm qs.2.1) (Ne.symm qs.2.2) (ne_ms (k := 0) hdm (by decide) (by decide))
  clear qm1 qm2 qs
  have hP2 := PmO_md hP hx
  have ho : ∀ y k, y < q + 1 → k < n → oP (mdF M x) y k = oP M y k := fun y k hy hk => md_oP (by omega) (by omega)
  refine ⟨⟨m1, ⟨?_, fun k hk => ⟨?_, ?_⟩⟩, fun y hy k hk => ?_, ⟨?_, fun k hk => ?_⟩, ?_, by rw [md_t]; exact m6⟩, a2, a3, fun b b0 bs b5 b7 bp bo bt bm2 bm3 => ?_, fun j hj => ?_, ?_, ?_, hP2, LdOk_md hL (by omega)⟩
  · rw [fk 3 (by decide) (by decide) (by decide)]; exact m2.1
  · rw [fk 4 (by decide) (by decide) (by decide), md_lo (by omega) (by omega)]; exact (m2.2 k hk).1
  · rw [f5]
    by_cases g : k = x
    · subst g
      have h01 := Rng_key (j := k + 532) hP.1 (by omega) (by omega)
      rw [un_at, (m2.2 k hk).2, ixo_1 h01]
      unfold mdF
      rw [un_ne (by omega), un_at]
    · rw [un_ne g, md_lo (by omega) (by omega)]; exact (m2.2 k hk).2
  · rw [fk 2 (by decide) (by decide) (by decide), md_lo (by omega) (by omega)]; exact m3 y hy k hk
  · rw [fk 7 (by decide) (by decide) (by decide), md_lo (by decide) (by omega)]; exact m4.1
  · rw [md_t] at hk
    have h1 := LdE_mv (K := L) (p2 := p2) (o2 := o2) (t2 := t2) (m4.2 k hk) (by rw [fl.1]) (by rw [fl.2.1]) (fun j hj => by rw [fl.2.2])
    exact LdE_ext h1 (hL k hk) he6 hP.nn hn2 hP2.nn (md_lo (by omega) (by omega)) (fun y i hy hi => ho y i hy hi) (fun j j1 j2 => md_lo (by omega) (by omega))
  · rw [fs, un_at]
    unfold mdF
    rw [un_at]
  · rw [f0 b bs b5 bm2]; exact a4 b b0 b7 bp bo bt bm3
  · rw [fs, un_ne hj, hks]
  · rw [fm, hkm1, hkm2]
    exact Od_md hOd hP hB hBo hx
  · rw [f0 _ (Ne.symm (ne_ms (k := 0) hdm (by decide) (by decide))) (Ne.symm (ne_ms hdm (by decide) (by decide))) (by omega), hkm1]
    intro y hy i hi
    rw [ho y i (by omega) hi]
    exact hBo y hy i hi
theorem k_turnN {n k : Nat} {s p o t c : Nat} (hS : ShS T s p o t c) (hd : 1 ≤ d) (hn : I (s + 3) 0 = (n : Int)) (hn2 : n ≤ 256) (hk : k < n) (hq : Q none T (sr I (s + 5) (un (I (s + 5)) k (ixo (I (s + 5) k) 1)))) : EvE G mX3_turn d [aR (s + 3), aI (k : Int)] T I Q := by
  refine k_turn (n := n) hS hd hn hn2 (fun h => absurd ⟨by omega, by omega⟩ h) (fun k2 h1 h2 => ?_)
  have e : k2 = k := by omega
  subst e
  exact hq
theorem Od_ask {O M : Nat → Int} {B n q p b l : Nat} (h : OdR O M B n q) (hR : Rng M) (hn : n ≤ 256) (hq : q < 6) : OdR O (askF M p b l) B n q := by
  intro y hy z hz
  have hz2 : z * (B * 2 ^ y) ≤ n := by
    rcases Nat.eq_zero_or_pos (B * 2 ^ y) with g | g
    · rw [g]; omega
    · exact Nat.le_of_lt ((nbk_lt g).mp hz)
  rw [ukO_ask hR (by omega) (by unfold lnB; omega)]
  exact h y hy z hz
theorem Bo_ask {F M : Nat → Int} {B n q p b l : Nat} (h : BoR F M B n q) (hn : n ≤ 256) (hq : q < 6) : BoR F (askF M p b l) B n q := by
  intro y hy i hi
  have e : oP (askF M p b l) y i = oP M y i := by unfold oP; rw [ak_lo (by omega) (by omega)]
  rw [e]
  exact h y hy i hi
end C16

section C44
variable {G : Gl} {d : Nat} {T : Sh} {I : Mi} {N : Nat → Int} {Q : Option AV → Sh → Mi → Prop}
/-- a row that is the same up to the ledger's end has the same State -/
theorem PmO_ag {N M : Nat → Int} {q n : Nat} (h : PmO N q n) (ha : agN N M) : PmO M q n :=
  PmO_o h (Rng_ag h.1 ha) (ha 1 (by omega)) (fun j _ hj => ha j (by omega))
theorem LdOk_ag {N M : Nat → Int} {q n : Nat} (h : LdOk N q n) (ha : agN N M) : LdOk M q n := LdOk_c h (agN_t ha) (fun k hk => ha _ (by omega))
theorem StR_ag {L : Nat → Int} {I : Mi} {s p o t q n : Nat} {N M : Nat → Int} (h : StR L I s p o t N) (hP : PmO N q n) (hL : LdOk N q n) (hN2 : N 2 = (q : Int)) (hLs : (sgV L N).toNat ≤ 256) (ha : agN N M) : StR L I s p o t M := by
  obtain ⟨hfl, hmk, hor, hky, hld, hfn⟩ := h
  have hn2 := hP.2.2.1
  have hq6 := hP.2.2.2.1
  have hnn := hP.nn
  have hnM := (agN_n ha).trans hnn
  have htM := agN_t ha
  have e : ∀ j, j < 3902 → M j = N j := fun j hj => ha j (by omega)
  have hsg : sgV L M = sgV L N := by unfold sgV; rw [e 0 (by decide)]
  have h6 := ok_6.mp (hP.1 6)
  obtain ⟨a0, a1, a2, a3, a4, a5, a6, a7, a8⟩ := hfl
  refine ⟨⟨?_, ?_, ?_, ?_, ?_, ?_, ?_, ?_, ?_⟩, ?_, ?_, ⟨?_, ?_⟩, ⟨?_, ?_⟩, ⟨?_, ?_, ?_, ?_, ?_, ?_⟩⟩
  · rw [e 0 (by decide)]; exact a0
  · rw [e 8 (by decide)]; exact a1
  · rw [hsg]; exact a2
  · rw [hsg]; exact a3.trans (ssM_ext _ (fun i hi => e _ (by omega))).symm
  · rw [e 4 (by decide)]; exact a4
  · rw [e 5 (by decide)]; exact a5
  · rw [e 2 (by decide)]; exact a6
  · rw [e 12 (by decide)]; exact a7
  · rw [e 7 (by decide)]; exact a8
  · intro k hk
    rw [hsg] at hk
    rw [e _ (by omega)]; exact hmk k hk
  · intro y hy k hk
    rw [e 2 (by decide)] at hy
    rw [hnM] at hk
    have hy2 := hy
    rw [hN2] at hy2
    rw [e _ (by omega)]; exact hor y hy k (by omega)
  · rw [e 1 (by decide)]; exact hky.1
  · intro k hk
    rw [hnM] at hk
    obtain ⟨b1, b2, b3⟩ := hky.2 k (by omega)
    refine ⟨by rw [e _ (by omega)]; exact b1, by rw [e _ (by omega)]; exact b2, ?_⟩
    rw [b3, spI_kn, spI_kn, e (k + 788) (by omega)]
    have ho := Rng_of (j := k + 788) hP.1 (by omega) (by omega)
    exact (knV_ext (e _ (by omega))).symm
  · rw [e 3 (by decide)]; exact hld.1
  · intro k hk
    rw [htM] at hk
    exact LdE_ext (hld.2 k hk) (hL k hk) hq6 hnn hn2 hnM (ha _ (by omega)) (fun y i hy hi => oP_ag ha (by omega)) (fun j _ hj => e j (by omega))
  · rw [e 6 (by decide)]; exact hfn.1
  · rw [e 9 (by decide)]; exact hfn.2.1
  · rw [e 10 (by decide)]; exact hfn.2.2.1
  · rw [e 11 (by decide)]; exact hfn.2.2.2.1
  · intro i hi
    rw [e 6 (by decide)] at hi
    rw [e _ (by omega), e _ (by omega)]
    exact hfn.2.2.2.2.1 i hi
  · intro hh i hi
    rw [e 6 (by decide)] at hh hi
    rw [hnM] at hi
    rw [e _ (by omega)]
    exact hfn.2.2.2.2.2 hh i (by omega)
/-- of the plan a State knows the signals' number alone -/
theorem StR_L {L X : Nat → Int} {I : Mi} {s p o t : Nat} {N : Nat → Int} (h : StR L I s p o t N) (h0 : X 0 = L 0) : StR X I s p o t N := by
  have e : sgV X N = sgV L N := by unfold sgV; rw [h0]
  obtain ⟨⟨a0, a1, a2, a3, a4⟩, hmk, hr⟩ := h
  exact ⟨⟨a0, a1, by rw [e]; exact a2, by rw [e]; exact a3, a4⟩, fun k hk => hmk k (by rw [← e]; exact hk), hr⟩
theorem AcP.tr {T U V : Sh} {I K J : Mi} {s p o t c p2 o2 t2 c2 p3 o3 t3 c3 q q2 n n2 z w : Nat} {L M M2 : Nat → Int} (hs : s + 15 ≤ nx T) (h1 : AcP T U I K s p o t c p2 o2 t2 c2 L M q n z w) (h2 : AcP U V K J s p2 o2 t2 c2 p3 o3 t3 c3 L M2 q2 n2 z w) : AcP T V I J s p o t c p3 o3 t3 c3 L M2 q2 n2 z w := by
  obtain ⟨a1, ⟨a2, a3⟩, a4, a5⟩ := h1
  obtain ⟨b1, ⟨b2, b3⟩, b4, b5⟩ := h2
  refine ⟨b1, ⟨a2.tr b2, npt a2.1 a3 b3⟩, fun b b0 bs bp bo bt bz => ?_, b5⟩
  obtain ⟨f1, f2, f3⟩ := frm (U := U) (I := I) (K := K) (L := J) a3 b0 bp bo bt
  exact (b4 b (Nat.lt_of_lt_of_le b0 a2.1) bs f1 f2 f3 bz).trans (a4 b b0 bs bp bo bt bz)
theorem AcP.wd {T U : Sh} {I K : Mi} {s p o t c p2 o2 t2 c2 q n z w z2 w2 : Nat} {L M : Nat → Int} (h : AcP T U I K s p o t c p2 o2 t2 c2 L M q n z w) (h1 : z2 ≤ z ∨ w = 0) (h2 : z + w ≤ z2 + w2 ∨ w = 0) : AcP T U I K s p o t c p2 o2 t2 c2 L M q n z2 w2 := by
  obtain ⟨a1, a2, a4, a5⟩ := h
  exact ⟨a1, a2, fun b b0 bs bp bo bt bz => a4 b b0 bs bp bo bt (by omega), a5⟩
theorem AcP.of {T U : Sh} {I K : Mi} {s m p o t c p2 o2 t2 c2 q n : Nat} {L M : Nat → Int} (h : RpP T U I K s m p o t c p2 o2 t2 c2 L M q n) : AcP T U I K s p o t c p2 o2 t2 c2 L M q n m 4 := by
  obtain ⟨a1, a2, a4, a5⟩ := h
  exact ⟨a1, a2, fun b b0 bs bp bo bt bz => a4 b b0 bs bp bo bt (by omega) (by omega) (by omega) (by omega), a5⟩
theorem AcP.ag {T U : Sh} {I K : Mi} {s p o t c p2 o2 t2 c2 q n z w : Nat} {L M M2 : Nat → Int} (h : AcP T U I K s p o t c p2 o2 t2 c2 L M q n z w) (hN2 : M 2 = (q : Int)) (hLs : (sgV L M).toNat ≤ 256) (ha : agN M M2) : AcP T U I K s p o t c p2 o2 t2 c2 L M2 q n z w := by
  obtain ⟨a1, a2, a4, a5, a6, a7, a8⟩ := h
  exact ⟨a1, a2, a4, StR_ag a5 a7 a8 hN2 hLs ha, by rw [agN_t ha]; exact a6, PmO_ag a7 ha, LdOk_ag a8 ha⟩
theorem AcP.L {T U : Sh} {I K : Mi} {s p o t c p2 o2 t2 c2 q n z w : Nat} {L X M : Nat → Int} (h : AcP T U I K s p o t c p2 o2 t2 c2 L M q n z w) (h0 : X 0 = L 0) : AcP T U I K s p o t c p2 o2 t2 c2 X M q n z w := by
  obtain ⟨a1, a2, a4, a5, a6⟩ := h
  exact ⟨a1, a2, a4, StR_L a5 h0, a6⟩
theorem kuS_unl {J : Mi} {s n : Nat} {M : Nat → Int} (hR : Rng M) (hn : n ≤ 256) (h : ∀ k, k < n → J (s + 4) k = M (k + 276) ∧ J (s + 5) k = M (k + 532)) : kuS J s n = ((unl M n : Nat) : Int) := by
  have key : ∀ m, m ≤ n → kuS J s m = ((unl M m : Nat) : Int) ∧ unl M m ≤ m := by
    intro m
    induction m with
    | zero => intro _; exact ⟨rfl, Nat.le_refl _⟩
    | succ m ih =>
      intro hm
      obtain ⟨i1, i2⟩ := ih (by omega)
      have k1 := Rng_key (j := m + 276) hR (by omega) (by omega)
      have k2 := Rng_key (j := m + 532) hR (by omega) (by omega)
      rw [kuS_succ, i1, (h m (by omega)).1, (h m (by omega)).2, ixo_bit k1 k2]
      show w32 _ = ((unl M m + (if M (m + 276) = M (m + 532) then 0 else 1) : Nat) : Int) ∧ unl M m + (if M (m + 276) = M (m + 532) then 0 else 1) ≤ m + 1
      by_cases g : M (m + 276) = M (m + 532)
      · rw [if_pos g]; unfold w32; constructor <;> omega
      · rw [if_neg g]; unfold w32; constructor <;> omega
  exact (key n (Nat.le_refl _)).1
theorem St_unl {L : Nat → Int} {I : Mi} {s p o t q n : Nat} {N : Nat → Int} (h : StR L I s p o t N) (hP : PmO N q n) : kuS I s n = ((unl N n : Nat) : Int) := by
  refine kuS_unl hP.1 hP.2.2.1 (fun k hk => ?_)
  have := h.2.2.2.1.2 k (by rw [hP.nn]; exact hk)
  exact ⟨this.1, this.2.1⟩
theorem sg_256 {L N : Nat → Int} (hL : plOk L) : (sgV L N).toNat ≤ 256 := by
  obtain ⟨g, h1, h2⟩ := sgV_le (N := N) hL
  rw [h1]
  omega
/-- Trials: the object v, its State s, plan u, acts a, mender m -/
def TrO (T : Sh) (v s u a m : Nat) : Prop := (kd T v = 10 ∧ v < nx T ∧ rf T v 0 = some s ∧ rf T v 1 = some u ∧ rf T v 2 = some a ∧ rf T v 3 = some m) ∧ (ShP T u ∧ ShA T a ∧ ShD T m) ∧ (v + 1 = s ∧ s + 15 = u ∧ u + 2 = a ∧ a + 3 = m)
theorem ShP_ext {T U : Sh} {s u c e : Nat} (h : ShP T u) (hx : Ext s T U c e) (hd : u + 2 ≤ s ∨ s + 15 ≤ u) : ShP U u := by
  obtain ⟨⟨a1, a2⟩, b1, ⟨b2, b3⟩, c1⟩ := h
  obtain ⟨x1, x2, x3, x4⟩ := hx
  refine ⟨⟨a1, by omega⟩, ?_, ⟨?_, ?_⟩, ?_⟩
  · rw [(x2 u (by omega)).1]; exact b1
  · rw [(x2 (u + 1) (by omega)).1]; exact b2
  · rw [(x2 (u + 1) (by omega)).2]; exact b3
  · rw [x3 u 0 (by omega) (by omega)]; exact c1
theorem TrO_ext {T U : Sh} {v s u a m c e : Nat} (h : TrO T v s u a m) (hx : Ext s T U c e) : TrO U v s u a m := by
  obtain ⟨⟨a1, a2, a3, a4, a5, a6⟩, ⟨b1, b2, b3⟩, h0, h1, h2, h3⟩ := h
  have hp := ShP_ext b1 hx (by omega)
  have ha := ShA_ext b2 hx (by omega)
  have hm := ShD_ext b3 hx (by omega)
  have h291 := b1.1
  obtain ⟨x1, x2, x3, x4⟩ := hx
  refine ⟨⟨?_, by omega, ?_, ?_, ?_, ?_⟩, ⟨hp, ha, hm⟩, h0, h1, h2, h3⟩
  · rw [(x2 v a2).1]; exact a1
  · rw [x3 v 0 a2 (by omega)]; exact a3
  · rw [x3 v 1 a2 (by omega)]; exact a4
  · rw [x3 v 2 a2 (by omega)]; exact a5
  · rw [x3 v 3 a2 (by omega)]; exact a6
end C44

section C46
variable {G : Gl} {d : Nat} {T : Sh} {I : Mi} {N : Nat → Int} {Q : Option AV → Sh → Mi → Prop}
theorem nm_in {T : Sh} {s s1 p1 o1 t1 c1 : Nat} (h : ShS T s1 p1 o1 t1 c1) (hd : s + 15 ≤ s1 ∨ s1 + 15 ≤ s) (hs : s + 15 ≤ 291) : (p1 < s ∨ s + 15 ≤ p1) ∧ (o1 < s ∨ s + 15 ≤ o1) ∧ (t1 < s ∨ s + 15 ≤ t1) := by
  have := neS h
  omega
theorem nm_z {T : Sh} {s1 p1 o1 t1 c1 z w : Nat} (h : ShS T s1 p1 o1 t1 c1) (hz : s1 + 15 ≤ z ∨ z + w ≤ s1) (hzb : z + w ≤ 291) : (p1 < z ∨ z + w ≤ p1) ∧ (o1 < z ∨ z + w ≤ o1) ∧ (t1 < z ∨ z + w ≤ t1) := by
  have := neS h
  omega
theorem StR_eq {L : Nat → Int} {I K : Mi} {s p o t : Nat} {N : Nat → Int} (h : StR L I s p o t N) (hs : ∀ k, k < 15 → k ≠ 8 → k ≠ 9 → k ≠ 10 → K (s + k) = I (s + k)) (hp : K p = I p) (ho : K o = I o) (ht : K t = I t) : StR L K s p o t N := by
  have e : ∀ k, k < 15 → k ≠ 8 → k ≠ 9 → k ≠ 10 → K (s + k) = I (s + k) := hs
  have e0 : K s = I s := hs 0 (by decide) (by decide) (by decide) (by decide)
  obtain ⟨hfl, hmk, hor, hky, hld, hfn⟩ := h
  unfold StR FlR MkR OrR KyR LdR FnR
  rw [e0, e 1 (by decide) (by decide) (by decide) (by decide), e 2 (by decide) (by decide) (by decide) (by decide), e 3 (by decide) (by decide) (by decide) (by decide), e 4 (by decide) (by decide) (by decide) (by decide), e 5 (by decide) (by decide) (by decide) (by decide), e 6 (by decide) (by decide) (by decide) (by decide), e 7 (by decide) (by decide) (by decide) (by decide), e 11 (by decide) (by decide) (by decide) (by decide), e 12 (by decide) (by decide) (by decide) (by decide), e 13 (by decide) (by decide) (by decide) (by decide), e 14 (by decide) (by decide) (by decide) (by decide)]
  refine ⟨hfl, hmk, hor, hky, ⟨hld.1, fun k hk => ?_⟩, hfn⟩
  exact LdE_mv (hld.2 k hk) (by rw [hp]) (by rw [ho]) (fun j _ => by rw [ht])
theorem St_row {T : Sh} {L : Nat → Int} {I : Mi} {s p o t c b : Nat} {N f : Nat → Int} (hS : ShS T s p o t c) (h : StR L I s p o t N) (hb : b < 291) (hd : b < s ∨ s + 15 ≤ b) : StR L (sr I b f) s p o t N := by
  obtain ⟨g1, g2, g3⟩ := ne_lw hS hb hd
  exact StR_eq h (fun k hk _ _ _ => sr_ne (by omega)) (sr_ne g1) (sr_ne g2) (sr_ne g3)
theorem AcP.row {T U : Sh} {I K : Mi} {s p o t c p2 o2 t2 c2 q n z w b : Nat} {L M f : Nat → Int} (h : AcP T U I K s p o t c p2 o2 t2 c2 L M q n z w) (hb : b < 291) (hd : b < s ∨ s + 15 ≤ b) (hz : z ≤ b ∧ b < z + w) : AcP T U I (sr K b f) s p o t c p2 o2 t2 c2 L M q n z w := by
  obtain ⟨a1, a2, a4, a5, a6⟩ := h
  exact ⟨a1, a2, fun x x0 xs xp xo xt xz => (sr_ne (by omega)).trans (a4 x x0 xs xp xo xt xz), St_row a1 a5 hb hd, a6⟩
/-- what a trying leaves: the tried State's rows are any -/
def TrP (T U : Sh) (I K : Mi) (s p o t c p2 o2 t2 c2 z w : Nat) : Prop :=
  ShS U s p2 o2 t2 c2 ∧ (Ext s T U c c2 ∧ (p2 = p ∨ nx T ≤ p2) ∧ (o2 = o ∨ nx T ≤ o2) ∧ (t2 = t ∨ nx T ≤ t2)) ∧
  ∀ b, b < nx T → (b < s ∨ s + 15 ≤ b) → b ≠ p → b ≠ o → b ≠ t → (b < z ∨ z + w ≤ b) → K b = I b
theorem AcP.P {T U : Sh} {I K : Mi} {s p o t c p2 o2 t2 c2 q n z w : Nat} {L M : Nat → Int} (h : AcP T U I K s p o t c p2 o2 t2 c2 L M q n z w) : TrP T U I K s p o t c p2 o2 t2 c2 z w := ⟨h.1, h.2.1, h.2.2.1⟩
theorem TrP.tr {T U V : Sh} {I K J : Mi} {s p o t c p2 o2 t2 c2 p3 o3 t3 c3 z w : Nat} (h1 : TrP T U I K s p o t c p2 o2 t2 c2 z w) (h2 : TrP U V K J s p2 o2 t2 c2 p3 o3 t3 c3 z w) : TrP T V I J s p o t c p3 o3 t3 c3 z w := by
  obtain ⟨a1, ⟨a2, a3⟩, a4⟩ := h1
  obtain ⟨b1, ⟨b2, b3⟩, b4⟩ := h2
  refine ⟨b1, ⟨a2.tr b2, npt a2.1 a3 b3⟩, fun b b0 bs bp bo bt bz => ?_⟩
  obtain ⟨f1, f2, f3⟩ := frm (U := U) (I := I) (K := K) (L := J) a3 b0 bp bo bt
  exact (b4 b (Nat.lt_of_lt_of_le b0 a2.1) bs f1 f2 f3 bz).trans (a4 b b0 bs bp bo bt bz)
theorem TrP.id {T : Sh} {I : Mi} {s p o t c z w : Nat} (hS : ShS T s p o t c) : TrP T T I I s p o t c p o t c z w := ⟨hS, ⟨Ext.id _ _ _, Or.inl rfl, Or.inl rfl, Or.inl rfl⟩, fun _ _ _ _ _ _ _ => rfl⟩
theorem TrP.wd {T U : Sh} {I K : Mi} {s p o t c p2 o2 t2 c2 z w z2 w2 : Nat} (h : TrP T U I K s p o t c p2 o2 t2 c2 z w) (h1 : z2 ≤ z ∨ w = 0) (h2 : z + w ≤ z2 + w2 ∨ w = 0) : TrP T U I K s p o t c p2 o2 t2 c2 z2 w2 := by
  obtain ⟨a1, a2, a4⟩ := h
  exact ⟨a1, a2, fun b b0 bs bp bo bt bz => a4 b b0 bs bp bo bt (by omega)⟩
theorem TrP.row {T U : Sh} {I K : Mi} {s p o t c p2 o2 t2 c2 z w b : Nat} {f : Nat → Int} (h : TrP T U I K s p o t c p2 o2 t2 c2 z w) (hz : z ≤ b ∧ b < z + w) : TrP T U I (sr K b f) s p o t c p2 o2 t2 c2 z w := by
  obtain ⟨a1, a2, a4⟩ := h
  exact ⟨a1, a2, fun x x0 xs xp xo xt xz => (sr_ne (by omega)).trans (a4 x x0 xs xp xo xt xz)⟩
theorem TrP.fr {T U : Sh} {I K : Mi} {s p o t c p2 o2 t2 c2 z w b : Nat} (h : TrP T U I K s p o t c p2 o2 t2 c2 z w) (hS : ShS T s p o t c) (hb : b < 291) (hd : b < s ∨ s + 15 ≤ b) (hz : b < z ∨ z + w ≤ b) : K b = I b := by
  obtain ⟨g1, g2, g3⟩ := ne_lw hS hb hd
  exact h.2.2 b (Nat.lt_of_lt_of_le hb hS.1.2.1) hd (Ne.symm g1) (Ne.symm g2) (Ne.symm g3) hz
theorem ap_tr {T : Sh} {p o t p1 o1 t1 p2 o2 t2 : Nat} (h : apL p o t p1 o1 t1) (h1 : p1 < nx T ∧ o1 < nx T ∧ t1 < nx T) (h2 : (p2 = p ∨ nx T ≤ p2) ∧ (o2 = o ∨ nx T ≤ o2) ∧ (t2 = t ∨ nx T ≤ t2)) : apL p2 o2 t2 p1 o1 t1 := by
  obtain ⟨⟨a1, a2, a3⟩, ⟨b1, b2, b3⟩, c1, c2, c3⟩ := h
  obtain ⟨x, y, z⟩ := h1
  obtain ⟨u, v, w⟩ := h2
  refine ⟨⟨?_, ?_, ?_⟩, ⟨?_, ?_, ?_⟩, ?_, ?_, ?_⟩
  · clear v w; omega
  · clear u w; omega
  · clear u v; omega
  · clear v w; omega
  · clear u w; omega
  · clear u v; omega
  · clear v w; omega
  · clear u w; omega
  · clear u v; omega
/-- another State stands as it did -/
theorem TrP.st {T U : Sh} {I K : Mi} {s p o t c p2 o2 t2 c2 s1 p1 o1 t1 c1 z w : Nat} {L N : Nat → Int} (h : TrP T U I K s p o t c p2 o2 t2 c2 z w) (hS : ShS T s p o t c) (hS1 : ShS T s1 p1 o1 t1 c1) (hd : s + 15 ≤ s1 ∨ s1 + 15 ≤ s) (ha : apL p o t p1 o1 t1) (hz : s1 + 15 ≤ z ∨ z + w ≤ s1) (hzb : z + w ≤ 291) (hst : StR L I s1 p1 o1 t1 N) : StR L K s1 p1 o1 t1 N ∧ ShS U s1 p1 o1 t1 c1 ∧ apL p2 o2 t2 p1 o1 t1 := by
  have h1 := hS1.1
  have e : ∀ k, k < 15 → k ≠ 8 → k ≠ 9 → k ≠ 10 → K (s1 + k) = I (s1 + k) := fun k h1_ _ _ _ => by
    have w1 : s1 + k < nx T := by omega
    have w2 : s1 + k < s ∨ s + 15 ≤ s1 + k := by omega
    have w3 : s1 + k < z ∨ z + w ≤ s1 + k := by omega
    have g := ne_s2 (k := k) hS hS1.1.1 hd h1_
    exact h.2.2 _ w1 w2 g.1 g.2.1 g.2.2 w3
  have q1 := nm_in hS1 hd hS.1.1
  have q2 := nm_z hS1 hz hzb
  have a4 := h.2.2
  refine ⟨StR_eq hst e ?_ ?_ ?_, ShS_ext hS1 h.2.1.1 hd, ap_tr ha ⟨ltp hS1, lto hS1, ltt hS1⟩ h.2.1.2⟩
  · exact a4 _ (ltp hS1) q1.1 ha.1.1 ha.1.2.1 ha.1.2.2 q2.1
  · exact a4 _ (lto hS1) q1.2.1 ha.2.1.1 ha.2.1.2.1 ha.2.1.2.2 q2.2.1
  · exact a4 _ (ltt hS1) q1.2.2 ha.2.2.1 ha.2.2.2.1 ha.2.2.2.2 q2.2.2
theorem tk_plan {T U : Sh} {I K : Mi} {v s u a m p o t c p2 o2 t2 c2 q n u1 : Nat} {L N : Nat → Int} (hA : AcP T U I K s p o t c p2 o2 t2 c2 L N q n 0 0) (hv : TrO T v s u a m) (hS : ShS T s p o t c) (hu1 : ShP T u1) (hd1 : u1 + 2 ≤ v ∨ v + 25 ≤ u1) (hL1 : ∀ k, k < 9 → I (u1 + 1) k = L k) :
   AcP T U I (sr K (u + 1) (cpyR (K (u1 + 1)) 0 (K (u + 1)) 0 9)) s p o t c p2 o2 t2 c2 L N q n u 9 ∧ ∀ k, k < 9 → (sr K (u + 1) (cpyR (K (u1 + 1)) 0 (K (u + 1)) 0 9)) (u + 1) k = L k := by
  have hx := hv.2.2
  have h0 := hv.2.1.1.1
  have h1 := hu1.1
  refine ⟨(hA.wd (Or.inr rfl) (Or.inr rfl)).row (by omega) (by omega) (by omega), fun k hk => ?_⟩
  rw [sr_row, cpyR_in (by omega), hA.fr hS (by omega) (by omega) (by omega), show 0 + (k - 0) = k by omega]
  exact hL1 k hk
theorem k_runPasses {v u a m n B q pp more : Nat} {L : Nat → Int} {s p o t c : Nat} (hS : ShS T s p o t c) (hv : TrO T v s u a m) {s1 p1 o1 t1 c1 u1 : Nat} (hS1 : ShS T s1 p1 o1 t1 c1) (hu1 : ShP T u1) (hd : 7 ≤ d) (hd1 : s1 + 15 ≤ v ∨ v + 25 ≤ s1) (hdu : u1 + 2 ≤ v ∨ v + 25 ≤ u1) (hap : apL p o t p1 o1 t1) (hst : StR L I s1 p1 o1 t1 N) (htc : tN N ≤ c1) (hL1 : ∀ k, k < 9 → I (u1 + 1) k = L k) (hP0 : PmO N q n) (hLd : LdOk N q n) (hpo : pOK N q) (hN0 : ¬ N 0 = 0) (hN6 : N 6 = 0) (hLp : plOk L) (h6 : L 6 = (pp : Int)) (hpp : pp ≤ 6) (h5 : L 5 = (B : Int)) (hB1 : 2 ≤ B) (hB2 : B ≤ 64) (hq : ∀ (U : Sh) (K : Mi) (p2 o2 t2 c2 : Nat), AcP T U I K s p o t c p2 o2 t2 c2 L (pcI B N (min more (pp - q))) (q + min more (pp - q)) n u 9 → Q none U K) : EvE G mX10_runPasses d [aR v, aR s1, aR u1, aI ((more : Nat) : Int)] T I Q := by
  have hq6 := hpo.2.2.1
  have hn2 := hP0.2.2.1
  have hu := hv.2.1.1
  have ha := hv.2.1.2.1
  have hm := hv.2.1.2.2
  have hvn := hv.2.2
  have hm0 := hm.1
  have hs0 := hS.1
  have hs10 := hS1.1
  refine EvE.mk (lv0 := [some (aR v), some (aR s1), some (aR u1), some (aI ((more : Nat) : Int))]) (Nat.le_of_ble_eq_true rfl) (by decide +kernel) rfl ?_
  refine r_aload_n (pc := 0) (i := 0) dX10_runPasses_0 rfl rfl ?_
  refine r_getfr (pc := 1) (b := s) cks dX10_runPasses_1 fl_X10_12 rfl hv.1.1 hv.1.2.1 hv.1.2.2.1 ?_
  refine r_aload_n (pc := 4) (i := 1) dX10_runPasses_4 rfl rfl ?_
  refine r_callV0 (pc := 5) (d - 1) [aR s1] dX10_runPasses_5 (CV.mk2 mk_X9_takeFrom lk_X10_39) (RC.of (ltS0 hS) (kS0 hS) (by decide) rfl) rfl rfl (by omega) (Nat.le_of_ble_eq_true rfl) (Nat.le_of_ble_eq_true rfl) (k_stFrom (n := n) (q := q) (L := L) (N := N) hS hS1 (by omega) (by omega) hap hst htc hP0 hLd hpo.2.1 hLp (fun U K p2 o2 t2 c2 hA => ?_))
  refine ⟨rfl, fun _ => ?_⟩
  have hSU := hA.1
  have hvU := TrO_ext hv hA.2.1.1
  have huU := hvU.2.1.1
  have haU := hvU.2.1.2.1
  have hmU := hvU.2.1.2.2
  have hS1U := ShS_ext hS1 hA.2.1.1 (by omega)
  have hu1U := ShP_ext hu1 hA.2.1.1 (by omega)
  refine r_aload_n (pc := 8) (i := 0) dX10_runPasses_8 rfl rfl ?_
  refine r_getfr (pc := 9) (b := u) cks dX10_runPasses_9 fl_X10_21 rfl hvU.1.1 hvU.1.2.1 hvU.1.2.2.2.1 ?_
  refine r_aload_n (pc := 12) (i := 2) dX10_runPasses_12 rfl rfl ?_
  refine r_callV0 (pc := 13) (d - 1) [aR u1] dX10_runPasses_13 (CV.mk2 mk_X6_takeFrom lk_X10_43) (RC.of (ltP0 huU) (kP0 huU) (by decide) rfl) rfl rfl (by omega) (Nat.le_of_ble_eq_true rfl) (Nat.le_of_ble_eq_true rfl) (k_planFrom huU hu1U (by omega) (by omega) ?_)
  refine ⟨rfl, fun _ => ?_⟩
  refine r_mem (I2 := sr K (u + 1) (cpyR (K (u1 + 1)) 0 (K (u + 1)) 0 9)) ((congr (congrArg (fun v0_ v1_ => (sr K (u + 1) (cpyR v0_ 0 v1_ 0 9))) (show K (u1 + 1) = K (u1 + 1) from rfl)) (show K (u + 1) = K (u + 1) from rfl)).trans (rfl)) ?_
  obtain ⟨hA1, hrow⟩ := tk_plan hA hv hS hu1 hdu hL1
  obtain ⟨K1, hK1⟩ : ∃ K1, K1 = sr K (u + 1) (cpyR (K (u1 + 1)) 0 (K (u + 1)) 0 9) := ⟨_, rfl⟩
  rw [← hK1] at hA1 hrow ⊢
  refine r_aload_n (pc := 16) (i := 0) dX10_runPasses_16 rfl rfl ?_
  refine r_iload_n (pc := 17) (i := 3) dX10_runPasses_17 rfl rfl ?_
  refine r_callV0 (pc := 18) (d - 1) [aI ((more : Nat) : Int)] dX10_runPasses_18 (CV.mk2 mk_X10_passOn lk_X10_46) (RC.of hvU.1.2.1 hvU.1.1 (by decide) rfl) rfl rfl (by omega) (Nat.le_of_ble_eq_true rfl) (Nat.le_of_ble_eq_true rfl) (k_passOn (n := n) (B := B) (q := q) (pp := pp) (more := more) (L := L) (X := L) (N := N) hSU hvU (by omega) hrow h5 h6 hLp hA1.2.2.2.1 hA1.2.2.2.2.1 hP0 hLd hpo hN0 hN6 hB1 hB2 hpp (fun V J p3 o3 t3 c3 hA2 => ?_))
  refine ⟨rfl, fun _ => ?_⟩
  exact r_vret (pc := 21) dX10_runPasses_21 trivial (hq _ _ _ _ _ _ (hA1.tr (by omega) (hA2.wd (Or.inl (by omega)) (Or.inl (by omega)))))
end C46

section C37
variable {G : Gl} {d : Nat} {T : Sh} {I : Mi} {N : Nat → Int} {Q : Option AV → Sh → Mi → Prop}
/-- the arrays of two ledgers are apart -/
def apL (p o t p2 o2 t2 : Nat) : Prop := (p2 ≠ p ∧ p2 ≠ o ∧ p2 ≠ t) ∧ (o2 ≠ p ∧ o2 ≠ o ∧ o2 ≠ t) ∧ (t2 ≠ p ∧ t2 ≠ o ∧ t2 ≠ t)
theorem apS {T : Sh} {s s2 p2 o2 t2 c2 : Nat} (hS2 : ShS T s2 p2 o2 t2 c2) (hs : s + 15 ≤ 291) (hdj : s + 15 ≤ s2 ∨ s2 + 15 ≤ s) : p2 ≠ s + 7 ∧ o2 ≠ s + 7 ∧ t2 ≠ s + 7 := by
  have := neS hS2
  omega
theorem ne_s2 {T : Sh} {s p o t c s2 k : Nat} (h : ShS T s p o t c) (h2 : s2 + 15 ≤ 291) (hd : s + 15 ≤ s2 ∨ s2 + 15 ≤ s) (hk : k < 15) : s2 + k ≠ p ∧ s2 + k ≠ o ∧ s2 + k ≠ t := by
  have := neS h
  omega
theorem nm_out {T : Sh} {s p o t c : Nat} (h : ShS T s p o t c) : (p < s + 11 ∨ s + 15 ≤ p) ∧ (o < s + 11 ∨ s + 15 ≤ o) ∧ (t < s + 11 ∨ s + 15 ≤ t) := by
  have := neS h
  omega
theorem nm_out2 {T : Sh} {s p2 o2 t2 c2 s2 : Nat} (h : ShS T s2 p2 o2 t2 c2) (h2 : s + 15 ≤ 291) (hd : s + 15 ≤ s2 ∨ s2 + 15 ≤ s) : (p2 < s ∨ s + 7 ≤ p2) ∧ (o2 < s ∨ s + 7 ≤ o2) ∧ (t2 < s ∨ s + 7 ≤ t2) := by
  have := neS h
  omega
theorem ShS_ext {T U : Sh} {s s2 p2 o2 t2 c2 c e : Nat} (h : ShS T s2 p2 o2 t2 c2) (hx : Ext s T U c e) (hd : s + 15 ≤ s2 ∨ s2 + 15 ≤ s) : ShS U s2 p2 o2 t2 c2 := by
  obtain ⟨⟨a1, a2, a3, a4, a5⟩, ⟨b1, b2, b3, b4, b5, b6, b7, b8, b9⟩, ⟨c1, c2_, c3, c4⟩, e1⟩ := h
  obtain ⟨x1, x2, x3, x4⟩ := hx
  have hlt : ∀ x, x < 15 → s2 + x < nx T := fun x hx => by omega
  refine ⟨⟨a1, by omega, fun q hq => ?_, fun q hq => ?_, fun q hq => ?_⟩, ⟨?_, ?_, ?_, ?_, ?_, ?_, ?_, ?_, ?_⟩, ⟨by omega, by omega, by omega, c4⟩, e1⟩
  · have := x2 _ (hlt q.1 (tabS_lt q hq))
    rw [this.1, this.2]; exact a3 q hq
  · rw [(x2 _ (hlt q.1 (objS_lt q hq))).1]; exact a4 q hq
  · rw [x3 _ _ (hlt q.1 (refS_lt q hq).1) (by have := refS_lt q hq; omega)]; exact a5 q hq
  · rw [x3 _ _ (hlt 7 (by decide)) (by omega)]; exact b1
  · rw [x3 _ _ (hlt 7 (by decide)) (by omega)]; exact b2
  · rw [x3 _ _ (hlt 7 (by decide)) (by omega)]; exact b3
  · rw [(x2 _ c1).1]; exact b4
  · rw [(x2 _ c2_).1]; exact b5
  · rw [(x2 _ c3).1]; exact b6
  · rw [(x2 _ c1).2]; exact b7
  · rw [(x2 _ c2_).2]; exact b8
  · rw [(x2 _ c3).2]; exact b9
theorem sgV_le {L N : Nat → Int} (hL : plOk L) : ∃ g : Nat, sgV L N = (g : Int) ∧ g ≤ 256 := by
  unfold sgV
  by_cases h : N 0 = 0
  · rw [if_pos h]; exact ⟨0, rfl, by decide⟩
  · rw [if_neg h]
    have := hL.1
    exact ⟨(L 0).toNat, by omega, by omega⟩
theorem stf_end {T U : Sh} {I J K R : Mi} {s p o t c p3 o3 t3 c3 s2 p2 o2 t2 c2 n q g l : Nat} {L N : Nat → Int} (hS : ShS T s p o t c) (hS2 : ShS T s2 p2 o2 t2 c2) (hdj : s + 15 ≤ s2 ∨ s2 + 15 ≤ s) (hx : apL p o t p2 o2 t2)
   (hst : StR L I s2 p2 o2 t2 N) (hP0 : PmO N q n) (hLd : LdOk N q n) (hN2 : N 2 = (q : Int)) (hg : sgV L N = (g : Int)) (hl : N 6 = (l : Int)) (hl2 : l ≤ 256)
   (js : ∀ j, j < 9 → J s j = I s2 j) (j1 : J (s + 1) = cpyR (I (s2 + 1)) 0 (I (s + 1)) 0 g) (j2 : J (s + 2) = cpyR (I (s2 + 2)) 0 (I (s + 2)) 0 (256 * q)) (j3 : J (s + 3) 0 = (n : Int)) (j4 : J (s + 4) = cpyR (I (s2 + 4)) 0 (I (s + 4)) 0 n) (j5 : J (s + 5) = cpyR (I (s2 + 5)) 0 (I (s + 5)) 0 n) (j6 : J (s + 6) = cpyR (I (s2 + 6)) 0 (I (s + 6)) 0 n) (jb : ∀ b, b < s ∨ s + 7 ≤ b → J b = I b)
   (hf : LfP T U J K s p o t c p3 o3 t3 c3 p2 o2 t2 (tN N)) (rb : ∀ b, b < s + 11 ∨ s + 15 ≤ b → R b = K b) (r11 : ∀ j, j = 0 ∨ j = 4 ∨ j = 5 ∨ j = 6 → R (s + 11) j = K (s2 + 11) j)
   (r12 : 0 < l → R (s + 12) = cpyR (K (s2 + 12)) 0 (K (s + 12)) 0 512 ∧ R (s + 13) = cpyR (K (s2 + 13)) 0 (K (s + 13)) 0 l ∧ R (s + 14) = cpyR (K (s2 + 14)) 0 (K (s + 14)) 0 l) : AcP T U I R s p o t c p3 o3 t3 c3 L N q n 0 0 := by
  have f1 := hf.1
  have f4 := hf.2.2.2.1
  have f5 := hf.2.2.2.2.1
  have f6 := hf.2.2.2.2.2.1.1
  have f6b := hf.2.2.2.2.2.1.2
  obtain ⟨hfl, hmk, hor, hky, hld, hfn⟩ := hst
  have hn2 := hP0.2.2.1
  have hq6 := hP0.2.2.2.1
  have hnn := hP0.nn
  have hs0 := hS.1.1
  have hs2 := hS2.1.1
  have h291 := hS.1.2.1
  have nk : ∀ k, k < 15 → k ≠ 8 → k ≠ 9 → k ≠ 10 → p ≠ s + k ∧ o ≠ s + k ∧ t ≠ s + k := fun k a b c d => ne_sk hS a b c d
  have kk : ∀ k, k < 7 → K (s + k) = J (s + k) := fun k hk => by
    have g := nk k (by omega) (by omega) (by omega) (by omega)
    exact f4 _ (by omega) (by omega) (Ne.symm g.1) (Ne.symm g.2.1) (Ne.symm g.2.2)
  have rk : ∀ k, k < 7 → R (s + k) = J (s + k) := fun k hk => (rb _ (by omega)).trans (kk k hk)
  have k2 : ∀ k, k < 15 → k ≠ 8 → k ≠ 9 → k ≠ 10 → K (s2 + k) = I (s2 + k) := fun k h1 h2 h3 h4 => by
    have hz := ne_s2 hS hs2 hdj h1
    exact (f4 _ (by omega) (by omega) hz.1 hz.2.1 hz.2.2).trans (jb _ (by omega))
  have ql := nm_out f1
  have q2 := nm_out2 hS2 hs0 hdj
  have r0 := rk 0 (by decide)
  refine ⟨f1, ⟨hf.2.1, hf.2.2.1⟩, fun b b0 bs bp bo bt _ => (rb b (by omega)).trans ((f4 b b0 (by omega) bp bo bt).trans (jb b (by omega))), ⟨?_, ?_, ?_, ⟨?_, ?_⟩, ⟨?_, ?_⟩, ⟨?_, ?_, ?_, ?_, ?_, ?_⟩⟩, hf.2.2.2.2.2.2, hP0, hLd⟩
  · have e : ∀ j, j < 9 → R s j = I s2 j := fun j hj => (congrFun r0 j).trans (js j hj)
    obtain ⟨a0, a1, a2, a3, a4, a5, a6, a7, a8⟩ := hfl
    exact ⟨(e 0 (by decide)).trans a0, (e 1 (by decide)).trans a1, (e 2 (by decide)).trans a2, (e 3 (by decide)).trans a3, (e 4 (by decide)).trans a4, (e 5 (by decide)).trans a5, (e 6 (by decide)).trans a6, (e 7 (by decide)).trans a7, (e 8 (by decide)).trans a8⟩
  · intro i hi
    have hi2 := hi
    rw [hg] at hi2
    rw [rk 1 (by decide), j1, cpyR_in (by omega), show 0 + (i - 0) = i by omega]
    exact hmk i hi
  · intro y hy i hi
    have hy2 := hy
    rw [hN2] at hy2
    rw [rk 2 (by decide), j2, cpyR_in (by omega), show 0 + (256 * y + i - 0) = 256 * y + i by omega]
    exact hor y hy i hi
  · rw [rk 3 (by decide), j3]; exact hP0.2.1.symm
  · intro i hi
    have hi2 := hi
    rw [hnn] at hi2
    rw [rk 4 (by decide), rk 5 (by decide), rk 6 (by decide), j4, j5, j6, cpyR_in (by omega), cpyR_in (by omega), cpyR_in (by omega), show 0 + (i - 0) = i by omega]
    exact hky.2 i hi
  · rw [rb _ (by omega), f5]
    have := (ok_3.mp (hP0.1 3)).1
    unfold tN
    omega
  · intro k hk
    refine LdE_mv (I := I) (p := p2) (o := o2) (t := t2) (hld.2 k hk) ?_ ?_ (fun j hj => ?_)
    · rw [rb _ ql.1, (f6 k hk).1, jb _ q2.1]
    · rw [rb _ ql.2.1, (f6 k hk).2, jb _ q2.2.1]
    · rw [rb _ ql.2.2, f6b (4 * k + j) (by omega), jb _ q2.2.2]
  · rw [r11 0 (by omega), k2 11 (by decide) (by decide) (by decide) (by decide)]; exact hfn.1
  · rw [r11 4 (by omega), k2 11 (by decide) (by decide) (by decide) (by decide)]; exact hfn.2.1
  · rw [r11 5 (by omega), k2 11 (by decide) (by decide) (by decide) (by decide)]; exact hfn.2.2.1
  · rw [r11 6 (by omega), k2 11 (by decide) (by decide) (by decide) (by decide)]; exact hfn.2.2.2.1
  · intro i hi
    have hi2 := hi
    rw [hl] at hi2
    have hr := r12 (by omega)
    rw [hr.2.1, hr.2.2, cpyR_in (by omega), cpyR_in (by omega), show 0 + (i - 0) = i by omega, k2 13 (by decide) (by decide) (by decide) (by decide), k2 14 (by decide) (by decide) (by decide) (by decide)]
    exact hfn.2.2.2.2.1 i hi
  · intro h6 i hi
    have hi2 := hi
    rw [hnn, hl] at hi2
    rw [hl] at h6
    have hr := r12 (by omega)
    rw [hr.1, cpyR_in (by omega), show 0 + (i - 0) = i by omega, k2 12 (by decide) (by decide) (by decide) (by decide)]
    exact hfn.2.2.2.2.2 (by omega) i hi
theorem un9 {f : Nat → Int} {x0 x1 x2 x3 x4 x5 x6 x7 x8 : Int} {h : Nat → Int} (e : h 0 = x0 ∧ h 1 = x1 ∧ h 2 = x2 ∧ h 3 = x3 ∧ h 4 = x4 ∧ h 5 = x5 ∧ h 6 = x6 ∧ h 7 = x7 ∧ h 8 = x8) : ∀ j, j < 9 → (un (un (un (un (un (un (un (un (un f 0 x0) 1 x1) 2 x2) 3 x3) 4 x4) 5 x5) 6 x6) 7 x7) 8 x8) j = h j := by
  obtain ⟨e0, e1, e2, e3, e4, e5, e6, e7, e8⟩ := e
  intro j hj
  have : j = 0 ∨ j = 1 ∨ j = 2 ∨ j = 3 ∨ j = 4 ∨ j = 5 ∨ j = 6 ∨ j = 7 ∨ j = 8 := by omega
  rcases this with rfl | rfl | rfl | rfl | rfl | rfl | rfl | rfl | rfl
  · exact e0.symm
  · exact e1.symm
  · exact e2.symm
  · exact e3.symm
  · exact e4.symm
  · exact e5.symm
  · exact e6.symm
  · exact e7.symm
  · exact e8.symm
theorem k_stFrom {n q : Nat} {L : Nat → Int} {s p o t c : Nat} (hS : ShS T s p o t c) {s2 p2 o2 t2 c2 : Nat} (hS2 : ShS T s2 p2 o2 t2 c2) (hd : 3 ≤ d) (hdj : s + 15 ≤ s2 ∨ s2 + 15 ≤ s) (hx : apL p o t p2 o2 t2) (hst : StR L I s2 p2 o2 t2 N) (htc : tN N ≤ c2) (hP0 : PmO N q n) (hLd : LdOk N q n) (hN2 : N 2 = (q : Int)) (hLp : plOk L) (hq : ∀ (U : Sh) (K : Mi) (p3 o3 t3 c3 : Nat), AcP T U I K s p o t c p3 o3 t3 c3 L N q n 0 0 → Q none U K) : EvE G mX9_takeFrom d [aR s, aR s2] T I Q := by
  have hn2 := hP0.2.2.1
  have hq6 := hP0.2.2.2.1
  have hs0 := hS.1.1
  have hs2 := hS2.1.1
  have h291 := hS.1.2.1
  obtain ⟨g, hg, hg2⟩ := sgV_le (N := N) hLp
  obtain ⟨l, hl, hl2⟩ : ∃ l : Nat, N 6 = (l : Int) ∧ l ≤ 256 := ⟨(N 6).toNat, by have := ok_6.mp (hP0.1 6); omega, by have := ok_6.mp (hP0.1 6); omega⟩
  have hgI : I s2 2 = (g : Int) := hst.1.2.2.1.trans hg
  have hqI : I s2 6 = (q : Int) := hst.1.2.2.2.2.2.2.1.trans hN2
  have hnI : I (s2 + 3) 0 = (n : Int) := hst.2.2.2.1.1.trans hP0.2.1
  have h7I : I (s2 + 7) 0 = ((tN N : Nat) : Int) := hst.2.2.2.2.1.1.trans (by have := (ok_3.mp (hP0.1 3)).1; unfold tN; omega)
  refine EvE.mk (lv0 := [some (aR s), some (aR s2)]) (Nat.le_of_ble_eq_true rfl) (by decide +kernel) rfl ?_
  refine r_aload_n (pc := 0) (i := 0) dX9_takeFrom_0 rfl rfl ?_
  refine r_aload_n (pc := 1) (i := 1) dX9_takeFrom_1 rfl rfl ?_
  refine r_getfi (pc := 2) cks dX9_takeFrom_2 fl_X9_9 rfl (kS0 hS2) (ltS0 hS2) ?_
  refine r_putfi (pc := 5) cks dX9_takeFrom_5 fl_X9_9 (pf_9_0 _ _) rfl (kS0 hS) (ltS0 hS) ?_
  refine r_mem (I2 := sr I s (un (I s) 0 (I s2 0))) ((up2_row _ _ _ _).trans ((congrArg (fun fz_ => sr I s (un fz_ 0 (I s2 0))) (show I s = I s from rfl)).trans (rfl))) ?_
  refine r_aload_n (pc := 8) (i := 0) dX9_takeFrom_8 rfl rfl ?_
  refine r_aload_n (pc := 9) (i := 1) dX9_takeFrom_9 rfl rfl ?_
  refine r_getfi (pc := 10) cks dX9_takeFrom_10 fl_X9_15 rfl (kS0 hS2) (ltS0 hS2) ?_
  refine r_top (b := I s2 1) ((congrFun (sr_ne (by omega)) _).trans (rfl)) ?_
  refine r_putfi (pc := 13) cks dX9_takeFrom_13 fl_X9_15 (pf_9_1 _ _) rfl (kS0 hS) (ltS0 hS) ?_
  refine r_mem (I2 := sr I s (un (un (I s) 0 (I s2 0)) 1 (I s2 1))) ((up2_row _ _ _ _).trans ((congrArg (fun fz_ => sr (sr I s (un (I s) 0 (I s2 0))) s (un fz_ 1 (I s2 1))) (show (sr I s (un (I s) 0 (I s2 0))) s = un (I s) 0 (I s2 0) from sr_row _ _ _)).trans (sr_sr _ _ _ _))) ?_
  refine r_aload_n (pc := 16) (i := 0) dX9_takeFrom_16 rfl rfl ?_
  refine r_aload_n (pc := 17) (i := 1) dX9_takeFrom_17 rfl rfl ?_
  refine r_getfi (pc := 18) cks dX9_takeFrom_18 fl_X9_18 rfl (kS0 hS2) (ltS0 hS2) ?_
  refine r_top (b := I s2 2) ((congrFun (sr_ne (by omega)) _).trans (rfl)) ?_
  refine r_top (b := (g : Int)) (hgI) ?_
  refine r_putfi (pc := 21) cks dX9_takeFrom_21 fl_X9_18 (pf_9_2 _ _) rfl (kS0 hS) (ltS0 hS) ?_
  refine r_mem (I2 := sr I s (un (un (un (I s) 0 (I s2 0)) 1 (I s2 1)) 2 ((g : Nat) : Int))) ((up2_row _ _ _ _).trans ((congrArg (fun fz_ => sr (sr I s (un (un (I s) 0 (I s2 0)) 1 (I s2 1))) s (un fz_ 2 ((g : Nat) : Int))) (show (sr I s (un (un (I s) 0 (I s2 0)) 1 (I s2 1))) s = un (un (I s) 0 (I s2 0)) 1 (I s2 1) from sr_row _ _ _)).trans (sr_sr _ _ _ _))) ?_
  refine r_aload_n (pc := 24) (i := 0) dX9_takeFrom_24 rfl rfl ?_
  refine r_aload_n (pc := 25) (i := 1) dX9_takeFrom_25 rfl rfl ?_
  refine r_getfi (pc := 26) cks dX9_takeFrom_26 fl_X9_21 rfl (kS0 hS2) (ltS0 hS2) ?_
  refine r_top (b := I s2 3) ((congrFun (sr_ne (by omega)) _).trans (rfl)) ?_
  refine r_putfi (pc := 29) cks dX9_takeFrom_29 fl_X9_21 (pf_9_3 _ _) rfl (kS0 hS) (ltS0 hS) ?_
  refine r_mem (I2 := sr I s (un (un (un (un (I s) 0 (I s2 0)) 1 (I s2 1)) 2 ((g : Nat) : Int)) 3 (I s2 3))) ((up2_row _ _ _ _).trans ((congrArg (fun fz_ => sr (sr I s (un (un (un (I s) 0 (I s2 0)) 1 (I s2 1)) 2 ((g : Nat) : Int))) s (un fz_ 3 (I s2 3))) (show (sr I s (un (un (un (I s) 0 (I s2 0)) 1 (I s2 1)) 2 ((g : Nat) : Int))) s = un (un (un (I s) 0 (I s2 0)) 1 (I s2 1)) 2 ((g : Nat) : Int) from sr_row _ _ _)).trans (sr_sr _ _ _ _))) ?_
  refine r_aload_n (pc := 32) (i := 0) dX9_takeFrom_32 rfl rfl ?_
  refine r_aload_n (pc := 33) (i := 1) dX9_takeFrom_33 rfl rfl ?_
  refine r_getfi (pc := 34) cks dX9_takeFrom_34 fl_X9_24 rfl (kS0 hS2) (ltS0 hS2) ?_
  refine r_top (b := I s2 4) ((congrFun (sr_ne (by omega)) _).trans (rfl)) ?_
  refine r_putfi (pc := 37) cks dX9_takeFrom_37 fl_X9_24 (pf_9_4 _ _) rfl (kS0 hS) (ltS0 hS) ?_
  refine r_mem (I2 := sr I s (un (un (un (un (un (I s) 0 (I s2 0)) 1 (I s2 1)) 2 ((g : Nat) : Int)) 3 (I s2 3)) 4 (I s2 4))) ((up2_row _ _ _ _).trans ((congrArg (fun fz_ => sr (sr I s (un (un (un (un (I s) 0 (I s2 0)) 1 (I s2 1)) 2 ((g : Nat) : Int)) 3 (I s2 3))) s (un fz_ 4 (I s2 4))) (show (sr I s (un (un (un (un (I s) 0 (I s2 0)) 1 (I s2 1)) 2 ((g : Nat) : Int)) 3 (I s2 3))) s = un (un (un (un (I s) 0 (I s2 0)) 1 (I s2 1)) 2 ((g : Nat) : Int)) 3 (I s2 3) from sr_row _ _ _)).trans (sr_sr _ _ _ _))) ?_
  refine r_aload_n (pc := 40) (i := 0) dX9_takeFrom_40 rfl rfl ?_
  refine r_aload_n (pc := 41) (i := 1) dX9_takeFrom_41 rfl rfl ?_
  refine r_getfi (pc := 42) cks dX9_takeFrom_42 fl_X9_27 rfl (kS0 hS2) (ltS0 hS2) ?_
  refine r_top (b := I s2 5) ((congrFun (sr_ne (by omega)) _).trans (rfl)) ?_
  refine r_putfi (pc := 45) cks dX9_takeFrom_45 fl_X9_27 (pf_9_5 _ _) rfl (kS0 hS) (ltS0 hS) ?_
  refine r_mem (I2 := sr I s (un (un (un (un (un (un (I s) 0 (I s2 0)) 1 (I s2 1)) 2 ((g : Nat) : Int)) 3 (I s2 3)) 4 (I s2 4)) 5 (I s2 5))) ((up2_row _ _ _ _).trans ((congrArg (fun fz_ => sr (sr I s (un (un (un (un (un (I s) 0 (I s2 0)) 1 (I s2 1)) 2 ((g : Nat) : Int)) 3 (I s2 3)) 4 (I s2 4))) s (un fz_ 5 (I s2 5))) (show (sr I s (un (un (un (un (un (I s) 0 (I s2 0)) 1 (I s2 1)) 2 ((g : Nat) : Int)) 3 (I s2 3)) 4 (I s2 4))) s = un (un (un (un (un (I s) 0 (I s2 0)) 1 (I s2 1)) 2 ((g : Nat) : Int)) 3 (I s2 3)) 4 (I s2 4) from sr_row _ _ _)).trans (sr_sr _ _ _ _))) ?_
  refine r_aload_n (pc := 48) (i := 0) dX9_takeFrom_48 rfl rfl ?_
  refine r_aload_n (pc := 49) (i := 1) dX9_takeFrom_49 rfl rfl ?_
  refine r_getfi (pc := 50) cks dX9_takeFrom_50 fl_X9_30 rfl (kS0 hS2) (ltS0 hS2) ?_
  refine r_top (b := I s2 6) ((congrFun (sr_ne (by omega)) _).trans (rfl)) ?_
  refine r_top (b := (q : Int)) (hqI) ?_
  refine r_putfi (pc := 53) cks dX9_takeFrom_53 fl_X9_30 (pf_9_6 _ _) rfl (kS0 hS) (ltS0 hS) ?_
  refine r_mem (I2 := sr I s (un (un (un (un (un (un (un (I s) 0 (I s2 0)) 1 (I s2 1)) 2 ((g : Nat) : Int)) 3 (I s2 3)) 4 (I s2 4)) 5 (I s2 5)) 6 ((q : Nat) : Int))) ((up2_row _ _ _ _).trans ((congrArg (fun fz_ => sr (sr I s (un (un (un (un (un (un (I s) 0 (I s2 0)) 1 (I s2 1)) 2 ((g : Nat) : Int)) 3 (I s2 3)) 4 (I s2 4)) 5 (I s2 5))) s (un fz_ 6 ((q : Nat) : Int))) (show (sr I s (un (un (un (un (un (un (I s) 0 (I s2 0)) 1 (I s2 1)) 2 ((g : Nat) : Int)) 3 (I s2 3)) 4 (I s2 4)) 5 (I s2 5))) s = un (un (un (un (un (un (I s) 0 (I s2 0)) 1 (I s2 1)) 2 ((g : Nat) : Int)) 3 (I s2 3)) 4 (I s2 4)) 5 (I s2 5) from sr_row _ _ _)).trans (sr_sr _ _ _ _))) ?_
  refine r_aload_n (pc := 56) (i := 0) dX9_takeFrom_56 rfl rfl ?_
  refine r_aload_n (pc := 57) (i := 1) dX9_takeFrom_57 rfl rfl ?_
  refine r_getfi (pc := 58) cks dX9_takeFrom_58 fl_X9_33 rfl (kS0 hS2) (ltS0 hS2) ?_
  refine r_top (b := I s2 7) ((congrFun (sr_ne (by omega)) _).trans (rfl)) ?_
  refine r_putfi (pc := 61) cks dX9_takeFrom_61 fl_X9_33 (pf_9_7 _ _) rfl (kS0 hS) (ltS0 hS) ?_
  refine r_mem (I2 := sr I s (un (un (un (un (un (un (un (un (I s) 0 (I s2 0)) 1 (I s2 1)) 2 ((g : Nat) : Int)) 3 (I s2 3)) 4 (I s2 4)) 5 (I s2 5)) 6 ((q : Nat) : Int)) 7 (I s2 7))) ((up2_row _ _ _ _).trans ((congrArg (fun fz_ => sr (sr I s (un (un (un (un (un (un (un (I s) 0 (I s2 0)) 1 (I s2 1)) 2 ((g : Nat) : Int)) 3 (I s2 3)) 4 (I s2 4)) 5 (I s2 5)) 6 ((q : Nat) : Int))) s (un fz_ 7 (I s2 7))) (show (sr I s (un (un (un (un (un (un (un (I s) 0 (I s2 0)) 1 (I s2 1)) 2 ((g : Nat) : Int)) 3 (I s2 3)) 4 (I s2 4)) 5 (I s2 5)) 6 ((q : Nat) : Int))) s = un (un (un (un (un (un (un (I s) 0 (I s2 0)) 1 (I s2 1)) 2 ((g : Nat) : Int)) 3 (I s2 3)) 4 (I s2 4)) 5 (I s2 5)) 6 ((q : Nat) : Int) from sr_row _ _ _)).trans (sr_sr _ _ _ _))) ?_
  refine r_aload_n (pc := 64) (i := 0) dX9_takeFrom_64 rfl rfl ?_
  refine r_aload_n (pc := 65) (i := 1) dX9_takeFrom_65 rfl rfl ?_
  refine r_getfi (pc := 66) cks dX9_takeFrom_66 fl_X9_36 rfl (kS0 hS2) (ltS0 hS2) ?_
  refine r_top (b := I s2 8) ((congrFun (sr_ne (by omega)) _).trans (rfl)) ?_
  refine r_putfi (pc := 69) cks dX9_takeFrom_69 fl_X9_36 (pf_9_8 _ _) rfl (kS0 hS) (ltS0 hS) ?_
  refine r_mem (I2 := sr I s (un (un (un (un (un (un (un (un (un (I s) 0 (I s2 0)) 1 (I s2 1)) 2 ((g : Nat) : Int)) 3 (I s2 3)) 4 (I s2 4)) 5 (I s2 5)) 6 ((q : Nat) : Int)) 7 (I s2 7)) 8 (I s2 8))) ((up2_row _ _ _ _).trans ((congrArg (fun fz_ => sr (sr I s (un (un (un (un (un (un (un (un (I s) 0 (I s2 0)) 1 (I s2 1)) 2 ((g : Nat) : Int)) 3 (I s2 3)) 4 (I s2 4)) 5 (I s2 5)) 6 ((q : Nat) : Int)) 7 (I s2 7))) s (un fz_ 8 (I s2 8))) (show (sr I s (un (un (un (un (un (un (un (un (I s) 0 (I s2 0)) 1 (I s2 1)) 2 ((g : Nat) : Int)) 3 (I s2 3)) 4 (I s2 4)) 5 (I s2 5)) 6 ((q : Nat) : Int)) 7 (I s2 7))) s = un (un (un (un (un (un (un (un (I s) 0 (I s2 0)) 1 (I s2 1)) 2 ((g : Nat) : Int)) 3 (I s2 3)) 4 (I s2 4)) 5 (I s2 5)) 6 ((q : Nat) : Int)) 7 (I s2 7) from sr_row _ _ _)).trans (sr_sr _ _ _ _))) ?_
  refine r_aload_n (pc := 72) (i := 1) dX9_takeFrom_72 rfl rfl ?_
  refine r_getfr (pc := 73) (b := s2 + 1) cks dX9_takeFrom_73 fl_X9_39 rfl (kS0 hS2) (ltS0 hS2) (rS0_9 hS2) ?_
  refine r_iconst (pc := 76) dX9_takeFrom_76 (in32_of rfl) ?_
  refine r_aload_n (pc := 77) (i := 0) dX9_takeFrom_77 rfl rfl ?_
  refine r_getfr (pc := 78) (b := s + 1) cks dX9_takeFrom_78 fl_X9_39 rfl (kS0 hS) (ltS0 hS) (rS0_9 hS) ?_
  refine r_iconst (pc := 81) dX9_takeFrom_81 (in32_of rfl) ?_
  refine r_aload_n (pc := 82) (i := 0) dX9_takeFrom_82 rfl rfl ?_
  refine r_getfi (pc := 83) cks dX9_takeFrom_83 fl_X9_18 rfl (kS0 hS) (ltS0 hS) ?_
  refine r_top (b := (un (un (un (un (un (un (un (un (un (I s) 0 (I s2 0)) 1 (I s2 1)) 2 ((g : Nat) : Int)) 3 (I s2 3)) 4 (I s2 4)) 5 (I s2 5)) 6 ((q : Nat) : Int)) 7 (I s2 7)) 8 (I s2 8)) 2) (sr_at _ _ _ _) ?_
  refine r_top (b := (un (un (un (un (un (un (un (un (I s) 0 (I s2 0)) 1 (I s2 1)) 2 ((g : Nat) : Int)) 3 (I s2 3)) 4 (I s2 4)) 5 (I s2 5)) 6 ((q : Nat) : Int)) 7 (I s2 7)) 2) (un_ne (by omega)) ?_
  refine r_top (b := (un (un (un (un (un (un (un (I s) 0 (I s2 0)) 1 (I s2 1)) 2 ((g : Nat) : Int)) 3 (I s2 3)) 4 (I s2 4)) 5 (I s2 5)) 6 ((q : Nat) : Int)) 2) (un_ne (by omega)) ?_
  refine r_top (b := (un (un (un (un (un (un (I s) 0 (I s2 0)) 1 (I s2 1)) 2 ((g : Nat) : Int)) 3 (I s2 3)) 4 (I s2 4)) 5 (I s2 5)) 2) (un_ne (by omega)) ?_
  refine r_top (b := (un (un (un (un (un (I s) 0 (I s2 0)) 1 (I s2 1)) 2 ((g : Nat) : Int)) 3 (I s2 3)) 4 (I s2 4)) 2) (un_ne (by omega)) ?_
  refine r_top (b := (un (un (un (un (I s) 0 (I s2 0)) 1 (I s2 1)) 2 ((g : Nat) : Int)) 3 (I s2 3)) 2) (un_ne (by omega)) ?_
  refine r_top (b := (un (un (un (I s) 0 (I s2 0)) 1 (I s2 1)) 2 ((g : Nat) : Int)) 2) (un_ne (by omega)) ?_
  refine r_top (b := ((g : Nat) : Int)) (un_at) ?_
  refine r_cpN (pc := 86) (a := s + 1) (a0 := s2 + 1) (0) (0) (g) dX9_takeFrom_86 (by omega) ac_X9_76 (Nat.le_of_ble_eq_true rfl) (Or.inl (kS1 hS)) ((kS1 hS2).trans (kS1 hS).symm) (ltS (k := 1) hS (by omega)) (ltS (k := 1) hS2 (by omega)) (by omega) (by omega) (by omega) (by rw [lS1 hS2]; omega) (by rw [lS1 hS]; omega) ?_
  refine r_mem (I2 := sr (sr I s (un (un (un (un (un (un (un (un (un (I s) 0 (I s2 0)) 1 (I s2 1)) 2 ((g : Nat) : Int)) 3 (I s2 3)) 4 (I s2 4)) 5 (I s2 5)) 6 ((q : Nat) : Int)) 7 (I s2 7)) 8 (I s2 8))) (s + 1) (cpyR (I (s2 + 1)) 0 (I (s + 1)) 0 g)) ((congr (congrArg (fun fz_ gz_ => sr (sr I s (un (un (un (un (un (un (un (un (un (I s) 0 (I s2 0)) 1 (I s2 1)) 2 ((g : Nat) : Int)) 3 (I s2 3)) 4 (I s2 4)) 5 (I s2 5)) 6 ((q : Nat) : Int)) 7 (I s2 7)) 8 (I s2 8))) (s + 1) (cpyR fz_ 0 gz_ 0 g)) (show (sr I s (un (un (un (un (un (un (un (un (un (I s) 0 (I s2 0)) 1 (I s2 1)) 2 ((g : Nat) : Int)) 3 (I s2 3)) 4 (I s2 4)) 5 (I s2 5)) 6 ((q : Nat) : Int)) 7 (I s2 7)) 8 (I s2 8))) (s2 + 1) = I (s2 + 1) from (sr_ne (by omega)).trans (rfl))) (show (sr I s (un (un (un (un (un (un (un (un (un (I s) 0 (I s2 0)) 1 (I s2 1)) 2 ((g : Nat) : Int)) 3 (I s2 3)) 4 (I s2 4)) 5 (I s2 5)) 6 ((q : Nat) : Int)) 7 (I s2 7)) 8 (I s2 8))) (s + 1) = I (s + 1) from (sr_ne (by omega)).trans (rfl))).trans (rfl)) ?_
  refine r_aload_n (pc := 89) (i := 1) dX9_takeFrom_89 rfl rfl ?_
  refine r_getfr (pc := 90) (b := s2 + 2) cks dX9_takeFrom_90 fl_X9_43 rfl (kS0 hS2) (ltS0 hS2) (rS0_10 hS2) ?_
  refine r_iconst (pc := 93) dX9_takeFrom_93 (in32_of rfl) ?_
  refine r_aload_n (pc := 94) (i := 0) dX9_takeFrom_94 rfl rfl ?_
  refine r_getfr (pc := 95) (b := s + 2) cks dX9_takeFrom_95 fl_X9_43 rfl (kS0 hS) (ltS0 hS) (rS0_10 hS) ?_
  refine r_iconst (pc := 98) dX9_takeFrom_98 (in32_of rfl) ?_
  refine r_aload_n (pc := 99) (i := 0) dX9_takeFrom_99 rfl rfl ?_
  refine r_getfi (pc := 100) cks dX9_takeFrom_100 fl_X9_30 rfl (kS0 hS) (ltS0 hS) ?_
  refine r_top (b := (un (un (un (un (un (un (un (un (un (I s) 0 (I s2 0)) 1 (I s2 1)) 2 ((g : Nat) : Int)) 3 (I s2 3)) 4 (I s2 4)) 5 (I s2 5)) 6 ((q : Nat) : Int)) 7 (I s2 7)) 8 (I s2 8)) 6) ((congrFun (sr_ne (by omega)) _).trans (sr_at _ _ _ _)) ?_
  refine r_top (b := (un (un (un (un (un (un (un (un (I s) 0 (I s2 0)) 1 (I s2 1)) 2 ((g : Nat) : Int)) 3 (I s2 3)) 4 (I s2 4)) 5 (I s2 5)) 6 ((q : Nat) : Int)) 7 (I s2 7)) 6) (un_ne (by omega)) ?_
  refine r_top (b := (un (un (un (un (un (un (un (I s) 0 (I s2 0)) 1 (I s2 1)) 2 ((g : Nat) : Int)) 3 (I s2 3)) 4 (I s2 4)) 5 (I s2 5)) 6 ((q : Nat) : Int)) 6) (un_ne (by omega)) ?_
  refine r_top (b := ((q : Nat) : Int)) (un_at) ?_
  refine r_sipush (pc := 103) dX9_takeFrom_103 rfl (in32_of rfl) ?_
  refine r_imulN (pc := 106) (c := ((256 * q : Nat) : Int)) dX9_takeFrom_106 (by unfold w32; omega) ?_
  refine r_cpN (pc := 107) (a := s + 2) (a0 := s2 + 2) (0) (0) (256 * q) dX9_takeFrom_107 (by omega) ac_X9_76 (Nat.le_of_ble_eq_true rfl) (Or.inl (kS2 hS)) ((kS2 hS2).trans (kS2 hS).symm) (ltS (k := 2) hS (by omega)) (ltS (k := 2) hS2 (by omega)) (by omega) (by omega) (by omega) (by rw [lS2 hS2]; omega) (by rw [lS2 hS]; omega) ?_
  refine r_mem (I2 := sr (sr (sr I s (un (un (un (un (un (un (un (un (un (I s) 0 (I s2 0)) 1 (I s2 1)) 2 ((g : Nat) : Int)) 3 (I s2 3)) 4 (I s2 4)) 5 (I s2 5)) 6 ((q : Nat) : Int)) 7 (I s2 7)) 8 (I s2 8))) (s + 1) (cpyR (I (s2 + 1)) 0 (I (s + 1)) 0 g)) (s + 2) (cpyR (I (s2 + 2)) 0 (I (s + 2)) 0 (256 * q))) ((congr (congrArg (fun fz_ gz_ => sr (sr (sr I s (un (un (un (un (un (un (un (un (un (I s) 0 (I s2 0)) 1 (I s2 1)) 2 ((g : Nat) : Int)) 3 (I s2 3)) 4 (I s2 4)) 5 (I s2 5)) 6 ((q : Nat) : Int)) 7 (I s2 7)) 8 (I s2 8))) (s + 1) (cpyR (I (s2 + 1)) 0 (I (s + 1)) 0 g)) (s + 2) (cpyR fz_ 0 gz_ 0 (256 * q))) (show (sr (sr I s (un (un (un (un (un (un (un (un (un (I s) 0 (I s2 0)) 1 (I s2 1)) 2 ((g : Nat) : Int)) 3 (I s2 3)) 4 (I s2 4)) 5 (I s2 5)) 6 ((q : Nat) : Int)) 7 (I s2 7)) 8 (I s2 8))) (s + 1) (cpyR (I (s2 + 1)) 0 (I (s + 1)) 0 g)) (s2 + 2) = I (s2 + 2) from (sr_ne (by omega)).trans ((sr_ne (by omega)).trans (rfl)))) (show (sr (sr I s (un (un (un (un (un (un (un (un (un (I s) 0 (I s2 0)) 1 (I s2 1)) 2 ((g : Nat) : Int)) 3 (I s2 3)) 4 (I s2 4)) 5 (I s2 5)) 6 ((q : Nat) : Int)) 7 (I s2 7)) 8 (I s2 8))) (s + 1) (cpyR (I (s2 + 1)) 0 (I (s + 1)) 0 g)) (s + 2) = I (s + 2) from (sr_ne (by omega)).trans ((sr_ne (by omega)).trans (rfl)))).trans (rfl)) ?_
  refine r_aload_n (pc := 110) (i := 0) dX9_takeFrom_110 rfl rfl ?_
  refine r_getfr (pc := 111) (b := s + 3) cks dX9_takeFrom_111 fl_X9_49 rfl (kS0 hS) (ltS0 hS) (rS0_11 hS) ?_
  refine r_aload_n (pc := 114) (i := 1) dX9_takeFrom_114 rfl rfl ?_
  refine r_getfr (pc := 115) (b := s2 + 3) cks dX9_takeFrom_115 fl_X9_49 rfl (kS0 hS2) (ltS0 hS2) (rS0_11 hS2) ?_
  refine r_callV0 (pc := 118) (d - 1) [aR (s2 + 3)] dX9_takeFrom_118 (CV.mk2 mk_X3_takeFrom lk_X9_82) (RC.of (ltS (k := 3) hS (by omega)) (kS3 hS) (by decide) rfl) rfl rfl (by omega) (Nat.le_of_ble_eq_true rfl) (Nat.le_of_ble_eq_true rfl) (k_keysFrom (n := n) hS hS2 (by omega) hdj (((congrFun (sr_ne (by omega)) _).trans ((congrFun (sr_ne (by omega)) _).trans ((congrFun (sr_ne (by omega)) _).trans (rfl)))).trans hnI) hn2 ?_)
  refine ⟨rfl, fun _ => ?_⟩
  refine r_mem (I2 := sr (sr (sr (sr (sr (sr (sr I s (un (un (un (un (un (un (un (un (un (I s) 0 (I s2 0)) 1 (I s2 1)) 2 ((g : Nat) : Int)) 3 (I s2 3)) 4 (I s2 4)) 5 (I s2 5)) 6 ((q : Nat) : Int)) 7 (I s2 7)) 8 (I s2 8))) (s + 1) (cpyR (I (s2 + 1)) 0 (I (s + 1)) 0 g)) (s + 2) (cpyR (I (s2 + 2)) 0 (I (s + 2)) 0 (256 * q))) (s + 3) (un (I (s + 3)) 0 (n : Int))) (s + 4) (cpyR (I (s2 + 4)) 0 (I (s + 4)) 0 n)) (s + 5) (cpyR (I (s2 + 5)) 0 (I (s + 5)) 0 n)) (s + 6) (cpyR (I (s2 + 6)) 0 (I (s + 6)) 0 n)) ((congr (congr (congr (congr (congr (congr (congrArg (fun v0_ v1_ v2_ v3_ v4_ v5_ v6_ => (sr (sr (sr (sr (sr (sr (sr I s (un (un (un (un (un (un (un (un (un (I s) 0 (I s2 0)) 1 (I s2 1)) 2 ((g : Nat) : Int)) 3 (I s2 3)) 4 (I s2 4)) 5 (I s2 5)) 6 ((q : Nat) : Int)) 7 (I s2 7)) 8 (I s2 8))) (s + 1) (cpyR (I (s2 + 1)) 0 (I (s + 1)) 0 g)) (s + 2) (cpyR (I (s2 + 2)) 0 (I (s + 2)) 0 (256 * q))) (s + 3) (un v0_ 0 (n : Int))) (s + 4) (cpyR v1_ 0 v2_ 0 n)) (s + 5) (cpyR v3_ 0 v4_ 0 n)) (s + 6) (cpyR v5_ 0 v6_ 0 n))) (show (sr (sr (sr I s (un (un (un (un (un (un (un (un (un (I s) 0 (I s2 0)) 1 (I s2 1)) 2 ((g : Nat) : Int)) 3 (I s2 3)) 4 (I s2 4)) 5 (I s2 5)) 6 ((q : Nat) : Int)) 7 (I s2 7)) 8 (I s2 8))) (s + 1) (cpyR (I (s2 + 1)) 0 (I (s + 1)) 0 g)) (s + 2) (cpyR (I (s2 + 2)) 0 (I (s + 2)) 0 (256 * q))) (s + 3) = I (s + 3) from (sr_ne (by omega)).trans ((sr_ne (by omega)).trans ((sr_ne (by omega)).trans (rfl))))) (show (sr (sr (sr I s (un (un (un (un (un (un (un (un (un (I s) 0 (I s2 0)) 1 (I s2 1)) 2 ((g : Nat) : Int)) 3 (I s2 3)) 4 (I s2 4)) 5 (I s2 5)) 6 ((q : Nat) : Int)) 7 (I s2 7)) 8 (I s2 8))) (s + 1) (cpyR (I (s2 + 1)) 0 (I (s + 1)) 0 g)) (s + 2) (cpyR (I (s2 + 2)) 0 (I (s + 2)) 0 (256 * q))) (s2 + 4) = I (s2 + 4) from (sr_ne (by omega)).trans ((sr_ne (by omega)).trans ((sr_ne (by omega)).trans (rfl))))) (show (sr (sr (sr I s (un (un (un (un (un (un (un (un (un (I s) 0 (I s2 0)) 1 (I s2 1)) 2 ((g : Nat) : Int)) 3 (I s2 3)) 4 (I s2 4)) 5 (I s2 5)) 6 ((q : Nat) : Int)) 7 (I s2 7)) 8 (I s2 8))) (s + 1) (cpyR (I (s2 + 1)) 0 (I (s + 1)) 0 g)) (s + 2) (cpyR (I (s2 + 2)) 0 (I (s + 2)) 0 (256 * q))) (s + 4) = I (s + 4) from (sr_ne (by omega)).trans ((sr_ne (by omega)).trans ((sr_ne (by omega)).trans (rfl))))) (show (sr (sr (sr I s (un (un (un (un (un (un (un (un (un (I s) 0 (I s2 0)) 1 (I s2 1)) 2 ((g : Nat) : Int)) 3 (I s2 3)) 4 (I s2 4)) 5 (I s2 5)) 6 ((q : Nat) : Int)) 7 (I s2 7)) 8 (I s2 8))) (s + 1) (cpyR (I (s2 + 1)) 0 (I (s + 1)) 0 g)) (s + 2) (cpyR (I (s2 + 2)) 0 (I (s + 2)) 0 (256 * q))) (s2 + 5) = I (s2 + 5) from (sr_ne (by omega)).trans ((sr_ne (by omega)).trans ((sr_ne (by omega)).trans (rfl))))) (show (sr (sr (sr I s (un (un (un (un (un (un (un (un (un (I s) 0 (I s2 0)) 1 (I s2 1)) 2 ((g : Nat) : Int)) 3 (I s2 3)) 4 (I s2 4)) 5 (I s2 5)) 6 ((q : Nat) : Int)) 7 (I s2 7)) 8 (I s2 8))) (s + 1) (cpyR (I (s2 + 1)) 0 (I (s + 1)) 0 g)) (s + 2) (cpyR (I (s2 + 2)) 0 (I (s + 2)) 0 (256 * q))) (s + 5) = I (s + 5) from (sr_ne (by omega)).trans ((sr_ne (by omega)).trans ((sr_ne (by omega)).trans (rfl))))) (show (sr (sr (sr I s (un (un (un (un (un (un (un (un (un (I s) 0 (I s2 0)) 1 (I s2 1)) 2 ((g : Nat) : Int)) 3 (I s2 3)) 4 (I s2 4)) 5 (I s2 5)) 6 ((q : Nat) : Int)) 7 (I s2 7)) 8 (I s2 8))) (s + 1) (cpyR (I (s2 + 1)) 0 (I (s + 1)) 0 g)) (s + 2) (cpyR (I (s2 + 2)) 0 (I (s + 2)) 0 (256 * q))) (s2 + 6) = I (s2 + 6) from (sr_ne (by omega)).trans ((sr_ne (by omega)).trans ((sr_ne (by omega)).trans (rfl))))) (show (sr (sr (sr I s (un (un (un (un (un (un (un (un (un (I s) 0 (I s2 0)) 1 (I s2 1)) 2 ((g : Nat) : Int)) 3 (I s2 3)) 4 (I s2 4)) 5 (I s2 5)) 6 ((q : Nat) : Int)) 7 (I s2 7)) 8 (I s2 8))) (s + 1) (cpyR (I (s2 + 1)) 0 (I (s + 1)) 0 g)) (s + 2) (cpyR (I (s2 + 2)) 0 (I (s + 2)) 0 (256 * q))) (s + 6) = I (s + 6) from (sr_ne (by omega)).trans ((sr_ne (by omega)).trans ((sr_ne (by omega)).trans (rfl))))).trans ((congrArg (fun X => sr X (s + 6) (cpyR (I (s2 + 6)) 0 (I (s + 6)) 0 n)) ((congrArg (fun X => sr X (s + 5) (cpyR (I (s2 + 5)) 0 (I (s + 5)) 0 n)) ((congrArg (fun X => sr X (s + 4) (cpyR (I (s2 + 4)) 0 (I (s + 4)) 0 n)) (rfl)).trans (rfl))).trans (rfl))).trans (rfl))) ?_
  refine r_aload_n (pc := 121) (i := 0) dX9_takeFrom_121 rfl rfl ?_
  refine r_getfr (pc := 122) (b := s + 7) cks dX9_takeFrom_122 fl_X9_56 rfl (kS0 hS) (ltS0 hS) (rS0_12 hS) ?_
  refine r_aload_n (pc := 125) (i := 1) dX9_takeFrom_125 rfl rfl ?_
  refine r_getfr (pc := 126) (b := s2 + 7) cks dX9_takeFrom_126 fl_X9_56 rfl (kS0 hS2) (ltS0 hS2) (rS0_12 hS2) ?_
  refine r_callV0 (pc := 129) (d - 1) [aR (s2 + 7)] dX9_takeFrom_129 (CV.mk2 mk_X4_takeFrom lk_X9_86) (RC.of (ltS (k := 7) hS (by omega)) (kS7 hS) (by decide) rfl) rfl rfl (by omega) (Nat.le_of_ble_eq_true rfl) (Nat.le_of_ble_eq_true rfl) (k_ledFrom (n0 := tN N) hS hS2 (by omega) hdj hx (apS hS2 hs0 hdj) (((congrFun (sr_ne (by omega)) _).trans ((congrFun (sr_ne (by omega)) _).trans ((congrFun (sr_ne (by omega)) _).trans ((congrFun (sr_ne (by omega)) _).trans ((congrFun (sr_ne (by omega)) _).trans ((congrFun (sr_ne (by omega)) _).trans ((congrFun (sr_ne (by omega)) _).trans (rfl)))))))).trans h7I) htc (fun U K p3 o3 t3 c3 hf => ?_))
  refine ⟨rfl, fun _ => ?_⟩
  obtain ⟨J, hJ⟩ : ∃ J, J = sr (sr (sr (sr (sr (sr (sr I s (un (un (un (un (un (un (un (un (un (I s) 0 (I s2 0)) 1 (I s2 1)) 2 ((g : Nat) : Int)) 3 (I s2 3)) 4 (I s2 4)) 5 (I s2 5)) 6 ((q : Nat) : Int)) 7 (I s2 7)) 8 (I s2 8))) (s + 1) (cpyR (I (s2 + 1)) 0 (I (s + 1)) 0 g)) (s + 2) (cpyR (I (s2 + 2)) 0 (I (s + 2)) 0 (256 * q))) (s + 3) (un (I (s + 3)) 0 (n : Int))) (s + 4) (cpyR (I (s2 + 4)) 0 (I (s + 4)) 0 n)) (s + 5) (cpyR (I (s2 + 5)) 0 (I (s + 5)) 0 n)) (s + 6) (cpyR (I (s2 + 6)) 0 (I (s + 6)) 0 n) := ⟨_, rfl⟩
  rw [← hJ] at hf
  have jb : ∀ b, b < s ∨ s + 7 ≤ b → J b = I b := fun b hb => by rw [hJ]; rw [sr_ne (show b ≠ s + 6 by omega), sr_ne (show b ≠ s + 5 by omega), sr_ne (show b ≠ s + 4 by omega), sr_ne (show b ≠ s + 3 by omega), sr_ne (show b ≠ s + 2 by omega), sr_ne (show b ≠ s + 1 by omega), sr_ne (show b ≠ s by omega)]
  have hSU := hf.1
  have hS2U := ShS_ext hS2 hf.2.1 hdj
  have hz11 := ne_s2 (k := 11) hS hs2 hdj (by decide)
  have h11 : K (s2 + 11) 0 = (l : Int) := by rw [hf.2.2.2.1 _ (by omega) (by omega) hz11.1 hz11.2.1 hz11.2.2, jb _ (by omega)]; exact hst.2.2.2.2.2.1.trans hl
  refine r_aload_n (pc := 132) (i := 0) dX9_takeFrom_132 rfl rfl ?_
  refine r_getfr (pc := 133) (b := s + 11) cks dX9_takeFrom_133 fl_X9_63 rfl (kS0 hSU) (ltS0 hSU) (rS0_13 hSU) ?_
  refine r_aload_n (pc := 136) (i := 1) dX9_takeFrom_136 rfl rfl ?_
  refine r_getfr (pc := 137) (b := s2 + 11) cks dX9_takeFrom_137 fl_X9_63 rfl (kS0 hS2U) (ltS0 hS2U) (rS0_13 hS2U) ?_
  refine r_callV0 (pc := 140) (d - 1) [aR (s2 + 11)] dX9_takeFrom_140 (CV.mk2 mk_X1_takeFrom lk_X9_89) (RC.of (ltS (k := 11) hSU (by omega)) (kS11 hSU) (by decide) rfl) rfl rfl (by omega) (Nat.le_of_ble_eq_true rfl) (Nat.le_of_ble_eq_true rfl) (k_finFrom (l := l) hSU hS2U (by omega) hdj h11 hl2 ?_ ?_)
  · intro hl0
    refine ⟨rfl, fun _ => ?_⟩
    refine r_vret (pc := 143) dX9_takeFrom_143 trivial (hq _ _ _ _ _ _ (stf_end (J := J) (K := K) (g := g) (l := l) hS hS2 hdj hx hst hP0 hLd hN2 hg hl hl2 ?_ ?_ ?_ ?_ ?_ ?_ ?_ jb hf (fun b hb => sr_ne (show b ≠ s + 11 by omega)) ?_ (fun h => absurd h (by omega))))
    · intro j hj
      rw [hJ, sr_ne (show s ≠ s + 6 by omega), sr_ne (show s ≠ s + 5 by omega), sr_ne (show s ≠ s + 4 by omega), sr_ne (show s ≠ s + 3 by omega), sr_ne (show s ≠ s + 2 by omega), sr_ne (show s ≠ s + 1 by omega), sr_row]
      exact un9 ⟨rfl, rfl, hgI, rfl, rfl, rfl, hqI, rfl, rfl⟩ j hj
    · rw [hJ, sr_ne (show s + 1 ≠ s + 6 by omega), sr_ne (show s + 1 ≠ s + 5 by omega), sr_ne (show s + 1 ≠ s + 4 by omega), sr_ne (show s + 1 ≠ s + 3 by omega), sr_ne (show s + 1 ≠ s + 2 by omega), sr_row]
    · rw [hJ, sr_ne (show s + 2 ≠ s + 6 by omega), sr_ne (show s + 2 ≠ s + 5 by omega), sr_ne (show s + 2 ≠ s + 4 by omega), sr_ne (show s + 2 ≠ s + 3 by omega), sr_row]
    · rw [hJ, sr_ne (show s + 3 ≠ s + 6 by omega), sr_ne (show s + 3 ≠ s + 5 by omega), sr_ne (show s + 3 ≠ s + 4 by omega), sr_row]
      exact un_at
    · rw [hJ, sr_ne (show s + 4 ≠ s + 6 by omega), sr_ne (show s + 4 ≠ s + 5 by omega), sr_row]
    · rw [hJ, sr_ne (show s + 5 ≠ s + 6 by omega), sr_row]
    · rw [hJ, sr_row]
    · intro j hj
      refine (congrFun (sr_row _ _ _) j).trans ?_
      rcases hj with rfl | rfl | rfl | rfl
      · exact h11.symm
      · rfl
      · rfl
      · rfl
  · intro hl1
    refine ⟨rfl, fun _ => ?_⟩
    refine r_vret (pc := 143) dX9_takeFrom_143 trivial (hq _ _ _ _ _ _ (stf_end (J := J) (K := K) (g := g) (l := l) hS hS2 hdj hx hst hP0 hLd hN2 hg hl hl2 ?_ ?_ ?_ ?_ ?_ ?_ ?_ jb hf (fun b hb => (sr_ne (show b ≠ s + 14 by omega)).trans ((sr_ne (show b ≠ s + 13 by omega)).trans ((sr_ne (show b ≠ s + 12 by omega)).trans (sr_ne (show b ≠ s + 11 by omega))))) ?_ (fun _ => ⟨(sr_ne (show s + 12 ≠ s + 14 by omega)).trans ((sr_ne (show s + 12 ≠ s + 13 by omega)).trans (sr_row _ _ _)), (sr_ne (show s + 13 ≠ s + 14 by omega)).trans (sr_row _ _ _), sr_row _ _ _⟩)))
    · intro j hj
      rw [hJ, sr_ne (show s ≠ s + 6 by omega), sr_ne (show s ≠ s + 5 by omega), sr_ne (show s ≠ s + 4 by omega), sr_ne (show s ≠ s + 3 by omega), sr_ne (show s ≠ s + 2 by omega), sr_ne (show s ≠ s + 1 by omega), sr_row]
      exact un9 ⟨rfl, rfl, hgI, rfl, rfl, rfl, hqI, rfl, rfl⟩ j hj
    · rw [hJ, sr_ne (show s + 1 ≠ s + 6 by omega), sr_ne (show s + 1 ≠ s + 5 by omega), sr_ne (show s + 1 ≠ s + 4 by omega), sr_ne (show s + 1 ≠ s + 3 by omega), sr_ne (show s + 1 ≠ s + 2 by omega), sr_row]
    · rw [hJ, sr_ne (show s + 2 ≠ s + 6 by omega), sr_ne (show s + 2 ≠ s + 5 by omega), sr_ne (show s + 2 ≠ s + 4 by omega), sr_ne (show s + 2 ≠ s + 3 by omega), sr_row]
    · rw [hJ, sr_ne (show s + 3 ≠ s + 6 by omega), sr_ne (show s + 3 ≠ s + 5 by omega), sr_ne (show s + 3 ≠ s + 4 by omega), sr_row]
      exact un_at
    · rw [hJ, sr_ne (show s + 4 ≠ s + 6 by omega), sr_ne (show s + 4 ≠ s + 5 by omega), sr_row]
    · rw [hJ, sr_ne (show s + 5 ≠ s + 6 by omega), sr_row]
    · rw [hJ, sr_row]
    · intro j hj
      refine (congrFun ((sr_ne (show s + 11 ≠ s + 14 by omega)).trans ((sr_ne (show s + 11 ≠ s + 13 by omega)).trans ((sr_ne (show s + 11 ≠ s + 12 by omega)).trans (sr_row _ _ _)))) j).trans ?_
      rcases hj with rfl | rfl | rfl | rfl
      · exact h11.symm
      · rfl
      · rfl
      · rfl
end C37

section C75
variable {G : Gl} {d : Nat} {T : Sh} {I : Mi} {N : Nat → Int} {Q : Option AV → Sh → Mi → Prop}
theorem ch_R1 {K : Mi} {F283 : Nat → Int} (h283 : K 283 = F283) : K = sr K 283 F283 := by subst h283; simp only [sr_id]
theorem ch_F2 {K : Mi} {F275 F274 : Nat → Int} (h275 : K 275 = F275) (h274 : K 274 = F274) : K = sr (sr K 275 F275) 274 F274 := by subst h275 h274; simp only [sr_id]
theorem ch_E1 {K : Mi} {F274 : Nat → Int} (h274 : K 274 = F274) : K = sr K 274 F274 := by subst h274; simp only [sr_id]
theorem ch_A5 {K : Mi} {F286 F285 F284 F274 F283 : Nat → Int} (h286 : K 286 = F286) (h285 : K 285 = F285) (h284 : K 284 = F284) (h274 : K 274 = F274) (h283 : K 283 = F283) : K = sr (sr (sr (sr (sr K 286 F286) 285 F285) 284 F284) 274 F274) 283 F283 := by subst h286 h285 h284 h274 h283; simp only [sr_id]
theorem ch_S5 {K : Mi} {F288 F289 F290 F274 F283 : Nat → Int} (h288 : K 288 = F288) (h289 : K 289 = F289) (h290 : K 290 = F290) (h274 : K 274 = F274) (h283 : K 283 = F283) : K = sr (sr (sr (sr (sr K 288 F288) 289 F289) 290 F290) 274 F274) 283 F283 := by subst h288 h289 h290 h274 h283; simp only [sr_id]
theorem ch_I6 {K : Mi} {F287 F286 F285 F284 F274 F283 : Nat → Int} (h287 : K 287 = F287) (h286 : K 286 = F286) (h285 : K 285 = F285) (h284 : K 284 = F284) (h274 : K 274 = F274) (h283 : K 283 = F283) : K = sr (sr (sr (sr (sr (sr K 287 F287) 286 F286) 285 F285) 284 F284) 274 F274) 283 F283 := by subst h287 h286 h285 h284 h274 h283; simp only [sr_id]
theorem ch_P6 {K : Mi} {F280 F287 F283 F281 F282 F274 : Nat → Int} (h280 : K 280 = F280) (h287 : K 287 = F287) (h283 : K 283 = F283) (h281 : K 281 = F281) (h282 : K 282 = F282) (h274 : K 274 = F274) : K = sr (sr (sr (sr (sr (sr K 280 F280) 287 F287) 283 F283) 281 F281) 282 F282) 274 F274 := by subst h280 h287 h283 h281 h282 h274; simp only [sr_id]
theorem EvE.mem {G : Gl} {y : Mth} {d : Nat} {As : List AV} {T : Sh} {I I2 : Mi} {Q : Option AV → Sh → Mi → Prop} (h : I = I2) (k : EvE G y d As T I2 Q) : EvE G y d As T I Q := h ▸ k
/-- the reference's tables stand -/
def Tb (M : Mi) : Prop := (∀ q, q < 72 → M 276 q = wdT q) ∧ (∀ k, k < 9 → M 277 k = eLeast k) ∧ (∀ k, k < 9 → M 278 k = eMost k) ∧ ∀ k, k < 9 → M 279 k = eUsual k
theorem Tb.eq {M I : Mi} (h : Tb I) (e6 : M 276 = I 276) (e7 : M 277 = I 277) (e8 : M 278 = I 278) (e9 : M 279 = I 279) : Tb M := by
  unfold Tb
  rw [e6, e7, e8, e9]
  exact h
/-- a final key has bits -/
def F5 (N : Nat → Int) : Prop := N 0 = 5 → 0 < N 6
def FV (u : Nat) (W P Y N : Nat → Int) : Prop := F5 N ∧ (∀ j, j < u → F5 (wRow W j)) ∧ ∀ k, k < 2 → ¬ Y k = 0 → F5 (wRow P k)
theorem F5.ag {N K : Nat → Int} (h : F5 N) (ha : agN N K) : F5 K := by
  unfold F5
  rw [ha 0 (by omega), ha 6 (by omega)]
  exact h
theorem F5.no {N : Nat → Int} (h : ¬ N 0 = 5) : F5 N := fun g => absurd g h
theorem FV.keep {u : Nat} {W P Y N N2 : Nat → Int} (h : FV u W P Y N) (hw : wOk W) (hN : Rng N) (hu : u ≤ 12) (h2 : F5 N2) : FV (kaU u) (kaW W N u) P Y N2 := by
  refine ⟨h2, fun j hj => ?_, h.2.2⟩
  rcases ring_keep (e := 0) hw hN hu (by decide) hj with ⟨_, g⟩ | ⟨j0, g1, _, _, g⟩
  · exact h.1.ag g
  · exact (h.2.1 j0 g1).ag g
/-- both sides stand alike -/
def LI (T : Sh) (I : Mi) : Prop := ∃ (A : AN) (tp u e : Nat), KSh T A ∧ KC I A tp (I 280) (I 275) u e (I 285) (I 286) (I 287) (I 283) ∧ (I 274 1 = (tp : Int) ∧ I 274 16 = (u : Int) ∧ I 274 17 = -1) ∧ wOk (I 285) ∧ pOk (I 286) ∧ FV u (I 285) (I 286) (I 287) (I 283) ∧ Tb I
theorem LI.mk {T : Sh} {A : AN} {M K : Mi} {tp u e : Nat} {L Bt W P Y N : Nat → Int} (hK : KSh T A) (hC : KC K A tp L Bt u e W P Y N) (hf : ∀ b, b < 274 ∨ 291 ≤ b → M b = K b) (r280 : M 280 = L) (r275 : M 275 = Bt) (r285 : M 285 = W) (r286 : M 286 = P) (r287 : M 287 = Y) (r283 : M 283 = N) (h1 : M 274 1 = (tp : Int)) (h16 : M 274 16 = (u : Int)) (h17 : M 274 17 = -1) (hw : wOk W) (hp : pOk P) (hV : FV u W P Y N) (hT : Tb M) : LI T M := by
  have h := KC_fr (z := 274) (w := 17) hK hC (fun b hb => hf b (by omega)) (Or.inr ⟨by decide, by decide⟩)
  subst r280 r275 r285 r286 r287 r283
  exact ⟨A, tp, u, e, hK, h, ⟨h1, h16, h17⟩, hw, hp, hV, hT⟩
theorem LI.fr {T : Sh} {I K : Mi} {z w : Nat} (h : LI T I) (hf : ∀ b, b < z ∨ z + w ≤ b → K b = I b) (hz : 208 ≤ z ∧ z + w ≤ 219) : LI T K := by
  obtain ⟨A, tp, u, e0, hK, hC, h1, h2, h3, h5, h4⟩ := h
  have hC2 := KC_fr hK hC hf (Or.inl hz)
  have ef : ∀ b, 274 ≤ b → K b = I b := fun b hb => hf b (by omega)
  refine ⟨A, tp, u, e0, hK, ?_, ?_, ?_, ?_, ?_, h4.eq (ef _ (by decide)) (ef _ (by decide)) (ef _ (by decide)) (ef _ (by decide))⟩
  · rw [ef 280 (by decide), ef 275 (by decide), ef 285 (by decide), ef 286 (by decide), ef 287 (by decide), ef 283 (by decide)]; exact hC2
  · rw [ef 274 (by decide)]; exact h1
  · rw [ef 285 (by decide)]; exact h2
  · rw [ef 286 (by decide)]; exact h3
  · rw [ef 285 (by decide), ef 286 (by decide), ef 287 (by decide), ef 283 (by decide)]; exact h5
theorem bkH_m {I : Mi} {H : Nat → Int} (h : H 17 = -1) : bkH I H = I 280 5 := by unfold bkH; rw [h]; rfl
theorem bkI_m {I : Mi} (h : I 274 17 = -1) : bkI I = I 280 5 := by unfold bkI; rw [h]; rfl
theorem p_signal {G : Gl} {d : Nat} {T : Sh} {I : Mi} {Q : Option AV → Sh → Mi → Prop} {s w : Int} (h : LI T I) (hd : 10 ≤ d) (hq : ∀ (U : Sh) (K : Mi) (v : Int), ShM U → (∀ Q2 : Option AV → Sh → Mi → Prop, (∀ M, LI U M → Q2 (some (aI v)) U M) → EvE G mX12_signal (d - 1) [aR 274, aI s, aI w] U K Q2) → Q (some (aI v)) U K) : EvE G mX11_signal (d - 1) [aR 0, aI s, aI w] T I Q := by
  obtain ⟨A, tp, u, e, hK, hC, ⟨h1, h16, h17⟩, hw, hp, hV, hTb⟩ := id h
  have hM : ShM T := hK.2.1
  obtain ⟨⟨hL, hLp⟩, hTp, ⟨hst, htc, ⟨q, n, hNo⟩, h26⟩, hRg, hIm⟩ := id hC
  have hS := sK0 hK
  have hn := hNo.1.2.1
  have hn2 := hNo.1.2.2.1
  have hR := hNo.1.1
  have hLd := hNo.2.1
  have hq6 := hNo.1.2.2.2.1
  have hN2 := hNo.2.2.1
  have hstg := hNo.2.2.2
  have hpl := hLp
  unfold plOk at hpl
  have h6r := ok_6.mp (hR 6)
  refine k_signal (L := I 280) hK hS (by omega) hst htc hNo (by unfold sgV; split <;> omega) (hq _ _ _ hM (fun Q2 hq2 => EvE.mem (ch_R1 rfl) ?_))
  exact c_signal hM (by omega) (by omega) (by omega) (by rw [sr_id]; exact hq2 _ h)
theorem p_key {G : Gl} {d : Nat} {T : Sh} {I : Mi} {Q : Option AV → Sh → Mi → Prop} {s w : Int} (h : LI T I) (hd : 10 ≤ d) (hq : ∀ (U : Sh) (K : Mi) (v : Int), ShM U → (∀ Q2 : Option AV → Sh → Mi → Prop, (∀ M, LI U M → Q2 (some (aI v)) U M) → EvE G mX12_key (d - 1) [aR 274, aI s, aI w] U K Q2) → Q (some (aI v)) U K) : EvE G mX11_key (d - 1) [aR 0, aI s, aI w] T I Q := by
  obtain ⟨A, tp, u, e, hK, hC, ⟨h1, h16, h17⟩, hw, hp, hV, hTb⟩ := id h
  have hM : ShM T := hK.2.1
  obtain ⟨⟨hL, hLp⟩, hTp, ⟨hst, htc, ⟨q, n, hNo⟩, h26⟩, hRg, hIm⟩ := id hC
  have hS := sK0 hK
  have hn := hNo.1.2.1
  have hn2 := hNo.1.2.2.1
  have hR := hNo.1.1
  have hLd := hNo.2.1
  have hq6 := hNo.1.2.2.2.1
  have hN2 := hNo.2.2.1
  have hstg := hNo.2.2.2
  have hpl := hLp
  unfold plOk at hpl
  have h6r := ok_6.mp (hR 6)
  refine k_key hK hS (by omega) hst htc hNo (hq _ _ _ hM (fun Q2 hq2 => EvE.mem (ch_R1 rfl) ?_))
  exact c_key hM (by omega) hn hn2 (by rw [sr_id]; exact hq2 _ h)
theorem p_order {G : Gl} {d : Nat} {T : Sh} {I : Mi} {Q : Option AV → Sh → Mi → Prop} {s w : Int} (h : LI T I) (hd : 10 ≤ d) (hq : ∀ (U : Sh) (K : Mi) (v : Int), ShM U → (∀ Q2 : Option AV → Sh → Mi → Prop, (∀ M, LI U M → Q2 (some (aI v)) U M) → EvE G mX12_order (d - 1) [aR 274, aI s, aI w] U K Q2) → Q (some (aI v)) U K) : EvE G mX11_order (d - 1) [aR 0, aI s, aI w] T I Q := by
  obtain ⟨A, tp, u, e, hK, hC, ⟨h1, h16, h17⟩, hw, hp, hV, hTb⟩ := id h
  have hM : ShM T := hK.2.1
  obtain ⟨⟨hL, hLp⟩, hTp, ⟨hst, htc, ⟨q, n, hNo⟩, h26⟩, hRg, hIm⟩ := id hC
  have hS := sK0 hK
  have hn := hNo.1.2.1
  have hn2 := hNo.1.2.2.1
  have hR := hNo.1.1
  have hLd := hNo.2.1
  have hq6 := hNo.1.2.2.2.1
  have hN2 := hNo.2.2.1
  have hstg := hNo.2.2.2
  have hpl := hLp
  unfold plOk at hpl
  have h6r := ok_6.mp (hR 6)
  refine k_order hK hS (by omega) hst htc hNo (hq _ _ _ hM (fun Q2 hq2 => EvE.mem (ch_R1 rfl) ?_))
  exact c_order hM (by omega) hn hn2 (by omega) (by rw [sr_id]; exact hq2 _ h)
theorem p_last {G : Gl} {d : Nat} {T : Sh} {I : Mi} {Q : Option AV → Sh → Mi → Prop} {s w : Int} (h : LI T I) (hd : 10 ≤ d) (hq : ∀ (U : Sh) (K : Mi) (v : Int), ShM U → (∀ Q2 : Option AV → Sh → Mi → Prop, (∀ M, LI U M → Q2 (some (aI v)) U M) → EvE G mX12_last (d - 1) [aR 274, aI s, aI w] U K Q2) → Q (some (aI v)) U K) : EvE G mX11_last (d - 1) [aR 0, aI s, aI w] T I Q := by
  obtain ⟨A, tp, u, e, hK, hC, ⟨h1, h16, h17⟩, hw, hp, hV, hTb⟩ := id h
  have hM : ShM T := hK.2.1
  obtain ⟨⟨hL, hLp⟩, hTp, ⟨hst, htc, ⟨q, n, hNo⟩, h26⟩, hRg, hIm⟩ := id hC
  have hS := sK0 hK
  have hn := hNo.1.2.1
  have hn2 := hNo.1.2.2.1
  have hR := hNo.1.1
  have hLd := hNo.2.1
  have hq6 := hNo.1.2.2.2.1
  have hN2 := hNo.2.2.1
  have hstg := hNo.2.2.2
  have hpl := hLp
  unfold plOk at hpl
  have h6r := ok_6.mp (hR 6)
  refine k_last hK hS hst htc hNo (hq _ _ _ hM (fun Q2 hq2 => EvE.mem (ch_R1 rfl) ?_))
  exact c_last hM (by omega) (by omega) (by omega) (by rw [sr_id]; exact hq2 _ h)
theorem p_spied {G : Gl} {d : Nat} {T : Sh} {I : Mi} {Q : Option AV → Sh → Mi → Prop} {s : Int} (h : LI T I) (hd : 10 ≤ d) (hq : ∀ (U : Sh) (K : Mi) (v : Int), ShM U → (∀ Q2 : Option AV → Sh → Mi → Prop, (∀ M, LI U M → Q2 (some (aI v)) U M) → EvE G mX12_spied (d - 1) [aR 274, aI s] U K Q2) → Q (some (aI v)) U K) : EvE G mX11_spied (d - 1) [aR 0, aI s] T I Q := by
  obtain ⟨A, tp, u, e, hK, hC, ⟨h1, h16, h17⟩, hw, hp, hV, hTb⟩ := id h
  have hM : ShM T := hK.2.1
  obtain ⟨⟨hL, hLp⟩, hTp, ⟨hst, htc, ⟨q, n, hNo⟩, h26⟩, hRg, hIm⟩ := id hC
  have hS := sK0 hK
  have hn := hNo.1.2.1
  have hn2 := hNo.1.2.2.1
  have hR := hNo.1.1
  have hLd := hNo.2.1
  have hq6 := hNo.1.2.2.2.1
  have hN2 := hNo.2.2.1
  have hstg := hNo.2.2.2
  have hpl := hLp
  unfold plOk at hpl
  have h6r := ok_6.mp (hR 6)
  refine k_spied hK hS (by omega) hst htc hNo (hq _ _ _ hM (fun Q2 hq2 => EvE.mem (ch_R1 rfl) ?_))
  exact c_spied hM (by omega) hn hn2 (Rng_F hR) (by rw [sr_id]; exact hq2 _ h)
theorem p_count {G : Gl} {d : Nat} {T : Sh} {I : Mi} {Q : Option AV → Sh → Mi → Prop} {w : Int} (h : LI T I) (hd : 10 ≤ d) (hq : ∀ (U : Sh) (K : Mi) (v : Int), ShM U → (∀ Q2 : Option AV → Sh → Mi → Prop, (∀ M, LI U M → Q2 (some (aI v)) U M) → EvE G mX12_count (d - 1) [aR 274, aI w] U K Q2) → Q (some (aI v)) U K) : EvE G mX11_count (d - 1) [aR 0, aI w] T I Q := by
  obtain ⟨A, tp, u, e, hK, hC, ⟨h1, h16, h17⟩, hw, hp, hV, hTb⟩ := id h
  have hM : ShM T := hK.2.1
  obtain ⟨⟨hL, hLp⟩, hTp, ⟨hst, htc, ⟨q, n, hNo⟩, h26⟩, hRg, hIm⟩ := id hC
  have hS := sK0 hK
  have hn := hNo.1.2.1
  have hn2 := hNo.1.2.2.1
  have hR := hNo.1.1
  have hLd := hNo.2.1
  have hq6 := hNo.1.2.2.2.1
  have hN2 := hNo.2.2.1
  have hstg := hNo.2.2.2
  have hpl := hLp
  unfold plOk at hpl
  have h6r := ok_6.mp (hR 6)
  refine k_count (L := I 280) hK hS (by omega) hst htc hNo hRg.2.1.1 hTp.1 (hq _ _ _ hM (fun Q2 hq2 => EvE.mem (ch_R1 rfl) ?_))
  refine c_count hM (by omega) hn hn2 (by omega) (by omega) ?_
  have e : cntA I (I 283) n w = cntB (I 280) (I 283) n u tp w := by unfold cntA cntB; rw [h1, h16]; rfl
  rw [e, sr_id]; exact hq2 _ h
theorem p_setting {G : Gl} {d : Nat} {T : Sh} {I : Mi} {Q : Option AV → Sh → Mi → Prop} {x : Int} (h : LI T I) (hd : 10 ≤ d) (hq : ∀ (U : Sh) (K : Mi) (v : Int), ShM U → (∀ Q2 : Option AV → Sh → Mi → Prop, (∀ M, LI U M → Q2 (some (aI v)) U M) → EvE G mX12_setting (d - 1) [aR 274, aI x] U K Q2) → Q (some (aI v)) U K) : EvE G mX11_setting (d - 1) [aR 0, aI x] T I Q := by
  obtain ⟨A, tp, u, e, hK, hC, ⟨h1, h16, h17⟩, hw, hp, hV, hTb⟩ := id h
  have hM : ShM T := hK.2.1
  obtain ⟨⟨hL, hLp⟩, hTp, ⟨hst, htc, ⟨q, n, hNo⟩, h26⟩, hRg, hIm⟩ := id hC
  have hS := sK0 hK
  have hn := hNo.1.2.1
  have hn2 := hNo.1.2.2.1
  have hR := hNo.1.1
  have hLd := hNo.2.1
  have hq6 := hNo.1.2.2.2.1
  have hN2 := hNo.2.2.1
  have hstg := hNo.2.2.2
  have hpl := hLp
  unfold plOk at hpl
  have h6r := ok_6.mp (hR 6)
  refine k_setting (L := I 280) hK hS (by omega) hst htc hNo hL (hq _ _ _ hM (fun Q2 hq2 => ?_))
  refine c_setting hM (by omega) ?_
  have e : setA I x = (if 0 ≤ x ∧ x < 9 then I 280 x.toNat else -1) := by
    unfold setA
    by_cases g : 0 ≤ x ∧ x ≤ 8
    · rw [if_pos g, if_pos (by omega)]
    · rw [if_neg g, if_neg (by omega)]
  rw [e]; exact hq2 _ h
theorem p_block {G : Gl} {d : Nat} {T : Sh} {I : Mi} {Q : Option AV → Sh → Mi → Prop} {s x w : Int} (h : LI T I) (hd : 10 ≤ d) (hx : in32 x) (hq : ∀ (U : Sh) (K : Mi) (v : Int), ShM U → (∀ Q2 : Option AV → Sh → Mi → Prop, (∀ M, LI U M → Q2 (some (aI v)) U M) → EvE G mX12_block (d - 1) [aR 274, aI s, aI x, aI w] U K Q2) → Q (some (aI v)) U K) : EvE G mX11_block (d - 1) [aR 0, aI s, aI x, aI w] T I Q := by
  obtain ⟨A, tp, u, e, hK, hC, ⟨h1, h16, h17⟩, hw, hp, hV, hTb⟩ := id h
  have hM : ShM T := hK.2.1
  obtain ⟨⟨hL, hLp⟩, hTp, ⟨hst, htc, ⟨q, n, hNo⟩, h26⟩, hRg, hIm⟩ := id hC
  have hS := sK0 hK
  have hn := hNo.1.2.1
  have hn2 := hNo.1.2.2.1
  have hR := hNo.1.1
  have hLd := hNo.2.1
  have hq6 := hNo.1.2.2.2.1
  have hN2 := hNo.2.2.1
  have hstg := hNo.2.2.2
  have hpl := hLp
  unfold plOk at hpl
  have h6r := ok_6.mp (hR 6)
  obtain ⟨B, h5⟩ : ∃ B : Nat, I 280 5 = (B : Int) := ⟨(I 280 5).toNat, by omega⟩
  refine k_block (L := I 280) (B := B) hK hS (by omega) hst htc hNo hL h5 (by omega) (by omega) (fun hno => hq _ _ _ hM (fun Q2 hq2 => EvE.mem (ch_R1 rfl) ?_)) (fun p2 k2 e1 e2 hok => hq _ _ _ hM (fun Q2 hq2 => EvE.mem (ch_R1 rfl) ?_))
  · exact c_block (B := B) hM (by omega) hn hn2 hR ((bkI_m h17).trans h5) (by omega) hx (fun _ => by rw [sr_id]; exact hq2 _ h) (fun _ _ _ _ g => absurd g hno)
  · refine c_block (B := B) hM (by omega) hn hn2 hR ((bkI_m h17).trans h5) (by omega) hx (fun g => absurd hok g) (fun p3 k3 f1 f2 _ => ?_)
    obtain rfl : p3 = p2 := by omega
    obtain rfl : k3 = k2 := by omega
    rw [sr_id]; exact hq2 _ h
end C75

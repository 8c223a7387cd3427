section C76
variable {G : Gl} {d : Nat} {T : Sh} {I : Mi} {N : Nat → Int} {Q : Option AV → Sh → Mi → Prop}
theorem p_ledger {G : Gl} {d : Nat} {T : Sh} {I : Mi} {Q : Option AV → Sh → Mi → Prop} {s w : Int} (h : LI T I) (hd : 10 ≤ d) (hq : ∀ (U : Sh) (K : Mi) (v : Int), ShM U → (∀ Q2 : Option AV → Sh → Mi → Prop, (∀ M, LI U M → Q2 (some (aI v)) U M) → EvE G mX12_ledger (d - 1) [aR 274, aI s, aI w] U K Q2) → Q (some (aI v)) U K) : EvE G mX11_ledger (d - 1) [aR 0, aI s, aI w] T I Q := by
  obtain ⟨A, tp, u, e, hK, hC, ⟨h1, h16, h17⟩, hw, hp, hV, hTb⟩ := id h
  have hM : ShM T := hK.2.1
  obtain ⟨⟨hL, hLp⟩, hTp, ⟨hst, htc, ⟨q, n, hNo⟩, h26⟩, hRg, hIm⟩ := id hC
  have hS := sK0 hK
  have hn := hNo.1.2.1
  have hn2 := hNo.1.2.2.1
  have hR := hNo.1.1
  have hLd := hNo.2.1
  have hq6 := hNo.1.2.2.2.1
  have hN2 := hNo.2.2.1
  have hstg := hNo.2.2.2
  have hpl := hLp
  unfold plOk at hpl
  have h6r := ok_6.mp (hR 6)
  refine k_ledger (X := I 288) hK hS (by omega) hst htc hNo (hq _ _ _ hM (fun Q2 hq2 => EvE.mem (ch_S5 rfl rfl rfl rfl rfl) ?_))
  exact c_ledger hM (by omega) hn hn2 hR hLd hq6 (fun S2 Z2 Y2 K2 hkp => hq2 _ (LI.mk hK hC (fun b hb => by rw [sr_ne (by omega), sr_ne (by omega), sr_ne (by omega), sr_ne (by omega), sr_ne (by omega)]) ((sr_ne (by decide)).trans ((sr_ne (by decide)).trans ((sr_ne (by decide)).trans ((sr_ne (by decide)).trans ((sr_ne (by decide)).trans (rfl)))))) ((sr_ne (by decide)).trans ((sr_ne (by decide)).trans ((sr_ne (by decide)).trans ((sr_ne (by decide)).trans ((sr_ne (by decide)).trans (rfl)))))) ((sr_ne (by decide)).trans ((sr_ne (by decide)).trans ((sr_ne (by decide)).trans ((sr_ne (by decide)).trans ((sr_ne (by decide)).trans (rfl)))))) ((sr_ne (by decide)).trans ((sr_ne (by decide)).trans ((sr_ne (by decide)).trans ((sr_ne (by decide)).trans ((sr_ne (by decide)).trans (rfl)))))) ((sr_ne (by decide)).trans ((sr_ne (by decide)).trans ((sr_ne (by decide)).trans ((sr_ne (by decide)).trans ((sr_ne (by decide)).trans (rfl)))))) (sr_row _ _ _) ((congrFun ((sr_ne (by decide)).trans (sr_row _ _ _)) 1).trans ((hkp 1 (by decide)).trans h1)) ((congrFun ((sr_ne (by decide)).trans (sr_row _ _ _)) 16).trans ((hkp 16 (by decide)).trans h16)) ((congrFun ((sr_ne (by decide)).trans (sr_row _ _ _)) 17).trans ((hkp 17 (by decide)).trans h17)) hw hp hV (Tb.eq hTb ((sr_ne (by decide)).trans ((sr_ne (by decide)).trans ((sr_ne (by decide)).trans ((sr_ne (by decide)).trans ((sr_ne (by decide)).trans (rfl)))))) ((sr_ne (by decide)).trans ((sr_ne (by decide)).trans ((sr_ne (by decide)).trans ((sr_ne (by decide)).trans ((sr_ne (by decide)).trans (rfl)))))) ((sr_ne (by decide)).trans ((sr_ne (by decide)).trans ((sr_ne (by decide)).trans ((sr_ne (by decide)).trans ((sr_ne (by decide)).trans (rfl)))))) ((sr_ne (by decide)).trans ((sr_ne (by decide)).trans ((sr_ne (by decide)).trans ((sr_ne (by decide)).trans ((sr_ne (by decide)).trans (rfl)))))))))
theorem p_isIn {G : Gl} {d : Nat} {T : Sh} {I : Mi} {Q : Option AV → Sh → Mi → Prop} {s w : Int} (h : LI T I) (hd : 10 ≤ d) (hq : ∀ (U : Sh) (K : Mi) (v : Int), ShM U → (∀ Q2 : Option AV → Sh → Mi → Prop, (∀ M, LI U M → Q2 (some (aI v)) U M) → EvE G mX12_isIn (d - 1) [aR 274, aI s, aI w] U K Q2) → Q (some (aI v)) U K) : EvE G mX11_isIn (d - 1) [aR 0, aI s, aI w] T I Q := by
  obtain ⟨A, tp, u, e, hK, hC, ⟨h1, h16, h17⟩, hw, hp, hV, hTb⟩ := id h
  have hM : ShM T := hK.2.1
  obtain ⟨⟨hL, hLp⟩, hTp, ⟨hst, htc, ⟨q, n, hNo⟩, h26⟩, hRg, hIm⟩ := id hC
  have hS := sK0 hK
  have hn := hNo.1.2.1
  have hn2 := hNo.1.2.2.1
  have hR := hNo.1.1
  have hLd := hNo.2.1
  have hq6 := hNo.1.2.2.2.1
  have hN2 := hNo.2.2.1
  have hstg := hNo.2.2.2
  have hpl := hLp
  unfold plOk at hpl
  have h6r := ok_6.mp (hR 6)
  refine k_isIn (X := I 288) hK hS (by omega) hst htc hNo (hq _ _ _ hM (fun Q2 hq2 => EvE.mem (ch_S5 rfl rfl rfl rfl rfl) ?_))
  exact c_isIn hM (by omega) hn hn2 hR hLd hq6 (fun S2 Z2 Y2 K2 hkp => hq2 _ (LI.mk hK hC (fun b hb => by rw [sr_ne (by omega), sr_ne (by omega), sr_ne (by omega), sr_ne (by omega), sr_ne (by omega)]) ((sr_ne (by decide)).trans ((sr_ne (by decide)).trans ((sr_ne (by decide)).trans ((sr_ne (by decide)).trans ((sr_ne (by decide)).trans (rfl)))))) ((sr_ne (by decide)).trans ((sr_ne (by decide)).trans ((sr_ne (by decide)).trans ((sr_ne (by decide)).trans ((sr_ne (by decide)).trans (rfl)))))) ((sr_ne (by decide)).trans ((sr_ne (by decide)).trans ((sr_ne (by decide)).trans ((sr_ne (by decide)).trans ((sr_ne (by decide)).trans (rfl)))))) ((sr_ne (by decide)).trans ((sr_ne (by decide)).trans ((sr_ne (by decide)).trans ((sr_ne (by decide)).trans ((sr_ne (by decide)).trans (rfl)))))) ((sr_ne (by decide)).trans ((sr_ne (by decide)).trans ((sr_ne (by decide)).trans ((sr_ne (by decide)).trans ((sr_ne (by decide)).trans (rfl)))))) (sr_row _ _ _) ((congrFun ((sr_ne (by decide)).trans (sr_row _ _ _)) 1).trans ((hkp 1 (by decide)).trans h1)) ((congrFun ((sr_ne (by decide)).trans (sr_row _ _ _)) 16).trans ((hkp 16 (by decide)).trans h16)) ((congrFun ((sr_ne (by decide)).trans (sr_row _ _ _)) 17).trans ((hkp 17 (by decide)).trans h17)) hw hp hV (Tb.eq hTb ((sr_ne (by decide)).trans ((sr_ne (by decide)).trans ((sr_ne (by decide)).trans ((sr_ne (by decide)).trans ((sr_ne (by decide)).trans (rfl)))))) ((sr_ne (by decide)).trans ((sr_ne (by decide)).trans ((sr_ne (by decide)).trans ((sr_ne (by decide)).trans ((sr_ne (by decide)).trans (rfl)))))) ((sr_ne (by decide)).trans ((sr_ne (by decide)).trans ((sr_ne (by decide)).trans ((sr_ne (by decide)).trans ((sr_ne (by decide)).trans (rfl)))))) ((sr_ne (by decide)).trans ((sr_ne (by decide)).trans ((sr_ne (by decide)).trans ((sr_ne (by decide)).trans ((sr_ne (by decide)).trans (rfl)))))))))
theorem m_rank {G : Gl} {d n q : Nat} {T : Sh} {I : Mi} {Q2 : Option AV → Sh → Mi → Prop} (h : LI T I) (hd : 10 ≤ d) (hNo : NOk (I 283) q n) (hq2 : ∀ M, LI T M → Q2 (some (aI (rkD (I 283) n (I 288) (I 289) (I 290)).2.2.2)) T M) : EvE G mX12_rank (d - 1) [aR 274] T I Q2 := by
  obtain ⟨A, tp, u, e, hK, hC, ⟨h1, h16, h17⟩, hw, hp, hV, hTb⟩ := id h
  have hM : ShM T := hK.2.1
  obtain ⟨⟨hL, hLp⟩, hTp, ⟨hst, htc, ⟨q0, n0, hNo0⟩, h26⟩, hRg, hIm⟩ := id hC
  have hS := sK0 hK
  have hn := hNo.1.2.1
  have hn2 := hNo.1.2.2.1
  have hR := hNo.1.1
  have hLd := hNo.2.1
  have hq6 := hNo.1.2.2.2.1
  have hN2 := hNo.2.2.1
  have hstg := hNo.2.2.2
  have hpl := hLp
  unfold plOk at hpl
  have h6r := ok_6.mp (hR 6)
  refine EvE.mem (ch_S5 rfl rfl rfl rfl rfl) ?_
  exact c_rank hM (by omega) hn hn2 hR hLd hq6 (fun S2 Z2 Y2 K2 hkp => hq2 _ (LI.mk hK hC (fun b hb => by rw [sr_ne (by omega), sr_ne (by omega), sr_ne (by omega), sr_ne (by omega), sr_ne (by omega)]) ((sr_ne (by decide)).trans ((sr_ne (by decide)).trans ((sr_ne (by decide)).trans ((sr_ne (by decide)).trans ((sr_ne (by decide)).trans (rfl)))))) ((sr_ne (by decide)).trans ((sr_ne (by decide)).trans ((sr_ne (by decide)).trans ((sr_ne (by decide)).trans ((sr_ne (by decide)).trans (rfl)))))) ((sr_ne (by decide)).trans ((sr_ne (by decide)).trans ((sr_ne (by decide)).trans ((sr_ne (by decide)).trans ((sr_ne (by decide)).trans (rfl)))))) ((sr_ne (by decide)).trans ((sr_ne (by decide)).trans ((sr_ne (by decide)).trans ((sr_ne (by decide)).trans ((sr_ne (by decide)).trans (rfl)))))) ((sr_ne (by decide)).trans ((sr_ne (by decide)).trans ((sr_ne (by decide)).trans ((sr_ne (by decide)).trans ((sr_ne (by decide)).trans (rfl)))))) (sr_row _ _ _) ((congrFun ((sr_ne (by decide)).trans (sr_row _ _ _)) 1).trans ((hkp 1 (by decide)).trans h1)) ((congrFun ((sr_ne (by decide)).trans (sr_row _ _ _)) 16).trans ((hkp 16 (by decide)).trans h16)) ((congrFun ((sr_ne (by decide)).trans (sr_row _ _ _)) 17).trans ((hkp 17 (by decide)).trans h17)) hw hp hV (Tb.eq hTb ((sr_ne (by decide)).trans ((sr_ne (by decide)).trans ((sr_ne (by decide)).trans ((sr_ne (by decide)).trans ((sr_ne (by decide)).trans (rfl)))))) ((sr_ne (by decide)).trans ((sr_ne (by decide)).trans ((sr_ne (by decide)).trans ((sr_ne (by decide)).trans ((sr_ne (by decide)).trans (rfl)))))) ((sr_ne (by decide)).trans ((sr_ne (by decide)).trans ((sr_ne (by decide)).trans ((sr_ne (by decide)).trans ((sr_ne (by decide)).trans (rfl)))))) ((sr_ne (by decide)).trans ((sr_ne (by decide)).trans ((sr_ne (by decide)).trans ((sr_ne (by decide)).trans ((sr_ne (by decide)).trans (rfl)))))))))
theorem m_fixed {G : Gl} {d n q : Nat} {x : Int} {T : Sh} {I : Mi} {Q2 : Option AV → Sh → Mi → Prop} (h : LI T I) (hd : 10 ≤ d) (hNo : NOk (I 283) q n) (hq2 : ∀ M, LI T M → Q2 (some (aI (fxA (rkD (I 283) n (I 288) (I 289) (I 290)) n x))) T M) : EvE G mX12_fixed (d - 1) [aR 274, aI x] T I Q2 := by
  obtain ⟨A, tp, u, e, hK, hC, ⟨h1, h16, h17⟩, hw, hp, hV, hTb⟩ := id h
  have hM : ShM T := hK.2.1
  obtain ⟨⟨hL, hLp⟩, hTp, ⟨hst, htc, ⟨q0, n0, hNo0⟩, h26⟩, hRg, hIm⟩ := id hC
  have hS := sK0 hK
  have hn := hNo.1.2.1
  have hn2 := hNo.1.2.2.1
  have hR := hNo.1.1
  have hLd := hNo.2.1
  have hq6 := hNo.1.2.2.2.1
  have hN2 := hNo.2.2.1
  have hstg := hNo.2.2.2
  have hpl := hLp
  unfold plOk at hpl
  have h6r := ok_6.mp (hR 6)
  refine EvE.mem (ch_S5 rfl rfl rfl rfl rfl) ?_
  exact c_fixed hM (by omega) hn hn2 hR hLd hq6 (fun S2 Z2 Y2 K2 hkp => hq2 _ (LI.mk hK hC (fun b hb => by rw [sr_ne (by omega), sr_ne (by omega), sr_ne (by omega), sr_ne (by omega), sr_ne (by omega)]) ((sr_ne (by decide)).trans ((sr_ne (by decide)).trans ((sr_ne (by decide)).trans ((sr_ne (by decide)).trans ((sr_ne (by decide)).trans (rfl)))))) ((sr_ne (by decide)).trans ((sr_ne (by decide)).trans ((sr_ne (by decide)).trans ((sr_ne (by decide)).trans ((sr_ne (by decide)).trans (rfl)))))) ((sr_ne (by decide)).trans ((sr_ne (by decide)).trans ((sr_ne (by decide)).trans ((sr_ne (by decide)).trans ((sr_ne (by decide)).trans (rfl)))))) ((sr_ne (by decide)).trans ((sr_ne (by decide)).trans ((sr_ne (by decide)).trans ((sr_ne (by decide)).trans ((sr_ne (by decide)).trans (rfl)))))) ((sr_ne (by decide)).trans ((sr_ne (by decide)).trans ((sr_ne (by decide)).trans ((sr_ne (by decide)).trans ((sr_ne (by decide)).trans (rfl)))))) (sr_row _ _ _) ((congrFun ((sr_ne (by decide)).trans (sr_row _ _ _)) 1).trans ((hkp 1 (by decide)).trans h1)) ((congrFun ((sr_ne (by decide)).trans (sr_row _ _ _)) 16).trans ((hkp 16 (by decide)).trans h16)) ((congrFun ((sr_ne (by decide)).trans (sr_row _ _ _)) 17).trans ((hkp 17 (by decide)).trans h17)) hw hp hV (Tb.eq hTb ((sr_ne (by decide)).trans ((sr_ne (by decide)).trans ((sr_ne (by decide)).trans ((sr_ne (by decide)).trans ((sr_ne (by decide)).trans (rfl)))))) ((sr_ne (by decide)).trans ((sr_ne (by decide)).trans ((sr_ne (by decide)).trans ((sr_ne (by decide)).trans ((sr_ne (by decide)).trans (rfl)))))) ((sr_ne (by decide)).trans ((sr_ne (by decide)).trans ((sr_ne (by decide)).trans ((sr_ne (by decide)).trans ((sr_ne (by decide)).trans (rfl)))))) ((sr_ne (by decide)).trans ((sr_ne (by decide)).trans ((sr_ne (by decide)).trans ((sr_ne (by decide)).trans ((sr_ne (by decide)).trans (rfl)))))))))
theorem m_secret {G : Gl} {d n q l : Nat} {x : Int} {T : Sh} {I : Mi} {Q2 : Option AV → Sh → Mi → Prop} (h : LI T I) (hd : 10 ≤ d) (hNo : NOk (I 283) q n) (hl : I 283 6 = (l : Int)) (hl2 : l ≤ 256) (hq2 : ∀ M, LI T M → Q2 (some (aI (scA (I 283) n l (rkD (I 283) n (I 288) (I 289) (I 290)) x))) T M) : EvE G mX12_secret (d - 1) [aR 274, aI x] T I Q2 := by
  obtain ⟨A, tp, u, e, hK, hC, ⟨h1, h16, h17⟩, hw, hp, hV, hTb⟩ := id h
  have hM : ShM T := hK.2.1
  obtain ⟨⟨hL, hLp⟩, hTp, ⟨hst, htc, ⟨q0, n0, hNo0⟩, h26⟩, hRg, hIm⟩ := id hC
  have hS := sK0 hK
  have hn := hNo.1.2.1
  have hn2 := hNo.1.2.2.1
  have hR := hNo.1.1
  have hLd := hNo.2.1
  have hq6 := hNo.1.2.2.2.1
  have hN2 := hNo.2.2.1
  have hstg := hNo.2.2.2
  have hpl := hLp
  unfold plOk at hpl
  have h6r := ok_6.mp (hR 6)
  refine EvE.mem (ch_S5 rfl rfl rfl rfl rfl) ?_
  exact c_secret hM (by omega) hn hn2 hR hLd hq6 hl hl2 rfl (fun S2 Z2 Y2 K2 hkp => hq2 _ (LI.mk hK hC (fun b hb => by rw [sr_ne (by omega), sr_ne (by omega), sr_ne (by omega), sr_ne (by omega), sr_ne (by omega)]) ((sr_ne (by decide)).trans ((sr_ne (by decide)).trans ((sr_ne (by decide)).trans ((sr_ne (by decide)).trans ((sr_ne (by decide)).trans (rfl)))))) ((sr_ne (by decide)).trans ((sr_ne (by decide)).trans ((sr_ne (by decide)).trans ((sr_ne (by decide)).trans ((sr_ne (by decide)).trans (rfl)))))) ((sr_ne (by decide)).trans ((sr_ne (by decide)).trans ((sr_ne (by decide)).trans ((sr_ne (by decide)).trans ((sr_ne (by decide)).trans (rfl)))))) ((sr_ne (by decide)).trans ((sr_ne (by decide)).trans ((sr_ne (by decide)).trans ((sr_ne (by decide)).trans ((sr_ne (by decide)).trans (rfl)))))) ((sr_ne (by decide)).trans ((sr_ne (by decide)).trans ((sr_ne (by decide)).trans ((sr_ne (by decide)).trans ((sr_ne (by decide)).trans (rfl)))))) (sr_row _ _ _) ((congrFun ((sr_ne (by decide)).trans (sr_row _ _ _)) 1).trans ((hkp 1 (by decide)).trans h1)) ((congrFun ((sr_ne (by decide)).trans (sr_row _ _ _)) 16).trans ((hkp 16 (by decide)).trans h16)) ((congrFun ((sr_ne (by decide)).trans (sr_row _ _ _)) 17).trans ((hkp 17 (by decide)).trans h17)) hw hp hV (Tb.eq hTb ((sr_ne (by decide)).trans ((sr_ne (by decide)).trans ((sr_ne (by decide)).trans ((sr_ne (by decide)).trans ((sr_ne (by decide)).trans (rfl)))))) ((sr_ne (by decide)).trans ((sr_ne (by decide)).trans ((sr_ne (by decide)).trans ((sr_ne (by decide)).trans ((sr_ne (by decide)).trans (rfl)))))) ((sr_ne (by decide)).trans ((sr_ne (by decide)).trans ((sr_ne (by decide)).trans ((sr_ne (by decide)).trans ((sr_ne (by decide)).trans (rfl)))))) ((sr_ne (by decide)).trans ((sr_ne (by decide)).trans ((sr_ne (by decide)).trans ((sr_ne (by decide)).trans ((sr_ne (by decide)).trans (rfl)))))))))
theorem p_rank {G : Gl} {d : Nat} {T : Sh} {I : Mi} {Q : Option AV → Sh → Mi → Prop} (h : LI T I) (hd : 10 ≤ d) (hq : ∀ (U : Sh) (K : Mi) (v : Int), ShM U → (∀ Q2 : Option AV → Sh → Mi → Prop, (∀ M, LI U M → Q2 (some (aI v)) U M) → EvE G mX12_rank (d - 1) [aR 274] U K Q2) → Q (some (aI v)) U K) : EvE G mX11_rank (d - 1) [aR 0] T I Q := by
  obtain ⟨A, tp, u, e, hK, hC, ⟨h1, h16, h17⟩, hw, hp, hV, hTb⟩ := id h
  have hM : ShM T := hK.2.1
  obtain ⟨⟨hL, hLp⟩, hTp, ⟨hst, htc, ⟨q, n, hNo⟩, h26⟩, hRg, hIm⟩ := id hC
  have hS := sK0 hK
  have hn := hNo.1.2.1
  have hn2 := hNo.1.2.2.1
  have hR := hNo.1.1
  have hLd := hNo.2.1
  have hq6 := hNo.1.2.2.2.1
  have hN2 := hNo.2.2.1
  have hstg := hNo.2.2.2
  have hpl := hLp
  unfold plOk at hpl
  have h6r := ok_6.mp (hR 6)
  refine k_rank (S := I 288) (Z := I 289) (Y := I 290) hK hS (by omega) hst htc hNo (fun K hf => hq _ _ _ hM (fun Q2 hq2 => ?_))
  have h2 : LI T K := LI.fr h hf (by decide)
  have e8 := hf 283 (by decide)
  have e88 := hf 288 (by decide)
  have e89 := hf 289 (by decide)
  have e90 := hf 290 (by decide)
  exact m_rank h2 hd (q := q) (n := n) (by rw [e8]; exact hNo) (by rw [e8, e88, e89, e90]; exact hq2)
theorem fx_no {N : Nat → Int} {D : (Nat → Int) × (Nat → Int) × (Nat → Int) × Int} {n : Nat} {x : Int} (h : ¬ (x = -1 ∨ (0 ≤ x ∧ x < (n : Int)))) : fxA D n x = -1 := by
  unfold fxA
  rw [if_neg (by omega), if_neg (by omega)]
theorem sc_no {N : Nat → Int} {D : (Nat → Int) × (Nat → Int) × (Nat → Int) × Int} {n l : Nat} {x : Int} (h : ¬ N 0 = 5) : scA N n l D x = -1 := by
  unfold scA
  rw [if_neg (by omega)]
theorem p_fixed {G : Gl} {d : Nat} {T : Sh} {I : Mi} {Q : Option AV → Sh → Mi → Prop} {x : Int} (h : LI T I) (hd : 10 ≤ d) (hq : ∀ (U : Sh) (K : Mi) (v : Int), ShM U → (∀ Q2 : Option AV → Sh → Mi → Prop, (∀ M, LI U M → Q2 (some (aI v)) U M) → EvE G mX12_fixed (d - 1) [aR 274, aI x] U K Q2) → Q (some (aI v)) U K) : EvE G mX11_fixed (d - 1) [aR 0, aI x] T I Q := by
  obtain ⟨A, tp, u, e, hK, hC, ⟨h1, h16, h17⟩, hw, hp, hV, hTb⟩ := id h
  have hM : ShM T := hK.2.1
  obtain ⟨⟨hL, hLp⟩, hTp, ⟨hst, htc, ⟨q, n, hNo⟩, h26⟩, hRg, hIm⟩ := id hC
  have hS := sK0 hK
  have hn := hNo.1.2.1
  have hn2 := hNo.1.2.2.1
  have hR := hNo.1.1
  have hLd := hNo.2.1
  have hq6 := hNo.1.2.2.2.1
  have hN2 := hNo.2.2.1
  have hstg := hNo.2.2.2
  have hpl := hLp
  unfold plOk at hpl
  have h6r := ok_6.mp (hR 6)
  refine k_fixed (S := I 288) (Z := I 289) (Y := I 290) hK hS (by omega) hst htc hNo (fun hno => hq _ _ _ hM (fun Q2 hq2 => m_fixed (n := n) (q := q) h hd hNo (by rw [fx_no (N := I 283) hno]; exact hq2))) (fun hok K hf => hq _ _ _ hM (fun Q2 hq2 => ?_))
  have h2 : LI T K := LI.fr h hf (by decide)
  have e8 := hf 283 (by decide)
  have e88 := hf 288 (by decide)
  have e89 := hf 289 (by decide)
  have e90 := hf 290 (by decide)
  exact m_fixed h2 hd (q := q) (n := n) (by rw [e8]; exact hNo) (by rw [e8, e88, e89, e90]; exact hq2)
theorem p_secret {G : Gl} {d : Nat} {T : Sh} {I : Mi} {Q : Option AV → Sh → Mi → Prop} {x : Int} (h : LI T I) (hd : 10 ≤ d) (hq : ∀ (U : Sh) (K : Mi) (v : Int), ShM U → (∀ Q2 : Option AV → Sh → Mi → Prop, (∀ M, LI U M → Q2 (some (aI v)) U M) → EvE G mX12_secret (d - 1) [aR 274, aI x] U K Q2) → Q (some (aI v)) U K) : EvE G mX11_secret (d - 1) [aR 0, aI x] T I Q := by
  obtain ⟨A, tp, u, e, hK, hC, ⟨h1, h16, h17⟩, hw, hp, hV, hTb⟩ := id h
  have hM : ShM T := hK.2.1
  obtain ⟨⟨hL, hLp⟩, hTp, ⟨hst, htc, ⟨q, n, hNo⟩, h26⟩, hRg, hIm⟩ := id hC
  have hS := sK0 hK
  have hn := hNo.1.2.1
  have hn2 := hNo.1.2.2.1
  have hR := hNo.1.1
  have hLd := hNo.2.1
  have hq6 := hNo.1.2.2.2.1
  have hN2 := hNo.2.2.1
  have hstg := hNo.2.2.2
  have hpl := hLp
  unfold plOk at hpl
  have h6r := ok_6.mp (hR 6)
  obtain ⟨l, hl⟩ : ∃ l : Nat, I 283 6 = (l : Int) := ⟨(I 283 6).toNat, by omega⟩
  refine k_secret (l := l) (S := I 288) (Z := I 289) (Y := I 290) hK hS (by omega) hst htc hNo hl ?_ (fun hno => hq _ _ _ hM (fun Q2 hq2 => m_secret (n := n) (q := q) h hd hNo hl (by omega) (by rw [sc_no hno]; exact hq2))) (fun hok K hf => hq _ _ _ hM (fun Q2 hq2 => ?_))
  · intro g; have := hV.1 g; omega
  have h2 : LI T K := LI.fr h hf (by decide)
  have e8 := hf 283 (by decide)
  have e88 := hf 288 (by decide)
  have e89 := hf 289 (by decide)
  have e90 := hf 290 (by decide)
  exact m_secret h2 hd (q := q) (n := n) (by rw [e8]; exact hNo) (by rw [e8]; exact hl) (by omega) (by rw [e8, e88, e89, e90]; exact hq2)
end C76

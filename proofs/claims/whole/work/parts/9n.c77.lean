section C77
variable {G : Gl} {d : Nat} {T : Sh} {I : Mi} {N : Nat → Int} {Q : Option AV → Sh → Mi → Prop}
theorem p_would {G : Gl} {d : Nat} {T : Sh} {I : Mi} {Q : Option AV → Sh → Mi → Prop} {x w : Int} (h : LI T I) (hd : 10 ≤ d) (hq : ∀ (U : Sh) (K : Mi) (v : Int), ShM U → (∀ Q2 : Option AV → Sh → Mi → Prop, (∀ M, LI U M → Q2 (some (aI v)) U M) → EvE G mX12_would (d - 1) [aR 274, aI x, aI w] U K Q2) → Q (some (aI v)) U K) : EvE G mX11_would (d - 1) [aR 0, aI x, aI w] T I Q := by
  obtain ⟨A, tp, u, e, hK, hC, ⟨h1, h16, h17⟩, hw, hp, hV, hTb⟩ := id h
  have hM : ShM T := hK.2.1
  obtain ⟨⟨hL, hLp⟩, hTp, ⟨hst, htc, ⟨q, n, hNo⟩, h26⟩, hRg, hIm⟩ := id hC
  have hS := sK0 hK
  have hn := hNo.1.2.1
  have hn2 := hNo.1.2.2.1
  have hR := hNo.1.1
  have hLd := hNo.2.1
  have hq6 := hNo.1.2.2.2.1
  have hN2 := hNo.2.2.1
  have hstg := hNo.2.2.2
  have hpl := hLp
  unfold plOk at hpl
  have h6r := ok_6.mp (hR 6)
  obtain ⟨B, h5⟩ : ∃ B : Nat, I 280 5 = (B : Int) := ⟨(I 280 5).toNat, by omega⟩
  obtain ⟨pp, h6⟩ : ∃ pp : Nat, I 280 6 = (pp : Int) := ⟨(I 280 6).toNat, by omega⟩
  have hap := hK.2.2.2.1 13 0 (by decide) (by decide) (by decide)
  have hP0 : (I 283 0 = 2 ∨ I 283 0 = 3) → pOK (I 283) q := fun g => (hstg.2.2.1 g).1
  refine kk_would (L := I 280) (B := B) (pp := pp) hK hS (by omega) hst htc hNo hL hLp h5 h6 hap (fun hno => hq _ _ _ hM (fun Q2 hq2 => EvE.mem (ch_A5 rfl rfl rfl rfl rfl) ?_)) (fun hok U K p2 o2 t2 c2 hT => ?_)
  · exact c_would (B := B) (pp := pp) (q := q) (L := I 280) hM (by omega) hP0 rfl h5 (by omega) (by omega) h6 (by omega) h17 (fun _ => by simp only [sr_id]; exact hq2 _ h) (fun g => absurd g hno)
  · obtain ⟨hKU, hCU⟩ := KC_tri hK hC hT
    have hfr : ∀ b, 274 ≤ b → b < 291 → K b = I b := fun b b1 b2 => hT.fr (sK13 hK) b2 (by omega) (by omega)
    have hM : ShM U := hKU.2.1
    refine hq _ _ _ hM (fun Q2 hq2 => EvE.mem (ch_A5 (hfr 286 (by decide) (by decide)) (hfr 285 (by decide) (by decide)) (hfr 284 (by decide) (by decide)) (hfr 274 (by decide) (by decide)) (hfr 283 (by decide) (by decide))) ?_)
    exact c_would (B := B) (pp := pp) (q := q) (L := I 280) hM (by omega) hP0 (hfr 280 (by decide) (by decide)) h5 (by omega) (by omega) h6 (by omega) h17 (fun g => absurd hok g) (fun _ A2 K2 N2 hag hkp => hq2 _ (LI.mk hKU (show KC K _ tp (I 280) (I 275) u e (I 285) (I 286) (I 287) N2 from ⟨hCU.1, hCU.2.1, SRel_ag hLp hCU.2.2.1 hag, hCU.2.2.2⟩) (fun b hb => by rw [sr_ne (by omega), sr_ne (by omega), sr_ne (by omega), sr_ne (by omega), sr_ne (by omega)]) ((sr_ne (by decide)).trans ((sr_ne (by decide)).trans ((sr_ne (by decide)).trans ((sr_ne (by decide)).trans ((sr_ne (by decide)).trans ((hfr 280 (by decide) (by decide)))))))) ((sr_ne (by decide)).trans ((sr_ne (by decide)).trans ((sr_ne (by decide)).trans ((sr_ne (by decide)).trans ((sr_ne (by decide)).trans ((hfr 275 (by decide) (by decide)))))))) ((sr_ne (by decide)).trans ((sr_ne (by decide)).trans ((sr_ne (by decide)).trans (sr_row _ _ _)))) ((sr_ne (by decide)).trans ((sr_ne (by decide)).trans ((sr_ne (by decide)).trans ((sr_ne (by decide)).trans (sr_row _ _ _))))) ((sr_ne (by decide)).trans ((sr_ne (by decide)).trans ((sr_ne (by decide)).trans ((sr_ne (by decide)).trans ((sr_ne (by decide)).trans ((hfr 287 (by decide) (by decide)))))))) (sr_row _ _ _) ((congrFun ((sr_ne (by decide)).trans (sr_row _ _ _)) 1).trans ((hkp 1 (by decide) (by decide)).trans h1)) ((congrFun ((sr_ne (by decide)).trans (sr_row _ _ _)) 16).trans ((hkp 16 (by decide) (by decide)).trans h16)) ((congrFun ((sr_ne (by decide)).trans (sr_row _ _ _)) 17).trans ((hkp 17 (by decide) (by decide)).trans h17)) hw hp ⟨hV.1.ag hag, hV.2⟩ (Tb.eq hTb ((sr_ne (by decide)).trans ((sr_ne (by decide)).trans ((sr_ne (by decide)).trans ((sr_ne (by decide)).trans ((sr_ne (by decide)).trans ((hfr 276 (by decide) (by decide)))))))) ((sr_ne (by decide)).trans ((sr_ne (by decide)).trans ((sr_ne (by decide)).trans ((sr_ne (by decide)).trans ((sr_ne (by decide)).trans ((hfr 277 (by decide) (by decide)))))))) ((sr_ne (by decide)).trans ((sr_ne (by decide)).trans ((sr_ne (by decide)).trans ((sr_ne (by decide)).trans ((sr_ne (by decide)).trans ((hfr 278 (by decide) (by decide)))))))) ((sr_ne (by decide)).trans ((sr_ne (by decide)).trans ((sr_ne (by decide)).trans ((sr_ne (by decide)).trans ((sr_ne (by decide)).trans ((hfr 279 (by decide) (by decide)))))))))))
theorem p_rounds {G : Gl} {d : Nat} {T : Sh} {I : Mi} {Q : Option AV → Sh → Mi → Prop} {w : Int} (h : LI T I) (hd : 10 ≤ d) (hq : ∀ (U : Sh) (K : Mi) (v : Int), ShM U → (∀ Q2 : Option AV → Sh → Mi → Prop, (∀ M, LI U M → Q2 (some (aI v)) U M) → EvE G mX12_rounds (d - 1) [aR 274, aI w] U K Q2) → Q (some (aI v)) U K) : EvE G mX11_rounds (d - 1) [aR 0, aI w] T I Q := by
  obtain ⟨A, tp, u, e, hK, hC, ⟨h1, h16, h17⟩, hw, hp, hV, hTb⟩ := id h
  have hM : ShM T := hK.2.1
  obtain ⟨⟨hL, hLp⟩, hTp, ⟨hst, htc, ⟨q, n, hNo⟩, h26⟩, hRg, hIm⟩ := id hC
  have hS := sK0 hK
  have hn := hNo.1.2.1
  have hn2 := hNo.1.2.2.1
  have hR := hNo.1.1
  have hLd := hNo.2.1
  have hq6 := hNo.1.2.2.2.1
  have hN2 := hNo.2.2.1
  have hstg := hNo.2.2.2
  have hpl := hLp
  unfold plOk at hpl
  have h6r := ok_6.mp (hR 6)
  obtain ⟨B, h5⟩ : ∃ B : Nat, I 280 5 = (B : Int) := ⟨(I 280 5).toNat, by omega⟩
  obtain ⟨pp, h6⟩ : ∃ pp : Nat, I 280 6 = (pp : Int) := ⟨(I 280 6).toNat, by omega⟩
  have hap := hK.2.2.2.1 13 0 (by decide) (by decide) (by decide)
  have hP0 : (I 283 0 = 2 ∨ I 283 0 = 3) → pOK (I 283) q := fun g => (hstg.2.2.1 g).1
  refine kk_rounds (L := I 280) (B := B) (pp := pp) hK hS (by omega) hst htc hNo hL hLp h5 h6 hap (fun hno => hq _ _ _ hM (fun Q2 hq2 => EvE.mem (ch_A5 rfl rfl rfl rfl rfl) ?_)) (fun hok U K p2 o2 t2 c2 hT => ?_)
  · exact c_rounds (B := B) (pp := pp) (q := q) (L := I 280) hM (by omega) hP0 rfl h5 (by omega) (by omega) h6 (by omega) h17 (fun _ => by simp only [sr_id]; exact hq2 _ h) (fun g => absurd g hno)
  · obtain ⟨hKU, hCU⟩ := KC_tri hK hC hT
    have hfr : ∀ b, 274 ≤ b → b < 291 → K b = I b := fun b b1 b2 => hT.fr (sK13 hK) b2 (by omega) (by omega)
    have hM : ShM U := hKU.2.1
    refine hq _ _ _ hM (fun Q2 hq2 => EvE.mem (ch_A5 (hfr 286 (by decide) (by decide)) (hfr 285 (by decide) (by decide)) (hfr 284 (by decide) (by decide)) (hfr 274 (by decide) (by decide)) (hfr 283 (by decide) (by decide))) ?_)
    exact c_rounds (B := B) (pp := pp) (q := q) (L := I 280) hM (by omega) hP0 (hfr 280 (by decide) (by decide)) h5 (by omega) (by omega) h6 (by omega) h17 (fun g => absurd hok g) (fun _ A2 K2 N2 hag hkp => hq2 _ (LI.mk hKU (show KC K _ tp (I 280) (I 275) u e (I 285) (I 286) (I 287) N2 from ⟨hCU.1, hCU.2.1, SRel_ag hLp hCU.2.2.1 hag, hCU.2.2.2⟩) (fun b hb => by rw [sr_ne (by omega), sr_ne (by omega), sr_ne (by omega), sr_ne (by omega), sr_ne (by omega)]) ((sr_ne (by decide)).trans ((sr_ne (by decide)).trans ((sr_ne (by decide)).trans ((sr_ne (by decide)).trans ((sr_ne (by decide)).trans ((hfr 280 (by decide) (by decide)))))))) ((sr_ne (by decide)).trans ((sr_ne (by decide)).trans ((sr_ne (by decide)).trans ((sr_ne (by decide)).trans ((sr_ne (by decide)).trans ((hfr 275 (by decide) (by decide)))))))) ((sr_ne (by decide)).trans ((sr_ne (by decide)).trans ((sr_ne (by decide)).trans (sr_row _ _ _)))) ((sr_ne (by decide)).trans ((sr_ne (by decide)).trans ((sr_ne (by decide)).trans ((sr_ne (by decide)).trans (sr_row _ _ _))))) ((sr_ne (by decide)).trans ((sr_ne (by decide)).trans ((sr_ne (by decide)).trans ((sr_ne (by decide)).trans ((sr_ne (by decide)).trans ((hfr 287 (by decide) (by decide)))))))) (sr_row _ _ _) ((congrFun ((sr_ne (by decide)).trans (sr_row _ _ _)) 1).trans ((hkp 1 (by decide) (by decide)).trans h1)) ((congrFun ((sr_ne (by decide)).trans (sr_row _ _ _)) 16).trans ((hkp 16 (by decide) (by decide)).trans h16)) ((congrFun ((sr_ne (by decide)).trans (sr_row _ _ _)) 17).trans ((hkp 17 (by decide) (by decide)).trans h17)) hw hp ⟨hV.1.ag hag, hV.2⟩ (Tb.eq hTb ((sr_ne (by decide)).trans ((sr_ne (by decide)).trans ((sr_ne (by decide)).trans ((sr_ne (by decide)).trans ((sr_ne (by decide)).trans ((hfr 276 (by decide) (by decide)))))))) ((sr_ne (by decide)).trans ((sr_ne (by decide)).trans ((sr_ne (by decide)).trans ((sr_ne (by decide)).trans ((sr_ne (by decide)).trans ((hfr 277 (by decide) (by decide)))))))) ((sr_ne (by decide)).trans ((sr_ne (by decide)).trans ((sr_ne (by decide)).trans ((sr_ne (by decide)).trans ((sr_ne (by decide)).trans ((hfr 278 (by decide) (by decide)))))))) ((sr_ne (by decide)).trans ((sr_ne (by decide)).trans ((sr_ne (by decide)).trans ((sr_ne (by decide)).trans ((sr_ne (by decide)).trans ((hfr 279 (by decide) (by decide)))))))))))
theorem p_seeds {G : Gl} {d : Nat} {T : Sh} {I : Mi} {Q : Option AV → Sh → Mi → Prop} {x w : Int} (h : LI T I) (hd : 10 ≤ d) (hq : ∀ (U : Sh) (K : Mi) (v : Int), ShM U → (∀ Q2 : Option AV → Sh → Mi → Prop, (∀ M, LI U M → Q2 (some (aI v)) U M) → EvE G mX12_seeds (d - 1) [aR 274, aI x, aI w] U K Q2) → Q (some (aI v)) U K) : EvE G mX11_seeds (d - 1) [aR 0, aI x, aI w] T I Q := by
  obtain ⟨A, tp, u, e, hK, hC, ⟨h1, h16, h17⟩, hw, hp, hV, hTb⟩ := id h
  have hM : ShM T := hK.2.1
  obtain ⟨⟨hL, hLp⟩, hTp, ⟨hst, htc, ⟨q, n, hNo⟩, h26⟩, hRg, hIm⟩ := id hC
  have hS := sK0 hK
  have hn := hNo.1.2.1
  have hn2 := hNo.1.2.2.1
  have hR := hNo.1.1
  have hLd := hNo.2.1
  have hq6 := hNo.1.2.2.2.1
  have hN2 := hNo.2.2.1
  have hstg := hNo.2.2.2
  have hpl := hLp
  unfold plOk at hpl
  have h6r := ok_6.mp (hR 6)
  obtain ⟨B, h5⟩ : ∃ B : Nat, I 280 5 = (B : Int) := ⟨(I 280 5).toNat, by omega⟩
  obtain ⟨pp, h6⟩ : ∃ pp : Nat, I 280 6 = (pp : Int) := ⟨(I 280 6).toNat, by omega⟩
  have hap := hK.2.2.2.1 13 0 (by decide) (by decide) (by decide)
  have hP0 : (I 283 0 = 2 ∨ I 283 0 = 3) → pOK (I 283) q := fun g => (hstg.2.2.1 g).1
  refine kk_seeds (L := I 280) (B := B) (pp := pp) hK hS (by omega) hst htc hNo hL hLp h5 h6 hap (fun hno => hq _ _ _ hM (fun Q2 hq2 => EvE.mem (ch_A5 rfl rfl rfl rfl rfl) ?_)) (fun hok U K p2 o2 t2 c2 hT => ?_)
  · exact c_seeds (L := I 280) hM (by omega) hR rfl hLp h17 (fun _ => by simp only [sr_id]; exact hq2 _ h) (fun g => absurd g hno)
  · obtain ⟨hKU, hCU⟩ := KC_tri hK hC hT
    have hfr : ∀ b, 274 ≤ b → b < 291 → K b = I b := fun b b1 b2 => hT.fr (sK13 hK) b2 (by omega) (by omega)
    have hM : ShM U := hKU.2.1
    refine hq _ _ _ hM (fun Q2 hq2 => EvE.mem (ch_A5 (hfr 286 (by decide) (by decide)) (hfr 285 (by decide) (by decide)) (hfr 284 (by decide) (by decide)) (hfr 274 (by decide) (by decide)) (hfr 283 (by decide) (by decide))) ?_)
    exact c_seeds (L := I 280) hM (by omega) hR (hfr 280 (by decide) (by decide)) hLp h17 (fun g => absurd hok g) (fun _ A2 K2 N2 hag hkp => hq2 _ (LI.mk hKU (show KC K _ tp (I 280) (I 275) u e (I 285) (I 286) (I 287) N2 from ⟨hCU.1, hCU.2.1, SRel_ag hLp hCU.2.2.1 hag, hCU.2.2.2⟩) (fun b hb => by rw [sr_ne (by omega), sr_ne (by omega), sr_ne (by omega), sr_ne (by omega), sr_ne (by omega)]) ((sr_ne (by decide)).trans ((sr_ne (by decide)).trans ((sr_ne (by decide)).trans ((sr_ne (by decide)).trans ((sr_ne (by decide)).trans ((hfr 280 (by decide) (by decide)))))))) ((sr_ne (by decide)).trans ((sr_ne (by decide)).trans ((sr_ne (by decide)).trans ((sr_ne (by decide)).trans ((sr_ne (by decide)).trans ((hfr 275 (by decide) (by decide)))))))) ((sr_ne (by decide)).trans ((sr_ne (by decide)).trans ((sr_ne (by decide)).trans (sr_row _ _ _)))) ((sr_ne (by decide)).trans ((sr_ne (by decide)).trans ((sr_ne (by decide)).trans ((sr_ne (by decide)).trans (sr_row _ _ _))))) ((sr_ne (by decide)).trans ((sr_ne (by decide)).trans ((sr_ne (by decide)).trans ((sr_ne (by decide)).trans ((sr_ne (by decide)).trans ((hfr 287 (by decide) (by decide)))))))) (sr_row _ _ _) ((congrFun ((sr_ne (by decide)).trans (sr_row _ _ _)) 1).trans ((hkp 1 (by decide) (by decide)).trans h1)) ((congrFun ((sr_ne (by decide)).trans (sr_row _ _ _)) 16).trans ((hkp 16 (by decide) (by decide)).trans h16)) ((congrFun ((sr_ne (by decide)).trans (sr_row _ _ _)) 17).trans ((hkp 17 (by decide) (by decide)).trans h17)) hw hp ⟨hV.1.ag hag, hV.2⟩ (Tb.eq hTb ((sr_ne (by decide)).trans ((sr_ne (by decide)).trans ((sr_ne (by decide)).trans ((sr_ne (by decide)).trans ((sr_ne (by decide)).trans ((hfr 276 (by decide) (by decide)))))))) ((sr_ne (by decide)).trans ((sr_ne (by decide)).trans ((sr_ne (by decide)).trans ((sr_ne (by decide)).trans ((sr_ne (by decide)).trans ((hfr 277 (by decide) (by decide)))))))) ((sr_ne (by decide)).trans ((sr_ne (by decide)).trans ((sr_ne (by decide)).trans ((sr_ne (by decide)).trans ((sr_ne (by decide)).trans ((hfr 278 (by decide) (by decide)))))))) ((sr_ne (by decide)).trans ((sr_ne (by decide)).trans ((sr_ne (by decide)).trans ((sr_ne (by decide)).trans ((sr_ne (by decide)).trans ((hfr 279 (by decide) (by decide)))))))))))
theorem p_noise {G : Gl} {d : Nat} {T : Sh} {I : Mi} {Q : Option AV → Sh → Mi → Prop} {x : Int} (h : LI T I) (hd : 10 ≤ d) (hq : ∀ (U : Sh) (K : Mi) (v : Int), ShM U → (∀ Q2 : Option AV → Sh → Mi → Prop, (∀ M, LI U M → Q2 (some (aI v)) U M) → EvE G mX12_noise (d - 1) [aR 274, aI x] U K Q2) → Q (some (aI v)) U K) : EvE G mX11_noise (d - 1) [aR 0, aI x] T I Q := by
  obtain ⟨A, tp, u, e, hK, hC, ⟨h1, h16, h17⟩, hw, hp, hV, hTb⟩ := id h
  have hM : ShM T := hK.2.1
  obtain ⟨⟨hL, hLp⟩, hTp, ⟨hst, htc, ⟨q, n, hNo⟩, h26⟩, hRg, hIm⟩ := id hC
  have hS := sK0 hK
  have hn := hNo.1.2.1
  have hn2 := hNo.1.2.2.1
  have hR := hNo.1.1
  have hLd := hNo.2.1
  have hq6 := hNo.1.2.2.2.1
  have hN2 := hNo.2.2.1
  have hstg := hNo.2.2.2
  have hpl := hLp
  unfold plOk at hpl
  have h6r := ok_6.mp (hR 6)
  obtain ⟨B, h5⟩ : ∃ B : Nat, I 280 5 = (B : Int) := ⟨(I 280 5).toNat, by omega⟩
  obtain ⟨pp, h6⟩ : ∃ pp : Nat, I 280 6 = (pp : Int) := ⟨(I 280 6).toNat, by omega⟩
  have hap := hK.2.2.2.1 13 0 (by decide) (by decide) (by decide)
  have hP0 : (I 283 0 = 2 ∨ I 283 0 = 3) → pOK (I 283) q := fun g => (hstg.2.2.1 g).1
  refine kk_noise (L := I 280) (B := B) (pp := pp) hK hS (by omega) hst htc hNo hL hLp h5 h6 hap (fun hno => hq _ _ _ hM (fun Q2 hq2 => EvE.mem (ch_A5 rfl rfl rfl rfl rfl) ?_)) (fun hok U K p2 o2 t2 c2 hT => ?_)
  · exact c_noise (L := I 280) hM (by omega) hR rfl hLp h17 (fun _ => by simp only [sr_id]; exact hq2 _ h) (fun g => absurd g hno)
  · obtain ⟨hKU, hCU⟩ := KC_tri hK hC hT
    have hfr : ∀ b, 274 ≤ b → b < 291 → K b = I b := fun b b1 b2 => hT.fr (sK13 hK) b2 (by omega) (by omega)
    have hM : ShM U := hKU.2.1
    refine hq _ _ _ hM (fun Q2 hq2 => EvE.mem (ch_A5 (hfr 286 (by decide) (by decide)) (hfr 285 (by decide) (by decide)) (hfr 284 (by decide) (by decide)) (hfr 274 (by decide) (by decide)) (hfr 283 (by decide) (by decide))) ?_)
    exact c_noise (L := I 280) hM (by omega) hR (hfr 280 (by decide) (by decide)) hLp h17 (fun g => absurd hok g) (fun _ A2 K2 N2 hag hkp => hq2 _ (LI.mk hKU (show KC K _ tp (I 280) (I 275) u e (I 285) (I 286) (I 287) N2 from ⟨hCU.1, hCU.2.1, SRel_ag hLp hCU.2.2.1 hag, hCU.2.2.2⟩) (fun b hb => by rw [sr_ne (by omega), sr_ne (by omega), sr_ne (by omega), sr_ne (by omega), sr_ne (by omega)]) ((sr_ne (by decide)).trans ((sr_ne (by decide)).trans ((sr_ne (by decide)).trans ((sr_ne (by decide)).trans ((sr_ne (by decide)).trans ((hfr 280 (by decide) (by decide)))))))) ((sr_ne (by decide)).trans ((sr_ne (by decide)).trans ((sr_ne (by decide)).trans ((sr_ne (by decide)).trans ((sr_ne (by decide)).trans ((hfr 275 (by decide) (by decide)))))))) ((sr_ne (by decide)).trans ((sr_ne (by decide)).trans ((sr_ne (by decide)).trans (sr_row _ _ _)))) ((sr_ne (by decide)).trans ((sr_ne (by decide)).trans ((sr_ne (by decide)).trans ((sr_ne (by decide)).trans (sr_row _ _ _))))) ((sr_ne (by decide)).trans ((sr_ne (by decide)).trans ((sr_ne (by decide)).trans ((sr_ne (by decide)).trans ((sr_ne (by decide)).trans ((hfr 287 (by decide) (by decide)))))))) (sr_row _ _ _) ((congrFun ((sr_ne (by decide)).trans (sr_row _ _ _)) 1).trans ((hkp 1 (by decide) (by decide)).trans h1)) ((congrFun ((sr_ne (by decide)).trans (sr_row _ _ _)) 16).trans ((hkp 16 (by decide) (by decide)).trans h16)) ((congrFun ((sr_ne (by decide)).trans (sr_row _ _ _)) 17).trans ((hkp 17 (by decide) (by decide)).trans h17)) hw hp ⟨hV.1.ag hag, hV.2⟩ (Tb.eq hTb ((sr_ne (by decide)).trans ((sr_ne (by decide)).trans ((sr_ne (by decide)).trans ((sr_ne (by decide)).trans ((sr_ne (by decide)).trans ((hfr 276 (by decide) (by decide)))))))) ((sr_ne (by decide)).trans ((sr_ne (by decide)).trans ((sr_ne (by decide)).trans ((sr_ne (by decide)).trans ((sr_ne (by decide)).trans ((hfr 277 (by decide) (by decide)))))))) ((sr_ne (by decide)).trans ((sr_ne (by decide)).trans ((sr_ne (by decide)).trans ((sr_ne (by decide)).trans ((sr_ne (by decide)).trans ((hfr 278 (by decide) (by decide)))))))) ((sr_ne (by decide)).trans ((sr_ne (by decide)).trans ((sr_ne (by decide)).trans ((sr_ne (by decide)).trans ((sr_ne (by decide)).trans ((hfr 279 (by decide) (by decide)))))))))))
theorem p_best {G : Gl} {d : Nat} {T : Sh} {I : Mi} {Q : Option AV → Sh → Mi → Prop} {w : Int} (h : LI T I) (hd : 10 ≤ d) (hq : ∀ (U : Sh) (K : Mi) (v : Int), ShM U → (∀ Q2 : Option AV → Sh → Mi → Prop, (∀ M, LI U M → Q2 (some (aI v)) U M) → EvE G mX12_best (d - 1) [aR 274, aI w] U K Q2) → Q (some (aI v)) U K) : EvE G mX11_best (d - 1) [aR 0, aI w] T I Q := by
  obtain ⟨A, tp, u, e, hK, hC, ⟨h1, h16, h17⟩, hw, hp, hV, hTb⟩ := id h
  have hM : ShM T := hK.2.1
  obtain ⟨⟨hL, hLp⟩, hTp, ⟨hst, htc, ⟨q, n, hNo⟩, h26⟩, hRg, hIm⟩ := id hC
  have hS := sK0 hK
  have hn := hNo.1.2.1
  have hn2 := hNo.1.2.2.1
  have hR := hNo.1.1
  have hLd := hNo.2.1
  have hq6 := hNo.1.2.2.2.1
  have hN2 := hNo.2.2.1
  have hstg := hNo.2.2.2
  have hpl := hLp
  unfold plOk at hpl
  have h6r := ok_6.mp (hR 6)
  obtain ⟨B, h5⟩ : ∃ B : Nat, I 280 5 = (B : Int) := ⟨(I 280 5).toNat, by omega⟩
  obtain ⟨pp, h6⟩ : ∃ pp : Nat, I 280 6 = (pp : Int) := ⟨(I 280 6).toNat, by omega⟩
  have hap := hK.2.2.2.1 13 0 (by decide) (by decide) (by decide)
  have hP0 : (I 283 0 = 2 ∨ I 283 0 = 3) → pOK (I 283) q := fun g => (hstg.2.2.1 g).1
  have hA0 : agN (I 283) (cpyR (I 283) 0 (I 284) 0 (tN (I 283) + 3902)) := fun j hj => by rw [cpyR_in (by omega), show 0 + (j - 0) = j by omega]
  refine kk_best (L := I 280) (B := B) (pp := pp) (A0 := cpyR (I 283) 0 (I 284) 0 (tN (I 283) + 3902)) hK hS (by omega) hst htc hNo hL hLp h5 h6 hap hA0 (fun hno => hq _ _ _ hM (fun Q2 hq2 => EvE.mem (ch_A5 rfl rfl rfl rfl rfl) ?_)) (fun hok U K p2 o2 t2 c2 hT => ?_)
  · exact c_best (pp := pp) (q := q) (L := I 280) hM (by omega) (fun g => hP0 (Or.inl g)) rfl h6 (by omega) h17 (fun _ => by simp only [sr_id]; exact hq2 _ h) (fun g => absurd g hno)
  · obtain ⟨hKU, hCU⟩ := KC_tri hK hC hT
    have hfr : ∀ b, 274 ≤ b → b < 291 → K b = I b := fun b b1 b2 => hT.fr (sK13 hK) b2 (by omega) (by omega)
    have hM : ShM U := hKU.2.1
    refine hq _ _ _ hM (fun Q2 hq2 => EvE.mem (ch_A5 (hfr 286 (by decide) (by decide)) (hfr 285 (by decide) (by decide)) (hfr 284 (by decide) (by decide)) (hfr 274 (by decide) (by decide)) (hfr 283 (by decide) (by decide))) ?_)
    exact c_best (pp := pp) (q := q) (L := I 280) hM (by omega) (fun g => hP0 (Or.inl g)) (hfr 280 (by decide) (by decide)) h6 (by omega) h17 (fun g => absurd hok g) (fun _ A2 K2 N2 hag hkp h17b => hq2 _ (LI.mk hKU (show KC K _ tp (I 280) (I 275) u e (I 285) (I 286) (I 287) N2 from ⟨hCU.1, hCU.2.1, SRel_ag hLp hCU.2.2.1 hag, hCU.2.2.2⟩) (fun b hb => by rw [sr_ne (by omega), sr_ne (by omega), sr_ne (by omega), sr_ne (by omega), sr_ne (by omega)]) ((sr_ne (by decide)).trans ((sr_ne (by decide)).trans ((sr_ne (by decide)).trans ((sr_ne (by decide)).trans ((sr_ne (by decide)).trans ((hfr 280 (by decide) (by decide)))))))) ((sr_ne (by decide)).trans ((sr_ne (by decide)).trans ((sr_ne (by decide)).trans ((sr_ne (by decide)).trans ((sr_ne (by decide)).trans ((hfr 275 (by decide) (by decide)))))))) ((sr_ne (by decide)).trans ((sr_ne (by decide)).trans ((sr_ne (by decide)).trans (sr_row _ _ _)))) ((sr_ne (by decide)).trans ((sr_ne (by decide)).trans ((sr_ne (by decide)).trans ((sr_ne (by decide)).trans (sr_row _ _ _))))) ((sr_ne (by decide)).trans ((sr_ne (by decide)).trans ((sr_ne (by decide)).trans ((sr_ne (by decide)).trans ((sr_ne (by decide)).trans ((hfr 287 (by decide) (by decide)))))))) (sr_row _ _ _) ((congrFun ((sr_ne (by decide)).trans (sr_row _ _ _)) 1).trans ((hkp 1 (by decide) (by decide) (by decide)).trans h1)) ((congrFun ((sr_ne (by decide)).trans (sr_row _ _ _)) 16).trans ((hkp 16 (by decide) (by decide) (by decide)).trans h16)) ((congrFun ((sr_ne (by decide)).trans (sr_row _ _ _)) 17).trans (h17b)) hw hp ⟨hV.1.ag hag, hV.2⟩ (Tb.eq hTb ((sr_ne (by decide)).trans ((sr_ne (by decide)).trans ((sr_ne (by decide)).trans ((sr_ne (by decide)).trans ((sr_ne (by decide)).trans ((hfr 276 (by decide) (by decide)))))))) ((sr_ne (by decide)).trans ((sr_ne (by decide)).trans ((sr_ne (by decide)).trans ((sr_ne (by decide)).trans ((sr_ne (by decide)).trans ((hfr 277 (by decide) (by decide)))))))) ((sr_ne (by decide)).trans ((sr_ne (by decide)).trans ((sr_ne (by decide)).trans ((sr_ne (by decide)).trans ((sr_ne (by decide)).trans ((hfr 278 (by decide) (by decide)))))))) ((sr_ne (by decide)).trans ((sr_ne (by decide)).trans ((sr_ne (by decide)).trans ((sr_ne (by decide)).trans ((sr_ne (by decide)).trans ((hfr 279 (by decide) (by decide)))))))))))
end C77

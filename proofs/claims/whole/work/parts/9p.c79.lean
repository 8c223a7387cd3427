section C79
variable {G : Gl} {d : Nat} {T : Sh} {I : Mi} {N : Nat → Int} {Q : Option AV → Sh → Mi → Prop}
theorem p_feed {G : Gl} {d : Nat} {T : Sh} {I : Mi} {Q : Option AV → Sh → Mi → Prop} {a b c f g : Int} (h : LI T I) (hd : 10 ≤ d) (hq : ∀ (U : Sh) (K : Mi) (v : Int), ShM U → (∀ Q2 : Option AV → Sh → Mi → Prop, (∀ M, LI U M → Q2 (some (aI v)) U M) → EvE G mX12_feed (d - 1) [aR 274, aI a, aI b, aI c, aI f, aI g] U K Q2) → Q (some (aI v)) U K) : EvE G mX11_feed (d - 1) [aR 0, aI a, aI b, aI c, aI f, aI g] T I Q := by
  obtain ⟨A, tp, u, e, hK, hC, ⟨h1, h16, h17⟩, hw, hp, hV, hTb⟩ := id h
  have hM : ShM T := hK.2.1
  obtain ⟨⟨hL, hLp⟩, hTp, ⟨hst, htc, ⟨q, n, hNo⟩, h26⟩, hRg, hIm⟩ := id hC
  have hS := sK0 hK
  have hn := hNo.1.2.1
  have hn2 := hNo.1.2.2.1
  have hR := hNo.1.1
  have hLd := hNo.2.1
  have hq6 := hNo.1.2.2.2.1
  have hN2 := hNo.2.2.1
  have hstg := hNo.2.2.2
  have hpl := hLp
  unfold plOk at hpl
  have h6r := ok_6.mp (hR 6)
  refine k_feed hK (by omega) hC hw (fun h0 => hq _ _ _ hM (fun Q2 hq2 => EvE.mem (ch_F2 rfl rfl) ?_)) (fun h0 K hfr hCK => hq _ _ _ hM (fun Q2 hq2 => EvE.mem (ch_F2 (hfr 275 (by decide) (by decide)) (hfr 274 (by decide) (by decide))) ?_))
  · exact c_feed hM h1 (fun _ => by simp only [sr_id]; exact hq2 _ h) (fun g => absurd g (by omega))
  · exact c_feed hM h1 (fun g => absurd g (by omega)) (fun _ => hq2 _ (LI.mk hK hCK (fun b hb => by rw [sr_ne (by omega), sr_ne (by omega)]) ((sr_ne (by decide)).trans ((sr_ne (by decide)).trans ((hfr 280 (by decide) (by decide))))) ((sr_ne (by decide)).trans (sr_row _ _ _)) ((sr_ne (by decide)).trans ((sr_ne (by decide)).trans ((hfr 285 (by decide) (by decide))))) ((sr_ne (by decide)).trans ((sr_ne (by decide)).trans ((hfr 286 (by decide) (by decide))))) ((sr_ne (by decide)).trans ((sr_ne (by decide)).trans ((hfr 287 (by decide) (by decide))))) ((sr_ne (by decide)).trans ((sr_ne (by decide)).trans ((hfr 283 (by decide) (by decide))))) ((congrFun (sr_row _ _ _) 1).trans (un_at)) ((congrFun (sr_row _ _ _) 16).trans ((un_ne (by decide)).trans h16)) ((congrFun (sr_row _ _ _) 17).trans ((un_ne (by decide)).trans h17)) hw hp hV (Tb.eq hTb ((sr_ne (by decide)).trans ((sr_ne (by decide)).trans ((hfr 276 (by decide) (by decide))))) ((sr_ne (by decide)).trans ((sr_ne (by decide)).trans ((hfr 277 (by decide) (by decide))))) ((sr_ne (by decide)).trans ((sr_ne (by decide)).trans ((hfr 278 (by decide) (by decide))))) ((sr_ne (by decide)).trans ((sr_ne (by decide)).trans ((hfr 279 (by decide) (by decide))))))))
theorem p_end {G : Gl} {d : Nat} {T : Sh} {I : Mi} {Q : Option AV → Sh → Mi → Prop} {x : Int} (h : LI T I) (hd : 10 ≤ d) (hq : ∀ (U : Sh) (K : Mi) (v : Int), ShM U → (∀ Q2 : Option AV → Sh → Mi → Prop, (∀ M, LI U M → Q2 (some (aI v)) U M) → EvE G mX12_end (d - 1) [aR 274, aI x] U K Q2) → Q (some (aI v)) U K) : EvE G mX11_end (d - 1) [aR 0, aI x] T I Q := by
  obtain ⟨A, tp, u, e, hK, hC, ⟨h1, h16, h17⟩, hw, hp, hV, hTb⟩ := id h
  have hM : ShM T := hK.2.1
  obtain ⟨⟨hL, hLp⟩, hTp, ⟨hst, htc, ⟨q, n, hNo⟩, h26⟩, hRg, hIm⟩ := id hC
  have hS := sK0 hK
  have hn := hNo.1.2.1
  have hn2 := hNo.1.2.2.1
  have hR := hNo.1.1
  have hLd := hNo.2.1
  have hq6 := hNo.1.2.2.2.1
  have hN2 := hNo.2.2.1
  have hstg := hNo.2.2.2
  have hpl := hLp
  unfold plOk at hpl
  have h6r := ok_6.mp (hR 6)
  refine k_end hK (by omega) hC hw (fun h0 => hq _ _ _ hM (fun Q2 hq2 => ?_)) (fun k hk hkt K hfr hCK => hq _ _ _ hM (fun Q2 hq2 => ?_))
  · exact c_end hM (by omega) (fun _ => hq2 _ h) (fun g => absurd (show 0 ≤ x ∧ x ≤ I 274 1 from g) (by omega))
  · subst hk
    have e1 : K 274 1 = (tp : Int) := (congrFun (hfr 274 (by decide) (by decide)) 1).trans h1
    refine c_end hM (by omega) (fun g => absurd (show okEn K (k : Int) from ⟨by omega, by omega⟩) g) (fun _ => ?_)
    rw [up2_row]
    exact hq2 _ (LI.mk hK hCK (fun b hb => by rw [sr_ne (by omega)]) ((sr_ne (by decide)).trans ((hfr 280 (by decide) (by decide)))) ((sr_ne (by decide)).trans ((hfr 275 (by decide) (by decide)))) ((sr_ne (by decide)).trans ((hfr 285 (by decide) (by decide)))) ((sr_ne (by decide)).trans ((hfr 286 (by decide) (by decide)))) ((sr_ne (by decide)).trans ((hfr 287 (by decide) (by decide)))) ((sr_ne (by decide)).trans ((hfr 283 (by decide) (by decide)))) ((congrFun (sr_row _ _ _) 1).trans (un_at)) ((congrFun (sr_row _ _ _) 16).trans ((un_ne (by decide)).trans ((congrFun (hfr 274 (by decide) (by decide)) 16).trans h16))) ((congrFun (sr_row _ _ _) 17).trans ((un_ne (by decide)).trans ((congrFun (hfr 274 (by decide) (by decide)) 17).trans h17))) hw hp hV (Tb.eq hTb ((sr_ne (by decide)).trans ((hfr 276 (by decide) (by decide)))) ((sr_ne (by decide)).trans ((hfr 277 (by decide) (by decide)))) ((sr_ne (by decide)).trans ((hfr 278 (by decide) (by decide)))) ((sr_ne (by decide)).trans ((hfr 279 (by decide) (by decide))))))
theorem pOk_img {P N : Nat → Int} {k : Nat} (hp : pOk P) (hR : Rng N) (hk : k ≤ 1) : pOk (cpyR N 0 P (17510 * k) (tN N + 3902)) := by
  intro j hj
  have h3 := ok_3.mp (hR 3)
  by_cases g : j = k
  · subst g
    rw [cpyR_in (by omega), show 0 + (17510 * j + 3 - 17510 * j) = 3 by omega]
    omega
  · have ht := tN_b hR
    rw [cpyR_out (by omega)]
    exact hp j hj
theorem FV_img {u k : Nat} {W P Y N : Nat → Int} {y : Int} (h : FV u W P Y N) (hp : pOk P) (hR : Rng N) (hk : k ≤ 1) : FV u W (cpyR N 0 P (17510 * k) (tN N + 3902)) (un Y k y) N := by
  refine ⟨h.1, h.2.1, fun j hj hy => ?_⟩
  by_cases g : j = k
  · subst g; exact h.1.ag ag_img
  · rw [un_ne g] at hy
    have ht := tN_b hR
    have e : ∀ i, i < 17510 → wRow (cpyR N 0 P (17510 * k) (tN N + 3902)) j i = wRow P j i := fun i hi => by
      show cpyR N 0 P (17510 * k) (tN N + 3902) (17510 * j + i) = P (17510 * j + i)
      rw [cpyR_out (by omega)]
    have h3 := h.2.2 j hj hy
    unfold F5 at h3 ⊢
    rw [e 0 (by decide), e 6 (by decide)]
    exact h3
theorem p_image {G : Gl} {d : Nat} {T : Sh} {I : Mi} {Q : Option AV → Sh → Mi → Prop} {x : Int} (h : LI T I) (hd : 10 ≤ d) (hq : ∀ (U : Sh) (K : Mi) (v : Int), ShM U → (∀ Q2 : Option AV → Sh → Mi → Prop, (∀ M, LI U M → Q2 (some (aI v)) U M) → EvE G mX12_image (d - 1) [aR 274, aI x] U K Q2) → Q (some (aI v)) U K) : EvE G mX11_image (d - 1) [aR 0, aI x] T I Q := by
  obtain ⟨A, tp, u, e, hK, hC, ⟨h1, h16, h17⟩, hw, hp, hV, hTb⟩ := id h
  have hM : ShM T := hK.2.1
  obtain ⟨⟨hL, hLp⟩, hTp, ⟨hst, htc, ⟨q, n, hNo⟩, h26⟩, hRg, hIm⟩ := id hC
  have hS := sK0 hK
  have hn := hNo.1.2.1
  have hn2 := hNo.1.2.2.1
  have hR := hNo.1.1
  have hLd := hNo.2.1
  have hq6 := hNo.1.2.2.2.1
  have hN2 := hNo.2.2.1
  have hstg := hNo.2.2.2
  have hpl := hLp
  unfold plOk at hpl
  have h6r := ok_6.mp (hR 6)
  refine k_image hK (by omega) hC hw hp (fun h0 => hq _ _ _ hM (fun Q2 hq2 => EvE.mem (ch_I6 rfl rfl rfl rfl rfl rfl) ?_)) (fun k hk hk1 U K A2 hKU hfr hCU => ?_)
  · exact c_image hM (by omega) hR (fun _ => by simp only [sr_id]; exact hq2 _ h) (fun e3 g1 g2 => absurd (show 0 ≤ x ∧ x ≤ 1 by omega) h0)
  · subst hk
    have hM : ShM U := hKU.2.1
    refine hq _ _ _ hM (fun Q2 hq2 => EvE.mem (ch_I6 (hfr 287 (by decide) (by decide)) (hfr 286 (by decide) (by decide)) (hfr 285 (by decide) (by decide)) (hfr 284 (by decide) (by decide)) (hfr 274 (by decide) (by decide)) (hfr 283 (by decide) (by decide))) ?_)
    refine c_image hM (by omega) hR (fun g => absurd (show (0 : Int) ≤ (k : Int) ∧ (k : Int) ≤ 1 by omega) g) (fun e3 g1 g2 => ?_)
    obtain rfl : k = e3 := by omega
    exact hq2 _ (LI.mk hKU hCU (fun b hb => by rw [sr_ne (by omega), sr_ne (by omega), sr_ne (by omega), sr_ne (by omega), sr_ne (by omega), sr_ne (by omega)]) ((sr_ne (by decide)).trans ((sr_ne (by decide)).trans ((sr_ne (by decide)).trans ((sr_ne (by decide)).trans ((sr_ne (by decide)).trans ((sr_ne (by decide)).trans ((hfr 280 (by decide) (by decide))))))))) ((sr_ne (by decide)).trans ((sr_ne (by decide)).trans ((sr_ne (by decide)).trans ((sr_ne (by decide)).trans ((sr_ne (by decide)).trans ((sr_ne (by decide)).trans ((hfr 275 (by decide) (by decide))))))))) ((sr_ne (by decide)).trans ((sr_ne (by decide)).trans ((sr_ne (by decide)).trans (sr_row _ _ _)))) ((sr_ne (by decide)).trans ((sr_ne (by decide)).trans ((sr_ne (by decide)).trans ((sr_ne (by decide)).trans (sr_row _ _ _))))) ((sr_ne (by decide)).trans ((sr_ne (by decide)).trans ((sr_ne (by decide)).trans ((sr_ne (by decide)).trans ((sr_ne (by decide)).trans (sr_row _ _ _)))))) (sr_row _ _ _) ((congrFun ((sr_ne (by decide)).trans (sr_row _ _ _)) 1).trans (h1)) ((congrFun ((sr_ne (by decide)).trans (sr_row _ _ _)) 16).trans (h16)) ((congrFun ((sr_ne (by decide)).trans (sr_row _ _ _)) 17).trans (h17)) hw (pOk_img hp hR hk1) (FV_img hV hp hR hk1) (Tb.eq hTb ((sr_ne (by decide)).trans ((sr_ne (by decide)).trans ((sr_ne (by decide)).trans ((sr_ne (by decide)).trans ((sr_ne (by decide)).trans ((sr_ne (by decide)).trans ((hfr 276 (by decide) (by decide))))))))) ((sr_ne (by decide)).trans ((sr_ne (by decide)).trans ((sr_ne (by decide)).trans ((sr_ne (by decide)).trans ((sr_ne (by decide)).trans ((sr_ne (by decide)).trans ((hfr 277 (by decide) (by decide))))))))) ((sr_ne (by decide)).trans ((sr_ne (by decide)).trans ((sr_ne (by decide)).trans ((sr_ne (by decide)).trans ((sr_ne (by decide)).trans ((sr_ne (by decide)).trans ((hfr 278 (by decide) (by decide))))))))) ((sr_ne (by decide)).trans ((sr_ne (by decide)).trans ((sr_ne (by decide)).trans ((sr_ne (by decide)).trans ((sr_ne (by decide)).trans ((sr_ne (by decide)).trans ((hfr 279 (by decide) (by decide)))))))))))
theorem p_back {G : Gl} {d : Nat} {T : Sh} {I : Mi} {Q : Option AV → Sh → Mi → Prop} {x : Int} (h : LI T I) (hd : 10 ≤ d) (hq : ∀ (U : Sh) (K : Mi) (v : Int), ShM U → (∀ Q2 : Option AV → Sh → Mi → Prop, (∀ M, LI U M → Q2 (some (aI v)) U M) → EvE G mX12_back (d - 1) [aR 274, aI x] U K Q2) → Q (some (aI v)) U K) : EvE G mX11_back (d - 1) [aR 0, aI x] T I Q := by
  obtain ⟨A, tp, u, e, hK, hC, ⟨h1, h16, h17⟩, hw, hp, hV, hTb⟩ := id h
  have hM : ShM T := hK.2.1
  obtain ⟨⟨hL, hLp⟩, hTp, ⟨hst, htc, ⟨q, n, hNo⟩, h26⟩, hRg, hIm⟩ := id hC
  have hS := sK0 hK
  have hn := hNo.1.2.1
  have hn2 := hNo.1.2.2.1
  have hR := hNo.1.1
  have hLd := hNo.2.1
  have hq6 := hNo.1.2.2.2.1
  have hN2 := hNo.2.2.1
  have hstg := hNo.2.2.2
  have hpl := hLp
  unfold plOk at hpl
  have h6r := ok_6.mp (hR 6)
  refine k_back hK (by omega) hC hw (fun h0 => hq _ _ _ hM (fun Q2 hq2 => EvE.mem (ch_I6 rfl rfl rfl rfl rfl rfl) ?_)) (fun k hk hk1 hy U K A2 hKU hfr hCU => ?_)
  · exact c_back hM (by omega) hp (fun _ => by simp only [sr_id]; exact hq2 _ h) (fun e3 g1 g2 g3 => absurd (h0 e3 g1 g2) g3)
  · subst hk
    have hM : ShM U := hKU.2.1
    refine hq _ _ _ hM (fun Q2 hq2 => EvE.mem (ch_I6 (hfr 287 (by decide) (by decide)) (hfr 286 (by decide) (by decide)) (hfr 285 (by decide) (by decide)) (hfr 284 (by decide) (by decide)) (hfr 274 (by decide) (by decide)) (hfr 283 (by decide) (by decide))) ?_)
    refine c_back hM (by omega) hp (fun g => absurd (g k rfl hk1) hy) (fun e3 g1 g2 g3 => ?_)
    obtain rfl : k = e3 := by omega
    exact hq2 _ (LI.mk hKU hCU (fun b hb => by rw [sr_ne (by omega), sr_ne (by omega), sr_ne (by omega), sr_ne (by omega), sr_ne (by omega), sr_ne (by omega)]) ((sr_ne (by decide)).trans ((sr_ne (by decide)).trans ((sr_ne (by decide)).trans ((sr_ne (by decide)).trans ((sr_ne (by decide)).trans ((sr_ne (by decide)).trans ((hfr 280 (by decide) (by decide))))))))) ((sr_ne (by decide)).trans ((sr_ne (by decide)).trans ((sr_ne (by decide)).trans ((sr_ne (by decide)).trans ((sr_ne (by decide)).trans ((sr_ne (by decide)).trans ((hfr 275 (by decide) (by decide))))))))) ((sr_ne (by decide)).trans ((sr_ne (by decide)).trans ((sr_ne (by decide)).trans (sr_row _ _ _)))) ((sr_ne (by decide)).trans ((sr_ne (by decide)).trans ((sr_ne (by decide)).trans ((sr_ne (by decide)).trans (sr_row _ _ _))))) ((sr_ne (by decide)).trans ((sr_ne (by decide)).trans ((sr_ne (by decide)).trans ((sr_ne (by decide)).trans ((sr_ne (by decide)).trans (sr_row _ _ _)))))) (sr_row _ _ _) ((congrFun ((sr_ne (by decide)).trans (sr_row _ _ _)) 1).trans ((un_ne (by decide)).trans h1)) ((congrFun ((sr_ne (by decide)).trans (sr_row _ _ _)) 16).trans (un_at)) ((congrFun ((sr_ne (by decide)).trans (sr_row _ _ _)) 17).trans ((un_ne (by decide)).trans h17)) hw hp ⟨(hV.2.2 k (by omega) hy).ag ag_row, fun j hj => absurd hj (Nat.not_lt_zero j), hV.2.2⟩ (Tb.eq hTb ((sr_ne (by decide)).trans ((sr_ne (by decide)).trans ((sr_ne (by decide)).trans ((sr_ne (by decide)).trans ((sr_ne (by decide)).trans ((sr_ne (by decide)).trans ((hfr 276 (by decide) (by decide))))))))) ((sr_ne (by decide)).trans ((sr_ne (by decide)).trans ((sr_ne (by decide)).trans ((sr_ne (by decide)).trans ((sr_ne (by decide)).trans ((sr_ne (by decide)).trans ((hfr 277 (by decide) (by decide))))))))) ((sr_ne (by decide)).trans ((sr_ne (by decide)).trans ((sr_ne (by decide)).trans ((sr_ne (by decide)).trans ((sr_ne (by decide)).trans ((sr_ne (by decide)).trans ((hfr 278 (by decide) (by decide))))))))) ((sr_ne (by decide)).trans ((sr_ne (by decide)).trans ((sr_ne (by decide)).trans ((sr_ne (by decide)).trans ((sr_ne (by decide)).trans ((sr_ne (by decide)).trans ((hfr 279 (by decide) (by decide)))))))))))
theorem p_plan {G : Gl} {d : Nat} {T : Sh} {I : Mi} {Q : Option AV → Sh → Mi → Prop} (h : LI T I) (hd : 10 ≤ d) (hq : ∀ (U : Sh) (K : Mi) (v : Int), ShM U → (∀ Q2 : Option AV → Sh → Mi → Prop, (∀ M, LI U M → Q2 (some (aI v)) U M) → EvE G mX12_plan (d - 1) [aR 274] U K Q2) → Q (some (aI v)) U K) : EvE G mX11_plan (d - 1) [aR 0] T I Q := by
  obtain ⟨A, tp, u, e, hK, hC, ⟨h1, h16, h17⟩, hw, hp, hV, hTb⟩ := id h
  have hM : ShM T := hK.2.1
  obtain ⟨⟨hL, hLp⟩, hTp, ⟨hst, htc, ⟨q, n, hNo⟩, h26⟩, hRg, hIm⟩ := id hC
  have hS := sK0 hK
  have hn := hNo.1.2.1
  have hn2 := hNo.1.2.2.1
  have hR := hNo.1.1
  have hLd := hNo.2.1
  have hq6 := hNo.1.2.2.2.1
  have hN2 := hNo.2.2.1
  have hstg := hNo.2.2.2
  have hpl := hLp
  unfold plOk at hpl
  have h6r := ok_6.mp (hR 6)
  have hR0 : ∀ k, k < 9 → usR (I 281) (I 279) 9 k = eUsual k := fun k hk => (show usR (I 281) (I 279) 9 k = I 279 k from if_pos hk).trans (hTb.2.2.2 k hk)
  have hX0 : ∀ k, k < 9 → z8 (I 282) 9 k = 0 := fun k hk => if_pos hk
  refine k_plan hK (by omega) hC hw hR0 hX0 (fun hlt U K hKU hfr hCU => ?_) (fun hle U K hKU hfr hCU => ?_)
  · have hM : ShM U := hKU.2.1
    refine hq _ _ _ hM (fun Q2 hq2 => EvE.mem (ch_P6 (hfr 280 (by decide) (by decide)) (hfr 287 (by decide) (by decide)) (hfr 283 (by decide) (by decide)) (hfr 281 (by decide) (by decide)) (hfr 282 (by decide) (by decide)) (hfr 274 (by decide) (by decide))) ?_)
    exact c_plan (lo := eLeast) (hi := eMost) (B := I 275) (U := I 279) hM (by omega) h1 hTp.2.1 (hfr 275 (by decide) (by decide)) (hfr 279 (by decide) (by decide)) (fun q hq => (congrFun (hfr 276 (by decide) (by decide)) q).trans (hTb.1 q hq)) (fun k hk => (congrFun (hfr 277 (by decide) (by decide)) k).trans (hTb.2.1 k hk)) (fun k hk => (congrFun (hfr 278 (by decide) (by decide)) k).trans (hTb.2.2.1 k hk)) (fun _ R2 X2 K2 hkp hk1 hk16 => hq2 _ (LI.mk hKU hCU (fun b hb => by rw [sr_ne (by omega), sr_ne (by omega), sr_ne (by omega), sr_ne (by omega), sr_ne (by omega), sr_ne (by omega)]) ((sr_ne (by decide)).trans ((sr_ne (by decide)).trans ((sr_ne (by decide)).trans ((sr_ne (by decide)).trans ((sr_ne (by decide)).trans (sr_row _ _ _)))))) ((sr_ne (by decide)).trans ((sr_ne (by decide)).trans ((sr_ne (by decide)).trans ((sr_ne (by decide)).trans ((sr_ne (by decide)).trans ((sr_ne (by decide)).trans ((hfr 275 (by decide) (by decide))))))))) ((sr_ne (by decide)).trans ((sr_ne (by decide)).trans ((sr_ne (by decide)).trans ((sr_ne (by decide)).trans ((sr_ne (by decide)).trans ((sr_ne (by decide)).trans ((hfr 285 (by decide) (by decide))))))))) ((sr_ne (by decide)).trans ((sr_ne (by decide)).trans ((sr_ne (by decide)).trans ((sr_ne (by decide)).trans ((sr_ne (by decide)).trans ((sr_ne (by decide)).trans ((hfr 286 (by decide) (by decide))))))))) ((sr_ne (by decide)).trans ((sr_ne (by decide)).trans ((sr_ne (by decide)).trans ((sr_ne (by decide)).trans (sr_row _ _ _))))) ((sr_ne (by decide)).trans ((sr_ne (by decide)).trans ((sr_ne (by decide)).trans (sr_row _ _ _)))) ((congrFun (sr_row _ _ _) 1).trans (hk1)) ((congrFun (sr_row _ _ _) 16).trans (hk16.trans h16)) ((congrFun (sr_row _ _ _) 17).trans ((hkp 17 (by decide) (by decide) (by decide) (by decide)).trans h17)) hw hp hV (Tb.eq hTb ((sr_ne (by decide)).trans ((sr_ne (by decide)).trans ((sr_ne (by decide)).trans ((sr_ne (by decide)).trans ((sr_ne (by decide)).trans ((sr_ne (by decide)).trans ((hfr 276 (by decide) (by decide))))))))) ((sr_ne (by decide)).trans ((sr_ne (by decide)).trans ((sr_ne (by decide)).trans ((sr_ne (by decide)).trans ((sr_ne (by decide)).trans ((sr_ne (by decide)).trans ((hfr 277 (by decide) (by decide))))))))) ((sr_ne (by decide)).trans ((sr_ne (by decide)).trans ((sr_ne (by decide)).trans ((sr_ne (by decide)).trans ((sr_ne (by decide)).trans ((sr_ne (by decide)).trans ((hfr 278 (by decide) (by decide))))))))) ((sr_ne (by decide)).trans ((sr_ne (by decide)).trans ((sr_ne (by decide)).trans ((sr_ne (by decide)).trans ((sr_ne (by decide)).trans ((sr_ne (by decide)).trans ((hfr 279 (by decide) (by decide)))))))))))) (fun g => absurd g (by omega))
  · have hM : ShM U := hKU.2.1
    refine hq _ _ _ hM (fun Q2 hq2 => EvE.mem (ch_P6 (hfr 280 (by decide) (by decide)) (hfr 287 (by decide) (by decide)) (hfr 283 (by decide) (by decide)) (hfr 281 (by decide) (by decide)) (hfr 282 (by decide) (by decide)) (hfr 274 (by decide) (by decide))) ?_)
    exact c_plan (lo := eLeast) (hi := eMost) (B := I 275) (U := I 279) hM (by omega) h1 hTp.2.1 (hfr 275 (by decide) (by decide)) (hfr 279 (by decide) (by decide)) (fun q hq => (congrFun (hfr 276 (by decide) (by decide)) q).trans (hTb.1 q hq)) (fun k hk => (congrFun (hfr 277 (by decide) (by decide)) k).trans (hTb.2.1 k hk)) (fun k hk => (congrFun (hfr 278 (by decide) (by decide)) k).trans (hTb.2.2.1 k hk)) (fun g => absurd g (by omega)) (fun _ X2 K2 hkp hk1 hk16 => hq2 _ (LI.mk hKU hCU (fun b hb => by rw [sr_ne (by omega), sr_ne (by omega), sr_ne (by omega), sr_ne (by omega), sr_ne (by omega), sr_ne (by omega)]) ((sr_ne (by decide)).trans ((sr_ne (by decide)).trans ((sr_ne (by decide)).trans ((sr_ne (by decide)).trans ((sr_ne (by decide)).trans (sr_row _ _ _)))))) ((sr_ne (by decide)).trans ((sr_ne (by decide)).trans ((sr_ne (by decide)).trans ((sr_ne (by decide)).trans ((sr_ne (by decide)).trans ((sr_ne (by decide)).trans ((hfr 275 (by decide) (by decide))))))))) ((sr_ne (by decide)).trans ((sr_ne (by decide)).trans ((sr_ne (by decide)).trans ((sr_ne (by decide)).trans ((sr_ne (by decide)).trans ((sr_ne (by decide)).trans ((hfr 285 (by decide) (by decide))))))))) ((sr_ne (by decide)).trans ((sr_ne (by decide)).trans ((sr_ne (by decide)).trans ((sr_ne (by decide)).trans ((sr_ne (by decide)).trans ((sr_ne (by decide)).trans ((hfr 286 (by decide) (by decide))))))))) ((sr_ne (by decide)).trans ((sr_ne (by decide)).trans ((sr_ne (by decide)).trans ((sr_ne (by decide)).trans (sr_row _ _ _))))) ((sr_ne (by decide)).trans ((sr_ne (by decide)).trans ((sr_ne (by decide)).trans (sr_row _ _ _)))) ((congrFun (sr_row _ _ _) 1).trans (hk1)) ((congrFun (sr_row _ _ _) 16).trans (hk16)) ((congrFun (sr_row _ _ _) 17).trans ((hkp 17 (by decide) (by decide) (by decide) (by decide)).trans h17)) hw hp ⟨F5.no (by rw [beg_at.1]; decide), fun j hj => absurd hj (Nat.not_lt_zero j), fun k hk g => absurd (show z8 (I 287) 2 k = 0 from if_pos hk) g⟩ (Tb.eq hTb ((sr_ne (by decide)).trans ((sr_ne (by decide)).trans ((sr_ne (by decide)).trans ((sr_ne (by decide)).trans ((sr_ne (by decide)).trans ((sr_ne (by decide)).trans ((hfr 276 (by decide) (by decide))))))))) ((sr_ne (by decide)).trans ((sr_ne (by decide)).trans ((sr_ne (by decide)).trans ((sr_ne (by decide)).trans ((sr_ne (by decide)).trans ((sr_ne (by decide)).trans ((hfr 277 (by decide) (by decide))))))))) ((sr_ne (by decide)).trans ((sr_ne (by decide)).trans ((sr_ne (by decide)).trans ((sr_ne (by decide)).trans ((sr_ne (by decide)).trans ((sr_ne (by decide)).trans ((hfr 278 (by decide) (by decide))))))))) ((sr_ne (by decide)).trans ((sr_ne (by decide)).trans ((sr_ne (by decide)).trans ((sr_ne (by decide)).trans ((sr_ne (by decide)).trans ((sr_ne (by decide)).trans ((hfr 279 (by decide) (by decide))))))))))))
end C79

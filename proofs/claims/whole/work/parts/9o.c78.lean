section C78
variable {G : Gl} {d : Nat} {T : Sh} {I : Mi} {N : Nat → Int} {Q : Option AV → Sh → Mi → Prop}
theorem p_begin {G : Gl} {d : Nat} {T : Sh} {I : Mi} {Q : Option AV → Sh → Mi → Prop} (h : LI T I) (hd : 10 ≤ d) (hq : ∀ (U : Sh) (K : Mi) (v : Int), ShM U → (∀ Q2 : Option AV → Sh → Mi → Prop, (∀ M, LI U M → Q2 (some (aI v)) U M) → EvE G mX12_begin (d - 1) [aR 274] U K Q2) → Q (some (aI v)) U K) : EvE G mX11_begin (d - 1) [aR 0] T I Q := by
  obtain ⟨A, tp, u, e, hK, hC, ⟨h1, h16, h17⟩, hw, hp, hV, hTb⟩ := id h
  have hM : ShM T := hK.2.1
  obtain ⟨⟨hL, hLp⟩, hTp, ⟨hst, htc, ⟨q, n, hNo⟩, h26⟩, hRg, hIm⟩ := id hC
  have hS := sK0 hK
  have hn := hNo.1.2.1
  have hn2 := hNo.1.2.2.1
  have hR := hNo.1.1
  have hLd := hNo.2.1
  have hq6 := hNo.1.2.2.2.1
  have hN2 := hNo.2.2.1
  have hstg := hNo.2.2.2
  have hpl := hLp
  unfold plOk at hpl
  have h6r := ok_6.mp (hR 6)
  refine a_begin hK (by omega) hC hw (fun U K A2 hKU hfr hCU => ?_)
  · have e280 : K 280 = I 280 := (hfr 280 (by decide) (by decide))
    have hM : ShM U := hKU.2.1
    refine hq _ _ _ hM (fun Q2 hq2 => EvE.mem (ch_A5 (hfr 286 (by decide) (by decide)) (hfr 285 (by decide) (by decide)) (hfr 284 (by decide) (by decide)) (hfr 274 (by decide) (by decide)) (hfr 283 (by decide) (by decide))) ?_)
    refine c_begin hM (by omega) hR hw h16 hC.2.2.2.1.1.1 (by rw [e280]; omega) (by rw [e280]; omega) (by rw [e280]; omega) (by rw [e280]; omega) ?_
    rw [e280]
    have hb0 : ga1 (I 280) (I 280 1) (I 283) 0 = 1 := (ga_1 hLp (by omega) (by omega)).2.1
    exact hq2 _ (LI.mk hKU hCU (fun b hb => by rw [sr_ne (by omega), sr_ne (by omega), sr_ne (by omega), sr_ne (by omega), sr_ne (by omega)]) ((sr_ne (by decide)).trans ((sr_ne (by decide)).trans ((sr_ne (by decide)).trans ((sr_ne (by decide)).trans ((sr_ne (by decide)).trans ((hfr 280 (by decide) (by decide)))))))) ((sr_ne (by decide)).trans ((sr_ne (by decide)).trans ((sr_ne (by decide)).trans ((sr_ne (by decide)).trans ((sr_ne (by decide)).trans ((hfr 275 (by decide) (by decide)))))))) ((sr_ne (by decide)).trans ((sr_ne (by decide)).trans ((sr_ne (by decide)).trans (sr_row _ _ _)))) ((sr_ne (by decide)).trans ((sr_ne (by decide)).trans ((sr_ne (by decide)).trans ((sr_ne (by decide)).trans (sr_row _ _ _))))) ((sr_ne (by decide)).trans ((sr_ne (by decide)).trans ((sr_ne (by decide)).trans ((sr_ne (by decide)).trans ((sr_ne (by decide)).trans ((hfr 287 (by decide) (by decide)))))))) (sr_row _ _ _) ((congrFun ((sr_ne (by decide)).trans (sr_row _ _ _)) 1).trans ((un_ne (by decide)).trans h1)) ((congrFun ((sr_ne (by decide)).trans (sr_row _ _ _)) 16).trans (un_at)) ((congrFun ((sr_ne (by decide)).trans (sr_row _ _ _)) 17).trans ((un_ne (by decide)).trans h17)) (kaW_ok hw hC.2.2.2.1.1.1 hR) hp (hV.keep hw hR hC.2.2.2.1.1.1 (F5.no (by rw [hb0]; decide))) (Tb.eq hTb ((sr_ne (by decide)).trans ((sr_ne (by decide)).trans ((sr_ne (by decide)).trans ((sr_ne (by decide)).trans ((sr_ne (by decide)).trans ((hfr 276 (by decide) (by decide)))))))) ((sr_ne (by decide)).trans ((sr_ne (by decide)).trans ((sr_ne (by decide)).trans ((sr_ne (by decide)).trans ((sr_ne (by decide)).trans ((hfr 277 (by decide) (by decide)))))))) ((sr_ne (by decide)).trans ((sr_ne (by decide)).trans ((sr_ne (by decide)).trans ((sr_ne (by decide)).trans ((sr_ne (by decide)).trans ((hfr 278 (by decide) (by decide)))))))) ((sr_ne (by decide)).trans ((sr_ne (by decide)).trans ((sr_ne (by decide)).trans ((sr_ne (by decide)).trans ((sr_ne (by decide)).trans ((hfr 279 (by decide) (by decide))))))))))
theorem p_sample {G : Gl} {d : Nat} {T : Sh} {I : Mi} {Q : Option AV → Sh → Mi → Prop} (h : LI T I) (hd : 10 ≤ d) (hq : ∀ (U : Sh) (K : Mi) (v : Int), ShM U → (∀ Q2 : Option AV → Sh → Mi → Prop, (∀ M, LI U M → Q2 (some (aI v)) U M) → EvE G mX12_sample (d - 1) [aR 274] U K Q2) → Q (some (aI v)) U K) : EvE G mX11_sample (d - 1) [aR 0] T I Q := by
  obtain ⟨A, tp, u, e, hK, hC, ⟨h1, h16, h17⟩, hw, hp, hV, hTb⟩ := id h
  have hM : ShM T := hK.2.1
  obtain ⟨⟨hL, hLp⟩, hTp, ⟨hst, htc, ⟨q, n, hNo⟩, h26⟩, hRg, hIm⟩ := id hC
  have hS := sK0 hK
  have hn := hNo.1.2.1
  have hn2 := hNo.1.2.2.1
  have hR := hNo.1.1
  have hLd := hNo.2.1
  have hq6 := hNo.1.2.2.2.1
  have hN2 := hNo.2.2.1
  have hstg := hNo.2.2.2
  have hpl := hLp
  unfold plOk at hpl
  have h6r := ok_6.mp (hR 6)
  refine a_sample hK (by omega) hC hw (fun hno => hq _ _ _ hM (fun Q2 hq2 => EvE.mem (ch_A5 rfl rfl rfl rfl rfl) ?_)) (fun hok n3 hn3 U K A2 hKU hfr hCU => ?_)
  · exact c_sample (n := n) (s := (I 280 4).toNat) hM (by omega) hR hw h16 hC.2.2.2.1.1.1 hn hn2 (fun g => (hstg.2.1 g).2.2) (by omega) (by omega) (fun _ => by simp only [sr_id]; exact hq2 _ h) (fun g => absurd g hno)
  · have e280 : K 280 = I 280 := (hfr 280 (by decide) (by decide))
    have hM : ShM U := hKU.2.1
    refine hq _ _ _ hM (fun Q2 hq2 => EvE.mem (ch_A5 (hfr 286 (by decide) (by decide)) (hfr 285 (by decide) (by decide)) (hfr 284 (by decide) (by decide)) (hfr 274 (by decide) (by decide)) (hfr 283 (by decide) (by decide))) ?_)
    obtain rfl : n = n3 := by omega
    have hs0 : smF (I 283) n (I 280 4).toNat 0 = 2 := (sm_ok (s := (I 280 4).toNat) hR hn hn2 (hstg.2.1 hok).2.2 (by omega)).2.1
    exact c_sample (n := n) (s := (I 280 4).toNat) hM (by omega) hR hw h16 hC.2.2.2.1.1.1 hn hn2 (fun g => (hstg.2.1 g).2.2) (by rw [e280]; omega) (by omega) (fun g => absurd hok g) (fun _ => hq2 _ (LI.mk hKU hCU (fun b hb => by rw [sr_ne (by omega), sr_ne (by omega), sr_ne (by omega), sr_ne (by omega), sr_ne (by omega)]) ((sr_ne (by decide)).trans ((sr_ne (by decide)).trans ((sr_ne (by decide)).trans ((sr_ne (by decide)).trans ((sr_ne (by decide)).trans ((hfr 280 (by decide) (by decide)))))))) ((sr_ne (by decide)).trans ((sr_ne (by decide)).trans ((sr_ne (by decide)).trans ((sr_ne (by decide)).trans ((sr_ne (by decide)).trans ((hfr 275 (by decide) (by decide)))))))) ((sr_ne (by decide)).trans ((sr_ne (by decide)).trans ((sr_ne (by decide)).trans (sr_row _ _ _)))) ((sr_ne (by decide)).trans ((sr_ne (by decide)).trans ((sr_ne (by decide)).trans ((sr_ne (by decide)).trans (sr_row _ _ _))))) ((sr_ne (by decide)).trans ((sr_ne (by decide)).trans ((sr_ne (by decide)).trans ((sr_ne (by decide)).trans ((sr_ne (by decide)).trans ((hfr 287 (by decide) (by decide)))))))) (sr_row _ _ _) ((congrFun ((sr_ne (by decide)).trans (sr_row _ _ _)) 1).trans ((un_ne (by decide)).trans h1)) ((congrFun ((sr_ne (by decide)).trans (sr_row _ _ _)) 16).trans (un_at)) ((congrFun ((sr_ne (by decide)).trans (sr_row _ _ _)) 17).trans ((un_ne (by decide)).trans h17)) (kaW_ok hw hC.2.2.2.1.1.1 hR) hp (hV.keep hw hR hC.2.2.2.1.1.1 (F5.no (by rw [hs0]; decide))) (Tb.eq hTb ((sr_ne (by decide)).trans ((sr_ne (by decide)).trans ((sr_ne (by decide)).trans ((sr_ne (by decide)).trans ((sr_ne (by decide)).trans ((hfr 276 (by decide) (by decide)))))))) ((sr_ne (by decide)).trans ((sr_ne (by decide)).trans ((sr_ne (by decide)).trans ((sr_ne (by decide)).trans ((sr_ne (by decide)).trans ((hfr 277 (by decide) (by decide)))))))) ((sr_ne (by decide)).trans ((sr_ne (by decide)).trans ((sr_ne (by decide)).trans ((sr_ne (by decide)).trans ((sr_ne (by decide)).trans ((hfr 278 (by decide) (by decide)))))))) ((sr_ne (by decide)).trans ((sr_ne (by decide)).trans ((sr_ne (by decide)).trans ((sr_ne (by decide)).trans ((sr_ne (by decide)).trans ((hfr 279 (by decide) (by decide)))))))))))
theorem p_pass {G : Gl} {d : Nat} {T : Sh} {I : Mi} {Q : Option AV → Sh → Mi → Prop} (h : LI T I) (hd : 10 ≤ d) (hq : ∀ (U : Sh) (K : Mi) (v : Int), ShM U → (∀ Q2 : Option AV → Sh → Mi → Prop, (∀ M, LI U M → Q2 (some (aI v)) U M) → EvE G mX12_pass (d - 1) [aR 274] U K Q2) → Q (some (aI v)) U K) : EvE G mX11_pass (d - 1) [aR 0] T I Q := by
  obtain ⟨A, tp, u, e, hK, hC, ⟨h1, h16, h17⟩, hw, hp, hV, hTb⟩ := id h
  have hM : ShM T := hK.2.1
  obtain ⟨⟨hL, hLp⟩, hTp, ⟨hst, htc, ⟨q, n, hNo⟩, h26⟩, hRg, hIm⟩ := id hC
  have hS := sK0 hK
  have hn := hNo.1.2.1
  have hn2 := hNo.1.2.2.1
  have hR := hNo.1.1
  have hLd := hNo.2.1
  have hq6 := hNo.1.2.2.2.1
  have hN2 := hNo.2.2.1
  have hstg := hNo.2.2.2
  have hpl := hLp
  unfold plOk at hpl
  have h6r := ok_6.mp (hR 6)
  have hq6p : okP (I 280) (I 283) → q < 6 := fun g => by have := g.2; omega
  have hroom : okP (I 280) (I 283) → tN (I 283) + nbk n ((I 280 5).toNat * 2 ^ q) + 8 * 256 + 8 ≤ 13608 := fun g => pass_room (hstg.2.2.1 g.1).1 (hq6p g) hn2 (by omega)
  refine a_pass hK (by omega) hC hw (fun hno => hq _ _ _ hM (fun Q2 hq2 => EvE.mem (ch_A5 rfl rfl rfl rfl rfl) ?_)) (fun hok U K A2 hKU hfr hCU => ?_)
  · have eo : okPs I (I 283) = okP (I 280) (I 283) := by unfold okPs okP; rfl
    exact c_pass (n := n) (B := (I 280 5).toNat) (q := q) hM (by omega) hR hw h16 hC.2.2.2.1.1.1 hn hn2 ((bkH_m h17).trans (by omega)) (by omega) (by omega) hN2 (fun g => hq6p (eo ▸ g)) (fun p hp k hk => hNo.1.2.2.2.2.1 p hp k hk) (fun g => hroom (eo ▸ g)) (fun _ => by simp only [sr_id]; exact hq2 _ h) (fun g => absurd (eo ▸ g) hno)
  · have e280 : K 280 = I 280 := (hfr 280 (by decide) (by decide))
    have hM : ShM U := hKU.2.1
    refine hq _ _ _ hM (fun Q2 hq2 => EvE.mem (ch_A5 (hfr 286 (by decide) (by decide)) (hfr 285 (by decide) (by decide)) (hfr 284 (by decide) (by decide)) (hfr 274 (by decide) (by decide)) (hfr 283 (by decide) (by decide))) ?_)
    have eo : okPs K (I 283) = okP (I 280) (I 283) := by unfold okPs okP; rw [e280]
    exact c_pass (n := n) (B := (I 280 5).toNat) (q := q) hM (by omega) hR hw h16 hC.2.2.2.1.1.1 hn hn2 ((bkH_m h17).trans (by rw [e280]; omega)) (by omega) (by omega) hN2 (fun g => hq6p (eo ▸ g)) (fun p hp k hk => hNo.1.2.2.2.2.1 p hp k hk) (fun g => hroom (eo ▸ g)) (fun g => absurd hok (fun g2 => g (eo ▸ g2))) (fun _ fp fb => hq2 _ (LI.mk hKU hCU (fun b hb => by rw [sr_ne (by omega), sr_ne (by omega), sr_ne (by omega), sr_ne (by omega), sr_ne (by omega)]) ((sr_ne (by decide)).trans ((sr_ne (by decide)).trans ((sr_ne (by decide)).trans ((sr_ne (by decide)).trans ((sr_ne (by decide)).trans ((hfr 280 (by decide) (by decide)))))))) ((sr_ne (by decide)).trans ((sr_ne (by decide)).trans ((sr_ne (by decide)).trans ((sr_ne (by decide)).trans ((sr_ne (by decide)).trans ((hfr 275 (by decide) (by decide)))))))) ((sr_ne (by decide)).trans ((sr_ne (by decide)).trans ((sr_ne (by decide)).trans (sr_row _ _ _)))) ((sr_ne (by decide)).trans ((sr_ne (by decide)).trans ((sr_ne (by decide)).trans ((sr_ne (by decide)).trans (sr_row _ _ _))))) ((sr_ne (by decide)).trans ((sr_ne (by decide)).trans ((sr_ne (by decide)).trans ((sr_ne (by decide)).trans ((sr_ne (by decide)).trans ((hfr 287 (by decide) (by decide)))))))) (sr_row _ _ _) ((congrFun ((sr_ne (by decide)).trans (sr_row _ _ _)) 1).trans ((un_ne (by decide)).trans ((un_ne (by decide)).trans ((un_ne (by decide)).trans h1)))) ((congrFun ((sr_ne (by decide)).trans (sr_row _ _ _)) 16).trans ((un_ne (by decide)).trans ((un_ne (by decide)).trans un_at))) ((congrFun ((sr_ne (by decide)).trans (sr_row _ _ _)) 17).trans ((un_ne (by decide)).trans ((un_ne (by decide)).trans ((un_ne (by decide)).trans h17)))) (kaW_ok hw hC.2.2.2.1.1.1 hR) hp (hV.keep hw hR hC.2.2.2.1.1.1 (F5.no (by unfold psF; rw [un_at]; decide))) (Tb.eq hTb ((sr_ne (by decide)).trans ((sr_ne (by decide)).trans ((sr_ne (by decide)).trans ((sr_ne (by decide)).trans ((sr_ne (by decide)).trans ((hfr 276 (by decide) (by decide)))))))) ((sr_ne (by decide)).trans ((sr_ne (by decide)).trans ((sr_ne (by decide)).trans ((sr_ne (by decide)).trans ((sr_ne (by decide)).trans ((hfr 277 (by decide) (by decide)))))))) ((sr_ne (by decide)).trans ((sr_ne (by decide)).trans ((sr_ne (by decide)).trans ((sr_ne (by decide)).trans ((sr_ne (by decide)).trans ((hfr 278 (by decide) (by decide)))))))) ((sr_ne (by decide)).trans ((sr_ne (by decide)).trans ((sr_ne (by decide)).trans ((sr_ne (by decide)).trans ((sr_ne (by decide)).trans ((hfr 279 (by decide) (by decide)))))))))))
theorem p_winnow {G : Gl} {d : Nat} {T : Sh} {I : Mi} {Q : Option AV → Sh → Mi → Prop} (h : LI T I) (hd : 10 ≤ d) (hq : ∀ (U : Sh) (K : Mi) (v : Int), ShM U → (∀ Q2 : Option AV → Sh → Mi → Prop, (∀ M, LI U M → Q2 (some (aI v)) U M) → EvE G mX12_winnow (d - 1) [aR 274] U K Q2) → Q (some (aI v)) U K) : EvE G mX11_winnow (d - 1) [aR 0] T I Q := by
  obtain ⟨A, tp, u, e, hK, hC, ⟨h1, h16, h17⟩, hw, hp, hV, hTb⟩ := id h
  have hM : ShM T := hK.2.1
  obtain ⟨⟨hL, hLp⟩, hTp, ⟨hst, htc, ⟨q, n, hNo⟩, h26⟩, hRg, hIm⟩ := id hC
  have hS := sK0 hK
  have hn := hNo.1.2.1
  have hn2 := hNo.1.2.2.1
  have hR := hNo.1.1
  have hLd := hNo.2.1
  have hq6 := hNo.1.2.2.2.1
  have hN2 := hNo.2.2.1
  have hstg := hNo.2.2.2
  have hpl := hLp
  unfold plOk at hpl
  have h6r := ok_6.mp (hR 6)
  have h12 := ok_12.mp (hR 12)
  refine a_winnow hK (by omega) hC hw (fun hno => hq _ _ _ hM (fun Q2 hq2 => EvE.mem (ch_A5 rfl rfl rfl rfl rfl) ?_)) (fun hok n3 hn3 U K A2 hKU hfr hCU => ?_)
  · exact c_winnow (n := n) hM (by omega) hR hw h16 hC.2.2.2.1.1.1 hn hn2 (fun g => (tl_128 (hstg.2.2.1 g.1).1 (by have := g.2; omega)).1) (fun _ => by simp only [sr_id]; exact hq2 _ h) (fun g => absurd g hno)
  · have e280 : K 280 = I 280 := (hfr 280 (by decide) (by decide))
    have hM : ShM U := hKU.2.1
    refine hq _ _ _ hM (fun Q2 hq2 => EvE.mem (ch_A5 (hfr 286 (by decide) (by decide)) (hfr 285 (by decide) (by decide)) (hfr 284 (by decide) (by decide)) (hfr 274 (by decide) (by decide)) (hfr 283 (by decide) (by decide))) ?_)
    obtain rfl : n = n3 := by omega
    exact c_winnow (n := n) hM (by omega) hR hw h16 hC.2.2.2.1.1.1 hn hn2 (fun g => (tl_128 (hstg.2.2.1 g.1).1 (by have := g.2; omega)).1) (fun g => absurd hok g) (fun _ => hq2 _ (LI.mk hKU hCU (fun b hb => by rw [sr_ne (by omega), sr_ne (by omega), sr_ne (by omega), sr_ne (by omega), sr_ne (by omega)]) ((sr_ne (by decide)).trans ((sr_ne (by decide)).trans ((sr_ne (by decide)).trans ((sr_ne (by decide)).trans ((sr_ne (by decide)).trans ((hfr 280 (by decide) (by decide)))))))) ((sr_ne (by decide)).trans ((sr_ne (by decide)).trans ((sr_ne (by decide)).trans ((sr_ne (by decide)).trans ((sr_ne (by decide)).trans ((hfr 275 (by decide) (by decide)))))))) ((sr_ne (by decide)).trans ((sr_ne (by decide)).trans ((sr_ne (by decide)).trans (sr_row _ _ _)))) ((sr_ne (by decide)).trans ((sr_ne (by decide)).trans ((sr_ne (by decide)).trans ((sr_ne (by decide)).trans (sr_row _ _ _))))) ((sr_ne (by decide)).trans ((sr_ne (by decide)).trans ((sr_ne (by decide)).trans ((sr_ne (by decide)).trans ((sr_ne (by decide)).trans ((hfr 287 (by decide) (by decide)))))))) (sr_row _ _ _) ((congrFun ((sr_ne (by decide)).trans (sr_row _ _ _)) 1).trans ((un_ne (by decide)).trans h1)) ((congrFun ((sr_ne (by decide)).trans (sr_row _ _ _)) 16).trans (un_at)) ((congrFun ((sr_ne (by decide)).trans (sr_row _ _ _)) 17).trans ((un_ne (by decide)).trans h17)) (kaW_ok hw hC.2.2.2.1.1.1 hR) hp (hV.keep hw hR hC.2.2.2.1.1.1 (F5.no (by unfold wnF; rw [un_at]; decide))) (Tb.eq hTb ((sr_ne (by decide)).trans ((sr_ne (by decide)).trans ((sr_ne (by decide)).trans ((sr_ne (by decide)).trans ((sr_ne (by decide)).trans ((hfr 276 (by decide) (by decide)))))))) ((sr_ne (by decide)).trans ((sr_ne (by decide)).trans ((sr_ne (by decide)).trans ((sr_ne (by decide)).trans ((sr_ne (by decide)).trans ((hfr 277 (by decide) (by decide)))))))) ((sr_ne (by decide)).trans ((sr_ne (by decide)).trans ((sr_ne (by decide)).trans ((sr_ne (by decide)).trans ((sr_ne (by decide)).trans ((hfr 278 (by decide) (by decide)))))))) ((sr_ne (by decide)).trans ((sr_ne (by decide)).trans ((sr_ne (by decide)).trans ((sr_ne (by decide)).trans ((sr_ne (by decide)).trans ((hfr 279 (by decide) (by decide)))))))))))
theorem p_check {G : Gl} {d : Nat} {T : Sh} {I : Mi} {Q : Option AV → Sh → Mi → Prop} (h : LI T I) (hd : 10 ≤ d) (hq : ∀ (U : Sh) (K : Mi) (v : Int), ShM U → (∀ Q2 : Option AV → Sh → Mi → Prop, (∀ M, LI U M → Q2 (some (aI v)) U M) → EvE G mX12_check (d - 1) [aR 274] U K Q2) → Q (some (aI v)) U K) : EvE G mX11_check (d - 1) [aR 0] T I Q := by
  obtain ⟨A, tp, u, e, hK, hC, ⟨h1, h16, h17⟩, hw, hp, hV, hTb⟩ := id h
  have hM : ShM T := hK.2.1
  obtain ⟨⟨hL, hLp⟩, hTp, ⟨hst, htc, ⟨q, n, hNo⟩, h26⟩, hRg, hIm⟩ := id hC
  have hS := sK0 hK
  have hn := hNo.1.2.1
  have hn2 := hNo.1.2.2.1
  have hR := hNo.1.1
  have hLd := hNo.2.1
  have hq6 := hNo.1.2.2.2.1
  have hN2 := hNo.2.2.1
  have hstg := hNo.2.2.2
  have hpl := hLp
  unfold plOk at hpl
  have h6r := ok_6.mp (hR 6)
  have hrm : okCk (I 283) → tN (I 283) + (I 280 7).toNat ≤ 13608 := fun g => by have := tl_30 (hstg.2.2.1 g).1; omega
  refine a_check hK (by omega) hC hw (fun hno => hq _ _ _ hM (fun Q2 hq2 => EvE.mem (ch_A5 rfl rfl rfl rfl rfl) ?_)) (fun hok n3 hn3 U K A2 hKU hfr hCU => ?_)
  · exact c_check (n := n) (h := (I 280 7).toNat) hM (by omega) hR hw h16 hC.2.2.2.1.1.1 hn hn2 (by omega) (by omega) (by omega) (fun g => hrm g) (fun _ => by simp only [sr_id]; exact hq2 _ h) (fun g => absurd g hno)
  · have e280 : K 280 = I 280 := (hfr 280 (by decide) (by decide))
    have hM : ShM U := hKU.2.1
    refine hq _ _ _ hM (fun Q2 hq2 => EvE.mem (ch_A5 (hfr 286 (by decide) (by decide)) (hfr 285 (by decide) (by decide)) (hfr 284 (by decide) (by decide)) (hfr 274 (by decide) (by decide)) (hfr 283 (by decide) (by decide))) ?_)
    obtain rfl : n = n3 := by omega
    have hc0 := (ck_ok (h := (I 280 7).toNat) hR hn2 (by omega) (hrm hok)).2.2.1
    exact c_check (n := n) (h := (I 280 7).toNat) hM (by omega) hR hw h16 hC.2.2.2.1.1.1 hn hn2 (by rw [e280]; omega) (by omega) (by omega) (fun g => hrm g) (fun g => absurd hok g) (fun _ => hq2 _ (LI.mk hKU hCU (fun b hb => by rw [sr_ne (by omega), sr_ne (by omega), sr_ne (by omega), sr_ne (by omega), sr_ne (by omega)]) ((sr_ne (by decide)).trans ((sr_ne (by decide)).trans ((sr_ne (by decide)).trans ((sr_ne (by decide)).trans ((sr_ne (by decide)).trans ((hfr 280 (by decide) (by decide)))))))) ((sr_ne (by decide)).trans ((sr_ne (by decide)).trans ((sr_ne (by decide)).trans ((sr_ne (by decide)).trans ((sr_ne (by decide)).trans ((hfr 275 (by decide) (by decide)))))))) ((sr_ne (by decide)).trans ((sr_ne (by decide)).trans ((sr_ne (by decide)).trans (sr_row _ _ _)))) ((sr_ne (by decide)).trans ((sr_ne (by decide)).trans ((sr_ne (by decide)).trans ((sr_ne (by decide)).trans (sr_row _ _ _))))) ((sr_ne (by decide)).trans ((sr_ne (by decide)).trans ((sr_ne (by decide)).trans ((sr_ne (by decide)).trans ((sr_ne (by decide)).trans ((hfr 287 (by decide) (by decide)))))))) (sr_row _ _ _) ((congrFun ((sr_ne (by decide)).trans (sr_row _ _ _)) 1).trans ((un_ne (by decide)).trans h1)) ((congrFun ((sr_ne (by decide)).trans (sr_row _ _ _)) 16).trans (un_at)) ((congrFun ((sr_ne (by decide)).trans (sr_row _ _ _)) 17).trans ((un_ne (by decide)).trans h17)) (kaW_ok hw hC.2.2.2.1.1.1 hR) hp (hV.keep hw hR hC.2.2.2.1.1.1 (F5.no (by rcases hc0 with g | g <;> rw [g] <;> decide))) (Tb.eq hTb ((sr_ne (by decide)).trans ((sr_ne (by decide)).trans ((sr_ne (by decide)).trans ((sr_ne (by decide)).trans ((sr_ne (by decide)).trans ((hfr 276 (by decide) (by decide)))))))) ((sr_ne (by decide)).trans ((sr_ne (by decide)).trans ((sr_ne (by decide)).trans ((sr_ne (by decide)).trans ((sr_ne (by decide)).trans ((hfr 277 (by decide) (by decide)))))))) ((sr_ne (by decide)).trans ((sr_ne (by decide)).trans ((sr_ne (by decide)).trans ((sr_ne (by decide)).trans ((sr_ne (by decide)).trans ((hfr 278 (by decide) (by decide)))))))) ((sr_ne (by decide)).trans ((sr_ne (by decide)).trans ((sr_ne (by decide)).trans ((sr_ne (by decide)).trans ((sr_ne (by decide)).trans ((hfr 279 (by decide) (by decide)))))))))))
theorem p_shorten {G : Gl} {d : Nat} {T : Sh} {I : Mi} {Q : Option AV → Sh → Mi → Prop} (h : LI T I) (hd : 10 ≤ d) (hq : ∀ (U : Sh) (K : Mi) (v : Int), ShM U → (∀ Q2 : Option AV → Sh → Mi → Prop, (∀ M, LI U M → Q2 (some (aI v)) U M) → EvE G mX12_shorten (d - 1) [aR 274] U K Q2) → Q (some (aI v)) U K) : EvE G mX11_shorten (d - 1) [aR 0] T I Q := by
  obtain ⟨A, tp, u, e, hK, hC, ⟨h1, h16, h17⟩, hw, hp, hV, hTb⟩ := id h
  have hM : ShM T := hK.2.1
  obtain ⟨⟨hL, hLp⟩, hTp, ⟨hst, htc, ⟨q, n, hNo⟩, h26⟩, hRg, hIm⟩ := id hC
  have hS := sK0 hK
  have hn := hNo.1.2.1
  have hn2 := hNo.1.2.2.1
  have hR := hNo.1.1
  have hLd := hNo.2.1
  have hq6 := hNo.1.2.2.2.1
  have hN2 := hNo.2.2.1
  have hstg := hNo.2.2.2
  have hpl := hLp
  unfold plOk at hpl
  have h6r := ok_6.mp (hR 6)
  refine a_shorten hK (by omega) hC hw (fun hno => hq _ _ _ hM (fun Q2 hq2 => EvE.mem (ch_A5 rfl rfl rfl rfl rfl) ?_)) (fun hok n3 hn3 hl U K A2 hKU hfr hCU => ?_) (fun hok n3 hn3 l hl hl1 U K A2 hKU hfr hCU => ?_)
  · exact c_shorten (n := n) hM (by omega) hR hw h16 hC.2.2.2.1.1.1 hn hn2 (fun g => hstg.2.2.2 (by have : I 283 0 = 4 := g; omega) (by have : I 283 0 = 4 := g; omega)) (by omega) (by omega) (fun _ => by simp only [sr_id]; exact hq2 _ h) (fun g => absurd g hno) (fun g => absurd g hno)
  · obtain rfl : n = n3 := by omega
    have e280 : K 280 = I 280 := (hfr 280 (by decide) (by decide))
    have hM : ShM U := hKU.2.1
    refine hq _ _ _ hM (fun Q2 hq2 => EvE.mem (ch_A5 (hfr 286 (by decide) (by decide)) (hfr 285 (by decide) (by decide)) (hfr 284 (by decide) (by decide)) (hfr 274 (by decide) (by decide)) (hfr 283 (by decide) (by decide))) ?_)
    exact c_shorten (n := n) hM (by omega) hR hw h16 hC.2.2.2.1.1.1 hn hn2 (fun g => hstg.2.2.2 (by have : I 283 0 = 4 := g; omega) (by have : I 283 0 = 4 := g; omega)) (by rw [e280]; omega) (by rw [e280]; omega) (fun g => absurd hok g) (fun _ _ => hq2 _ (LI.mk hKU hCU (fun b hb => by rw [sr_ne (by omega), sr_ne (by omega), sr_ne (by omega), sr_ne (by omega), sr_ne (by omega)]) ((sr_ne (by decide)).trans ((sr_ne (by decide)).trans ((sr_ne (by decide)).trans ((sr_ne (by decide)).trans ((sr_ne (by decide)).trans ((hfr 280 (by decide) (by decide)))))))) ((sr_ne (by decide)).trans ((sr_ne (by decide)).trans ((sr_ne (by decide)).trans ((sr_ne (by decide)).trans ((sr_ne (by decide)).trans ((hfr 275 (by decide) (by decide)))))))) ((sr_ne (by decide)).trans ((sr_ne (by decide)).trans ((sr_ne (by decide)).trans (sr_row _ _ _)))) ((sr_ne (by decide)).trans ((sr_ne (by decide)).trans ((sr_ne (by decide)).trans ((sr_ne (by decide)).trans (sr_row _ _ _))))) ((sr_ne (by decide)).trans ((sr_ne (by decide)).trans ((sr_ne (by decide)).trans ((sr_ne (by decide)).trans ((sr_ne (by decide)).trans ((hfr 287 (by decide) (by decide)))))))) (sr_row _ _ _) ((congrFun ((sr_ne (by decide)).trans (sr_row _ _ _)) 1).trans ((un_ne (by decide)).trans h1)) ((congrFun ((sr_ne (by decide)).trans (sr_row _ _ _)) 16).trans (un_at)) ((congrFun ((sr_ne (by decide)).trans (sr_row _ _ _)) 17).trans ((un_ne (by decide)).trans h17)) (kaW_ok hw hC.2.2.2.1.1.1 hR) hp (hV.keep hw hR hC.2.2.2.1.1.1 (F5.no (by rw [un_at]; decide))) (Tb.eq hTb ((sr_ne (by decide)).trans ((sr_ne (by decide)).trans ((sr_ne (by decide)).trans ((sr_ne (by decide)).trans ((sr_ne (by decide)).trans ((hfr 276 (by decide) (by decide)))))))) ((sr_ne (by decide)).trans ((sr_ne (by decide)).trans ((sr_ne (by decide)).trans ((sr_ne (by decide)).trans ((sr_ne (by decide)).trans ((hfr 277 (by decide) (by decide)))))))) ((sr_ne (by decide)).trans ((sr_ne (by decide)).trans ((sr_ne (by decide)).trans ((sr_ne (by decide)).trans ((sr_ne (by decide)).trans ((hfr 278 (by decide) (by decide)))))))) ((sr_ne (by decide)).trans ((sr_ne (by decide)).trans ((sr_ne (by decide)).trans ((sr_ne (by decide)).trans ((sr_ne (by decide)).trans ((hfr 279 (by decide) (by decide))))))))))) (fun _ l2 hl2 hl3 => absurd hl (by rw [e280] at hl2; omega))
  · obtain rfl : n = n3 := by omega
    have e280 : K 280 = I 280 := (hfr 280 (by decide) (by decide))
    have hM : ShM U := hKU.2.1
    refine hq _ _ _ hM (fun Q2 hq2 => EvE.mem (ch_A5 (hfr 286 (by decide) (by decide)) (hfr 285 (by decide) (by decide)) (hfr 284 (by decide) (by decide)) (hfr 274 (by decide) (by decide)) (hfr 283 (by decide) (by decide))) ?_)
    refine c_shorten (n := n) hM (by omega) hR hw h16 hC.2.2.2.1.1.1 hn hn2 (fun g => hstg.2.2.2 (by have : I 283 0 = 4 := g; omega) (by have : I 283 0 = 4 := g; omega)) (by rw [e280]; omega) (by rw [e280]; omega) (fun g => absurd hok g) (fun _ hl2 => absurd hl2 (by rw [e280]; omega)) (fun _ l2 hl2 hl3 => ?_)
    rw [e280] at hl2
    obtain rfl : l = l2 := by omega
    exact hq2 _ (LI.mk hKU hCU (fun b hb => by rw [sr_ne (by omega), sr_ne (by omega), sr_ne (by omega), sr_ne (by omega), sr_ne (by omega)]) ((sr_ne (by decide)).trans ((sr_ne (by decide)).trans ((sr_ne (by decide)).trans ((sr_ne (by decide)).trans ((sr_ne (by decide)).trans ((hfr 280 (by decide) (by decide)))))))) ((sr_ne (by decide)).trans ((sr_ne (by decide)).trans ((sr_ne (by decide)).trans ((sr_ne (by decide)).trans ((sr_ne (by decide)).trans ((hfr 275 (by decide) (by decide)))))))) ((sr_ne (by decide)).trans ((sr_ne (by decide)).trans ((sr_ne (by decide)).trans (sr_row _ _ _)))) ((sr_ne (by decide)).trans ((sr_ne (by decide)).trans ((sr_ne (by decide)).trans ((sr_ne (by decide)).trans (sr_row _ _ _))))) ((sr_ne (by decide)).trans ((sr_ne (by decide)).trans ((sr_ne (by decide)).trans ((sr_ne (by decide)).trans ((sr_ne (by decide)).trans ((hfr 287 (by decide) (by decide)))))))) (sr_row _ _ _) ((congrFun ((sr_ne (by decide)).trans (sr_row _ _ _)) 1).trans ((un_ne (by decide)).trans h1)) ((congrFun ((sr_ne (by decide)).trans (sr_row _ _ _)) 16).trans (un_at)) ((congrFun ((sr_ne (by decide)).trans (sr_row _ _ _)) 17).trans ((un_ne (by decide)).trans h17)) (kaW_ok hw hC.2.2.2.1.1.1 hR) hp (hV.keep hw hR hC.2.2.2.1.1.1 (fun _ => by unfold shZ; rw [un_ne (by decide), un_at]; omega)) (Tb.eq hTb ((sr_ne (by decide)).trans ((sr_ne (by decide)).trans ((sr_ne (by decide)).trans ((sr_ne (by decide)).trans ((sr_ne (by decide)).trans ((hfr 276 (by decide) (by decide)))))))) ((sr_ne (by decide)).trans ((sr_ne (by decide)).trans ((sr_ne (by decide)).trans ((sr_ne (by decide)).trans ((sr_ne (by decide)).trans ((hfr 277 (by decide) (by decide)))))))) ((sr_ne (by decide)).trans ((sr_ne (by decide)).trans ((sr_ne (by decide)).trans ((sr_ne (by decide)).trans ((sr_ne (by decide)).trans ((hfr 278 (by decide) (by decide)))))))) ((sr_ne (by decide)).trans ((sr_ne (by decide)).trans ((sr_ne (by decide)).trans ((sr_ne (by decide)).trans ((sr_ne (by decide)).trans ((hfr 279 (by decide) (by decide))))))))))
theorem p_slip {G : Gl} {d : Nat} {T : Sh} {I : Mi} {Q : Option AV → Sh → Mi → Prop} {x : Int} (h : LI T I) (hd : 10 ≤ d) (hq : ∀ (U : Sh) (K : Mi) (v : Int), ShM U → (∀ Q2 : Option AV → Sh → Mi → Prop, (∀ M, LI U M → Q2 (some (aI v)) U M) → EvE G mX12_slip (d - 1) [aR 274, aI x] U K Q2) → Q (some (aI v)) U K) : EvE G mX11_slip (d - 1) [aR 0, aI x] T I Q := by
  obtain ⟨A, tp, u, e, hK, hC, ⟨h1, h16, h17⟩, hw, hp, hV, hTb⟩ := id h
  have hM : ShM T := hK.2.1
  obtain ⟨⟨hL, hLp⟩, hTp, ⟨hst, htc, ⟨q, n, hNo⟩, h26⟩, hRg, hIm⟩ := id hC
  have hS := sK0 hK
  have hn := hNo.1.2.1
  have hn2 := hNo.1.2.2.1
  have hR := hNo.1.1
  have hLd := hNo.2.1
  have hq6 := hNo.1.2.2.2.1
  have hN2 := hNo.2.2.1
  have hstg := hNo.2.2.2
  have hpl := hLp
  unfold plOk at hpl
  have h6r := ok_6.mp (hR 6)
  refine a_slip hK (by omega) hC hw (fun hno => hq _ _ _ hM (fun Q2 hq2 => EvE.mem (ch_A5 rfl rfl rfl rfl rfl) ?_)) (fun k hk n3 hn3 hkn hst3 U K A2 hKU hfr hCU => ?_)
  · exact c_slip (n := n) hM (by omega) hR hw h16 hC.2.2.2.1.1.1 hn hn2 (fun _ => by simp only [sr_id]; exact hq2 _ h) (fun g => absurd ⟨fun n3 hn3 => by have := g.1; omega, g.2⟩ hno)
  · have e280 : K 280 = I 280 := (hfr 280 (by decide) (by decide))
    have hM : ShM U := hKU.2.1
    refine hq _ _ _ hM (fun Q2 hq2 => EvE.mem (ch_A5 (hfr 286 (by decide) (by decide)) (hfr 285 (by decide) (by decide)) (hfr 284 (by decide) (by decide)) (hfr 274 (by decide) (by decide)) (hfr 283 (by decide) (by decide))) ?_)
    obtain rfl : n = n3 := by omega
    subst hk
    have hok : okSl (I 283) n (k : Int) := ⟨by omega, hst3⟩
    exact c_slip (n := n) hM (by omega) hR hw h16 hC.2.2.2.1.1.1 hn hn2 (fun g => absurd hok g) (fun _ => hq2 _ (LI.mk hKU hCU (fun b hb => by rw [sr_ne (by omega), sr_ne (by omega), sr_ne (by omega), sr_ne (by omega), sr_ne (by omega)]) ((sr_ne (by decide)).trans ((sr_ne (by decide)).trans ((sr_ne (by decide)).trans ((sr_ne (by decide)).trans ((sr_ne (by decide)).trans ((hfr 280 (by decide) (by decide)))))))) ((sr_ne (by decide)).trans ((sr_ne (by decide)).trans ((sr_ne (by decide)).trans ((sr_ne (by decide)).trans ((sr_ne (by decide)).trans ((hfr 275 (by decide) (by decide)))))))) ((sr_ne (by decide)).trans ((sr_ne (by decide)).trans ((sr_ne (by decide)).trans (sr_row _ _ _)))) ((sr_ne (by decide)).trans ((sr_ne (by decide)).trans ((sr_ne (by decide)).trans ((sr_ne (by decide)).trans (sr_row _ _ _))))) ((sr_ne (by decide)).trans ((sr_ne (by decide)).trans ((sr_ne (by decide)).trans ((sr_ne (by decide)).trans ((sr_ne (by decide)).trans ((hfr 287 (by decide) (by decide)))))))) (sr_row _ _ _) ((congrFun ((sr_ne (by decide)).trans (sr_row _ _ _)) 1).trans ((un_ne (by decide)).trans h1)) ((congrFun ((sr_ne (by decide)).trans (sr_row _ _ _)) 16).trans (un_at)) ((congrFun ((sr_ne (by decide)).trans (sr_row _ _ _)) 17).trans ((un_ne (by decide)).trans h17)) (kaW_ok hw hC.2.2.2.1.1.1 hR) hp (hV.keep hw hR hC.2.2.2.1.1.1 (F5.no (by unfold slF; rw [un_ne (by omega)]; omega))) (Tb.eq hTb ((sr_ne (by decide)).trans ((sr_ne (by decide)).trans ((sr_ne (by decide)).trans ((sr_ne (by decide)).trans ((sr_ne (by decide)).trans ((hfr 276 (by decide) (by decide)))))))) ((sr_ne (by decide)).trans ((sr_ne (by decide)).trans ((sr_ne (by decide)).trans ((sr_ne (by decide)).trans ((sr_ne (by decide)).trans ((hfr 277 (by decide) (by decide)))))))) ((sr_ne (by decide)).trans ((sr_ne (by decide)).trans ((sr_ne (by decide)).trans ((sr_ne (by decide)).trans ((sr_ne (by decide)).trans ((hfr 278 (by decide) (by decide)))))))) ((sr_ne (by decide)).trans ((sr_ne (by decide)).trans ((sr_ne (by decide)).trans ((sr_ne (by decide)).trans ((sr_ne (by decide)).trans ((hfr 279 (by decide) (by decide)))))))))))
theorem p_send {G : Gl} {d : Nat} {T : Sh} {I : Mi} {Q : Option AV → Sh → Mi → Prop} {x : Int} (h : LI T I) (hd : 10 ≤ d) (hq : ∀ (U : Sh) (K : Mi) (v : Int), ShM U → (∀ Q2 : Option AV → Sh → Mi → Prop, (∀ M, LI U M → Q2 (some (aI v)) U M) → EvE G mX12_send (d - 1) [aR 274, aI x] U K Q2) → Q (some (aI v)) U K) : EvE G mX11_send (d - 1) [aR 0, aI x] T I Q := by
  obtain ⟨A, tp, u, e, hK, hC, ⟨h1, h16, h17⟩, hw, hp, hV, hTb⟩ := id h
  have hM : ShM T := hK.2.1
  obtain ⟨⟨hL, hLp⟩, hTp, ⟨hst, htc, ⟨q, n, hNo⟩, h26⟩, hRg, hIm⟩ := id hC
  have hS := sK0 hK
  have hn := hNo.1.2.1
  have hn2 := hNo.1.2.2.1
  have hR := hNo.1.1
  have hLd := hNo.2.1
  have hq6 := hNo.1.2.2.2.1
  have hN2 := hNo.2.2.1
  have hstg := hNo.2.2.2
  have hpl := hLp
  unfold plOk at hpl
  have h6r := ok_6.mp (hR 6)
  refine a_send hK (by omega) hC hw (fun hno => hq _ _ _ hM (fun Q2 hq2 => EvE.mem (ch_A5 rfl rfl rfl rfl rfl) ?_)) (fun hok U K A2 hKU hfr hCU => ?_)
  · exact c_send hM (by omega) hR hw h16 hC.2.2.2.1.1.1 (fun _ => by simp only [sr_id]; exact hq2 _ h) (fun g => absurd g hno)
  · have e280 : K 280 = I 280 := (hfr 280 (by decide) (by decide))
    have hM : ShM U := hKU.2.1
    refine hq _ _ _ hM (fun Q2 hq2 => EvE.mem (ch_A5 (hfr 286 (by decide) (by decide)) (hfr 285 (by decide) (by decide)) (hfr 284 (by decide) (by decide)) (hfr 274 (by decide) (by decide)) (hfr 283 (by decide) (by decide))) ?_)
    exact c_send hM (by omega) hR hw h16 hC.2.2.2.1.1.1 (fun g => absurd hok g) (fun _ => hq2 _ (LI.mk hKU hCU (fun b hb => by rw [sr_ne (by omega), sr_ne (by omega), sr_ne (by omega), sr_ne (by omega), sr_ne (by omega)]) ((sr_ne (by decide)).trans ((sr_ne (by decide)).trans ((sr_ne (by decide)).trans ((sr_ne (by decide)).trans ((sr_ne (by decide)).trans ((hfr 280 (by decide) (by decide)))))))) ((sr_ne (by decide)).trans ((sr_ne (by decide)).trans ((sr_ne (by decide)).trans ((sr_ne (by decide)).trans ((sr_ne (by decide)).trans ((hfr 275 (by decide) (by decide)))))))) ((sr_ne (by decide)).trans ((sr_ne (by decide)).trans ((sr_ne (by decide)).trans (sr_row _ _ _)))) ((sr_ne (by decide)).trans ((sr_ne (by decide)).trans ((sr_ne (by decide)).trans ((sr_ne (by decide)).trans (sr_row _ _ _))))) ((sr_ne (by decide)).trans ((sr_ne (by decide)).trans ((sr_ne (by decide)).trans ((sr_ne (by decide)).trans ((sr_ne (by decide)).trans ((hfr 287 (by decide) (by decide)))))))) (sr_row _ _ _) ((congrFun ((sr_ne (by decide)).trans (sr_row _ _ _)) 1).trans ((un_ne (by decide)).trans h1)) ((congrFun ((sr_ne (by decide)).trans (sr_row _ _ _)) 16).trans (un_at)) ((congrFun ((sr_ne (by decide)).trans (sr_row _ _ _)) 17).trans ((un_ne (by decide)).trans h17)) (kaW_ok hw hC.2.2.2.1.1.1 hR) hp (hV.keep hw hR hC.2.2.2.1.1.1 (fun _ => by have := hV.1 hok.1; unfold sdF sd2 sd1; rw [un_ne (by decide), un_ne (by decide), un_ne (by decide)]; exact this)) (Tb.eq hTb ((sr_ne (by decide)).trans ((sr_ne (by decide)).trans ((sr_ne (by decide)).trans ((sr_ne (by decide)).trans ((sr_ne (by decide)).trans ((hfr 276 (by decide) (by decide)))))))) ((sr_ne (by decide)).trans ((sr_ne (by decide)).trans ((sr_ne (by decide)).trans ((sr_ne (by decide)).trans ((sr_ne (by decide)).trans ((hfr 277 (by decide) (by decide)))))))) ((sr_ne (by decide)).trans ((sr_ne (by decide)).trans ((sr_ne (by decide)).trans ((sr_ne (by decide)).trans ((sr_ne (by decide)).trans ((hfr 278 (by decide) (by decide)))))))) ((sr_ne (by decide)).trans ((sr_ne (by decide)).trans ((sr_ne (by decide)).trans ((sr_ne (by decide)).trans ((sr_ne (by decide)).trans ((hfr 279 (by decide) (by decide)))))))))))
theorem p_undo {G : Gl} {d : Nat} {T : Sh} {I : Mi} {Q : Option AV → Sh → Mi → Prop} (h : LI T I) (hd : 10 ≤ d) (hq : ∀ (U : Sh) (K : Mi) (v : Int), ShM U → (∀ Q2 : Option AV → Sh → Mi → Prop, (∀ M, LI U M → Q2 (some (aI v)) U M) → EvE G mX12_undo (d - 1) [aR 274] U K Q2) → Q (some (aI v)) U K) : EvE G mX11_undo (d - 1) [aR 0] T I Q := by
  obtain ⟨A, tp, u, e, hK, hC, ⟨h1, h16, h17⟩, hw, hp, hV, hTb⟩ := id h
  have hM : ShM T := hK.2.1
  obtain ⟨⟨hL, hLp⟩, hTp, ⟨hst, htc, ⟨q, n, hNo⟩, h26⟩, hRg, hIm⟩ := id hC
  have hS := sK0 hK
  have hn := hNo.1.2.1
  have hn2 := hNo.1.2.2.1
  have hR := hNo.1.1
  have hLd := hNo.2.1
  have hq6 := hNo.1.2.2.2.1
  have hN2 := hNo.2.2.1
  have hstg := hNo.2.2.2
  have hpl := hLp
  unfold plOk at hpl
  have h6r := ok_6.mp (hR 6)
  refine a_undo hK (by omega) hC hw (fun h0 => hq _ _ _ hM (fun Q2 hq2 => EvE.mem (ch_A5 rfl rfl rfl rfl rfl) ?_)) (fun hu1 U K A2 hKU hfr hCU => ?_)
  · exact c_undo (u := u) hM (by omega) hw h16 hC.2.2.2.1.1.1 (fun _ => by simp only [sr_id]; exact hq2 _ h) (fun e3 he3 => absurd h0 (by omega))
  · have hM : ShM U := hKU.2.1
    refine hq _ _ _ hM (fun Q2 hq2 => EvE.mem (ch_A5 (hfr 286 (by decide) (by decide)) (hfr 285 (by decide) (by decide)) (hfr 284 (by decide) (by decide)) (hfr 274 (by decide) (by decide)) (hfr 283 (by decide) (by decide))) ?_)
    refine c_undo (u := u) hM (by omega) hw h16 hC.2.2.2.1.1.1 (fun g => absurd g (by omega)) (fun e3 he3 => ?_)
    obtain rfl : e3 = u - 1 := by omega
    exact hq2 _ (LI.mk hKU hCU (fun b hb => by rw [sr_ne (by omega), sr_ne (by omega), sr_ne (by omega), sr_ne (by omega), sr_ne (by omega)]) ((sr_ne (by decide)).trans ((sr_ne (by decide)).trans ((sr_ne (by decide)).trans ((sr_ne (by decide)).trans ((sr_ne (by decide)).trans ((hfr 280 (by decide) (by decide)))))))) ((sr_ne (by decide)).trans ((sr_ne (by decide)).trans ((sr_ne (by decide)).trans ((sr_ne (by decide)).trans ((sr_ne (by decide)).trans ((hfr 275 (by decide) (by decide)))))))) ((sr_ne (by decide)).trans ((sr_ne (by decide)).trans ((sr_ne (by decide)).trans (sr_row _ _ _)))) ((sr_ne (by decide)).trans ((sr_ne (by decide)).trans ((sr_ne (by decide)).trans ((sr_ne (by decide)).trans (sr_row _ _ _))))) ((sr_ne (by decide)).trans ((sr_ne (by decide)).trans ((sr_ne (by decide)).trans ((sr_ne (by decide)).trans ((sr_ne (by decide)).trans ((hfr 287 (by decide) (by decide)))))))) (sr_row _ _ _) ((congrFun ((sr_ne (by decide)).trans (sr_row _ _ _)) 1).trans ((un_ne (by decide)).trans h1)) ((congrFun ((sr_ne (by decide)).trans (sr_row _ _ _)) 16).trans (un_at)) ((congrFun ((sr_ne (by decide)).trans (sr_row _ _ _)) 17).trans ((un_ne (by decide)).trans h17)) hw hp ⟨(hV.2.1 (u - 1) (by omega)).ag ag_row, fun j hj => hV.2.1 j (by omega), hV.2.2⟩ (Tb.eq hTb ((sr_ne (by decide)).trans ((sr_ne (by decide)).trans ((sr_ne (by decide)).trans ((sr_ne (by decide)).trans ((sr_ne (by decide)).trans ((hfr 276 (by decide) (by decide)))))))) ((sr_ne (by decide)).trans ((sr_ne (by decide)).trans ((sr_ne (by decide)).trans ((sr_ne (by decide)).trans ((sr_ne (by decide)).trans ((hfr 277 (by decide) (by decide)))))))) ((sr_ne (by decide)).trans ((sr_ne (by decide)).trans ((sr_ne (by decide)).trans ((sr_ne (by decide)).trans ((sr_ne (by decide)).trans ((hfr 278 (by decide) (by decide)))))))) ((sr_ne (by decide)).trans ((sr_ne (by decide)).trans ((sr_ne (by decide)).trans ((sr_ne (by decide)).trans ((sr_ne (by decide)).trans ((hfr 279 (by decide) (by decide))))))))))
end C78

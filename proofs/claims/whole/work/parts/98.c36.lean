section C36
variable {G : Gl} {d : Nat} {T : Sh} {I : Mi} {N : Nat → Int} {Q : Option AV → Sh → Mi → Prop}
theorem ShG.rs {T : Sh} {s s2 p o t cp co ct k x : Nat} (h : ShG T s2 p o t cp co ct) (hd : s + 15 ≤ s2 ∨ s2 + 15 ≤ s) : ShG (rsT T (s + 7) k x) s2 p o t cp co ct := by
  obtain ⟨⟨a1, a2, a3, a4, a5⟩, ⟨b1, b2, b3, b4⟩, c1⟩ := h
  refine ⟨⟨a1, a2, a3, a4, fun q hq => ?_⟩, ⟨?_, ?_, ?_, b4⟩, c1⟩
  · rw [rs_ne (by have := (refS_lt q hq).1; omega)]; exact a5 q hq
  · rw [rs_ne (by omega)]; exact b1
  · rw [rs_ne (by omega)]; exact b2
  · rw [rs_ne (by omega)]; exact b3
theorem k_ledFrom {n0 : Nat} {s p o t c : Nat} (hS : ShS T s p o t c) {s2 p2 o2 t2 c2 : Nat} (hS2 : ShS T s2 p2 o2 t2 c2) (hd : 2 ≤ d) (hdj : s + 15 ≤ s2 ∨ s2 + 15 ≤ s) (hx : (p2 ≠ p ∧ p2 ≠ o ∧ p2 ≠ t) ∧ (o2 ≠ p ∧ o2 ≠ o ∧ o2 ≠ t) ∧ (t2 ≠ p ∧ t2 ≠ o ∧ t2 ≠ t)) (hy : p2 ≠ s + 7 ∧ o2 ≠ s + 7 ∧ t2 ≠ s + 7) (hn0 : I (s2 + 7) 0 = (n0 : Int)) (hnc : n0 ≤ c2) (hq : ∀ (U : Sh) (K : Mi) (p3 o3 t3 c3 : Nat), LfP T U I K s p o t c p3 o3 t3 c3 p2 o2 t2 n0 → Q none U K) : EvE G mX4_takeFrom d [aR (s + 7), aR (s2 + 7)] T I Q := by
  refine EvE.mk (lv0 := [some (aR (s + 7)), some (aR (s2 + 7))]) (Nat.le_of_ble_eq_true rfl) (by decide +kernel) rfl ?_
  refine r_aload_n (pc := 0) (i := 0) dX4_takeFrom_0 rfl rfl ?_
  refine r_getfr (pc := 1) (b := p) cks dX4_takeFrom_1 fl_X4_15 rfl (kS7 hS) (ltS (k := 7) hS (by omega)) (rS7_1 hS) ?_
  refine r_alen (pc := 4) dX4_takeFrom_4 (by rw [(kp_ hS)]; omega) (ltp hS) ?_
  refine r_top (b := ((c : Nat) : Int)) (by rw [lp_ hS] <;> rfl) ?_
  refine r_aload_n (pc := 5) (i := 1) dX4_takeFrom_5 rfl rfl ?_
  refine r_getfi (pc := 6) cks dX4_takeFrom_6 fl_X4_9 rfl (kS7 hS2) (ltS (k := 7) hS2 (by omega)) ?_
  refine r_top (b := ((n0 : Nat) : Int)) (hn0) ?_
  refine r_icmp_ge (pc := 9) (tgt := 47) dX4_takeFrom_9 rfl (fun c9 => ?_) (fun c9 => ?_)
  · have hne := neS hS
    have hs291 := hS.1.1
    exact k_led47 (c := c) hS.g (by omega) (by omega) (by omega) (by omega) (by omega) (by omega) hS2.g (by omega) (by omega) hx hy hn0 hnc (by omega) (cap_le hS2) (hq _ _ _ _ _ _ (lf_0 hS (by omega) hx))
  · have h291 : 291 ≤ nx T := hS.1.2.1
    have hp0 := ltp hS
    have ho0 := lto hS
    have ht0 := ltt hS
    have hp20 := ltp hS2
    have ho20 := lto hS2
    have ht20 := ltt hS2
    have hs291 := hS.1.1
    have hs2291 := hS2.1.1
    obtain ⟨hcc, hc64⟩ := cap_lt hS.2.2.2 hS2.2.2.2 (show c < c2 by omega)
    have hc2 := cap_le hS2
    have g0 := hS.g
    have k0 := hS2.g
    refine r_aload_n (pc := 12) (i := 0) dX4_takeFrom_12 rfl rfl ?_
    refine r_aload_n (pc := 13) (i := 1) dX4_takeFrom_13 rfl rfl ?_
    refine r_getfr (pc := 14) (b := p2) cks dX4_takeFrom_14 fl_X4_15 rfl k0.k7.1 k0.k7.2 k0.2.1.1 ?_
    refine r_alen (pc := 17) dX4_takeFrom_17 (by rw [k0.2.1.2.2.2.1]; omega) k0.2.2.1 ?_
    refine r_top (b := ((c2 : Nat) : Int)) (by rw [k0.2.1.2.2.2.2.2.2.1]) ?_
    refine r_newint (pc := 18) dX4_takeFrom_18 aw_int (by omega) (by omega) ?_
    rw [Int.toNat_natCast]
    have q1 := g0.nw 20 (c2) (c2)
    have r1 := k0.nw 20 (c2) (c2)
    have z1 := (nw_kd (T := T) (k := 20) (n := c2) (m := c2) (b := nx T)).1 rfl
    refine r_putfr (pc := 20) cks dX4_takeFrom_20 fl_X4_15 (pf_4_1 _ _) rfl q1.k7.1 q1.k7.2 ?_
    have g1 := q1.p z1.1 (show nx T < nx (nwT T 20 (c2) (c2)) from Nat.lt_succ_self _)
    rw [z1.2] at g1
    have k1 := r1.rs (k := 1) (x := nx T) hdj
    refine (?_ : Ev G mX4_takeFrom d 23 [some (aR (s + 7)), some (aR (s2 + 7))] [] (rsT (nwT T 20 (c2) (c2)) (s + 7) 1 (nx T)) (sr I (nx T) (fun _ => 0)) Q)
    refine r_aload_n (pc := 23) (i := 0) dX4_takeFrom_23 rfl rfl ?_
    refine r_aload_n (pc := 24) (i := 1) dX4_takeFrom_24 rfl rfl ?_
    refine r_getfr (pc := 25) (b := p2) cks dX4_takeFrom_25 fl_X4_15 rfl k1.k7.1 k1.k7.2 k1.2.1.1 ?_
    refine r_alen (pc := 28) dX4_takeFrom_28 (by rw [k1.2.1.2.2.2.1]; omega) k1.2.2.1 ?_
    refine r_top (b := ((c2 : Nat) : Int)) (by rw [k1.2.1.2.2.2.2.2.2.1]) ?_
    refine r_newint (pc := 29) dX4_takeFrom_29 aw_int (by omega) (by omega) ?_
    rw [Int.toNat_natCast]
    have q2 := g1.nw 20 (c2) (c2)
    have r2 := k1.nw 20 (c2) (c2)
    have z2 := (nw_kd (T := (rsT (nwT T 20 (c2) (c2)) (s + 7) 1 (nx T))) (k := 20) (n := c2) (m := c2) (b := nx (rsT (nwT T 20 (c2) (c2)) (s + 7) 1 (nx T)))).1 rfl
    refine r_putfr (pc := 31) cks dX4_takeFrom_31 fl_X4_19 (pf_4_2 _ _) rfl q2.k7.1 q2.k7.2 ?_
    have g2 := q2.o z2.1 (show nx (rsT (nwT T 20 (c2) (c2)) (s + 7) 1 (nx T)) < nx (nwT (rsT (nwT T 20 (c2) (c2)) (s + 7) 1 (nx T)) 20 (c2) (c2)) from Nat.lt_succ_self _)
    rw [z2.2] at g2
    have k2 := r2.rs (k := 2) (x := nx (rsT (nwT T 20 (c2) (c2)) (s + 7) 1 (nx T))) hdj
    refine (?_ : Ev G mX4_takeFrom d 34 [some (aR (s + 7)), some (aR (s2 + 7))] [] (rsT (nwT (rsT (nwT T 20 (c2) (c2)) (s + 7) 1 (nx T)) 20 (c2) (c2)) (s + 7) 2 (nx (rsT (nwT T 20 (c2) (c2)) (s + 7) 1 (nx T)))) (sr (sr I (nx T) (fun _ => 0)) (nx T + 1) (fun _ => 0)) Q)
    refine r_aload_n (pc := 34) (i := 0) dX4_takeFrom_34 rfl rfl ?_
    refine r_aload_n (pc := 35) (i := 1) dX4_takeFrom_35 rfl rfl ?_
    refine r_getfr (pc := 36) (b := p2) cks dX4_takeFrom_36 fl_X4_15 rfl k2.k7.1 k2.k7.2 k2.2.1.1 ?_
    refine r_alen (pc := 39) dX4_takeFrom_39 (by rw [k2.2.1.2.2.2.1]; omega) k2.2.2.1 ?_
    refine r_top (b := ((c2 : Nat) : Int)) (by rw [k2.2.1.2.2.2.2.2.2.1]) ?_
    refine r_iconst (pc := 40) dX4_takeFrom_40 (in32_of rfl) ?_
    refine r_imulN (pc := 41) (c := ((4 * c2 : Nat) : Int)) dX4_takeFrom_41 (by unfold w32; omega) ?_
    refine r_newlong (pc := 42) dX4_takeFrom_42 aw_long (by omega) (by omega) ?_
    rw [Int.toNat_natCast]
    have q3 := g2.nw 23 (4 * c2) (4 * c2)
    have r3 := k2.nw 23 (4 * c2) (4 * c2)
    have z3 := (nw_kd (T := (rsT (nwT (rsT (nwT T 20 (c2) (c2)) (s + 7) 1 (nx T)) 20 (c2) (c2)) (s + 7) 2 (nx (rsT (nwT T 20 (c2) (c2)) (s + 7) 1 (nx T))))) (k := 23) (n := 4 * c2) (m := 4 * c2) (b := nx (rsT (nwT (rsT (nwT T 20 (c2) (c2)) (s + 7) 1 (nx T)) 20 (c2) (c2)) (s + 7) 2 (nx (rsT (nwT T 20 (c2) (c2)) (s + 7) 1 (nx T)))))).1 rfl
    refine r_putfr (pc := 44) cks dX4_takeFrom_44 fl_X4_22 (pf_4_3 _ _) rfl q3.k7.1 q3.k7.2 ?_
    have g3 := q3.t z3.1 (show nx (rsT (nwT (rsT (nwT T 20 (c2) (c2)) (s + 7) 1 (nx T)) 20 (c2) (c2)) (s + 7) 2 (nx (rsT (nwT T 20 (c2) (c2)) (s + 7) 1 (nx T)))) < nx (nwT (rsT (nwT (rsT (nwT T 20 (c2) (c2)) (s + 7) 1 (nx T)) 20 (c2) (c2)) (s + 7) 2 (nx (rsT (nwT T 20 (c2) (c2)) (s + 7) 1 (nx T)))) 23 (4 * c2) (4 * c2)) from Nat.lt_succ_self _)
    rw [z3.2] at g3
    have k3 := r3.rs (k := 3) (x := nx (rsT (nwT (rsT (nwT T 20 (c2) (c2)) (s + 7) 1 (nx T)) 20 (c2) (c2)) (s + 7) 2 (nx (rsT (nwT T 20 (c2) (c2)) (s + 7) 1 (nx T))))) hdj
    refine (?_ : Ev G mX4_takeFrom d 47 [some (aR (s + 7)), some (aR (s2 + 7))] [] (rsT (nwT (rsT (nwT (rsT (nwT T 20 (c2) (c2)) (s + 7) 1 (nx T)) 20 (c2) (c2)) (s + 7) 2 (nx (rsT (nwT T 20 (c2) (c2)) (s + 7) 1 (nx T)))) 23 (4 * c2) (4 * c2)) (s + 7) 3 (nx (rsT (nwT (rsT (nwT T 20 (c2) (c2)) (s + 7) 1 (nx T)) 20 (c2) (c2)) (s + 7) 2 (nx (rsT (nwT T 20 (c2) (c2)) (s + 7) 1 (nx T)))))) (sr (sr (sr I (nx T) (fun _ => 0)) (nx T + 1) (fun _ => 0)) (nx T + 1 + 1) (fun _ => 0)) Q)
    have hF : ShS (rsT (nwT (rsT (nwT (rsT (nwT T 20 (c2) (c2)) (s + 7) 1 (nx T)) 20 (c2) (c2)) (s + 7) 2 (nx (rsT (nwT T 20 (c2) (c2)) (s + 7) 1 (nx T)))) 23 (4 * c2) (4 * c2)) (s + 7) 3 (nx (rsT (nwT (rsT (nwT T 20 (c2) (c2)) (s + 7) 1 (nx T)) 20 (c2) (c2)) (s + 7) 2 (nx (rsT (nwT T 20 (c2) (c2)) (s + 7) 1 (nx T)))))) s (nx T) (nx T + 1) (nx T + 1 + 1) c2 := ShG.s g3 (Or.inr h291) (Or.inr (by omega)) (Or.inr (by omega)) (by omega) (by omega) (by omega) hS2.2.2.2
    have hX : Ext s T (rsT (nwT (rsT (nwT (rsT (nwT T 20 (c2) (c2)) (s + 7) 1 (nx T)) 20 (c2) (c2)) (s + 7) 2 (nx (rsT (nwT T 20 (c2) (c2)) (s + 7) 1 (nx T)))) 23 (4 * c2) (4 * c2)) (s + 7) 3 (nx (rsT (nwT (rsT (nwT T 20 (c2) (c2)) (s + 7) 1 (nx T)) 20 (c2) (c2)) (s + 7) 2 (nx (rsT (nwT T 20 (c2) (c2)) (s + 7) 1 (nx T)))))) c c2 := by
      refine ⟨show nx T ≤ nx T + 1 + 1 + 1 by omega, fun b hb => ?_, fun b k hb hk => ?_, by omega, show sl T + c2 + c2 + 4 * c2 + 12 * c ≤ sl T + 12 * c2 by omega, show 64 * (nx T + 1 + 1 + 1) + 3 * c ≤ 64 * nx T + 3 * c2 by omega⟩
      · have w1 := nw_kdn (T := T) (k := 20) (n := c2) (m := c2) (b := b) hb
        have w2 := nw_kdn (T := rsT (nwT T 20 (c2) (c2)) (s + 7) 1 (nx T)) (k := 20) (n := c2) (m := c2) (b := b) (show b < nx T + 1 by omega)
        have w3 := nw_kdn (T := rsT (nwT (rsT (nwT T 20 (c2) (c2)) (s + 7) 1 (nx T)) 20 (c2) (c2)) (s + 7) 2 (nx (rsT (nwT T 20 (c2) (c2)) (s + 7) 1 (nx T)))) (k := 23) (n := 4 * c2) (m := 4 * c2) (b := b) (show b < nx T + 1 + 1 by omega)
        exact ⟨w3.1.trans (w2.1.trans w1.1), w3.2.trans (w2.2.trans w1.2)⟩
      · rw [rs_ne (by omega), nw_rf (show b < nx T + 1 + 1 by omega), rs_ne (by omega), nw_rf (show b < nx T + 1 by omega), rs_ne (by omega), nw_rf hb]
    have hIb : ∀ b, b < nx T → (sr (sr (sr I (nx T) (fun _ => 0)) (nx T + 1) (fun _ => 0)) (nx T + 1 + 1) (fun _ => 0)) b = I b := fun b hb => by rw [sr_ne (by omega), sr_ne (by omega), sr_ne (by omega)]
    have hx2 : (p2 ≠ nx T ∧ p2 ≠ nx T + 1 ∧ p2 ≠ nx T + 1 + 1) ∧ (o2 ≠ nx T ∧ o2 ≠ nx T + 1 ∧ o2 ≠ nx T + 1 + 1) ∧ (t2 ≠ nx T ∧ t2 ≠ nx T + 1 ∧ t2 ≠ nx T + 1 + 1) := by omega
    refine k_led47 (c := c) g3 (show nx T ≠ nx T + 1 by omega) (show nx T ≠ nx T + 1 + 1 by omega) (show nx T + 1 ≠ nx T + 1 + 1 by omega) (show nx T ≠ s + 7 by omega) (show nx T + 1 ≠ s + 7 by omega) (show nx T + 1 + 1 ≠ s + 7 by omega) k3 (by omega) (by omega) hx2 hy ((congrFun (hIb (s2 + 7) (by omega)) 0).trans hn0) hnc (by omega) hc2 ?_
    have hT := lf_0 (I := sr (sr (sr I (nx T) (fun _ => 0)) (nx T + 1) (fun _ => 0)) (nx T + 1 + 1) (fun _ => 0)) (n0 := n0) hF (by omega) hx2
    obtain ⟨t1, t2_, t3, t4, t5, t6, t7⟩ := hT
    refine hq _ _ _ _ _ _ ⟨t1, hX.tr t2_, ⟨Or.inr (Nat.le_refl _), Or.inr (by omega), Or.inr (by omega)⟩, fun b hb h7 hp ho ht => (t4 b (show b < nx T + 1 + 1 + 1 by omega) h7 (by omega) (by omega) (by omega)).trans (hIb b hb), t5, ⟨fun k hk => ⟨((t6.1 k hk).1).trans (congrFun (hIb p2 hp20) k), ((t6.1 k hk).2).trans (congrFun (hIb o2 ho20) k)⟩, fun k hk => (t6.2 k hk).trans (congrFun (hIb t2 ht20) k)⟩, t7⟩
end C36

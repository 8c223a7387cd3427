section C72
variable {G : Gl} {d : Nat} {T : Sh} {I : Mi} {N : Nat → Int} {Q : Option AV → Sh → Mi → Prop}
theorem k_x12b (hT : ShM T) (hd : 2 ≤ d)  (hq : Q none T (sr (sr (sr (sr I 281 (usR (I 281) (I 279) 9)) 282 (z8 (I 282) 9)) 280 (usR (I 280) (usR (I 281) (I 279) 9) 9)) 283 (begins (I 283)))) : Ev G mX12_init d 674 [some (aR 274), none] [] T I Q := by
  refine r_mem (I2 := sr (sr I 281 (I 281)) 282 (I 282)) (by rw [sr_id, sr_id]) ?_
  refine r_aload_n (pc := 674) (i := 0) dX12_init_674 rfl rfl ?_
  refine r_callV0 (pc := 675) (d - 1) [] dX12_init_675 (CV.mk2 mk_X12_setsPlain lk_X12_67) (RC.of (ltM hT (by omega)) (kM274 hT) (by decide) rfl) rfl rfl (by omega) (Nat.le_of_ble_eq_true rfl) (Nat.le_of_ble_eq_true rfl) (c_setsPlain (R := I 281) (X := I 282) hT ?_)
  refine ⟨rfl, fun _ => ?_⟩
  refine r_mem (I2 := sr (sr (sr (sr I 281 (usR (I 281) (I 279) 9)) 282 (z8 (I 282) 9)) 280 (usR (I 280) (usR (I 281) (I 279) 9) 0)) 283 (I 283)) ?_ ?_
  · have e1 : (sr (sr I 281 (usR (I 281) (I 279) 9)) 282 (z8 (I 282) 9)) 280 = I 280 := (sr_ne (by decide)).trans (sr_ne (by decide))
    have e2 : (sr (sr I 281 (usR (I 281) (I 279) 9)) 282 (z8 (I 282) 9)) 283 = I 283 := (sr_ne (by decide)).trans (sr_ne (by decide))
    rw [usR_0, ← e1, sr_id, ← e2, sr_id]
  refine r_iconst (pc := 678) dX12_init_678 (in32_of rfl) ?_
  refine r_istore_n (pc := 679) (i := 1) (lv' := [_, _]) dX12_init_679 rfl (by decide) rfl ?_
  refine loop1 (fun (k : Nat) => k ≤ 9) (fun (k : Nat) => 9 - k) (fun (k : Nat) => [some (aR 274), some (aI ((k : Nat) : Int))]) (fun _ => T) (fun (k : Nat) => sr (sr (sr (sr I 281 (usR (I 281) (I 279) 9)) 282 (z8 (I 282) 9)) 280 (usR (I 280) (usR (I 281) (I 279) 9) k)) 283 (I 283)) ?_ 0 (Nat.zero_le _)
  intro k hP ih
  have hP : k ≤ 9 := hP
  refine (?_ : Ev G mX12_init d 680 [some (aR 274), some (aI ((k : Nat) : Int))] [] T (sr (sr (sr (sr I 281 (usR (I 281) (I 279) 9)) 282 (z8 (I 282) 9)) 280 (usR (I 280) (usR (I 281) (I 279) 9) k)) 283 (I 283)) Q)
  refine r_iload_n (pc := 680) (i := 1) dX12_init_680 rfl rfl ?_
  refine r_bipush (pc := 681) dX12_init_681 rfl (in32_of rfl) ?_
  refine r_icmp_ge (pc := 683) (tgt := 704) dX12_init_683 rfl (fun c683 => ?_) (fun c683 => ?_)
  · refine r_aload_n (pc := 704) (i := 0) dX12_init_704 rfl rfl ?_
    refine r_callV0 (pc := 705) (d - 1) [] dX12_init_705 (CV.mk2 mk_X12_begins lk_X12_70) (RC.of (ltM hT (by omega)) (kM274 hT) (by decide) rfl) rfl rfl (by omega) (Nat.le_of_ble_eq_true rfl) (Nat.le_of_ble_eq_true rfl) (c_begins hT ?_)
    refine ⟨rfl, fun _ => ?_⟩
    exact r_vret (pc := 708) dX12_init_708 trivial (by have e : k = 9 := (by omega); subst e; exact hq)
  · refine r_aload_n (pc := 686) (i := 0) dX12_init_686 rfl rfl ?_
    refine r_getfr (pc := 687) (b := 280) cks dX12_init_687 fl_X12_27 rfl (kM274 hT) (ltM hT (by omega)) (rM6 hT) ?_
    refine r_iload_n (pc := 690) (i := 1) dX12_init_690 rfl rfl ?_
    refine r_aload_n (pc := 691) (i := 0) dX12_init_691 rfl rfl ?_
    refine r_getfr (pc := 692) (b := 281) cks dX12_init_692 fl_X12_30 rfl (kM274 hT) (ltM hT (by omega)) (rM7 hT) ?_
    refine r_iload_n (pc := 695) (i := 1) dX12_init_695 rfl rfl ?_
    refine r_ild (pc := 696) (k) dX12_init_696 (kM281 hT) (ltM hT (by omega)) rfl (by rw [lM281 hT]; omega) ?_
    refine r_top (b := (usR (I 281) (I 279) 9) k) ((congrFun (sr_ne (by decide)) _).trans ((congrFun (sr_ne (by decide)) _).trans ((congrFun (sr_ne (by decide)) _).trans (sr_at _ _ _ _)))) ?_
    refine r_ist (pc := 697) (k) dX12_init_697 (kM280 hT) (ltM hT (by omega)) rfl (by rw [lM280 hT]; omega) ?_
    refine r_mem (I2 := sr (sr (sr (sr I 281 (usR (I 281) (I 279) 9)) 282 (z8 (I 282) 9)) 280 (un (usR (I 280) (usR (I 281) (I 279) 9) k) k ((usR (I 281) (I 279) 9) k))) 283 (I 283)) (by rw [up2_sr_ne (by decide), up2_sr]) ?_
    refine r_iincN (pc := 698) (i := 1) (c := ((k + 1 : Nat) : Int)) (lv' := [_, _]) dX12_init_698 rfl (by decide) (by unfold w32; omega) rfl ?_
    refine r_goto (pc := 701) (tgt := 680) dX12_init_701 rfl ?_
    exact Ev.re rfl (by rw [usR_succ]) (ih (k + 1) (by omega) (by omega))
theorem At.tab {T0 U : Sh} {I0 K : Mi} {a m : Nat} {l : List En} (h : At T0 I0 U K a l m) {tb : List (Nat × Nat × Nat)} (hc : ∀ q ∈ tb, a ≤ q.1 ∧ (l[q.1 - a]?).map kl = some (q.2.1, q.2.2)) : ∀ q ∈ tb, kd U q.1 = q.2.1 ∧ ln U q.1 = q.2.2 := by
  intro q hq
  obtain ⟨h1, h2⟩ := hc q hq
  have h3 := h.look h2
  rw [show a + (q.1 - a) = q.1 by omega] at h3
  exact ⟨h3.1, h3.2.1⟩
theorem At.refs {T0 U : Sh} {I0 K : Mi} {a m : Nat} {l : List En} (h : At T0 I0 U K a l m) {tb : List (Nat × Nat × Nat)} (hc : ∀ q ∈ tb, a ≤ q.1 ∧ (l[q.1 - a]?).bind (fun e => (e.2.2.2 q.2.1).map (a + ·)) = some q.2.2) : ∀ q ∈ tb, rf U q.1 q.2.1 = some q.2.2 := by
  intro q hq
  obtain ⟨h1, h2⟩ := hc q hq
  obtain ⟨e, e1, e2⟩ := Option.bind_eq_some_iff.mp h2
  have h3 := (h.2.2.2 _ e e1).2.2.2 q.2.1
  rw [show a + (q.1 - a) = q.1 by omega] at h3
  exact h3.trans e2
theorem At.row {T0 U : Sh} {I0 K : Mi} {a m : Nat} {l : List En} (h : At T0 I0 U K a l m) (i n : Nat) (f : Nat → Nat) (r : Nat → Int) (he : (l[i]?).map (fun e => (List.range n).map (fun k => e.2.2.1 (f k))) = some ((List.range n).map r)) : ∀ k, k < n → K (a + i) (f k) = r k := by
  intro k hk
  obtain ⟨e, e1, e2⟩ := Option.map_eq_some_iff.mp he
  have h3 := (h.2.2.2 _ e e1).2.2.1
  rw [h3]
  have h4 := congrArg (fun l => l[k]?) e2
  simp only [List.getElem?_map, List.getElem?_range hk, Option.map_some] at h4
  exact Option.some.inj h4
end C72

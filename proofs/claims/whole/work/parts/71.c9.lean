section C9
variable {G : Gl} {d : Nat} {T : Sh} {I : Mi} {N : Nat → Int} {Q : Option AV → Sh → Mi → Prop}
def fiR (F : Nat → Int) (v : Int) (n : Nat) : Nat → Int := fun j => if j < n then v else F j
theorem fiR_0 (F : Nat → Int) (v : Int) : fiR F v 0 = F := funext fun j => if_neg (by omega)
theorem fiR_succ (F : Nat → Int) (v : Int) (k : Nat) : un (fiR F v k) k v = fiR F v (k + 1) := by
  funext j
  unfold un fiR
  by_cases h : j = k
  · rw [if_pos h, if_pos (by omega)]
  · rw [if_neg h]
    by_cases g : j < k
    · rw [if_pos g, if_pos (by omega)]
    · rw [if_neg g, if_neg (by omega)]
theorem fiR_in {F : Nat → Int} {v : Int} {n j : Nat} (h : j < n) : fiR F v n j = v := if_pos h
theorem k_fillI {x lx : Nat} {v : Int} (hkx : kd T x = 20) (hlx : x < nx T) (hnx : ln T x = lx) (hl2 : lx ≤ 100000) (hq : Q none T (sr I x (fiR (I x) v lx))) : EvE G mJ7_fill_53178 d [aR x, aI v] T I Q := by
  refine EvE.mk (lv0 := [some (aR x), some (aI v), none, none]) (Nat.le_of_ble_eq_true rfl) (by decide +kernel) rfl ?_
  refine r_iconst (pc := 0) dJ7_fill_53178_0 (in32_of rfl) ?_
  refine r_istore_n (pc := 1) (i := 2) (lv' := [_, _, _, _]) dJ7_fill_53178_1 rfl (by decide) rfl ?_
  refine r_aload_n (pc := 2) (i := 0) dJ7_fill_53178_2 rfl rfl ?_
  refine r_alen (pc := 3) dJ7_fill_53178_3 (by rw [hkx]; omega) hlx ?_
  refine r_top (b := ((lx : Nat) : Int)) (by rw [hnx] <;> rfl) ?_
  refine r_istore_n (pc := 4) (i := 3) (lv' := [_, _, _, _]) dJ7_fill_53178_4 rfl (by decide) rfl ?_
  refine r_mem (I2 := sr I x (fiR (I x) v 0)) (by rw [fiR_0, sr_id]) ?_
  refine loop1 (fun (k : Nat) => k ≤ lx) (fun (k : Nat) => lx - k) (fun (k : Nat) => [some (aR x), some (aI v), some (aI ((k : Nat) : Int)), some (aI ((lx : Nat) : Int))]) (fun _ => T) (fun (k : Nat) => sr I x (fiR (I x) v k)) ?_ 0 (Nat.zero_le _)
  intro k hP ih
  have hP : k ≤ lx := hP
  refine (?_ : Ev G mJ7_fill_53178 d 5 [some (aR x), some (aI v), some (aI ((k : Nat) : Int)), some (aI ((lx : Nat) : Int))] [] T (sr I x (fiR (I x) v k)) Q)
  refine r_iload_n (pc := 5) (i := 2) dJ7_fill_53178_5 rfl rfl ?_
  refine r_iload_n (pc := 6) (i := 3) dJ7_fill_53178_6 rfl rfl ?_
  refine r_icmp_ge (pc := 7) (tgt := 20) dJ7_fill_53178_7 rfl (fun c7 => ?_) (fun c7 => ?_)
  · exact r_vret (pc := 20) dJ7_fill_53178_20 trivial (by rw [show lx = k by omega] at hq; exact hq)
  · refine r_aload_n (pc := 10) (i := 0) dJ7_fill_53178_10 rfl rfl ?_
    refine r_iload_n (pc := 11) (i := 2) dJ7_fill_53178_11 rfl rfl ?_
    refine r_iload_n (pc := 12) (i := 1) dJ7_fill_53178_12 rfl rfl ?_
    refine r_ist (pc := 13) (k) dJ7_fill_53178_13 hkx hlx rfl (by rw [hnx]; omega) ?_
    refine r_mem (I2 := sr I x (un (fiR (I x) v k) k v)) ((up2_row _ _ _ _).trans ((congrArg (fun fz_ => sr (sr I x (fiR (I x) v k)) x (un fz_ k v)) (show (sr I x (fiR (I x) v k)) x = fiR (I x) v k from sr_row _ _ _)).trans (sr_sr _ _ _ _))) ?_
    refine r_iincN (pc := 14) (i := 2) (c := ((k + 1 : Nat) : Int)) (lv' := [_, _, _, _]) dJ7_fill_53178_14 rfl (by decide) (by unfold w32; omega) rfl ?_
    refine r_goto (pc := 17) (tgt := 5) dJ7_fill_53178_17 rfl ?_
    exact Ev.re rfl (by rw [fiR_succ]) (ih (k + 1) (by omega) (by omega))
theorem k_fillL {x lx : Nat} {v : Int} (hkx : kd T x = 23) (hlx : x < nx T) (hnx : ln T x = lx) (hl2 : lx ≤ 100000) (hq : Q none T (sr I x (fiR (I x) v lx))) : EvE G mJ7_fill_d0a16 d [aR x, aL v] T I Q := by
  refine EvE.mk (lv0 := [some (aR x), some (aL v), none, none, none]) (Nat.le_of_ble_eq_true rfl) (by decide +kernel) rfl ?_
  refine r_iconst (pc := 0) dJ7_fill_d0a16_0 (in32_of rfl) ?_
  refine r_istore_n (pc := 1) (i := 3) (lv' := [_, _, _, _, _]) dJ7_fill_d0a16_1 rfl (by decide) rfl ?_
  refine r_aload_n (pc := 2) (i := 0) dJ7_fill_d0a16_2 rfl rfl ?_
  refine r_alen (pc := 3) dJ7_fill_d0a16_3 (by rw [hkx]; omega) hlx ?_
  refine r_top (b := ((lx : Nat) : Int)) (by rw [hnx] <;> rfl) ?_
  refine r_istore (pc := 4) (i := 4) (lv' := [_, _, _, _, _]) dJ7_fill_d0a16_4 (by decide) rfl ?_
  refine r_mem (I2 := sr I x (fiR (I x) v 0)) (by rw [fiR_0, sr_id]) ?_
  refine loop1 (fun (k : Nat) => k ≤ lx) (fun (k : Nat) => lx - k) (fun (k : Nat) => [some (aR x), some (aL v), none, some (aI ((k : Nat) : Int)), some (aI ((lx : Nat) : Int))]) (fun _ => T) (fun (k : Nat) => sr I x (fiR (I x) v k)) ?_ 0 (Nat.zero_le _)
  intro k hP ih
  have hP : k ≤ lx := hP
  refine (?_ : Ev G mJ7_fill_d0a16 d 6 [some (aR x), some (aL v), none, some (aI ((k : Nat) : Int)), some (aI ((lx : Nat) : Int))] [] T (sr I x (fiR (I x) v k)) Q)
  refine r_iload_n (pc := 6) (i := 3) dJ7_fill_d0a16_6 rfl rfl ?_
  refine r_iload (pc := 7) (i := 4) dJ7_fill_d0a16_7 rfl ?_
  refine r_icmp_ge (pc := 9) (tgt := 22) dJ7_fill_d0a16_9 rfl (fun c9 => ?_) (fun c9 => ?_)
  · exact r_vret (pc := 22) dJ7_fill_d0a16_22 trivial (by rw [show lx = k by omega] at hq; exact hq)
  · refine r_aload_n (pc := 12) (i := 0) dJ7_fill_d0a16_12 rfl rfl ?_
    refine r_iload_n (pc := 13) (i := 3) dJ7_fill_d0a16_13 rfl rfl ?_
    refine r_lload_n (pc := 14) (i := 1) dJ7_fill_d0a16_14 rfl rfl ?_
    refine r_lst (pc := 15) (k) dJ7_fill_d0a16_15 hkx hlx rfl (by rw [hnx]; omega) ?_
    refine r_mem (I2 := sr I x (un (fiR (I x) v k) k v)) ((up2_row _ _ _ _).trans ((congrArg (fun fz_ => sr (sr I x (fiR (I x) v k)) x (un fz_ k v)) (show (sr I x (fiR (I x) v k)) x = fiR (I x) v k from sr_row _ _ _)).trans (sr_sr _ _ _ _))) ?_
    refine r_iincN (pc := 16) (i := 3) (c := ((k + 1 : Nat) : Int)) (lv' := [_, _, _, _, _]) dJ7_fill_d0a16_16 rfl (by decide) (by unfold w32; omega) rfl ?_
    refine r_goto (pc := 19) (tgt := 6) dJ7_fill_d0a16_19 rfl ?_
    exact Ev.re rfl (by rw [fiR_succ]) (ih (k + 1) (by omega) (by omega))
theorem k_copyOfI {x n lx : Nat} (hd : 1 ≤ d) (hkx : kd T x = 20) (hlx : x < nx T) (hnx : ln T x = lx) (hn : lx < n) (hn2 : n ≤ 1000000) (hq : Q (some (aR (nx T))) (nwT T 20 n n) (sr I (nx T) (cpyR (I x) 0 (fun _ => 0) 0 lx))) : EvE G mJ7_copyOf_59c91 d [aR x, aI ((n : Nat) : Int)] T I Q := by
  have hx2 : kd (nwT T 20 n n) x = 20 ∧ ln (nwT T 20 n n) x = lx := by
    have h := (nw_kd (T := T) (k := 20) (n := n) (m := n) (b := x)).2 (by omega)
    exact ⟨h.1.trans hkx, h.2.trans hnx⟩
  have ha2 := (nw_kd (T := T) (k := 20) (n := n) (m := n) (b := nx T)).1 rfl
  have hnx2 : nx (nwT T 20 n n) = nx T + 1 := rfl
  refine EvE.mk (lv0 := [some (aR x), some (aI ((n : Nat) : Int)), none]) (Nat.le_of_ble_eq_true rfl) (by decide +kernel) rfl ?_
  refine r_iload_n (pc := 0) (i := 1) dJ7_copyOf_59c91_0 rfl rfl ?_
  refine r_aload_n (pc := 1) (i := 0) dJ7_copyOf_59c91_1 rfl rfl ?_
  refine r_alen (pc := 2) dJ7_copyOf_59c91_2 (by rw [hkx]; omega) hlx ?_
  refine r_top (b := ((lx : Nat) : Int)) (by rw [hnx]) ?_
  refine r_icmp_ne (pc := 3) (tgt := 14) dJ7_copyOf_59c91_3 rfl (fun _ => ?_) (fun h => absurd (show ¬ ((n : Nat) : Int) = ((lx : Nat) : Int) by omega) h)
  refine r_iload_n (pc := 14) (i := 1) dJ7_copyOf_59c91_14 rfl rfl ?_
  refine r_newint (pc := 15) dJ7_copyOf_59c91_15 aw_int (by omega) (by omega) ?_
  refine r_mem (I2 := sr I (nx T) (fun _ => 0)) rfl ?_
  rw [Int.toNat_natCast]
  refine r_astore_n (pc := 17) (i := 2) (lv' := [_, _, _]) dJ7_copyOf_59c91_17 rfl (by decide) rfl ?_
  refine r_aload_n (pc := 18) (i := 0) dJ7_copyOf_59c91_18 rfl rfl ?_
  refine r_iconst (pc := 19) dJ7_copyOf_59c91_19 (in32_of rfl) ?_
  refine r_aload_n (pc := 20) (i := 2) dJ7_copyOf_59c91_20 rfl rfl ?_
  refine r_iconst (pc := 21) dJ7_copyOf_59c91_21 (in32_of rfl) ?_
  refine r_aload_n (pc := 22) (i := 0) dJ7_copyOf_59c91_22 rfl rfl ?_
  refine r_alen (pc := 23) dJ7_copyOf_59c91_23 (by rw [hx2.1]; omega) (by rw [hnx2]; omega) ?_
  refine r_top (b := ((lx : Nat) : Int)) (by rw [hx2.2]) ?_
  refine r_iload_n (pc := 24) (i := 1) dJ7_copyOf_59c91_24 rfl rfl ?_
  refine r_min (pc := 25) dJ7_copyOf_59c91_25 (by omega) ml_J7_304 (Nat.le_of_ble_eq_true rfl) ?_
  refine r_top (b := ((lx : Nat) : Int)) (by rw [if_neg (by omega)]) ?_
  refine r_cpN (pc := 28) (a := nx T) (a0 := x) 0 0 lx dJ7_copyOf_59c91_28 (by omega) ac_J7_150 (Nat.le_of_ble_eq_true rfl) (Or.inl ha2.1) (hx2.1.trans ha2.1.symm) (by rw [hnx2]; omega) (by rw [hnx2]; omega) rfl rfl rfl (by rw [hx2.2]; omega) (by rw [ha2.2]; omega) ?_
  refine r_mem (I2 := sr I (nx T) (cpyR (I x) 0 (fun _ => 0) 0 lx)) (by rw [sr_sr, sr_row, sr_ne (show x ≠ nx T by omega)]) ?_
  refine r_aload_n (pc := 31) (i := 2) dJ7_copyOf_59c91_31 rfl rfl ?_
  exact r_aret (pc := 32) dJ7_copyOf_59c91_32 (by trivial) hq
theorem k_copyOfL {x n lx : Nat} (hd : 1 ≤ d) (hkx : kd T x = 23) (hlx : x < nx T) (hnx : ln T x = lx) (hn : lx < n) (hn2 : n ≤ 1000000) (hq : Q (some (aR (nx T))) (nwT T 23 n n) (sr I (nx T) (cpyR (I x) 0 (fun _ => 0) 0 lx))) : EvE G mJ7_copyOf_c38d5 d [aR x, aI ((n : Nat) : Int)] T I Q := by
  have hx2 : kd (nwT T 23 n n) x = 23 ∧ ln (nwT T 23 n n) x = lx := by
    have h := (nw_kd (T := T) (k := 23) (n := n) (m := n) (b := x)).2 (by omega)
    exact ⟨h.1.trans hkx, h.2.trans hnx⟩
  have ha2 := (nw_kd (T := T) (k := 23) (n := n) (m := n) (b := nx T)).1 rfl
  have hnx2 : nx (nwT T 23 n n) = nx T + 1 := rfl
  refine EvE.mk (lv0 := [some (aR x), some (aI ((n : Nat) : Int)), none]) (Nat.le_of_ble_eq_true rfl) (by decide +kernel) rfl ?_
  refine r_iload_n (pc := 0) (i := 1) dJ7_copyOf_c38d5_0 rfl rfl ?_
  refine r_aload_n (pc := 1) (i := 0) dJ7_copyOf_c38d5_1 rfl rfl ?_
  refine r_alen (pc := 2) dJ7_copyOf_c38d5_2 (by rw [hkx]; omega) hlx ?_
  refine r_top (b := ((lx : Nat) : Int)) (by rw [hnx]) ?_
  refine r_icmp_ne (pc := 3) (tgt := 14) dJ7_copyOf_c38d5_3 rfl (fun _ => ?_) (fun h => absurd (show ¬ ((n : Nat) : Int) = ((lx : Nat) : Int) by omega) h)
  refine r_iload_n (pc := 14) (i := 1) dJ7_copyOf_c38d5_14 rfl rfl ?_
  refine r_newlong (pc := 15) dJ7_copyOf_c38d5_15 aw_long (by omega) (by omega) ?_
  refine r_mem (I2 := sr I (nx T) (fun _ => 0)) rfl ?_
  rw [Int.toNat_natCast]
  refine r_astore_n (pc := 17) (i := 2) (lv' := [_, _, _]) dJ7_copyOf_c38d5_17 rfl (by decide) rfl ?_
  refine r_aload_n (pc := 18) (i := 0) dJ7_copyOf_c38d5_18 rfl rfl ?_
  refine r_iconst (pc := 19) dJ7_copyOf_c38d5_19 (in32_of rfl) ?_
  refine r_aload_n (pc := 20) (i := 2) dJ7_copyOf_c38d5_20 rfl rfl ?_
  refine r_iconst (pc := 21) dJ7_copyOf_c38d5_21 (in32_of rfl) ?_
  refine r_aload_n (pc := 22) (i := 0) dJ7_copyOf_c38d5_22 rfl rfl ?_
  refine r_alen (pc := 23) dJ7_copyOf_c38d5_23 (by rw [hx2.1]; omega) (by rw [hnx2]; omega) ?_
  refine r_top (b := ((lx : Nat) : Int)) (by rw [hx2.2]) ?_
  refine r_iload_n (pc := 24) (i := 1) dJ7_copyOf_c38d5_24 rfl rfl ?_
  refine r_min (pc := 25) dJ7_copyOf_c38d5_25 (by omega) ml_J7_304 (Nat.le_of_ble_eq_true rfl) ?_
  refine r_top (b := ((lx : Nat) : Int)) (by rw [if_neg (by omega)]) ?_
  refine r_cpN (pc := 28) (a := nx T) (a0 := x) 0 0 lx dJ7_copyOf_c38d5_28 (by omega) ac_J7_150 (Nat.le_of_ble_eq_true rfl) (Or.inr ha2.1) (hx2.1.trans ha2.1.symm) (by rw [hnx2]; omega) (by rw [hnx2]; omega) rfl rfl rfl (by rw [hx2.2]; omega) (by rw [ha2.2]; omega) ?_
  refine r_mem (I2 := sr I (nx T) (cpyR (I x) 0 (fun _ => 0) 0 lx)) (by rw [sr_sr, sr_row, sr_ne (show x ≠ nx T by omega)]) ?_
  refine r_aload_n (pc := 31) (i := 2) dJ7_copyOf_c38d5_31 rfl rfl ?_
  exact r_aret (pc := 32) dJ7_copyOf_c38d5_32 (by trivial) hq
end C9

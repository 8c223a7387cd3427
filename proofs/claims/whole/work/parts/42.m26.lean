section M26
variable {G : Gl} {d : Nat} {T : Sh} {I : Mi} {N : Nat → Int} {Q : Option AV → Sh → Mi → Prop}
/-- the usual numbers laid down -/
def usR (R U : Nat → Int) (k : Nat) : Nat → Int := fun q => if q < k then U q else R q
theorem usR_0 (R U : Nat → Int) : usR R U 0 = R := funext fun q => if_neg (by omega)
theorem usR_succ (R U : Nat → Int) (k : Nat) : un (usR R U k) k (U k) = usR R U (k + 1) := by
  funext q
  unfold un usR
  by_cases h : q = k
  · rw [if_pos h, if_pos (by omega), h]
  · rw [if_neg h]
    by_cases g : q < k
    · rw [if_pos g, if_pos (by omega)]
    · rw [if_neg g, if_neg (by omega)]
theorem c_setsPlain {R X : Nat → Int} (hT : ShM T) (hq : Q none T (sr (sr I 281 (usR R (I 279) 9)) 282 (z8 X 9))) : EvE G mX12_setsPlain d [aR 274] T (sr (sr I 281 R) 282 X) Q := by
  refine EvE.mk (lv0 := [some (aR 274), none]) (Nat.le_of_ble_eq_true rfl) (by decide +kernel) rfl ?_
  refine r_iconst (pc := 0) dX12_setsPlain_0 (in32_of rfl) ?_
  refine r_istore_n (pc := 1) (i := 1) (lv' := [_, _]) dX12_setsPlain_1 rfl (by decide) rfl ?_
  refine r_mem (I2 := sr (sr I 281 (usR R (I 279) 0)) 282 (z8 X 0)) (by rw [z8_0, usR_0]) ?_
  refine loop1 (fun (k : Nat) => k ≤ 9) (fun (k : Nat) => 9 - k) (fun (k : Nat) => [some (aR 274), some (aI ((k : Nat) : Int))]) (fun _ => T) (fun (k : Nat) => sr (sr I 281 (usR R (I 279) k)) 282 (z8 X k)) ?_ 0 (Nat.zero_le _)
  intro k hP ih
  have hP : k ≤ 9 := hP
  refine (?_ : Ev G mX12_setsPlain d 2 [some (aR 274), some (aI ((k : Nat) : Int))] [] T (sr (sr I 281 (usR R (I 279) k)) 282 (z8 X k)) Q)
  refine r_iload_n (pc := 2) (i := 1) dX12_setsPlain_2 rfl rfl ?_
  refine r_bipush (pc := 3) dX12_setsPlain_3 rfl (in32_of rfl) ?_
  refine r_icmp_ge (pc := 5) (tgt := 33) dX12_setsPlain_5 rfl (fun c5 => ?_) (fun c5 => ?_)
  · exact r_vret (pc := 33) dX12_setsPlain_33 trivial (by rw [show 9 = k by omega] at hq; exact hq)
  · refine r_aload_n (pc := 8) (i := 0) dX12_setsPlain_8 rfl rfl ?_
    refine r_getfr (pc := 9) (b := 281) cks dX12_setsPlain_9 fl_X12_30 rfl (kM274 hT) (ltM hT (by omega)) (rM7 hT) ?_
    refine r_iload_n (pc := 12) (i := 1) dX12_setsPlain_12 rfl rfl ?_
    refine r_aload_n (pc := 13) (i := 0) dX12_setsPlain_13 rfl rfl ?_
    refine r_getfr (pc := 14) (b := 279) cks dX12_setsPlain_14 fl_X12_24 rfl (kM274 hT) (ltM hT (by omega)) (rM5 hT) ?_
    refine r_iload_n (pc := 17) (i := 1) dX12_setsPlain_17 rfl rfl ?_
    refine r_ild (pc := 18) (k) dX12_setsPlain_18 (kM279 hT) (ltM hT (by omega)) rfl (by rw [lM279 hT]; omega) ?_
    refine r_top (b := I 279 k) ((congrFun (sr_ne (by decide)) _).trans ((congrFun (sr_ne (by decide)) _).trans (rfl))) ?_
    refine r_ist (pc := 19) (k) dX12_setsPlain_19 (kM281 hT) (ltM hT (by omega)) rfl (by rw [lM281 hT]; omega) ?_
    refine r_mem (I2 := sr (sr I 281 (un (usR R (I 279) k) k (I 279 k))) 282 (z8 X k)) (by rw [up2_sr_ne (by decide), up2_sr]) ?_
    refine r_aload_n (pc := 20) (i := 0) dX12_setsPlain_20 rfl rfl ?_
    refine r_getfr (pc := 21) (b := 282) cks dX12_setsPlain_21 fl_X12_33 rfl (kM274 hT) (ltM hT (by omega)) (rM8 hT) ?_
    refine r_iload_n (pc := 24) (i := 1) dX12_setsPlain_24 rfl rfl ?_
    refine r_iconst (pc := 25) dX12_setsPlain_25 (in32_of rfl) ?_
    refine r_bst (pc := 26) (k) true dX12_setsPlain_26 (kM282 hT) (ltM hT (by omega)) rfl (by rw [lM282 hT]; omega) ?_
    refine r_mem (I2 := sr (sr I 281 (un (usR R (I 279) k) k (I 279 k))) 282 (un (z8 X k) k (ibw  true 0))) (by rw [up2_sr]) ?_
    refine r_iincN (pc := 27) (i := 1) (c := ((k + 1 : Nat) : Int)) (lv' := [_, _]) dX12_setsPlain_27 rfl (by decide) (by unfold w32; omega) rfl ?_
    refine r_goto (pc := 30) (tgt := 2) dX12_setsPlain_30 rfl ?_
    exact Ev.re rfl (by rw [ibw_0, z8_succ, usR_succ]) (ih (k + 1) (by omega) (by omega))
end M26

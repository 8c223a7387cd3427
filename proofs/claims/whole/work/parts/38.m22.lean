section M22
variable {G : Gl} {d : Nat} {T : Sh} {I : Mi} {N : Nat → Int} {Q : Option AV → Sh → Mi → Prop}
def adS (S : Nat → Int) (p : Nat) : Nat → Int := un S (p / 32) (ixo (S (p / 32)) (isl 1 ((p % 32 : Nat) : Int)))
/-- the set of a row's ones from r + i on, k places long -/
def lrS (N : Nat → Int) (r i : Nat) (S : Nat → Int) : Nat → (Nat → Int)
  | 0 => S
  | k + 1 => if N (r + i + k) = 1 then adS (lrS N r i S k) k else lrS N r i S k
theorem lrS_succ (N : Nat → Int) (r i : Nat) (S : Nat → Int) (k : Nat) : lrS N r i S (k + 1) = if N (r + i + k) = 1 then adS (lrS N r i S k) k else lrS N r i S k := rfl
def z8 (S : Nat → Int) (k : Nat) : Nat → Int := fun j => if j < k then 0 else S j
theorem z8_0 (S : Nat → Int) : z8 S 0 = S := funext fun j => if_neg (by omega)
theorem z8_succ (S : Nat → Int) (k : Nat) : un (z8 S k) k 0 = z8 S (k + 1) := by
  funext j
  unfold un z8
  by_cases h : j = k
  · rw [if_pos h, if_pos (by omega)]
  · rw [if_neg h]
    by_cases g : j < k
    · rw [if_pos g, if_pos (by omega)]
    · rw [if_neg g, if_neg (by omega)]
theorem c_adds {p : Nat} {S Z Y H : Nat → Int} (hT : ShM T) (hp : p < 256) (hq : Q none T (sr (sr (sr (sr (sr I 288 (adS S p)) 289 Z) 290 Y) 274 H) 283 N)) : EvE G mX12_adds d [aR 274, aI ((p : Nat) : Int)] T (sr (sr (sr (sr (sr I 288 S) 289 Z) 290 Y) 274 H) 283 N) Q := by
  refine EvE.mk (lv0 := [some (aR 274), some (aI ((p : Nat) : Int))]) (Nat.le_of_ble_eq_true rfl) (by decide +kernel) rfl ?_
  refine r_aload_n (pc := 0) (i := 0) dX12_adds_0 rfl rfl ?_
  refine r_getfr (pc := 1) (b := 288) cks dX12_adds_1 fl_X12_58 rfl (kM274 hT) (ltM hT (by omega)) (rM20 hT) ?_
  refine r_iload_n (pc := 4) (i := 1) dX12_adds_4 rfl rfl ?_
  refine r_bipush (pc := 5) dX12_adds_5 rfl (in32_of rfl) ?_
  refine r_idiv (pc := 7) dX12_adds_7 (by omega) ?_
  refine r_top (b := (((p / 32) : Nat) : Int)) (by rw [idv_n (by unfold in32; omega) (by unfold in32; omega) (by omega) (by omega)]; omega) ?_
  refine r_dup2 (pc := 8) dX12_adds_8 rfl rfl ?_
  refine r_ild (pc := 9) ((p / 32)) dX12_adds_9 (kM288 hT) (ltM hT (by omega)) rfl (by rw [lM288 hT]; omega) ?_
  refine r_top (b := S (p / 32)) ((congrFun (sr_ne (by decide)) _).trans ((congrFun (sr_ne (by decide)) _).trans ((congrFun (sr_ne (by decide)) _).trans ((congrFun (sr_ne (by decide)) _).trans (sr_at _ _ _ _))))) ?_
  refine r_iconst (pc := 10) dX12_adds_10 (in32_of rfl) ?_
  refine r_iload_n (pc := 11) (i := 1) dX12_adds_11 rfl rfl ?_
  refine r_bipush (pc := 12) dX12_adds_12 rfl (in32_of rfl) ?_
  refine r_irem (pc := 14) dX12_adds_14 (by omega) ?_
  refine r_top (b := (((p % 32) : Nat) : Int)) (by rw [irm_n (by unfold in32; omega) (by unfold in32; omega) (by omega) (by omega)]; omega) ?_
  refine r_ishl (pc := 15) dX12_adds_15 ?_
  refine r_ixor (pc := 16) dX12_adds_16 ?_
  refine r_ist (pc := 17) ((p / 32)) dX12_adds_17 (kM288 hT) (ltM hT (by omega)) rfl (by rw [lM288 hT]; omega) ?_
  refine r_mem (I2 := sr (sr (sr (sr (sr I 288 (un S (p / 32) (ixo (S (p / 32)) (isl 1 (((p % 32) : Nat) : Int))))) 289 Z) 290 Y) 274 H) 283 N) (by rw [up2_sr_ne (by decide), up2_sr_ne (by decide), up2_sr_ne (by decide), up2_sr_ne (by decide), up2_sr]) ?_
  exact r_vret (pc := 18) dX12_adds_18 trivial hq
theorem c_laysRowSet {n r i : Nat} {S Z Y H : Nat → Int} (hT : ShM T) (hd : 1 ≤ d) (hn : N 1 = (n : Int)) (hn2 : n ≤ 256) (hr : r + i ≤ 10000) (hq : Q none T (sr (sr (sr (sr (sr I 288 (lrS N r i S n)) 289 Z) 290 Y) 274 H) 283 N)) : EvE G mX12_laysRowSet d [aR 274, aI ((r : Nat) : Int), aI ((i : Nat) : Int)] T (sr (sr (sr (sr (sr I 288 S) 289 Z) 290 Y) 274 H) 283 N) Q := by
  refine EvE.mk (lv0 := [some (aR 274), some (aI ((r : Nat) : Int)), some (aI ((i : Nat) : Int)), none]) (Nat.le_of_ble_eq_true rfl) (by decide +kernel) rfl ?_
  refine r_iconst (pc := 0) dX12_laysRowSet_0 (in32_of rfl) ?_
  refine r_istore_n (pc := 1) (i := 3) (lv' := [_, _, _, _]) dX12_laysRowSet_1 rfl (by decide) rfl ?_
  refine loop1 (fun (k : Nat) => k ≤ n) (fun (k : Nat) => n - k) (fun (k : Nat) => [some (aR 274), some (aI ((r : Nat) : Int)), some (aI ((i : Nat) : Int)), some (aI ((k : Nat) : Int))]) (fun _ => T) (fun (k : Nat) => sr (sr (sr (sr (sr I 288 (lrS N r i S k)) 289 Z) 290 Y) 274 H) 283 N) ?_ 0 (Nat.zero_le _)
  intro k hP ih
  have hP : k ≤ n := hP
  refine (?_ : Ev G mX12_laysRowSet d 2 [some (aR 274), some (aI ((r : Nat) : Int)), some (aI ((i : Nat) : Int)), some (aI ((k : Nat) : Int))] [] T (sr (sr (sr (sr (sr I 288 (lrS N r i S k)) 289 Z) 290 Y) 274 H) 283 N) Q)
  refine r_iload_n (pc := 2) (i := 3) dX12_laysRowSet_2 rfl rfl ?_
  refine r_aload_n (pc := 3) (i := 0) dX12_laysRowSet_3 rfl rfl ?_
  refine r_getfr (pc := 4) (b := 283) cks dX12_laysRowSet_4 fl_X12_37 rfl (kM274 hT) (ltM hT (by omega)) (rM11 hT) ?_
  refine r_iconst (pc := 7) dX12_laysRowSet_7 (in32_of rfl) ?_
  refine r_ild (pc := 8) (1) dX12_laysRowSet_8 (kM283 hT) (ltM hT (by omega)) (by omega) (by rw [lM283 hT]; omega) ?_
  refine r_top (b := N 1) (sr_at _ _ _ _) ?_
  refine r_top (b := ((n : Nat) : Int)) (hn) ?_
  refine r_icmp_ge (pc := 9) (tgt := 37) dX12_laysRowSet_9 rfl (fun c9 => ?_) (fun c9 => ?_)
  · exact r_vret (pc := 37) dX12_laysRowSet_37 trivial (by rw [show n = k by omega] at hq; exact hq)
  · refine r_aload_n (pc := 12) (i := 0) dX12_laysRowSet_12 rfl rfl ?_
    refine r_getfr (pc := 13) (b := 283) cks dX12_laysRowSet_13 fl_X12_37 rfl (kM274 hT) (ltM hT (by omega)) (rM11 hT) ?_
    refine r_iload_n (pc := 16) (i := 1) dX12_laysRowSet_16 rfl rfl ?_
    refine r_iload_n (pc := 17) (i := 2) dX12_laysRowSet_17 rfl rfl ?_
    refine r_iaddN (pc := 18) (c := ((r + i : Nat) : Int)) dX12_laysRowSet_18 (by unfold w32; omega) ?_
    refine r_iload_n (pc := 19) (i := 3) dX12_laysRowSet_19 rfl rfl ?_
    refine r_iaddN (pc := 20) (c := ((r + i + k : Nat) : Int)) dX12_laysRowSet_20 (by unfold w32; omega) ?_
    refine r_ild (pc := 21) (r + i + k) dX12_laysRowSet_21 (kM283 hT) (ltM hT (by omega)) rfl (by rw [lM283 hT]; omega) ?_
    refine r_top (b := N (r + i + k)) (sr_at _ _ _ _) ?_
    refine r_iconst (pc := 22) dX12_laysRowSet_22 (in32_of rfl) ?_
    refine r_icmp_ne (pc := 23) (tgt := 31) dX12_laysRowSet_23 rfl (fun c23 => ?_) (fun c23 => ?_)
    · refine r_iincN (pc := 31) (i := 3) (c := ((k + 1 : Nat) : Int)) (lv' := [_, _, _, _]) dX12_laysRowSet_31 rfl (by decide) (by unfold w32; omega) rfl ?_
      refine r_goto (pc := 34) (tgt := 2) dX12_laysRowSet_34 rfl ?_
      exact Ev.re rfl (by rw [lrS_succ, if_neg c23]) (ih (k + 1) (by omega) (by omega))
    · have c23 := Decidable.of_not_not c23
      refine r_aload_n (pc := 26) (i := 0) dX12_laysRowSet_26 rfl rfl ?_
      refine r_iload_n (pc := 27) (i := 3) dX12_laysRowSet_27 rfl rfl ?_
      refine r_callV0 (pc := 28) (d - 1) [aI ((k : Nat) : Int)] dX12_laysRowSet_28 (CV.mk2 mk_X12_adds lk_X12_248) (RC.of (ltM hT (by omega)) (kM274 hT) (by decide) rfl) rfl rfl (by omega) (Nat.le_of_ble_eq_true rfl) (Nat.le_of_ble_eq_true rfl) (c_adds (p := k) hT (by omega) ?_)
      refine ⟨rfl, fun _ => ?_⟩
      refine r_iincN (pc := 31) (i := 3) (c := ((k + 1 : Nat) : Int)) (lv' := [_, _, _, _]) dX12_laysRowSet_31 rfl (by decide) (by unfold w32; omega) rfl ?_
      refine r_goto (pc := 34) (tgt := 2) dX12_laysRowSet_34 rfl ?_
      exact Ev.re rfl (by rw [lrS_succ, if_pos c23]) (ih (k + 1) (by omega) (by omega))
theorem c_laysOne {p : Nat} {S Z Y H : Nat → Int} (hT : ShM T) (hd : 1 ≤ d) (hp : p < 256) (hq : Q none T (sr (sr (sr (sr (sr I 288 (adS (z8 S 8) p)) 289 Z) 290 Y) 274 H) 283 N)) : EvE G mX12_laysOne d [aR 274, aI ((p : Nat) : Int)] T (sr (sr (sr (sr (sr I 288 S) 289 Z) 290 Y) 274 H) 283 N) Q := by
  refine EvE.mk (lv0 := [some (aR 274), some (aI ((p : Nat) : Int)), none]) (Nat.le_of_ble_eq_true rfl) (by decide +kernel) rfl ?_
  refine r_iconst (pc := 0) dX12_laysOne_0 (in32_of rfl) ?_
  refine r_istore_n (pc := 1) (i := 2) (lv' := [_, _, _]) dX12_laysOne_1 rfl (by decide) rfl ?_
  refine r_mem (I2 := sr (sr (sr (sr (sr I 288 (z8 S 0)) 289 Z) 290 Y) 274 H) 283 N) (by rw [z8_0]) ?_
  refine loop1 (fun (k : Nat) => k ≤ 8) (fun (k : Nat) => 8 - k) (fun (k : Nat) => [some (aR 274), some (aI ((p : Nat) : Int)), some (aI ((k : Nat) : Int))]) (fun _ => T) (fun (k : Nat) => sr (sr (sr (sr (sr I 288 (z8 S k)) 289 Z) 290 Y) 274 H) 283 N) ?_ 0 (Nat.zero_le _)
  intro k hP ih
  have hP : k ≤ 8 := hP
  refine (?_ : Ev G mX12_laysOne d 2 [some (aR 274), some (aI ((p : Nat) : Int)), some (aI ((k : Nat) : Int))] [] T (sr (sr (sr (sr (sr I 288 (z8 S k)) 289 Z) 290 Y) 274 H) 283 N) Q)
  refine r_iload_n (pc := 2) (i := 2) dX12_laysOne_2 rfl rfl ?_
  refine r_bipush (pc := 3) dX12_laysOne_3 rfl (in32_of rfl) ?_
  refine r_icmp_ge (pc := 5) (tgt := 21) dX12_laysOne_5 rfl (fun c5 => ?_) (fun c5 => ?_)
  · refine r_aload_n (pc := 21) (i := 0) dX12_laysOne_21 rfl rfl ?_
    refine r_iload_n (pc := 22) (i := 1) dX12_laysOne_22 rfl rfl ?_
    refine r_callV0 (pc := 23) (d - 1) [aI ((p : Nat) : Int)] dX12_laysOne_23 (CV.mk2 mk_X12_adds lk_X12_248) (RC.of (ltM hT (by omega)) (kM274 hT) (by decide) rfl) rfl rfl (by omega) (Nat.le_of_ble_eq_true rfl) (Nat.le_of_ble_eq_true rfl) (c_adds (p := p) hT (by omega) ?_)
    refine ⟨rfl, fun _ => ?_⟩
    exact r_vret (pc := 26) dX12_laysOne_26 trivial (by rw [show 8 = k by omega] at hq; exact hq)
  · refine r_aload_n (pc := 8) (i := 0) dX12_laysOne_8 rfl rfl ?_
    refine r_getfr (pc := 9) (b := 288) cks dX12_laysOne_9 fl_X12_58 rfl (kM274 hT) (ltM hT (by omega)) (rM20 hT) ?_
    refine r_iload_n (pc := 12) (i := 2) dX12_laysOne_12 rfl rfl ?_
    refine r_iconst (pc := 13) dX12_laysOne_13 (in32_of rfl) ?_
    refine r_ist (pc := 14) (k) dX12_laysOne_14 (kM288 hT) (ltM hT (by omega)) rfl (by rw [lM288 hT]; omega) ?_
    refine r_mem (I2 := sr (sr (sr (sr (sr I 288 (un (z8 S k) k 0)) 289 Z) 290 Y) 274 H) 283 N) (by rw [up2_sr_ne (by decide), up2_sr_ne (by decide), up2_sr_ne (by decide), up2_sr_ne (by decide), up2_sr]) ?_
    refine r_iincN (pc := 15) (i := 2) (c := ((k + 1 : Nat) : Int)) (lv' := [_, _, _]) dX12_laysOne_15 rfl (by decide) (by unfold w32; omega) rfl ?_
    refine r_goto (pc := 18) (tgt := 2) dX12_laysOne_18 rfl ?_
    exact Ev.re rfl (by rw [z8_succ]) (ih (k + 1) (by omega) (by omega))
end M22

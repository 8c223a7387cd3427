section M23
variable {G : Gl} {d : Nat} {T : Sh} {I : Mi} {N : Nat → Int} {Q : Option AV → Sh → Mi → Prop}
theorem SM288 {I : Mi} {S Z Y H N : Nat → Int} : (sr (sr (sr (sr (sr I 288 S) 289 Z) 290 Y) 274 H) 283 N) 288 = S := by rw [sr_ne (by decide), sr_ne (by decide), sr_ne (by decide), sr_ne (by decide), sr_row]
theorem ibw_0 : ibw true 0 = 0 := by decide +kernel
theorem ibw_1 : ibw true 1 = 1 := by decide +kernel
def xrS (S Z : Nat → Int) (p : Nat) : Nat → (Nat → Int)
  | 0 => S
  | k + 1 => un (xrS S Z p k) k (ixo (xrS S Z p k k) (Z (8 * p + k)))
theorem xrS_succ (S Z : Nat → Int) (p k : Nat) : xrS S Z p (k + 1) = un (xrS S Z p k) k (ixo (xrS S Z p k k) (Z (8 * p + k))) := rfl
/-- what stays of a set, less the bases: 1 and the set, or 0 -/
def rdF (Z Y : Nat → Int) : Nat → Nat → (Nat → Int) → Int × (Nat → Int)
  | 0, _, S => (0, S)
  | u + 1, p, S => if inS S p = 1 then (if Y p = 0 then (1, S) else rdF Z Y u (p + 1) (xrS S Z p 8)) else rdF Z Y u (p + 1) S
theorem rdF_succ (Z Y : Nat → Int) (u p : Nat) (S : Nat → Int) : rdF Z Y (u + 1) p S = if inS S p = 1 then (if Y p = 0 then (1, S) else rdF Z Y u (p + 1) (xrS S Z p 8)) else rdF Z Y u (p + 1) S := rfl
theorem c_basesNone {S Z Y H : Nat → Int} (hT : ShM T) (hq : Q none T (sr (sr (sr (sr (sr I 288 S) 289 Z) 290 (z8 Y 256)) 274 (un H 23 0)) 283 N)) : EvE G mX12_basesNone d [aR 274] T (sr (sr (sr (sr (sr I 288 S) 289 Z) 290 Y) 274 H) 283 N) Q := by
  refine EvE.mk (lv0 := [some (aR 274), none]) (Nat.le_of_ble_eq_true rfl) (by decide +kernel) rfl ?_
  refine r_iconst (pc := 0) dX12_basesNone_0 (in32_of rfl) ?_
  refine r_istore_n (pc := 1) (i := 1) (lv' := [_, _]) dX12_basesNone_1 rfl (by decide) rfl ?_
  refine r_mem (I2 := sr (sr (sr (sr (sr I 288 S) 289 Z) 290 (z8 Y 0)) 274 H) 283 N) (by rw [z8_0]) ?_
  refine loop1 (fun (k : Nat) => k ≤ 256) (fun (k : Nat) => 256 - k) (fun (k : Nat) => [some (aR 274), some (aI ((k : Nat) : Int))]) (fun _ => T) (fun (k : Nat) => sr (sr (sr (sr (sr I 288 S) 289 Z) 290 (z8 Y k)) 274 H) 283 N) ?_ 0 (Nat.zero_le _)
  intro k hP ih
  have hP : k ≤ 256 := hP
  refine (?_ : Ev G mX12_basesNone d 2 [some (aR 274), some (aI ((k : Nat) : Int))] [] T (sr (sr (sr (sr (sr I 288 S) 289 Z) 290 (z8 Y k)) 274 H) 283 N) Q)
  refine r_iload_n (pc := 2) (i := 1) dX12_basesNone_2 rfl rfl ?_
  refine r_sipush (pc := 3) dX12_basesNone_3 rfl (in32_of rfl) ?_
  refine r_icmp_ge (pc := 6) (tgt := 22) dX12_basesNone_6 rfl (fun c6 => ?_) (fun c6 => ?_)
  · refine r_aload_n (pc := 22) (i := 0) dX12_basesNone_22 rfl rfl ?_
    refine r_iconst (pc := 23) dX12_basesNone_23 (in32_of rfl) ?_
    refine r_putfi (pc := 24) cks dX12_basesNone_24 fl_X12_275 (pf_12_23 _ _) rfl (kM274 hT) (ltM hT (by omega)) ?_
    refine r_mem (I2 := sr (sr (sr (sr (sr I 288 S) 289 Z) 290 (z8 Y k)) 274 (un H 23 0)) 283 N) (by rw [up2_sr_ne (by decide), up2_sr]) ?_
    exact r_vret (pc := 27) dX12_basesNone_27 trivial (by rw [show 256 = k by omega] at hq; exact hq)
  · refine r_aload_n (pc := 9) (i := 0) dX12_basesNone_9 rfl rfl ?_
    refine r_getfr (pc := 10) (b := 290) cks dX12_basesNone_10 fl_X12_64 rfl (kM274 hT) (ltM hT (by omega)) (rM22 hT) ?_
    refine r_iload_n (pc := 13) (i := 1) dX12_basesNone_13 rfl rfl ?_
    refine r_iconst (pc := 14) dX12_basesNone_14 (in32_of rfl) ?_
    refine r_bst (pc := 15) (k) true dX12_basesNone_15 (kM290 hT) (ltM hT (by omega)) rfl (by rw [lM290 hT]; omega) ?_
    refine r_mem (I2 := sr (sr (sr (sr (sr I 288 S) 289 Z) 290 (un (z8 Y k) k (ibw  true 0))) 274 H) 283 N) (by rw [up2_sr_ne (by decide), up2_sr_ne (by decide), up2_sr]) ?_
    refine r_iincN (pc := 16) (i := 1) (c := ((k + 1 : Nat) : Int)) (lv' := [_, _]) dX12_basesNone_16 rfl (by decide) (by unfold w32; omega) rfl ?_
    refine r_goto (pc := 19) (tgt := 2) dX12_basesNone_19 rfl ?_
    exact Ev.re rfl (by rw [ibw_0, z8_succ]) (ih (k + 1) (by omega) (by omega))
theorem c_reduces {n : Nat} {S Z Y H : Nat → Int} (hT : ShM T) (hd : 1 ≤ d) (hn : N 1 = (n : Int)) (hn2 : n ≤ 256) (hq : Q (some (aI (rdF Z Y n 0 S).1)) T (sr (sr (sr (sr (sr I 288 ((rdF Z Y n 0 S).2)) 289 Z) 290 Y) 274 H) 283 N)) : EvE G mX12_reduces d [aR 274] T (sr (sr (sr (sr (sr I 288 S) 289 Z) 290 Y) 274 H) 283 N) Q := by
  refine EvE.mk (lv0 := [some (aR 274), none, none]) (Nat.le_of_ble_eq_true rfl) (by decide +kernel) rfl ?_
  refine r_iconst (pc := 0) dX12_reduces_0 (in32_of rfl) ?_
  refine r_istore_n (pc := 1) (i := 1) (lv' := [_, _, _]) dX12_reduces_1 rfl (by decide) rfl ?_
  refine loop2 (fun (p : Nat) (K : Nat → Int) => p ≤ n ∧ rdF Z Y n 0 S = rdF Z Y (n - p) p K) (fun (p : Nat) (K : Nat → Int) => n - p) (fun (p : Nat) (K : Nat → Int) => [some (aR 274), some (aI ((p : Nat) : Int)), none]) (fun _ _ => T) (fun (p : Nat) (K : Nat → Int) => sr (sr (sr (sr (sr I 288 K) 289 Z) 290 Y) 274 H) 283 N) ?_ 0 S ⟨Nat.zero_le _, rfl⟩
  intro p K hP ih
  have hP : p ≤ n ∧ rdF Z Y n 0 S = rdF Z Y (n - p) p K := hP
  refine (?_ : Ev G mX12_reduces d 2 [some (aR 274), some (aI ((p : Nat) : Int)), none] [] T (sr (sr (sr (sr (sr I 288 K) 289 Z) 290 Y) 274 H) 283 N) Q)
  refine r_iload_n (pc := 2) (i := 1) dX12_reduces_2 rfl rfl ?_
  refine r_aload_n (pc := 3) (i := 0) dX12_reduces_3 rfl rfl ?_
  refine r_getfr (pc := 4) (b := 283) cks dX12_reduces_4 fl_X12_37 rfl (kM274 hT) (ltM hT (by omega)) (rM11 hT) ?_
  refine r_iconst (pc := 7) dX12_reduces_7 (in32_of rfl) ?_
  refine r_ild (pc := 8) (1) dX12_reduces_8 (kM283 hT) (ltM hT (by omega)) (by omega) (by rw [lM283 hT]; omega) ?_
  refine r_top (b := N 1) (sr_at _ _ _ _) ?_
  refine r_top (b := ((n : Nat) : Int)) (hn) ?_
  refine r_icmp_ge (pc := 9) (tgt := 74) dX12_reduces_9 rfl (fun c9 => ?_) (fun c9 => ?_)
  · refine r_iconst (pc := 74) dX12_reduces_74 (in32_of rfl) ?_
    exact r_iret (pc := 75) dX12_reduces_75 (Or.inl rfl) (by rw [hP.2, show n - p = 0 by omega] at hq; exact hq)
  · refine r_aload_n (pc := 12) (i := 0) dX12_reduces_12 rfl rfl ?_
    refine r_iload_n (pc := 13) (i := 1) dX12_reduces_13 rfl rfl ?_
    refine r_callV1 (pc := 14) (d - 1) [aI ((p : Nat) : Int)] dX12_reduces_14 (CV.mk2 mk_X12_isInSet lk_X12_260) (RC.of (ltM hT (by omega)) (kM274 hT) (by decide) rfl) rfl rfl (by omega) (Nat.le_of_ble_eq_true rfl) (Nat.le_of_ble_eq_true rfl) (c_isInSet (p := p) hT (by omega) ?_)
    refine ⟨_, rfl, fun _ => ?_⟩
    refine r_top (b := bi (inS K p = 1)) (by rw [SM288]) ?_
    refine r_if_ne (pc := 17) (tgt := 23) dX12_reduces_17 rfl (fun c17 => ?_) (fun c17 => ?_)
    · have c17 := bi_1 c17
      refine r_aload_n (pc := 23) (i := 0) dX12_reduces_23 rfl rfl ?_
      refine r_getfr (pc := 24) (b := 290) cks dX12_reduces_24 fl_X12_64 rfl (kM274 hT) (ltM hT (by omega)) (rM22 hT) ?_
      refine r_iload_n (pc := 27) (i := 1) dX12_reduces_27 rfl rfl ?_
      refine r_bld (pc := 28) (p) dX12_reduces_28 (Or.inr (kM290 hT)) (ltM hT (by omega)) rfl (by rw [lM290 hT]; omega) ?_
      refine r_top (b := Y p) ((congrFun (sr_ne (by decide)) _).trans ((congrFun (sr_ne (by decide)) _).trans (sr_at _ _ _ _))) ?_
      refine r_if_ne (pc := 29) (tgt := 34) dX12_reduces_29 rfl (fun c29 => ?_) (fun c29 => ?_)
      · refine r_iconst (pc := 34) dX12_reduces_34 (in32_of rfl) ?_
        refine r_istore_n (pc := 35) (i := 2) (lv' := [_, _, _]) dX12_reduces_35 rfl (by decide) rfl ?_
        refine loop1 (fun (x : Nat) => x ≤ 8) (fun (x : Nat) => 8 - x) (fun (x : Nat) => [some (aR 274), some (aI ((p : Nat) : Int)), some (aI ((x : Nat) : Int))]) (fun _ => T) (fun (x : Nat) => sr (sr (sr (sr (sr I 288 (xrS K Z p x)) 289 Z) 290 Y) 274 H) 283 N) ?_ 0 (Nat.zero_le _)
        intro x hP2 ih2
        have hP2 : x ≤ 8 := hP2
        refine (?_ : Ev G mX12_reduces d 36 [some (aR 274), some (aI ((p : Nat) : Int)), some (aI ((x : Nat) : Int))] [] T (sr (sr (sr (sr (sr I 288 (xrS K Z p x)) 289 Z) 290 Y) 274 H) 283 N) Q)
        refine r_iload_n (pc := 36) (i := 2) dX12_reduces_36 rfl rfl ?_
        refine r_bipush (pc := 37) dX12_reduces_37 rfl (in32_of rfl) ?_
        refine r_icmp_ge (pc := 39) (tgt := 68) dX12_reduces_39 rfl (fun c39 => ?_) (fun c39 => ?_)
        · refine r_iincN (pc := 68) (i := 1) (c := ((p + 1 : Nat) : Int)) (lv' := [_, _, _]) dX12_reduces_68 rfl (by decide) (by unfold w32; omega) rfl ?_
          refine r_goto (pc := 71) (tgt := 2) dX12_reduces_71 rfl ?_
          refine Ev.weak (lv2 := [some (aR 274), some (aI ((p + 1 : Nat) : Int)), none]) ⟨Or.inr rfl, Or.inr rfl, Or.inl rfl, trivial⟩ ?_
          exact Ev.re rfl (by rw [show x = 8 by omega]) (ih (p + 1) (xrS K Z p 8) ⟨by omega, by rw [hP.2, show n - p = (n - (p + 1)) + 1 by omega, rdF_succ, if_pos c17, if_neg c29]⟩ (by omega))
        · refine r_aload_n (pc := 42) (i := 0) dX12_reduces_42 rfl rfl ?_
          refine r_getfr (pc := 43) (b := 288) cks dX12_reduces_43 fl_X12_58 rfl (kM274 hT) (ltM hT (by omega)) (rM20 hT) ?_
          refine r_iload_n (pc := 46) (i := 2) dX12_reduces_46 rfl rfl ?_
          refine r_dup2 (pc := 47) dX12_reduces_47 rfl rfl ?_
          refine r_ild (pc := 48) (x) dX12_reduces_48 (kM288 hT) (ltM hT (by omega)) rfl (by rw [lM288 hT]; omega) ?_
          refine r_top (b := (xrS K Z p x) x) ((congrFun (sr_ne (by decide)) _).trans ((congrFun (sr_ne (by decide)) _).trans ((congrFun (sr_ne (by decide)) _).trans ((congrFun (sr_ne (by decide)) _).trans (sr_at _ _ _ _))))) ?_
          refine r_aload_n (pc := 49) (i := 0) dX12_reduces_49 rfl rfl ?_
          refine r_getfr (pc := 50) (b := 289) cks dX12_reduces_50 fl_X12_61 rfl (kM274 hT) (ltM hT (by omega)) (rM21 hT) ?_
          refine r_bipush (pc := 53) dX12_reduces_53 rfl (in32_of rfl) ?_
          refine r_iload_n (pc := 55) (i := 1) dX12_reduces_55 rfl rfl ?_
          refine r_imulN (pc := 56) (c := ((8 * p : Nat) : Int)) dX12_reduces_56 (by unfold w32; omega) ?_
          refine r_iload_n (pc := 57) (i := 2) dX12_reduces_57 rfl rfl ?_
          refine r_iaddN (pc := 58) (c := ((8 * p + x : Nat) : Int)) dX12_reduces_58 (by unfold w32; omega) ?_
          refine r_ild (pc := 59) (8 * p + x) dX12_reduces_59 (kM289 hT) (ltM hT (by omega)) rfl (by rw [lM289 hT]; omega) ?_
          refine r_top (b := Z (8 * p + x)) ((congrFun (sr_ne (by decide)) _).trans ((congrFun (sr_ne (by decide)) _).trans ((congrFun (sr_ne (by decide)) _).trans (sr_at _ _ _ _)))) ?_
          refine r_ixor (pc := 60) dX12_reduces_60 ?_
          refine r_ist (pc := 61) (x) dX12_reduces_61 (kM288 hT) (ltM hT (by omega)) rfl (by rw [lM288 hT]; omega) ?_
          refine r_mem (I2 := sr (sr (sr (sr (sr I 288 (un (xrS K Z p x) x (ixo ((xrS K Z p x) x) (Z (8 * p + x))))) 289 Z) 290 Y) 274 H) 283 N) (by rw [up2_sr_ne (by decide), up2_sr_ne (by decide), up2_sr_ne (by decide), up2_sr_ne (by decide), up2_sr]) ?_
          refine r_iincN (pc := 62) (i := 2) (c := ((x + 1 : Nat) : Int)) (lv' := [_, _, _]) dX12_reduces_62 rfl (by decide) (by unfold w32; omega) rfl ?_
          refine r_goto (pc := 65) (tgt := 36) dX12_reduces_65 rfl ?_
          exact Ev.re rfl (by rw [xrS_succ]) (ih2 (x + 1) (by omega) (by omega))
      · have c29 := Decidable.of_not_not c29
        refine r_iconst (pc := 32) dX12_reduces_32 (in32_of rfl) ?_
        exact r_iret (pc := 33) dX12_reduces_33 (Or.inr rfl) (by rw [hP.2, show n - p = (n - (p + 1)) + 1 by omega, rdF_succ, if_pos c17, if_pos c29] at hq; exact hq)
    · have c17 := bi_if.mp (Decidable.of_not_not c17)
      refine r_goto (pc := 20) (tgt := 68) dX12_reduces_20 rfl ?_
      refine r_iincN (pc := 68) (i := 1) (c := ((p + 1 : Nat) : Int)) (lv' := [_, _, _]) dX12_reduces_68 rfl (by decide) (by unfold w32; omega) rfl ?_
      refine r_goto (pc := 71) (tgt := 2) dX12_reduces_71 rfl ?_
      exact ih (p + 1) K ⟨by omega, by rw [hP.2, show n - p = (n - (p + 1)) + 1 by omega, rdF_succ, if_neg c17]⟩ (by omega)
end M23

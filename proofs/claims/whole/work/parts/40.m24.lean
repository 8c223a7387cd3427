section M24
variable {G : Gl} {d : Nat} {T : Sh} {I : Mi} {N : Nat → Int} {Q : Option AV → Sh → Mi → Prop}
theorem rdF_in (Z Y : Nat → Int) : ∀ (u p : Nat) (S : Nat → Int), (rdF Z Y u p S).1 = 1 → ∃ q, p ≤ q ∧ q < p + u ∧ inS (rdF Z Y u p S).2 q = 1 ∧ Y q = 0 := by
  intro u
  induction u with
  | zero => intro p S h; exact absurd (show (0 : Int) = 1 from h) (by decide)
  | succ u ih =>
    intro p S
    rw [rdF_succ]
    split
    · rename_i h1
      split
      · rename_i h2
        intro _
        exact ⟨p, Nat.le_refl p, by omega, h1, h2⟩
      · intro h
        obtain ⟨q, a, b, c⟩ := ih _ _ h
        exact ⟨q, by omega, by omega, c⟩
    · intro h
      obtain ⟨q, a, b, c⟩ := ih _ _ h
      exact ⟨q, by omega, by omega, c⟩
theorem lsS_in (S : Nat → Int) (n : Nat) : ∀ (u k q : Nat), k ≤ q → q < k + u → inS S q = 1 → ∃ m : Nat, lsS S n u k = (m : Int) ∧ m ≤ q ∧ inS S m = 1 := by
  intro u
  induction u with
  | zero => intro k q h1 h2; omega
  | succ u ih =>
    intro k q h1 h2 h3
    rw [lsS_succ]
    by_cases g : inS S k = 1
    · rw [if_pos g]; exact ⟨k, rfl, h1, g⟩
    · rw [if_neg g]
      have : k ≠ q := fun e => g (e ▸ h3)
      exact ih (k + 1) q (by omega) (by omega) h3
theorem rdF_01 (Z Y : Nat → Int) : ∀ (u p : Nat) (S : Nat → Int), (rdF Z Y u p S).1 = 0 ∨ (rdF Z Y u p S).1 = 1 := by
  intro u
  induction u with
  | zero => intro p S; exact Or.inl rfl
  | succ u ih =>
    intro p S
    rw [rdF_succ]
    split
    · split
      · exact Or.inr rfl
      · exact ih _ _
    · exact ih _ _
/-- a base laid down at a place -/
def bsS (S Z : Nat → Int) (p : Nat) : Nat → (Nat → Int)
  | 0 => Z
  | k + 1 => un (bsS S Z p k) (8 * p + k) (S k)
theorem bsS_succ (S Z : Nat → Int) (p k : Nat) : bsS S Z p (k + 1) = un (bsS S Z p k) (8 * p + k) (S k) := rfl
theorem c_takesSet {n : Nat} {S Z Y H : Nat → Int} (hT : ShM T) (hd : 2 ≤ d) (hn : N 1 = (n : Int)) (hn2 : n ≤ 256) (hk0 : (rdF Z Y n 0 S).1 = 0 → Q none T (sr (sr (sr (sr (sr I 288 ((rdF Z Y n 0 S).2)) 289 Z) 290 Y) 274 H) 283 N)) (hk1 : (rdF Z Y n 0 S).1 = 1 → ∀ p : Nat, lsS (rdF Z Y n 0 S).2 n n 0 = (p : Int) → Q none T (sr (sr (sr (sr (sr I 288 ((rdF Z Y n 0 S).2)) 289 (bsS (rdF Z Y n 0 S).2 Z p 8)) 290 (un Y p 1)) 274 (un H 23 (w32 (H 23 + 1)))) 283 N)) : EvE G mX12_takesSet d [aR 274] T (sr (sr (sr (sr (sr I 288 S) 289 Z) 290 Y) 274 H) 283 N) Q := by
  refine EvE.mk (lv0 := [some (aR 274), none, none]) (Nat.le_of_ble_eq_true rfl) (by decide +kernel) rfl ?_
  refine r_aload_n (pc := 0) (i := 0) dX12_takesSet_0 rfl rfl ?_
  refine r_callV1 (pc := 1) (d - 1) [] dX12_takesSet_1 (CV.mk2 mk_X12_reduces lk_X12_278) (RC.of (ltM hT (by omega)) (kM274 hT) (by decide) rfl) rfl rfl (by omega) (Nat.le_of_ble_eq_true rfl) (Nat.le_of_ble_eq_true rfl) (c_reduces (n := n) hT (by omega) hn hn2 ?_)
  refine ⟨_, rfl, fun _ => ?_⟩
  refine r_if_ne (pc := 4) (tgt := 8) dX12_takesSet_4 rfl (fun c4 => ?_) (fun c4 => ?_)
  · have h1 : (rdF Z Y n 0 S).1 = 1 := by have := rdF_01 Z Y n 0 S; omega
    obtain ⟨q, hq1, hq2, hq3, hq4⟩ := rdF_in Z Y n 0 S h1
    obtain ⟨p, hp, hp2, hp3⟩ := lsS_in (rdF Z Y n 0 S).2 n n 0 q (by omega) (by omega) hq3
    refine r_aload_n (pc := 8) (i := 0) dX12_takesSet_8 rfl rfl ?_
    refine r_callV1 (pc := 9) (d - 1) [] dX12_takesSet_9 (CV.mk2 mk_X12_leastInSet lk_X12_272) (RC.of (ltM hT (by omega)) (kM274 hT) (by decide) rfl) rfl rfl (by omega) (Nat.le_of_ble_eq_true rfl) (Nat.le_of_ble_eq_true rfl) (c_leastInSet (n := n) hT (by omega) hn hn2 ?_)
    refine ⟨_, rfl, fun _ => ?_⟩
    refine r_top (b := (p : Int)) (by rw [show (sr (sr (sr (sr I 288 (rdF Z Y n 0 S).2) 289 Z) 290 Y) 274 H) 288 = (rdF Z Y n 0 S).2 from by rw [sr_ne (by decide), sr_ne (by decide), sr_ne (by decide), sr_row]]; exact hp) ?_
    refine r_istore_n (pc := 12) (i := 1) (lv' := [_, _, _]) dX12_takesSet_12 rfl (by decide) rfl ?_
    refine r_iconst (pc := 13) dX12_takesSet_13 (in32_of rfl) ?_
    refine r_istore_n (pc := 14) (i := 2) (lv' := [_, _, _]) dX12_takesSet_14 rfl (by decide) rfl ?_
    refine loop1 (fun (x : Nat) => x ≤ 8) (fun (x : Nat) => 8 - x) (fun (x : Nat) => [some (aR 274), some (aI ((p : Nat) : Int)), some (aI ((x : Nat) : Int))]) (fun _ => T) (fun (x : Nat) => sr (sr (sr (sr (sr I 288 ((rdF Z Y n 0 S).2)) 289 (bsS (rdF Z Y n 0 S).2 Z p x)) 290 Y) 274 H) 283 N) ?_ 0 (Nat.zero_le _)
    intro x hP ih
    have hP : x ≤ 8 := hP
    refine (?_ : Ev G mX12_takesSet d 15 [some (aR 274), some (aI ((p : Nat) : Int)), some (aI ((x : Nat) : Int))] [] T (sr (sr (sr (sr (sr I 288 ((rdF Z Y n 0 S).2)) 289 (bsS (rdF Z Y n 0 S).2 Z p x)) 290 Y) 274 H) 283 N) Q)
    refine r_iload_n (pc := 15) (i := 2) dX12_takesSet_15 rfl rfl ?_
    refine r_bipush (pc := 16) dX12_takesSet_16 rfl (in32_of rfl) ?_
    refine r_icmp_ge (pc := 18) (tgt := 44) dX12_takesSet_18 rfl (fun c18 => ?_) (fun c18 => ?_)
    · refine r_aload_n (pc := 44) (i := 0) dX12_takesSet_44 rfl rfl ?_
      refine r_getfr (pc := 45) (b := 290) cks dX12_takesSet_45 fl_X12_64 rfl (kM274 hT) (ltM hT (by omega)) (rM22 hT) ?_
      refine r_iload_n (pc := 48) (i := 1) dX12_takesSet_48 rfl rfl ?_
      refine r_iconst (pc := 49) dX12_takesSet_49 (in32_of rfl) ?_
      refine r_bst (pc := 50) (p) true dX12_takesSet_50 (kM290 hT) (ltM hT (by omega)) rfl (by rw [lM290 hT]; omega) ?_
      refine r_mem (I2 := sr (sr (sr (sr (sr I 288 ((rdF Z Y n 0 S).2)) 289 (bsS (rdF Z Y n 0 S).2 Z p x)) 290 (un Y p (ibw  true 1))) 274 H) 283 N) (by rw [up2_sr_ne (by decide), up2_sr_ne (by decide), up2_sr]) ?_
      refine r_aload_n (pc := 51) (i := 0) dX12_takesSet_51 rfl rfl ?_
      refine r_dup (pc := 52) dX12_takesSet_52 rfl ?_
      refine r_getfi (pc := 53) cks dX12_takesSet_53 fl_X12_275 rfl (kM274 hT) (ltM hT (by omega)) ?_
      refine r_top (b := H 23) ((congrFun (sr_ne (by decide)) _).trans (sr_at _ _ _ _)) ?_
      refine r_iconst (pc := 56) dX12_takesSet_56 (in32_of rfl) ?_
      refine r_iaddN (pc := 57) (c := (w32 (H 23 + 1))) dX12_takesSet_57 rfl ?_
      refine r_putfi (pc := 58) cks dX12_takesSet_58 fl_X12_275 (pf_12_23 _ _) rfl (kM274 hT) (ltM hT (by omega)) ?_
      refine r_mem (I2 := sr (sr (sr (sr (sr I 288 ((rdF Z Y n 0 S).2)) 289 (bsS (rdF Z Y n 0 S).2 Z p x)) 290 (un Y p (ibw  true 1))) 274 (un H 23 (w32 (H 23 + 1)))) 283 N) (by rw [up2_sr_ne (by decide), up2_sr]) ?_
      exact r_vret (pc := 61) dX12_takesSet_61 trivial (by have h8 : x = 8 := (by omega); rw [h8, ibw_1]; exact hk1 h1 p hp)
    · refine r_aload_n (pc := 21) (i := 0) dX12_takesSet_21 rfl rfl ?_
      refine r_getfr (pc := 22) (b := 289) cks dX12_takesSet_22 fl_X12_61 rfl (kM274 hT) (ltM hT (by omega)) (rM21 hT) ?_
      refine r_bipush (pc := 25) dX12_takesSet_25 rfl (in32_of rfl) ?_
      refine r_iload_n (pc := 27) (i := 1) dX12_takesSet_27 rfl rfl ?_
      refine r_imulN (pc := 28) (c := ((8 * p : Nat) : Int)) dX12_takesSet_28 (by unfold w32; omega) ?_
      refine r_iload_n (pc := 29) (i := 2) dX12_takesSet_29 rfl rfl ?_
      refine r_iaddN (pc := 30) (c := ((8 * p + x : Nat) : Int)) dX12_takesSet_30 (by unfold w32; omega) ?_
      refine r_aload_n (pc := 31) (i := 0) dX12_takesSet_31 rfl rfl ?_
      refine r_getfr (pc := 32) (b := 288) cks dX12_takesSet_32 fl_X12_58 rfl (kM274 hT) (ltM hT (by omega)) (rM20 hT) ?_
      refine r_iload_n (pc := 35) (i := 2) dX12_takesSet_35 rfl rfl ?_
      refine r_ild (pc := 36) (x) dX12_takesSet_36 (kM288 hT) (ltM hT (by omega)) rfl (by rw [lM288 hT]; omega) ?_
      refine r_top (b := ((rdF Z Y n 0 S).2) x) ((congrFun (sr_ne (by decide)) _).trans ((congrFun (sr_ne (by decide)) _).trans ((congrFun (sr_ne (by decide)) _).trans ((congrFun (sr_ne (by decide)) _).trans (sr_at _ _ _ _))))) ?_
      refine r_ist (pc := 37) (8 * p + x) dX12_takesSet_37 (kM289 hT) (ltM hT (by omega)) rfl (by rw [lM289 hT]; omega) ?_
      refine r_mem (I2 := sr (sr (sr (sr (sr I 288 ((rdF Z Y n 0 S).2)) 289 (un (bsS (rdF Z Y n 0 S).2 Z p x) (8 * p + x) (((rdF Z Y n 0 S).2) x))) 290 Y) 274 H) 283 N) (by rw [up2_sr_ne (by decide), up2_sr_ne (by decide), up2_sr_ne (by decide), up2_sr]) ?_
      refine r_iincN (pc := 38) (i := 2) (c := ((x + 1 : Nat) : Int)) (lv' := [_, _, _]) dX12_takesSet_38 rfl (by decide) (by unfold w32; omega) rfl ?_
      refine r_goto (pc := 41) (tgt := 15) dX12_takesSet_41 rfl ?_
      exact Ev.re rfl (by rw [bsS_succ]) (ih (x + 1) (by omega) (by omega))
  · have c4 := Decidable.of_not_not c4
    exact r_vret (pc := 7) dX12_takesSet_7 trivial (hk0 (by omega))
end M24

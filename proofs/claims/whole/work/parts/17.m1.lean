section M1
variable {G : Gl} {d : Nat} {T : Sh} {I : Mi} {N : Nat → Int} {Q : Option AV → Sh → Mi → Prop}
def bi (p : Prop) [Decidable p] : Int := if p then 1 else 0
theorem bi_t {p : Prop} [Decidable p] (h : p) : bi p = 1 := if_pos h
theorem bi_f {p : Prop} [Decidable p] (h : ¬ p) : bi p = 0 := if_neg h
theorem bi_01 (p : Prop) [Decidable p] : bi p = 0 ∨ bi p = 1 := by unfold bi; split <;> simp
theorem bi_rng (p : Prop) [Decidable p] : 0 ≤ bi p ∧ bi p ≤ 1 := by rcases bi_01 p with h | h <;> omega
theorem bi_if {p : Prop} [Decidable p] : bi p = 0 ↔ ¬ p := by unfold bi; split <;> simp_all
def nxX (x : Int) : Int := (x * 1103515245 + 12345) % 2147483648
theorem nxX_rng (x : Int) : 0 ≤ nxX x ∧ nxX x < 2147483648 := by unfold nxX; omega
def dN (N : Nat → Int) : Nat → Int := un N 8 (nxX (N 8))
def vX (x : Int) (k : Nat) : Int := x / 65536 % k
theorem vX_rng (x : Int) {k : Nat} (hk : 0 < k) : 0 ≤ vX x k ∧ vX x k < k := by
  unfold vX
  exact ⟨Int.emod_nonneg _ (by omega), Int.emod_lt_of_pos _ (by omega)⟩
theorem lcp_lt {a b : Int} : lcp a b < 0 ↔ a < b := by unfold lcp; split <;> (try split) <;> omega
theorem lcp_gt {a b : Int} : 0 < lcp a b ↔ b < a := by unfold lcp; split <;> (try split) <;> omega
theorem lcp_le {a b : Int} : lcp a b ≤ 0 ↔ a ≤ b := by unfold lcp; split <;> (try split) <;> omega
theorem lcp_eq {a b : Int} : lcp a b = 0 ↔ a = b := by unfold lcp; split <;> (try split) <;> omega
theorem c_isIn1 {a b c : Int}  (hq : Q (some (aI (bi (b ≤ a ∧ a ≤ c)))) T I) : EvE G mX12_isIn1 d [aL a, aL b, aL c] T I Q := by
  refine EvE.mk (lv0 := [some (aL a), none, some (aL b), none, some (aL c), none]) (Nat.le_of_ble_eq_true rfl) (by decide +kernel) rfl ?_
  refine r_lload_n (pc := 0) (i := 0) dX12_isIn1_0 rfl rfl ?_
  refine r_lload_n (pc := 1) (i := 2) dX12_isIn1_1 rfl rfl ?_
  refine r_lcmp (pc := 2) dX12_isIn1_2 ?_
  refine r_if_lt (pc := 3) (tgt := 17) dX12_isIn1_3 rfl (fun c3 => ?_) (fun c3 => ?_)
  · refine r_iconst (pc := 17) dX12_isIn1_17 (in32_of rfl) ?_
    exact r_iret (pc := 18) dX12_isIn1_18 (Or.inl rfl) (by rw [bi_f (by first | (rw [lcp_lt] at c3; rw [lcp_gt] at c10; omega) | (rw [lcp_lt] at c3; omega))] at hq; exact hq)
  · refine r_lload_n (pc := 6) (i := 0) dX12_isIn1_6 rfl rfl ?_
    refine r_lload (pc := 7) (i := 4) dX12_isIn1_7 rfl ?_
    refine r_lcmp (pc := 9) dX12_isIn1_9 ?_
    refine r_if_gt (pc := 10) (tgt := 17) dX12_isIn1_10 rfl (fun c10 => ?_) (fun c10 => ?_)
    · refine r_iconst (pc := 17) dX12_isIn1_17 (in32_of rfl) ?_
      exact r_iret (pc := 18) dX12_isIn1_18 (Or.inl rfl) (by rw [bi_f (by first | (rw [lcp_lt] at c3; rw [lcp_gt] at c10; omega) | (rw [lcp_lt] at c3; omega))] at hq; exact hq)
    · refine r_iconst (pc := 13) dX12_isIn1_13 (in32_of rfl) ?_
      refine r_goto (pc := 14) (tgt := 18) dX12_isIn1_14 rfl ?_
      exact r_iret (pc := 18) dX12_isIn1_18 (Or.inr rfl) (by rw [bi_t (by rw [lcp_lt] at c3; rw [lcp_gt] at c10; omega)] at hq; exact hq)
theorem c_draw {k : Nat} (hT : ShM T) (hx0 : 0 ≤ N 8) (hx1 : N 8 < 2147483648) (hk : 0 < k) (hk2 : k < 2147483648) (hq : Q (some (aI (vX (nxX (N 8)) k))) T (sr I 283 (dN N))) : EvE G mX12_draw d [aR 274, aI ((k : Nat) : Int)] T (sr I 283 N) Q := by
  refine EvE.mk (lv0 := [some (aR 274), some (aI ((k : Nat) : Int)), none, none]) (Nat.le_of_ble_eq_true rfl) (by decide +kernel) rfl ?_
  refine r_aload_n (pc := 0) (i := 0) dX12_draw_0 rfl rfl ?_
  refine r_getfr (pc := 1) (b := 283) cks dX12_draw_1 fl_X12_37 rfl (kM274 hT) (ltM hT (by omega)) (rM11 hT) ?_
  refine r_bipush (pc := 4) dX12_draw_4 rfl (in32_of rfl) ?_
  refine r_ild (pc := 6) (8) dX12_draw_6 (kM283 hT) (ltM hT (by omega)) (by omega) (by rw [lM283 hT]; omega) ?_
  refine r_top (b := N 8) (sr_at _ _ _ _) ?_
  refine r_i2l (pc := 7) dX12_draw_7 ?_
  refine r_ldc2 (pc := 8) (n := 1103515245) dX12_draw_8 cn_X12_127 (in64_of rfl) ?_
  refine r_lmul (pc := 11) dX12_draw_11 ?_
  refine r_topL (b := (N 8 * 1103515245)) (by unfold w64; omega) ?_
  refine r_ldc2 (pc := 12) (n := 12345) dX12_draw_12 cn_X12_129 (in64_of rfl) ?_
  refine r_ladd (pc := 15) dX12_draw_15 ?_
  refine r_topL (b := (N 8 * 1103515245 + 12345)) (by unfold w64; omega) ?_
  refine r_ldc2 (pc := 16) (n := 2147483648) dX12_draw_16 cn_X12_131 (in64_of rfl) ?_
  refine r_lrem (pc := 19) dX12_draw_19 (by omega) ?_
  refine r_topL (b := (nxX (N 8))) (by rw [lrm_n (by unfold in64; omega) (by unfold in64; omega) (by omega) (by omega)]; rfl) ?_
  refine r_lstore_n (pc := 20) (i := 2) (lv' := [_, _, _, _]) dX12_draw_20 rfl (by decide) rfl ?_
  refine r_aload_n (pc := 21) (i := 0) dX12_draw_21 rfl rfl ?_
  refine r_getfr (pc := 22) (b := 283) cks dX12_draw_22 fl_X12_37 rfl (kM274 hT) (ltM hT (by omega)) (rM11 hT) ?_
  refine r_bipush (pc := 25) dX12_draw_25 rfl (in32_of rfl) ?_
  refine r_lload_n (pc := 27) (i := 2) dX12_draw_27 rfl rfl ?_
  refine r_l2i (pc := 28) dX12_draw_28 ?_
  refine r_top (b := (nxX (N 8))) (by have := nxX_rng (N 8); unfold w32; omega) ?_
  refine r_ist (pc := 29) (8) dX12_draw_29 (kM283 hT) (ltM hT (by omega)) (by omega) (by rw [lM283 hT]; omega) ?_
  refine r_mem (I2 := sr I 283 (un N 8 (nxX (N 8)))) (by rw [up2_sr]) ?_
  refine r_lload_n (pc := 30) (i := 2) dX12_draw_30 rfl rfl ?_
  refine r_ldc2 (pc := 31) (n := 65536) dX12_draw_31 cn_X12_133 (in64_of rfl) ?_
  refine r_ldiv (pc := 34) dX12_draw_34 (by omega) ?_
  refine r_topL (b := (nxX (N 8) / 65536)) (by have := nxX_rng (N 8); rw [ldv_n (by unfold in64; omega) (by unfold in64; omega) (by omega) (by omega)]) ?_
  refine r_iload_n (pc := 35) (i := 1) dX12_draw_35 rfl rfl ?_
  refine r_i2l (pc := 36) dX12_draw_36 ?_
  refine r_lrem (pc := 37) dX12_draw_37 (by omega) ?_
  refine r_topL (b := (vX (nxX (N 8)) k)) (by have := nxX_rng (N 8); rw [lrm_n (by unfold in64; omega) (by unfold in64; omega) (by omega) (by omega)]; rfl) ?_
  refine r_l2i (pc := 38) dX12_draw_38 ?_
  refine r_top (b := (vX (nxX (N 8)) k)) (by have := vX_rng (nxX (N 8)) hk; unfold w32; omega) ?_
  exact r_iret (pc := 39) dX12_draw_39 trivial hq
/-- how many places of the first n have unlike bits -/
def unl (N : Nat → Int) : Nat → Nat
  | 0 => 0
  | k + 1 => unl N k + if N (k + 276) = N (k + 532) then 0 else 1
theorem unl_succ (N : Nat → Int) (k : Nat) : unl N (k + 1) = unl N k + if N (k + 276) = N (k + 532) then 0 else 1 := rfl
theorem unl_le (N : Nat → Int) : ∀ k, unl N k ≤ k
  | 0 => Nat.le_refl 0
  | k + 1 => by have := unl_le N k; unfold unl; split <;> omega
theorem c_unlikeMany {n : Nat} (hT : ShM T) (hn : N 1 = (n : Int)) (hn2 : n ≤ 256) (hq : Q (some (aI ((unl N n : Nat) : Int))) T (sr I 283 N)) : EvE G mX12_unlikeMany d [aR 274] T (sr I 283 N) Q := by
  refine EvE.mk (lv0 := [some (aR 274), none, none]) (Nat.le_of_ble_eq_true rfl) (by decide +kernel) rfl ?_
  refine r_iconst (pc := 0) dX12_unlikeMany_0 (in32_of rfl) ?_
  refine r_istore_n (pc := 1) (i := 1) (lv' := [_, _, _]) dX12_unlikeMany_1 rfl (by decide) rfl ?_
  refine r_iconst (pc := 2) dX12_unlikeMany_2 (in32_of rfl) ?_
  refine r_istore_n (pc := 3) (i := 2) (lv' := [_, _, _]) dX12_unlikeMany_3 rfl (by decide) rfl ?_
  refine loop1 (fun (k : Nat) => k ≤ n) (fun (k : Nat) => n - k) (fun (k : Nat) => [some (aR 274), some (aI (((unl N k) : Nat) : Int)), some (aI ((k : Nat) : Int))]) (fun _ => T) (fun (k : Nat) => sr I 283 N) ?_ 0 (Nat.zero_le n)
  intro k hP ih
  have hP : k ≤ n := hP
  have := unl_le N k
  refine (?_ : Ev G mX12_unlikeMany d 4 [some (aR 274), some (aI (((unl N k) : Nat) : Int)), some (aI ((k : Nat) : Int))] [] T (sr I 283 N) Q)
  refine r_iload_n (pc := 4) (i := 2) dX12_unlikeMany_4 rfl rfl ?_
  refine r_aload_n (pc := 5) (i := 0) dX12_unlikeMany_5 rfl rfl ?_
  refine r_getfr (pc := 6) (b := 283) cks dX12_unlikeMany_6 fl_X12_37 rfl (kM274 hT) (ltM hT (by omega)) (rM11 hT) ?_
  refine r_iconst (pc := 9) dX12_unlikeMany_9 (in32_of rfl) ?_
  refine r_ild (pc := 10) (1) dX12_unlikeMany_10 (kM283 hT) (ltM hT (by omega)) (by omega) (by rw [lM283 hT]; omega) ?_
  refine r_top (b := N 1) (sr_at _ _ _ _) ?_
  refine r_top (b := ((n : Nat) : Int)) (hn) ?_
  refine r_icmp_ge (pc := 11) (tgt := 51) dX12_unlikeMany_11 rfl (fun c11 => ?_) (fun c11 => ?_)
  · refine r_iload_n (pc := 51) (i := 1) dX12_unlikeMany_51 rfl rfl ?_
    exact r_iret (pc := 52) dX12_unlikeMany_52 trivial (by rw [show k = n by omega]; exact hq)
  · refine r_iload_n (pc := 14) (i := 1) dX12_unlikeMany_14 rfl rfl ?_
    refine r_aload_n (pc := 15) (i := 0) dX12_unlikeMany_15 rfl rfl ?_
    refine r_getfr (pc := 16) (b := 283) cks dX12_unlikeMany_16 fl_X12_37 rfl (kM274 hT) (ltM hT (by omega)) (rM11 hT) ?_
    refine r_sipush (pc := 19) dX12_unlikeMany_19 rfl (in32_of rfl) ?_
    refine r_iload_n (pc := 22) (i := 2) dX12_unlikeMany_22 rfl rfl ?_
    refine r_iaddN (pc := 23) (c := ((k + 276 : Nat) : Int)) dX12_unlikeMany_23 (by unfold w32; omega) ?_
    refine r_ild (pc := 24) (k + 276) dX12_unlikeMany_24 (kM283 hT) (ltM hT (by omega)) rfl (by rw [lM283 hT]; omega) ?_
    refine r_top (b := N (k + 276)) (sr_at _ _ _ _) ?_
    refine r_aload_n (pc := 25) (i := 0) dX12_unlikeMany_25 rfl rfl ?_
    refine r_getfr (pc := 26) (b := 283) cks dX12_unlikeMany_26 fl_X12_37 rfl (kM274 hT) (ltM hT (by omega)) (rM11 hT) ?_
    refine r_sipush (pc := 29) dX12_unlikeMany_29 rfl (in32_of rfl) ?_
    refine r_iload_n (pc := 32) (i := 2) dX12_unlikeMany_32 rfl rfl ?_
    refine r_iaddN (pc := 33) (c := ((k + 532 : Nat) : Int)) dX12_unlikeMany_33 (by unfold w32; omega) ?_
    refine r_ild (pc := 34) (k + 532) dX12_unlikeMany_34 (kM283 hT) (ltM hT (by omega)) rfl (by rw [lM283 hT]; omega) ?_
    refine r_top (b := N (k + 532)) (sr_at _ _ _ _) ?_
    refine r_icmp_ne (pc := 35) (tgt := 42) dX12_unlikeMany_35 rfl (fun c35 => ?_) (fun c35 => ?_)
    · refine r_iconst (pc := 42) dX12_unlikeMany_42 (in32_of rfl) ?_
      refine r_iaddN (pc := 43) (c := (((unl N k) + 1 : Nat) : Int)) dX12_unlikeMany_43 (by unfold w32; omega) ?_
      refine r_istore_n (pc := 44) (i := 1) (lv' := [_, _, _]) dX12_unlikeMany_44 rfl (by decide) rfl ?_
      refine r_iincN (pc := 45) (i := 2) (c := ((k + 1 : Nat) : Int)) (lv' := [_, _, _]) dX12_unlikeMany_45 rfl (by decide) (by unfold w32; omega) rfl ?_
      refine r_goto (pc := 48) (tgt := 4) dX12_unlikeMany_48 rfl ?_
      exact Ev.re (by first | rw [unl_succ, if_neg c35] | rw [show unl N (k + 1) = unl N k from by rw [unl_succ, if_pos (Decidable.of_not_not c35)]; rfl]) rfl (ih (k + 1) (by omega) (by omega))
    · refine r_iconst (pc := 38) dX12_unlikeMany_38 (in32_of rfl) ?_
      refine r_goto (pc := 39) (tgt := 43) dX12_unlikeMany_39 rfl ?_
      refine r_iaddN (pc := 43) (c := (((unl N k) : Nat) : Int)) dX12_unlikeMany_43 (by unfold w32; omega) ?_
      refine r_istore_n (pc := 44) (i := 1) (lv' := [_, _, _]) dX12_unlikeMany_44 rfl (by decide) rfl ?_
      refine r_iincN (pc := 45) (i := 2) (c := ((k + 1 : Nat) : Int)) (lv' := [_, _, _]) dX12_unlikeMany_45 rfl (by decide) (by unfold w32; omega) rfl ?_
      refine r_goto (pc := 48) (tgt := 4) dX12_unlikeMany_48 rfl ?_
      exact Ev.re (by first | rw [unl_succ, if_neg c35] | rw [show unl N (k + 1) = unl N k from by rw [unl_succ, if_pos (Decidable.of_not_not c35)]; rfl]) rfl (ih (k + 1) (by omega) (by omega))
theorem c_isPlace {n : Nat} {p : Int} (hT : ShM T) (hn : N 1 = (n : Int)) (hq : Q (some (aI (bi (0 ≤ p ∧ p < n)))) T (sr I 283 N)) : EvE G mX12_isPlace d [aR 274, aI p] T (sr I 283 N) Q := by
  refine EvE.mk (lv0 := [some (aR 274), some (aI p)]) (Nat.le_of_ble_eq_true rfl) (by decide +kernel) rfl ?_
  refine r_iload_n (pc := 0) (i := 1) dX12_isPlace_0 rfl rfl ?_
  refine r_if_lt (pc := 1) (tgt := 18) dX12_isPlace_1 rfl (fun c1 => ?_) (fun c1 => ?_)
  · refine r_iconst (pc := 18) dX12_isPlace_18 (in32_of rfl) ?_
    exact r_iret (pc := 19) dX12_isPlace_19 (Or.inl rfl) (by rw [bi_f (by omega)] at hq; exact hq)
  · refine r_iload_n (pc := 4) (i := 1) dX12_isPlace_4 rfl rfl ?_
    refine r_aload_n (pc := 5) (i := 0) dX12_isPlace_5 rfl rfl ?_
    refine r_getfr (pc := 6) (b := 283) cks dX12_isPlace_6 fl_X12_37 rfl (kM274 hT) (ltM hT (by omega)) (rM11 hT) ?_
    refine r_iconst (pc := 9) dX12_isPlace_9 (in32_of rfl) ?_
    refine r_ild (pc := 10) (1) dX12_isPlace_10 (kM283 hT) (ltM hT (by omega)) (by omega) (by rw [lM283 hT]; omega) ?_
    refine r_top (b := N 1) (sr_at _ _ _ _) ?_
    refine r_top (b := ((n : Nat) : Int)) (hn) ?_
    refine r_icmp_ge (pc := 11) (tgt := 18) dX12_isPlace_11 rfl (fun c11 => ?_) (fun c11 => ?_)
    · refine r_iconst (pc := 18) dX12_isPlace_18 (in32_of rfl) ?_
      exact r_iret (pc := 19) dX12_isPlace_19 (Or.inl rfl) (by rw [bi_f (by omega)] at hq; exact hq)
    · refine r_iconst (pc := 14) dX12_isPlace_14 (in32_of rfl) ?_
      refine r_goto (pc := 15) (tgt := 19) dX12_isPlace_15 rfl ?_
      exact r_iret (pc := 19) dX12_isPlace_19 (Or.inr rfl) (by rw [bi_t (by omega)] at hq; exact hq)
theorem c_isPass {p : Int} (hT : ShM T) (hq : Q (some (aI (bi (0 ≤ p ∧ p < N 2)))) T (sr I 283 N)) : EvE G mX12_isPass d [aR 274, aI p] T (sr I 283 N) Q := by
  refine EvE.mk (lv0 := [some (aR 274), some (aI p)]) (Nat.le_of_ble_eq_true rfl) (by decide +kernel) rfl ?_
  refine r_iload_n (pc := 0) (i := 1) dX12_isPass_0 rfl rfl ?_
  refine r_if_lt (pc := 1) (tgt := 18) dX12_isPass_1 rfl (fun c1 => ?_) (fun c1 => ?_)
  · refine r_iconst (pc := 18) dX12_isPass_18 (in32_of rfl) ?_
    exact r_iret (pc := 19) dX12_isPass_19 (Or.inl rfl) (by rw [bi_f (by omega)] at hq; exact hq)
  · refine r_iload_n (pc := 4) (i := 1) dX12_isPass_4 rfl rfl ?_
    refine r_aload_n (pc := 5) (i := 0) dX12_isPass_5 rfl rfl ?_
    refine r_getfr (pc := 6) (b := 283) cks dX12_isPass_6 fl_X12_37 rfl (kM274 hT) (ltM hT (by omega)) (rM11 hT) ?_
    refine r_iconst (pc := 9) dX12_isPass_9 (in32_of rfl) ?_
    refine r_ild (pc := 10) (2) dX12_isPass_10 (kM283 hT) (ltM hT (by omega)) (by omega) (by rw [lM283 hT]; omega) ?_
    refine r_top (b := N 2) (sr_at _ _ _ _) ?_
    refine r_icmp_ge (pc := 11) (tgt := 18) dX12_isPass_11 rfl (fun c11 => ?_) (fun c11 => ?_)
    · refine r_iconst (pc := 18) dX12_isPass_18 (in32_of rfl) ?_
      exact r_iret (pc := 19) dX12_isPass_19 (Or.inl rfl) (by rw [bi_f (by omega)] at hq; exact hq)
    · refine r_iconst (pc := 14) dX12_isPass_14 (in32_of rfl) ?_
      refine r_goto (pc := 15) (tgt := 19) dX12_isPass_15 rfl ?_
      exact r_iret (pc := 19) dX12_isPass_19 (Or.inr rfl) (by rw [bi_t (by omega)] at hq; exact hq)
theorem c_isTold {p : Int} (hT : ShM T) (hq : Q (some (aI (bi (0 ≤ p ∧ p < N 3)))) T (sr I 283 N)) : EvE G mX12_isTold d [aR 274, aI p] T (sr I 283 N) Q := by
  refine EvE.mk (lv0 := [some (aR 274), some (aI p)]) (Nat.le_of_ble_eq_true rfl) (by decide +kernel) rfl ?_
  refine r_iload_n (pc := 0) (i := 1) dX12_isTold_0 rfl rfl ?_
  refine r_if_lt (pc := 1) (tgt := 18) dX12_isTold_1 rfl (fun c1 => ?_) (fun c1 => ?_)
  · refine r_iconst (pc := 18) dX12_isTold_18 (in32_of rfl) ?_
    exact r_iret (pc := 19) dX12_isTold_19 (Or.inl rfl) (by rw [bi_f (by omega)] at hq; exact hq)
  · refine r_iload_n (pc := 4) (i := 1) dX12_isTold_4 rfl rfl ?_
    refine r_aload_n (pc := 5) (i := 0) dX12_isTold_5 rfl rfl ?_
    refine r_getfr (pc := 6) (b := 283) cks dX12_isTold_6 fl_X12_37 rfl (kM274 hT) (ltM hT (by omega)) (rM11 hT) ?_
    refine r_iconst (pc := 9) dX12_isTold_9 (in32_of rfl) ?_
    refine r_ild (pc := 10) (3) dX12_isTold_10 (kM283 hT) (ltM hT (by omega)) (by omega) (by rw [lM283 hT]; omega) ?_
    refine r_top (b := N 3) (sr_at _ _ _ _) ?_
    refine r_icmp_ge (pc := 11) (tgt := 18) dX12_isTold_11 rfl (fun c11 => ?_) (fun c11 => ?_)
    · refine r_iconst (pc := 18) dX12_isTold_18 (in32_of rfl) ?_
      exact r_iret (pc := 19) dX12_isTold_19 (Or.inl rfl) (by rw [bi_f (by omega)] at hq; exact hq)
    · refine r_iconst (pc := 14) dX12_isTold_14 (in32_of rfl) ?_
      refine r_goto (pc := 15) (tgt := 19) dX12_isTold_15 rfl ?_
      exact r_iret (pc := 19) dX12_isTold_19 (Or.inr rfl) (by rw [bi_t (by omega)] at hq; exact hq)
theorem c_isMending (hT : ShM T) (hq : Q (some (aI (bi (N 0 = 2 ∨ N 0 = 3)))) T (sr I 283 N)) : EvE G mX12_isMending d [aR 274] T (sr I 283 N) Q := by
  refine EvE.mk (lv0 := [some (aR 274)]) (Nat.le_of_ble_eq_true rfl) (by decide +kernel) rfl ?_
  refine r_aload_n (pc := 0) (i := 0) dX12_isMending_0 rfl rfl ?_
  refine r_getfr (pc := 1) (b := 283) cks dX12_isMending_1 fl_X12_37 rfl (kM274 hT) (ltM hT (by omega)) (rM11 hT) ?_
  refine r_iconst (pc := 4) dX12_isMending_4 (in32_of rfl) ?_
  refine r_ild (pc := 5) (0) dX12_isMending_5 (kM283 hT) (ltM hT (by omega)) (by omega) (by rw [lM283 hT]; omega) ?_
  refine r_top (b := N 0) (sr_at _ _ _ _) ?_
  refine r_iconst (pc := 6) dX12_isMending_6 (in32_of rfl) ?_
  refine r_icmp_eq (pc := 7) (tgt := 20) dX12_isMending_7 rfl (fun c7 => ?_) (fun c7 => ?_)
  · refine r_iconst (pc := 20) dX12_isMending_20 (in32_of rfl) ?_
    refine r_goto (pc := 21) (tgt := 25) dX12_isMending_21 rfl ?_
    exact r_iret (pc := 25) dX12_isMending_25 (Or.inr rfl) (by rw [bi_t (by omega)] at hq; exact hq)
  · refine r_aload_n (pc := 10) (i := 0) dX12_isMending_10 rfl rfl ?_
    refine r_getfr (pc := 11) (b := 283) cks dX12_isMending_11 fl_X12_37 rfl (kM274 hT) (ltM hT (by omega)) (rM11 hT) ?_
    refine r_iconst (pc := 14) dX12_isMending_14 (in32_of rfl) ?_
    refine r_ild (pc := 15) (0) dX12_isMending_15 (kM283 hT) (ltM hT (by omega)) (by omega) (by rw [lM283 hT]; omega) ?_
    refine r_top (b := N 0) (sr_at _ _ _ _) ?_
    refine r_iconst (pc := 16) dX12_isMending_16 (in32_of rfl) ?_
    refine r_icmp_ne (pc := 17) (tgt := 24) dX12_isMending_17 rfl (fun c17 => ?_) (fun c17 => ?_)
    · refine r_iconst (pc := 24) dX12_isMending_24 (in32_of rfl) ?_
      exact r_iret (pc := 25) dX12_isMending_25 (Or.inl rfl) (by rw [bi_f (by omega)] at hq; exact hq)
    · refine r_iconst (pc := 20) dX12_isMending_20 (in32_of rfl) ?_
      refine r_goto (pc := 21) (tgt := 25) dX12_isMending_21 rfl ?_
      exact r_iret (pc := 25) dX12_isMending_25 (Or.inr rfl) (by rw [bi_t (by omega)] at hq; exact hq)
theorem c_isLetter {p : Int}  (hq : Q (some (aI (bi (97 ≤ p ∧ p ≤ 122)))) T I) : EvE G mX12_isLetter d [aI p] T I Q := by
  refine EvE.mk (lv0 := [some (aI p)]) (Nat.le_of_ble_eq_true rfl) (by decide +kernel) rfl ?_
  refine r_iload_n (pc := 0) (i := 0) dX12_isLetter_0 rfl rfl ?_
  refine r_bipush (pc := 1) dX12_isLetter_1 rfl (in32_of rfl) ?_
  refine r_icmp_lt (pc := 3) (tgt := 16) dX12_isLetter_3 rfl (fun c3 => ?_) (fun c3 => ?_)
  · refine r_iconst (pc := 16) dX12_isLetter_16 (in32_of rfl) ?_
    exact r_iret (pc := 17) dX12_isLetter_17 (Or.inl rfl) (by rw [bi_f (by omega)] at hq; exact hq)
  · refine r_iload_n (pc := 6) (i := 0) dX12_isLetter_6 rfl rfl ?_
    refine r_bipush (pc := 7) dX12_isLetter_7 rfl (in32_of rfl) ?_
    refine r_icmp_gt (pc := 9) (tgt := 16) dX12_isLetter_9 rfl (fun c9 => ?_) (fun c9 => ?_)
    · refine r_iconst (pc := 16) dX12_isLetter_16 (in32_of rfl) ?_
      exact r_iret (pc := 17) dX12_isLetter_17 (Or.inl rfl) (by rw [bi_f (by omega)] at hq; exact hq)
    · refine r_iconst (pc := 12) dX12_isLetter_12 (in32_of rfl) ?_
      refine r_goto (pc := 13) (tgt := 17) dX12_isLetter_13 rfl ?_
      exact r_iret (pc := 17) dX12_isLetter_17 (Or.inr rfl) (by rw [bi_t (by omega)] at hq; exact hq)
theorem c_isDigit {p : Int}  (hq : Q (some (aI (bi (48 ≤ p ∧ p ≤ 57)))) T I) : EvE G mX12_isDigit d [aI p] T I Q := by
  refine EvE.mk (lv0 := [some (aI p)]) (Nat.le_of_ble_eq_true rfl) (by decide +kernel) rfl ?_
  refine r_iload_n (pc := 0) (i := 0) dX12_isDigit_0 rfl rfl ?_
  refine r_bipush (pc := 1) dX12_isDigit_1 rfl (in32_of rfl) ?_
  refine r_icmp_lt (pc := 3) (tgt := 16) dX12_isDigit_3 rfl (fun c3 => ?_) (fun c3 => ?_)
  · refine r_iconst (pc := 16) dX12_isDigit_16 (in32_of rfl) ?_
    exact r_iret (pc := 17) dX12_isDigit_17 (Or.inl rfl) (by rw [bi_f (by omega)] at hq; exact hq)
  · refine r_iload_n (pc := 6) (i := 0) dX12_isDigit_6 rfl rfl ?_
    refine r_bipush (pc := 7) dX12_isDigit_7 rfl (in32_of rfl) ?_
    refine r_icmp_gt (pc := 9) (tgt := 16) dX12_isDigit_9 rfl (fun c9 => ?_) (fun c9 => ?_)
    · refine r_iconst (pc := 16) dX12_isDigit_16 (in32_of rfl) ?_
      exact r_iret (pc := 17) dX12_isDigit_17 (Or.inl rfl) (by rw [bi_f (by omega)] at hq; exact hq)
    · refine r_iconst (pc := 12) dX12_isDigit_12 (in32_of rfl) ?_
      refine r_goto (pc := 13) (tgt := 17) dX12_isDigit_13 rfl ?_
      exact r_iret (pc := 17) dX12_isDigit_17 (Or.inr rfl) (by rw [bi_t (by omega)] at hq; exact hq)
def begN (N : Nat → Int) (k : Nat) : Nat → Int := fun j => if j < k then 0 else N j
theorem begN_0 (N : Nat → Int) : begN N 0 = N := funext fun j => if_neg (by omega)
theorem begN_succ (N : Nat → Int) (k : Nat) : un (begN N k) k 0 = begN N (k + 1) := by
  funext j
  unfold un begN
  by_cases h : j = k
  · rw [if_pos h, if_pos (by omega)]
  · rw [if_neg h]
    by_cases g : j < k
    · rw [if_pos g, if_pos (by omega)]
    · rw [if_neg g, if_neg (by omega)]
def begins (N : Nat → Int) : Nat → Int := un (un (un (begN N 3902) 5 (-1)) 10 (-1)) 11 (-1)
theorem c_begins (hT : ShM T) (hq : Q none T (sr I 283 (begins N))) : EvE G mX12_begins d [aR 274] T (sr I 283 N) Q := by
  refine EvE.mk (lv0 := [some (aR 274), none]) (Nat.le_of_ble_eq_true rfl) (by decide +kernel) rfl ?_
  refine r_iconst (pc := 0) dX12_begins_0 (in32_of rfl) ?_
  refine r_istore_n (pc := 1) (i := 1) (lv' := [_, _]) dX12_begins_1 rfl (by decide) rfl ?_
  refine r_mem (I2 := sr I 283 (begN N 0)) (by rw [begN_0]) ?_
  refine loop1 (fun (k : Nat) => k ≤ 3902) (fun (k : Nat) => 3902 - k) (fun (k : Nat) => [some (aR 274), some (aI ((k : Nat) : Int))]) (fun _ => T) (fun (k : Nat) => sr I 283 (begN N k)) ?_ 0 (Nat.zero_le _)
  intro k hP ih
  have hP : k ≤ 3902 := hP
  refine (?_ : Ev G mX12_begins d 2 [some (aR 274), some (aI ((k : Nat) : Int))] [] T (sr I 283 (begN N k)) Q)
  refine r_iload_n (pc := 2) (i := 1) dX12_begins_2 rfl rfl ?_
  refine r_sipush (pc := 3) dX12_begins_3 rfl (in32_of rfl) ?_
  refine r_icmp_ge (pc := 6) (tgt := 22) dX12_begins_6 rfl (fun c6 => ?_) (fun c6 => ?_)
  · refine r_aload_n (pc := 22) (i := 0) dX12_begins_22 rfl rfl ?_
    refine r_getfr (pc := 23) (b := 283) cks dX12_begins_23 fl_X12_37 rfl (kM274 hT) (ltM hT (by omega)) (rM11 hT) ?_
    refine r_iconst (pc := 26) dX12_begins_26 (in32_of rfl) ?_
    refine r_iconst (pc := 27) dX12_begins_27 (in32_of rfl) ?_
    refine r_ist (pc := 28) (5) dX12_begins_28 (kM283 hT) (ltM hT (by omega)) (by omega) (by rw [lM283 hT]; omega) ?_
    refine r_mem (I2 := sr I 283 (un (begN N k) 5 (-1))) (by rw [up2_sr]) ?_
    refine r_aload_n (pc := 29) (i := 0) dX12_begins_29 rfl rfl ?_
    refine r_getfr (pc := 30) (b := 283) cks dX12_begins_30 fl_X12_37 rfl (kM274 hT) (ltM hT (by omega)) (rM11 hT) ?_
    refine r_bipush (pc := 33) dX12_begins_33 rfl (in32_of rfl) ?_
    refine r_iconst (pc := 35) dX12_begins_35 (in32_of rfl) ?_
    refine r_ist (pc := 36) (10) dX12_begins_36 (kM283 hT) (ltM hT (by omega)) (by omega) (by rw [lM283 hT]; omega) ?_
    refine r_mem (I2 := sr I 283 (un (un (begN N k) 5 (-1)) 10 (-1))) (by rw [up2_sr]) ?_
    refine r_aload_n (pc := 37) (i := 0) dX12_begins_37 rfl rfl ?_
    refine r_getfr (pc := 38) (b := 283) cks dX12_begins_38 fl_X12_37 rfl (kM274 hT) (ltM hT (by omega)) (rM11 hT) ?_
    refine r_bipush (pc := 41) dX12_begins_41 rfl (in32_of rfl) ?_
    refine r_iconst (pc := 43) dX12_begins_43 (in32_of rfl) ?_
    refine r_ist (pc := 44) (11) dX12_begins_44 (kM283 hT) (ltM hT (by omega)) (by omega) (by rw [lM283 hT]; omega) ?_
    refine r_mem (I2 := sr I 283 (un (un (un (begN N k) 5 (-1)) 10 (-1)) 11 (-1))) (by rw [up2_sr]) ?_
    exact r_vret (pc := 45) dX12_begins_45 trivial (by rw [show k = 3902 by omega]; exact hq)
  · refine r_aload_n (pc := 9) (i := 0) dX12_begins_9 rfl rfl ?_
    refine r_getfr (pc := 10) (b := 283) cks dX12_begins_10 fl_X12_37 rfl (kM274 hT) (ltM hT (by omega)) (rM11 hT) ?_
    refine r_iload_n (pc := 13) (i := 1) dX12_begins_13 rfl rfl ?_
    refine r_iconst (pc := 14) dX12_begins_14 (in32_of rfl) ?_
    refine r_ist (pc := 15) (k) dX12_begins_15 (kM283 hT) (ltM hT (by omega)) rfl (by rw [lM283 hT]; omega) ?_
    refine r_mem (I2 := sr I 283 (un (begN N k) k 0)) (by rw [up2_sr]) ?_
    refine r_iincN (pc := 16) (i := 1) (c := ((k + 1 : Nat) : Int)) (lv' := [_, _]) dX12_begins_16 rfl (by decide) (by unfold w32; omega) rfl ?_
    refine r_goto (pc := 19) (tgt := 2) dX12_begins_19 rfl ?_
    exact Ev.re rfl (by rw [begN_succ]) (ih (k + 1) (by omega) (by omega))
/-- the block that is in force -/
def bkI (I : Mi) : Int := if I 274 17 < 0 then I 280 5 else I 274 17
theorem isl_n {b : Int} {p : Nat} (h0 : 0 ≤ b) (h1 : b ≤ 64) (hp : p ≤ 8) : isl b (p : Int) = b * 2 ^ p := by
  have h2 : p = 0 ∨ p = 1 ∨ p = 2 ∨ p = 3 ∨ p = 4 ∨ p = 5 ∨ p = 6 ∨ p = 7 ∨ p = 8 := by omega
  obtain ⟨m, rfl⟩ : ∃ m : Nat, b = (m : Int) := ⟨b.toNat, by omega⟩
  have hm : m ≤ 64 := by omega
  have key : ∀ m : Nat, m < 65 → ∀ p : Nat, p < 9 → isl (m : Int) (p : Int) = (m : Int) * 2 ^ p := by decide +kernel
  exact key m (by omega) p (by omega)
theorem c_blockOf {B p : Nat} (hT : ShM T) (hB : bkI I = (B : Int)) (hB2 : B ≤ 64) (hp : p ≤ 8) (hq : Q (some (aI ((B * 2 ^ p : Nat) : Int))) T (sr I 283 N)) : EvE G mX12_blockOf d [aR 274, aI ((p : Nat) : Int)] T (sr I 283 N) Q := by
  refine EvE.mk (lv0 := [some (aR 274), some (aI ((p : Nat) : Int))]) (Nat.le_of_ble_eq_true rfl) (by decide +kernel) rfl ?_
  refine r_aload_n (pc := 0) (i := 0) dX12_blockOf_0 rfl rfl ?_
  refine r_getfi (pc := 1) cks dX12_blockOf_1 fl_X12_54 rfl (kM274 hT) (ltM hT (by omega)) ?_
  refine r_top (b := I 274 17) ((congrFun (sr_ne (by decide)) _).trans (rfl)) ?_
  refine r_if_ge (pc := 4) (tgt := 16) dX12_blockOf_4 rfl (fun c4 => ?_) (fun c4 => ?_)
  · refine r_aload_n (pc := 16) (i := 0) dX12_blockOf_16 rfl rfl ?_
    refine r_getfi (pc := 17) cks dX12_blockOf_17 fl_X12_54 rfl (kM274 hT) (ltM hT (by omega)) ?_
    refine r_top (b := I 274 17) ((congrFun (sr_ne (by decide)) _).trans (rfl)) ?_
    refine r_iload_n (pc := 20) (i := 1) dX12_blockOf_20 rfl rfl ?_
    refine r_ishl (pc := 21) dX12_blockOf_21 ?_
    refine r_top (b := (((B * 2 ^ p) : Nat) : Int)) (by rw [show (I 274 17) = (B : Int) by rw [← hB]; unfold bkI; first | rw [if_pos (by omega)] | rw [if_neg (by omega)]]; rw [isl_n (by omega) (by omega) hp]; simp) ?_
    exact r_iret (pc := 22) dX12_blockOf_22 trivial hq
  · refine r_aload_n (pc := 7) (i := 0) dX12_blockOf_7 rfl rfl ?_
    refine r_getfr (pc := 8) (b := 280) cks dX12_blockOf_8 fl_X12_27 rfl (kM274 hT) (ltM hT (by omega)) (rM6 hT) ?_
    refine r_iconst (pc := 11) dX12_blockOf_11 (in32_of rfl) ?_
    refine r_ild (pc := 12) (5) dX12_blockOf_12 (kM280 hT) (ltM hT (by omega)) (by omega) (by rw [lM280 hT]; omega) ?_
    refine r_top (b := I 280 5) ((congrFun (sr_ne (by decide)) _).trans (rfl)) ?_
    refine r_goto (pc := 13) (tgt := 20) dX12_blockOf_13 rfl ?_
    refine r_iload_n (pc := 20) (i := 1) dX12_blockOf_20 rfl rfl ?_
    refine r_ishl (pc := 21) dX12_blockOf_21 ?_
    refine r_top (b := (((B * 2 ^ p) : Nat) : Int)) (by rw [show (I 280 5) = (B : Int) by rw [← hB]; unfold bkI; first | rw [if_pos (by omega)] | rw [if_neg (by omega)]]; rw [isl_n (by omega) (by omega) hp]; simp) ?_
    exact r_iret (pc := 22) dX12_blockOf_22 trivial hq
theorem c_longOf {n B p b : Nat} (hT : ShM T) (hd : 1 ≤ d) (hn : N 1 = (n : Int)) (hn2 : n ≤ 256) (hB : bkI I = (B : Int)) (hB2 : B ≤ 64) (hp : p ≤ 8) (hb : b ≤ n) (hq : Q (some (aI ((min (n - b) (B * 2 ^ p) : Nat) : Int))) T (sr I 283 N)) : EvE G mX12_longOf d [aR 274, aI ((p : Nat) : Int), aI ((b : Nat) : Int)] T (sr I 283 N) Q := by
  refine EvE.mk (lv0 := [some (aR 274), some (aI ((p : Nat) : Int)), some (aI ((b : Nat) : Int)), none]) (Nat.le_of_ble_eq_true rfl) (by decide +kernel) rfl ?_
  refine r_aload_n (pc := 0) (i := 0) dX12_longOf_0 rfl rfl ?_
  refine r_getfr (pc := 1) (b := 283) cks dX12_longOf_1 fl_X12_37 rfl (kM274 hT) (ltM hT (by omega)) (rM11 hT) ?_
  refine r_iconst (pc := 4) dX12_longOf_4 (in32_of rfl) ?_
  refine r_ild (pc := 5) (1) dX12_longOf_5 (kM283 hT) (ltM hT (by omega)) (by omega) (by rw [lM283 hT]; omega) ?_
  refine r_top (b := N 1) (sr_at _ _ _ _) ?_
  refine r_top (b := ((n : Nat) : Int)) (hn) ?_
  refine r_iload_n (pc := 6) (i := 2) dX12_longOf_6 rfl rfl ?_
  refine r_isubN (pc := 7) (c := (((n - b) : Nat) : Int)) dX12_longOf_7 (by unfold w32; omega) ?_
  refine r_istore_n (pc := 8) (i := 3) (lv' := [_, _, _, _]) dX12_longOf_8 rfl (by decide) rfl ?_
  refine r_iload_n (pc := 9) (i := 3) dX12_longOf_9 rfl rfl ?_
  refine r_aload_n (pc := 10) (i := 0) dX12_longOf_10 rfl rfl ?_
  refine r_iload_n (pc := 11) (i := 1) dX12_longOf_11 rfl rfl ?_
  refine r_callV1 (pc := 12) (d - 1) [aI ((p : Nat) : Int)] dX12_longOf_12 (CV.mk2 mk_X12_blockOf lk_X12_179) (RC.of (ltM hT (by omega)) (kM274 hT) (by decide) rfl) rfl rfl (by omega) (Nat.le_of_ble_eq_true rfl) (Nat.le_of_ble_eq_true rfl) (c_blockOf (p := p) hT hB hB2 hp ?_)
  refine ⟨_, rfl, fun _ => ?_⟩
  refine r_icmp_ge (pc := 15) (tgt := 22) dX12_longOf_15 rfl (fun c15 => ?_) (fun c15 => ?_)
  · refine r_aload_n (pc := 22) (i := 0) dX12_longOf_22 rfl rfl ?_
    refine r_iload_n (pc := 23) (i := 1) dX12_longOf_23 rfl rfl ?_
    refine r_callV1 (pc := 24) (d - 1) [aI ((p : Nat) : Int)] dX12_longOf_24 (CV.mk2 mk_X12_blockOf lk_X12_179) (RC.of (ltM hT (by omega)) (kM274 hT) (by decide) rfl) rfl rfl (by omega) (Nat.le_of_ble_eq_true rfl) (Nat.le_of_ble_eq_true rfl) (c_blockOf (p := p) hT hB hB2 hp ?_)
    refine ⟨_, rfl, fun _ => ?_⟩
    exact r_iret (pc := 27) dX12_longOf_27 trivial (by rw [show min (n - b) (B * 2 ^ p) = (B * 2 ^ p) by omega] at hq; exact hq)
  · refine r_iload_n (pc := 18) (i := 3) dX12_longOf_18 rfl rfl ?_
    refine r_goto (pc := 19) (tgt := 27) dX12_longOf_19 rfl ?_
    exact r_iret (pc := 27) dX12_longOf_27 trivial (by rw [show min (n - b) (B * 2 ^ p) = (n - b) by omega] at hq; exact hq)
end M1

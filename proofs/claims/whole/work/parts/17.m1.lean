section M1
variable {G : Gl} {d : Nat} {T : Sh} {I : Mi} {N : Nat → Int} {Q : Option AV → Sh → Mi → Prop}
def dX (N : Nat → Int) : Int := (N 8 * 1103515245 + 12345) % 2147483648
def dN (N : Nat → Int) : Nat → Int := un N 8 (dX N)
def dV (N : Nat → Int) (k : Nat) : Int := dX N / 65536 % k
theorem dX_rng (N : Nat → Int) : 0 ≤ dX N ∧ dX N < 2147483648 := by unfold dX; omega
theorem w64_n {x : Int} (h0 : 0 ≤ x) (h1 : x < 9223372036854775808) : w64 x = x := by unfold w64; omega
theorem dV_rng (N : Nat → Int) {k : Nat} (hk : 0 < k) : 0 ≤ dV N k ∧ dV N k < k := by
  unfold dV
  exact ⟨Int.emod_nonneg _ (by omega), Int.emod_lt_of_pos _ (by omega)⟩
theorem c_draw {k : Nat} (hT : ShM T) (hx0 : 0 ≤ N 8) (hx1 : N 8 < 2147483648) (hk : 0 < k) (hk2 : k < 2147483648) (hq : Q (some (aI (dV N k))) T (sr I 283 (dN N))) : EvE G mX12_draw d [aR 274, aI ((k : Nat) : Int)] T (sr I 283 N) Q := by
  refine EvE.mk (lv0 := [some (aR 274), some (aI ((k : Nat) : Int)), none, none]) (by decide) (by decide +kernel) rfl ?_
  refine r_aload_n (pc := 0) (i := 0) dX12_draw_0 rfl rfl ?_
  refine r_getfr (pc := 1) (b := 283) cks dX12_draw_1 fl_X12_37 rfl (kM274 hT) (ltM hT (by omega)) (rM11 hT) ?_
  refine r_bipush (pc := 4) dX12_draw_4 rfl (in32_of rfl) ?_
  refine r_ild (pc := 6) (8) dX12_draw_6 (kM283 hT) (ltM hT (by omega)) (by omega) (by rw [lM283 hT]; omega) ?_
  refine r_top (b := N 8) (sr_at _ _ _ _) ?_
  refine r_i2l (pc := 7) dX12_draw_7 ?_
  refine r_ldc2 (pc := 8) (n := 1103515245) dX12_draw_8 cn_X12_127 (in64_of rfl) ?_
  refine r_lmul (pc := 11) dX12_draw_11 ?_
  refine r_topL (b := (N 8 * 1103515245)) (by unfold w64; omega) ?_
  refine r_ldc2 (pc := 12) (n := 12345) dX12_draw_12 cn_X12_129 (in64_of rfl) ?_
  refine r_ladd (pc := 15) dX12_draw_15 ?_
  refine r_topL (b := (N 8 * 1103515245 + 12345)) (by unfold w64; omega) ?_
  refine r_ldc2 (pc := 16) (n := 2147483648) dX12_draw_16 cn_X12_131 (in64_of rfl) ?_
  refine r_lrem (pc := 19) dX12_draw_19 (by omega) ?_
  refine r_topL (b := (dX N)) (by rw [lrm_n (by unfold in64; omega) (by unfold in64; omega) (by omega) (by omega)]; rfl) ?_
  refine r_lstore_n (pc := 20) (i := 2) (lv' := [_, _, _, _]) dX12_draw_20 rfl (by decide) rfl ?_
  refine r_aload_n (pc := 21) (i := 0) dX12_draw_21 rfl rfl ?_
  refine r_getfr (pc := 22) (b := 283) cks dX12_draw_22 fl_X12_37 rfl (kM274 hT) (ltM hT (by omega)) (rM11 hT) ?_
  refine r_bipush (pc := 25) dX12_draw_25 rfl (in32_of rfl) ?_
  refine r_lload_n (pc := 27) (i := 2) dX12_draw_27 rfl rfl ?_
  refine r_l2i (pc := 28) dX12_draw_28 ?_
  refine r_top (b := (dX N)) (by have := dX_rng N; unfold w32; omega) ?_
  refine r_ist (pc := 29) (8) dX12_draw_29 (kM283 hT) (ltM hT (by omega)) (by omega) (by rw [lM283 hT]; omega) ?_
  refine r_mem (I2 := sr I 283 (un N 8 (dX N))) (by rw [up2_sr]) ?_
  refine r_lload_n (pc := 30) (i := 2) dX12_draw_30 rfl rfl ?_
  refine r_ldc2 (pc := 31) (n := 65536) dX12_draw_31 cn_X12_133 (in64_of rfl) ?_
  refine r_ldiv (pc := 34) dX12_draw_34 (by omega) ?_
  refine r_topL (b := (dX N / 65536)) (by have := dX_rng N; rw [ldv_n (by unfold in64; omega) (by unfold in64; omega) (by omega) (by omega)]) ?_
  refine r_iload_n (pc := 35) (i := 1) dX12_draw_35 rfl rfl ?_
  refine r_i2l (pc := 36) dX12_draw_36 ?_
  refine r_lrem (pc := 37) dX12_draw_37 (by omega) ?_
  refine r_topL (b := (dV N k)) (by have := dX_rng N; rw [lrm_n (by unfold in64; omega) (by unfold in64; omega) (by omega) (by omega)]; rfl) ?_
  refine r_l2i (pc := 38) dX12_draw_38 ?_
  refine r_top (b := (dV N k)) (by have := dV_rng N hk; unfold w32; omega) ?_
  exact r_iret (pc := 39) dX12_draw_39 trivial hq
/-- how many places of the first n have unlike bits -/
def unl (N : Nat → Int) : Nat → Nat
  | 0 => 0
  | k + 1 => unl N k + if N (k + 276) = N (k + 532) then 0 else 1
theorem unl_succ (N : Nat → Int) (k : Nat) : unl N (k + 1) = unl N k + if N (k + 276) = N (k + 532) then 0 else 1 := rfl
theorem unl_le (N : Nat → Int) : ∀ k, unl N k ≤ k
  | 0 => Nat.le_refl 0
  | k + 1 => by have := unl_le N k; unfold unl; split <;> omega
theorem c_unlikeMany {n : Nat} (hT : ShM T) (hn : N 1 = (n : Int)) (hn2 : n ≤ 256) (hq : Q (some (aI (unl N n : Int))) T (sr I 283 N)) : EvE G mX12_unlikeMany d [aR 274] T (sr I 283 N) Q := by
  refine EvE.mk (lv0 := [some (aR 274), none, none]) (by decide) (by decide +kernel) rfl ?_
  refine r_iconst (pc := 0) dX12_unlikeMany_0 (in32_of rfl) ?_
  refine r_istore_n (pc := 1) (i := 1) (lv' := [_, _, _]) dX12_unlikeMany_1 rfl (by decide) rfl ?_
  refine r_iconst (pc := 2) dX12_unlikeMany_2 (in32_of rfl) ?_
  refine r_istore_n (pc := 3) (i := 2) (lv' := [_, _, _]) dX12_unlikeMany_3 rfl (by decide) rfl ?_
  refine loop1 (fun (k : Nat) => k ≤ n) (fun (k : Nat) => n - k) (fun (k : Nat) => [some (aR 274), some (aI (((unl N k) : Nat) : Int)), some (aI ((k : Nat) : Int))]) (fun _ => T) (fun (k : Nat) => sr I 283 N) ?_ 0 (Nat.zero_le n)
  intro k hP ih
  have hP : k ≤ n := hP
  have := unl_le N k
  refine (?_ : Ev G mX12_unlikeMany d 4 [some (aR 274), some (aI (((unl N k) : Nat) : Int)), some (aI ((k : Nat) : Int))] [] T (sr I 283 N) Q)
  refine r_iload_n (pc := 4) (i := 2) dX12_unlikeMany_4 rfl rfl ?_
  refine r_aload_n (pc := 5) (i := 0) dX12_unlikeMany_5 rfl rfl ?_
  refine r_getfr (pc := 6) (b := 283) cks dX12_unlikeMany_6 fl_X12_37 rfl (kM274 hT) (ltM hT (by omega)) (rM11 hT) ?_
  refine r_iconst (pc := 9) dX12_unlikeMany_9 (in32_of rfl) ?_
  refine r_ild (pc := 10) (1) dX12_unlikeMany_10 (kM283 hT) (ltM hT (by omega)) (by omega) (by rw [lM283 hT]; omega) ?_
  refine r_top (b := N 1) (sr_at _ _ _ _) ?_
  refine r_top (b := ((n : Nat) : Int)) (hn) ?_
  refine r_icmp_ge (pc := 11) (tgt := 51) dX12_unlikeMany_11 rfl (fun c11 => ?_) (fun c11 => ?_)
  · refine r_iload_n (pc := 51) (i := 1) dX12_unlikeMany_51 rfl rfl ?_
    exact r_iret (pc := 52) dX12_unlikeMany_52 trivial (by rw [show k = n by omega]; exact hq)
  · refine r_iload_n (pc := 14) (i := 1) dX12_unlikeMany_14 rfl rfl ?_
    refine r_aload_n (pc := 15) (i := 0) dX12_unlikeMany_15 rfl rfl ?_
    refine r_getfr (pc := 16) (b := 283) cks dX12_unlikeMany_16 fl_X12_37 rfl (kM274 hT) (ltM hT (by omega)) (rM11 hT) ?_
    refine r_sipush (pc := 19) dX12_unlikeMany_19 rfl (in32_of rfl) ?_
    refine r_iload_n (pc := 22) (i := 2) dX12_unlikeMany_22 rfl rfl ?_
    refine r_iaddN (pc := 23) (c := ((k + 276 : Nat) : Int)) dX12_unlikeMany_23 (by unfold w32; omega) ?_
    refine r_ild (pc := 24) (k + 276) dX12_unlikeMany_24 (kM283 hT) (ltM hT (by omega)) rfl (by rw [lM283 hT]; omega) ?_
    refine r_top (b := N (k + 276)) (sr_at _ _ _ _) ?_
    refine r_aload_n (pc := 25) (i := 0) dX12_unlikeMany_25 rfl rfl ?_
    refine r_getfr (pc := 26) (b := 283) cks dX12_unlikeMany_26 fl_X12_37 rfl (kM274 hT) (ltM hT (by omega)) (rM11 hT) ?_
    refine r_sipush (pc := 29) dX12_unlikeMany_29 rfl (in32_of rfl) ?_
    refine r_iload_n (pc := 32) (i := 2) dX12_unlikeMany_32 rfl rfl ?_
    refine r_iaddN (pc := 33) (c := ((k + 532 : Nat) : Int)) dX12_unlikeMany_33 (by unfold w32; omega) ?_
    refine r_ild (pc := 34) (k + 532) dX12_unlikeMany_34 (kM283 hT) (ltM hT (by omega)) rfl (by rw [lM283 hT]; omega) ?_
    refine r_top (b := N (k + 532)) (sr_at _ _ _ _) ?_
    refine r_icmp_ne (pc := 35) (tgt := 42) dX12_unlikeMany_35 rfl (fun c35 => ?_) (fun c35 => ?_)
    · refine r_iconst (pc := 42) dX12_unlikeMany_42 (in32_of rfl) ?_
      refine r_iaddN (pc := 43) (c := (((unl N k) + 1 : Nat) : Int)) dX12_unlikeMany_43 (by unfold w32; omega) ?_
      refine r_istore_n (pc := 44) (i := 1) (lv' := [_, _, _]) dX12_unlikeMany_44 rfl (by decide) rfl ?_
      refine r_iincN (pc := 45) (i := 2) (c := ((k + 1 : Nat) : Int)) (lv' := [_, _, _]) dX12_unlikeMany_45 rfl (by decide) (by unfold w32; omega) rfl ?_
      refine r_goto (pc := 48) (tgt := 4) dX12_unlikeMany_48 rfl ?_
      exact Ev.re (by first | rw [unl_succ, if_neg c35] | rw [unl_succ, if_pos (Decidable.of_not_not c35), Nat.add_zero]) rfl (ih (k + 1) (by omega) (by omega))
    · refine r_iconst (pc := 38) dX12_unlikeMany_38 (in32_of rfl) ?_
      refine r_goto (pc := 39) (tgt := 43) dX12_unlikeMany_39 rfl ?_
      refine r_iaddN (pc := 43) (c := (((unl N k) : Nat) : Int)) dX12_unlikeMany_43 (by unfold w32; omega) ?_
      refine r_istore_n (pc := 44) (i := 1) (lv' := [_, _, _]) dX12_unlikeMany_44 rfl (by decide) rfl ?_
      refine r_iincN (pc := 45) (i := 2) (c := ((k + 1 : Nat) : Int)) (lv' := [_, _, _]) dX12_unlikeMany_45 rfl (by decide) (by unfold w32; omega) rfl ?_
      refine r_goto (pc := 48) (tgt := 4) dX12_unlikeMany_48 rfl ?_
      exact Ev.re (by first | rw [unl_succ, if_neg c35] | rw [unl_succ, if_pos (Decidable.of_not_not c35), Nat.add_zero]) rfl (ih (k + 1) (by omega) (by omega))
end M1

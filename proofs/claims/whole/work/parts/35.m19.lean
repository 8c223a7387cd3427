section M19
variable {G : Gl} {d : Nat} {T : Sh} {I : Mi} {N : Nat → Int} {Q : Option AV → Sh → Mi → Prop}
def okSh (N : Nat → Int) : Prop := N 0 = 4
def okSd (N : Nat → Int) (v : Int) : Prop := N 0 = 5 ∧ (0 ≤ v ∧ v ≤ 255) ∧ N 9 + 8 ≤ N 6
def uN (N : Nat → Int) : Nat := (N 9).toNat
theorem uN_rd {N : Nat → Int} (h : Rng N) : N 9 = (uN N : Int) := by have := ok_9.mp (h 9); unfold uN; omega
def sd1 (N : Nat → Int) (v : Int) : Nat → Int := un N 10 (ixo v (byN N 3390 (uN N) 8))
def sd2 (N : Nat → Int) (v : Int) : Nat → Int := un (sd1 N v) 11 (ixo (ixo v (byN N 3390 (uN N) 8)) (byN (sd1 N v) 3646 (uN N) 8))
def sdF (N : Nat → Int) (v : Int) : Nat → Int := un (sd2 N v) 9 ((uN N + 8 : Nat) : Int)
theorem c_send {v : Int} {u : Nat} {P W A H : Nat → Int} (hT : ShM T) (hd : 3 ≤ d) (hR : Rng N) (hw : wOk W) (hu : H 16 = (u : Int)) (hu2 : u ≤ 12)  (hq0 : ¬ okSd N v → Q (some (aI (-1))) T (sr (sr (sr (sr (sr I 286 P) 285 W) 284 A) 274 H) 283 N)) (hq1 : okSd N v → Q (some (aI (ixo v (byN N 3390 (uN N) 8)))) T (sr (sr (sr (sr (sr I 286 P) 285 (kaW W N u)) 284 A) 274 (un H 16 ((kaU u : Nat) : Int))) 283 (sdF N v))) : EvE G mX12_send d [aR 274, aI v] T (sr (sr (sr (sr (sr I 286 P) 285 W) 284 A) 274 H) 283 N) Q := by
  have h9 := ok_9.mp (hR 9)
  have h6 := ok_6.mp (hR 6)
  have hu9 := uN_rd hR
  refine EvE.mk (lv0 := [some (aR 274), some (aI v)]) (Nat.le_of_ble_eq_true rfl) (by decide +kernel) rfl ?_
  refine r_aload_n (pc := 0) (i := 0) dX12_send_0 rfl rfl ?_
  refine r_getfr (pc := 1) (b := 283) cks dX12_send_1 fl_X12_37 rfl (kM274 hT) (ltM hT (by omega)) (rM11 hT) ?_
  refine r_iconst (pc := 4) dX12_send_4 (in32_of rfl) ?_
  refine r_ild (pc := 5) (0) dX12_send_5 (kM283 hT) (ltM hT (by omega)) (by omega) (by rw [lM283 hT]; omega) ?_
  refine r_top (b := N 0) (sr_at _ _ _ _) ?_
  refine r_iconst (pc := 6) dX12_send_6 (in32_of rfl) ?_
  refine r_icmp_ne (pc := 7) (tgt := 42) dX12_send_7 rfl (fun c7 => ?_) (fun c7 => ?_)
  · refine r_iconst (pc := 42) dX12_send_42 (in32_of rfl) ?_
    exact r_iret (pc := 43) dX12_send_43 trivial (hq0 (fun h => by unfold okSd at h; omega))
  · have c7 := Decidable.of_not_not c7
    refine r_iload_n (pc := 10) (i := 1) dX12_send_10 rfl rfl ?_
    refine r_i2l (pc := 11) dX12_send_11 ?_
    refine r_lconst (pc := 12) (z := 0) dX12_send_12 rfl (in64_of rfl) ?_
    refine r_ldc2 (pc := 13) (n := 255) dX12_send_13 cn_X12_227 (in64_of rfl) ?_
    refine r_callS1 (pc := 16) (d - 1) [aL v, aL 0, aL 255] dX12_send_16 (CS.mk2 mk_X12_isIn1 lk_X12_76) rfl rfl (by omega) (Nat.le_of_ble_eq_true rfl) (Nat.le_of_ble_eq_true rfl) (c_isIn1 ?_)
    refine ⟨_, rfl, fun _ => ?_⟩
    refine r_if_eq (pc := 19) (tgt := 42) dX12_send_19 rfl (fun c19 => ?_) (fun c19 => ?_)
    · have c19 := bi_if.mp c19
      refine r_iconst (pc := 42) dX12_send_42 (in32_of rfl) ?_
      exact r_iret (pc := 43) dX12_send_43 trivial (hq0 (fun h => by unfold okSd at h; omega))
    · have c19 := bi_1 c19
      refine r_aload_n (pc := 22) (i := 0) dX12_send_22 rfl rfl ?_
      refine r_getfr (pc := 23) (b := 283) cks dX12_send_23 fl_X12_37 rfl (kM274 hT) (ltM hT (by omega)) (rM11 hT) ?_
      refine r_bipush (pc := 26) dX12_send_26 rfl (in32_of rfl) ?_
      refine r_ild (pc := 28) (9) dX12_send_28 (kM283 hT) (ltM hT (by omega)) (by omega) (by rw [lM283 hT]; omega) ?_
      refine r_top (b := N 9) (sr_at _ _ _ _) ?_
      refine r_top (b := (((uN N) : Nat) : Int)) ((uN_rd hR)) ?_
      refine r_bipush (pc := 29) dX12_send_29 rfl (in32_of rfl) ?_
      refine r_iaddN (pc := 31) (c := (((uN N) + 8 : Nat) : Int)) dX12_send_31 (by unfold w32; omega) ?_
      refine r_aload_n (pc := 32) (i := 0) dX12_send_32 rfl rfl ?_
      refine r_getfr (pc := 33) (b := 283) cks dX12_send_33 fl_X12_37 rfl (kM274 hT) (ltM hT (by omega)) (rM11 hT) ?_
      refine r_bipush (pc := 36) dX12_send_36 rfl (in32_of rfl) ?_
      refine r_ild (pc := 38) (6) dX12_send_38 (kM283 hT) (ltM hT (by omega)) (by omega) (by rw [lM283 hT]; omega) ?_
      refine r_top (b := N 6) (sr_at _ _ _ _) ?_
      refine r_icmp_le (pc := 39) (tgt := 44) dX12_send_39 rfl (fun c39 => ?_) (fun c39 => ?_)
      · refine r_aload_n (pc := 44) (i := 0) dX12_send_44 rfl rfl ?_
        refine r_callV0 (pc := 45) (d - 1) [] dX12_send_45 (CV.mk2 mk_X12_keepsAct lk_X12_149) (RC.of (ltM hT (by omega)) (kM274 hT) (by decide) rfl) rfl rfl (by omega) (Nat.le_of_ble_eq_true rfl) (Nat.le_of_ble_eq_true rfl) (c_keepsAct (u := u) (P := P) (W := W) (A := A) (H := H) (N := N) hT (by omega) hR hw hu hu2 ?_)
        refine ⟨rfl, fun _ => ?_⟩
        refine r_aload_n (pc := 48) (i := 0) dX12_send_48 rfl rfl ?_
        refine r_getfr (pc := 49) (b := 283) cks dX12_send_49 fl_X12_37 rfl (kM274 hT) (ltM hT (by omega)) (rM11 hT) ?_
        refine r_bipush (pc := 52) dX12_send_52 rfl (in32_of rfl) ?_
        refine r_iload_n (pc := 54) (i := 1) dX12_send_54 rfl rfl ?_
        refine r_aload_n (pc := 55) (i := 0) dX12_send_55 rfl rfl ?_
        refine r_sipush (pc := 56) dX12_send_56 rfl (in32_of rfl) ?_
        refine r_callV1 (pc := 59) (d - 1) [aI 3390] dX12_send_59 (CV.mk2 mk_X12_byteOf lk_X12_229) (RC.of (ltM hT (by omega)) (kM274 hT) (by decide) rfl) rfl rfl (by omega) (Nat.le_of_ble_eq_true rfl) (Nat.le_of_ble_eq_true rfl) (c_byteOf (y := 3390) (u := uN N) (N := N) hT (uN_rd hR) (by omega) ?_)
        refine ⟨_, rfl, fun _ => ?_⟩
        refine r_ixor (pc := 62) dX12_send_62 ?_
        refine r_ist (pc := 63) (10) dX12_send_63 (kM283 hT) (ltM hT (by omega)) (by omega) (by rw [lM283 hT]; omega) ?_
        refine r_mem (I2 := sr (sr (sr (sr (sr I 286 P) 285 (kaW W N u)) 284 A) 274 (un H 16 ((kaU u : Nat) : Int))) 283 (un N 10 (ixo v (byN N 3390 (uN N) 8)))) (by rw [up2_sr]) ?_
        refine r_aload_n (pc := 64) (i := 0) dX12_send_64 rfl rfl ?_
        refine r_getfr (pc := 65) (b := 283) cks dX12_send_65 fl_X12_37 rfl (kM274 hT) (ltM hT (by omega)) (rM11 hT) ?_
        refine r_bipush (pc := 68) dX12_send_68 rfl (in32_of rfl) ?_
        refine r_aload_n (pc := 70) (i := 0) dX12_send_70 rfl rfl ?_
        refine r_getfr (pc := 71) (b := 283) cks dX12_send_71 fl_X12_37 rfl (kM274 hT) (ltM hT (by omega)) (rM11 hT) ?_
        refine r_bipush (pc := 74) dX12_send_74 rfl (in32_of rfl) ?_
        refine r_ild (pc := 76) (10) dX12_send_76 (kM283 hT) (ltM hT (by omega)) (by omega) (by rw [lM283 hT]; omega) ?_
        refine r_top (b := (un N 10 (ixo v (byN N 3390 (uN N) 8))) 10) (sr_at _ _ _ _) ?_
        refine r_top (b := (ixo v (byN N 3390 (uN N) 8))) (un_at) ?_
        refine r_aload_n (pc := 77) (i := 0) dX12_send_77 rfl rfl ?_
        refine r_sipush (pc := 78) dX12_send_78 rfl (in32_of rfl) ?_
        refine r_callV1 (pc := 81) (d - 1) [aI 3646] dX12_send_81 (CV.mk2 mk_X12_byteOf lk_X12_229) (RC.of (ltM hT (by omega)) (kM274 hT) (by decide) rfl) rfl rfl (by omega) (Nat.le_of_ble_eq_true rfl) (Nat.le_of_ble_eq_true rfl) (c_byteOf (y := 3646) (u := uN N) (N := un N 10 (ixo v (byN N 3390 (uN N) 8))) hT ((un_ne (by decide)).trans (uN_rd hR)) (by omega) ?_)
        refine ⟨_, rfl, fun _ => ?_⟩
        refine r_ixor (pc := 84) dX12_send_84 ?_
        refine r_ist (pc := 85) (11) dX12_send_85 (kM283 hT) (ltM hT (by omega)) (by omega) (by rw [lM283 hT]; omega) ?_
        refine r_mem (I2 := sr (sr (sr (sr (sr I 286 P) 285 (kaW W N u)) 284 A) 274 (un H 16 ((kaU u : Nat) : Int))) 283 (un (un N 10 (ixo v (byN N 3390 (uN N) 8))) 11 (ixo (ixo v (byN N 3390 (uN N) 8)) (byN (un N 10 (ixo v (byN N 3390 (uN N) 8))) 3646 (uN N) 8)))) (by rw [up2_sr]) ?_
        refine r_aload_n (pc := 86) (i := 0) dX12_send_86 rfl rfl ?_
        refine r_getfr (pc := 87) (b := 283) cks dX12_send_87 fl_X12_37 rfl (kM274 hT) (ltM hT (by omega)) (rM11 hT) ?_
        refine r_bipush (pc := 90) dX12_send_90 rfl (in32_of rfl) ?_
        refine r_dup2 (pc := 92) dX12_send_92 rfl rfl ?_
        refine r_ild (pc := 93) (9) dX12_send_93 (kM283 hT) (ltM hT (by omega)) (by omega) (by rw [lM283 hT]; omega) ?_
        refine r_top (b := (un (un N 10 (ixo v (byN N 3390 (uN N) 8))) 11 (ixo (ixo v (byN N 3390 (uN N) 8)) (byN (un N 10 (ixo v (byN N 3390 (uN N) 8))) 3646 (uN N) 8))) 9) (sr_at _ _ _ _) ?_
        refine r_top (b := (un N 10 (ixo v (byN N 3390 (uN N) 8))) 9) (un_ne (by omega)) ?_
        refine r_top (b := N 9) (un_ne (by omega)) ?_
        refine r_top (b := (((uN N) : Nat) : Int)) ((uN_rd hR)) ?_
        refine r_bipush (pc := 94) dX12_send_94 rfl (in32_of rfl) ?_
        refine r_iaddN (pc := 96) (c := (((uN N) + 8 : Nat) : Int)) dX12_send_96 (by unfold w32; omega) ?_
        refine r_ist (pc := 97) (9) dX12_send_97 (kM283 hT) (ltM hT (by omega)) (by omega) (by rw [lM283 hT]; omega) ?_
        refine r_mem (I2 := sr (sr (sr (sr (sr I 286 P) 285 (kaW W N u)) 284 A) 274 (un H 16 ((kaU u : Nat) : Int))) 283 (un (un (un N 10 (ixo v (byN N 3390 (uN N) 8))) 11 (ixo (ixo v (byN N 3390 (uN N) 8)) (byN (un N 10 (ixo v (byN N 3390 (uN N) 8))) 3646 (uN N) 8))) 9 (((uN N) + 8 : Nat) : Int))) (by rw [up2_sr]) ?_
        refine r_aload_n (pc := 98) (i := 0) dX12_send_98 rfl rfl ?_
        refine r_getfr (pc := 99) (b := 283) cks dX12_send_99 fl_X12_37 rfl (kM274 hT) (ltM hT (by omega)) (rM11 hT) ?_
        refine r_bipush (pc := 102) dX12_send_102 rfl (in32_of rfl) ?_
        refine r_ild (pc := 104) (10) dX12_send_104 (kM283 hT) (ltM hT (by omega)) (by omega) (by rw [lM283 hT]; omega) ?_
        refine r_top (b := (un (un (un N 10 (ixo v (byN N 3390 (uN N) 8))) 11 (ixo (ixo v (byN N 3390 (uN N) 8)) (byN (un N 10 (ixo v (byN N 3390 (uN N) 8))) 3646 (uN N) 8))) 9 (((uN N) + 8 : Nat) : Int)) 10) (sr_at _ _ _ _) ?_
        refine r_top (b := (un (un N 10 (ixo v (byN N 3390 (uN N) 8))) 11 (ixo (ixo v (byN N 3390 (uN N) 8)) (byN (un N 10 (ixo v (byN N 3390 (uN N) 8))) 3646 (uN N) 8))) 10) (un_ne (by omega)) ?_
        refine r_top (b := (un N 10 (ixo v (byN N 3390 (uN N) 8))) 10) (un_ne (by omega)) ?_
        refine r_top (b := (ixo v (byN N 3390 (uN N) 8))) (un_at) ?_
        exact r_iret (pc := 105) dX12_send_105 trivial (hq1 (by unfold okSd; omega))
      · refine r_iconst (pc := 42) dX12_send_42 (in32_of rfl) ?_
        exact r_iret (pc := 43) dX12_send_43 trivial (hq0 (fun h => by unfold okSd at h; omega))
theorem u8_01 (N : Nat → Int) (e : Nat) (j : Int) : u8 N e j = 0 ∨ u8 N e j = 1 := bi_01 _
theorem u8_n0 {N : Nat → Int} {e : Nat} {j : Int} (h : ¬ u8 N e j = 0) : u8 N e j = 1 := by have := u8_01 N e j; omega
theorem a8_t (N : Nat → Int) (e : Nat) (j : Int) : tN (a8F N e j) = tN N + 1 := tl_t _ _ _ _ _ _
theorem Rng_a8 {N : Nat → Int} {e : Nat} {j : Int} (h : Rng N) (ht : tN N < 13608) : Rng (a8F N e j) := Rng_tl h ht
theorem a8_ne {N : Nat → Int} {e : Nat} {j : Int} {q : Nat} (h : q ≠ 3) (h2 : q < 3902) : a8F N e j q = N q := tl_ne h h2
def nbM (M : Nat → Int) (e : Nat) : Nat → (Nat → Int)
  | 0 => a8F M e 0
  | j + 1 => a8F (nbM M e j) e ((j + 1 : Nat) : Int)
theorem nbM_succ (M : Nat → Int) (e j : Nat) : nbM M e (j + 1) = a8F (nbM M e j) e ((j + 1 : Nat) : Int) := rfl
def nbV (M : Nat → Int) (e : Nat) : Nat → Int
  | 0 => 0
  | j + 1 => iro (nbV M e j) (if u8 (nbM M e j) e ((j + 1 : Nat) : Int) = 0 then 0 else isl 1 (j : Int))
theorem nbV_succ (M : Nat → Int) (e j : Nat) : nbV M e (j + 1) = iro (nbV M e j) (if u8 (nbM M e j) e ((j + 1 : Nat) : Int) = 0 then 0 else isl 1 (j : Int)) := rfl
theorem nbV_1 (M : Nat → Int) (e : Nat) : nbV M e 1 = 0 ∨ nbV M e 1 = 1 := by
  rw [nbV_succ, show nbV M e 0 = 0 from rfl]
  split
  · exact Or.inl (by decide +kernel)
  · exact Or.inr (by decide +kernel)
theorem nbV_2 (M : Nat → Int) (e : Nat) : nbV M e 2 = 0 ∨ nbV M e 2 = 1 ∨ nbV M e 2 = 2 ∨ nbV M e 2 = 3 := by
  rw [nbV_succ]
  rcases nbV_1 M e with h | h <;> rw [h] <;> split
  · exact Or.inl (by decide +kernel)
  · exact Or.inr (Or.inr (Or.inl (by decide +kernel)))
  · exact Or.inr (Or.inl (by decide +kernel))
  · exact Or.inr (Or.inr (Or.inr (by decide +kernel)))
theorem nbV_3 (M : Nat → Int) (e : Nat) : 0 ≤ nbV M e 3 ∧ nbV M e 3 ≤ 7 := by
  have key : ∀ a : Int, a = 0 ∨ a = 1 ∨ a = 2 ∨ a = 3 → ∀ b : Int, b = 0 ∨ b = isl 1 ((2 : Nat) : Int) → 0 ≤ iro a b ∧ iro a b ≤ 7 := by
    intro a ha b hb
    rcases ha with rfl | rfl | rfl | rfl <;> rcases hb with rfl | rfl <;> decide +kernel
  rw [nbV_succ]
  refine key _ (nbV_2 M e) _ ?_
  split
  · exact Or.inl rfl
  · exact Or.inr rfl
theorem nbM_ok {M : Nat → Int} {e : Nat} (hR : Rng M) : ∀ j, tN M + (j + 1) ≤ 13608 → Rng (nbM M e j) ∧ tN (nbM M e j) = tN M + (j + 1) ∧ ∀ q, q ≠ 3 → q < 3902 → nbM M e j q = M q := by
  intro j
  induction j with
  | zero => intro h; exact ⟨Rng_a8 hR (by omega), a8_t M e 0, fun q h1 h2 => a8_ne h1 h2⟩
  | succ j ih =>
    intro h
    obtain ⟨a, b, c⟩ := ih (by omega)
    rw [nbM_succ]
    exact ⟨Rng_a8 a (by omega), by rw [a8_t, b]; omega, fun q h1 h2 => (a8_ne h1 h2).trans (c q h1 h2)⟩
def wnT (M : Nat → Int) (e : Nat) : Nat → Int := if u8 M e 0 = 0 then a8F M e 0 else mdF (nbM M e 3) (8 * e + (nbV M e 3).toNat)
def wnS (N : Nat → Int) : Nat → (Nat → Int)
  | 0 => N
  | e + 1 => wnT (wnS N e) e
theorem wnS_succ (N : Nat → Int) (e : Nat) : wnS N (e + 1) = wnT (wnS N e) e := rfl
def wnC (N : Nat → Int) : Nat → Nat
  | 0 => 0
  | e + 1 => wnC N e + if u8 (wnS N e) e 0 = 0 then 0 else 1
theorem wnC_succ (N : Nat → Int) (e : Nat) : wnC N (e + 1) = wnC N e + if u8 (wnS N e) e 0 = 0 then 0 else 1 := rfl
theorem wnC_le (N : Nat → Int) : ∀ e, wnC N e ≤ e
  | 0 => Nat.le_refl 0
  | e + 1 => by have := wnC_le N e; rw [wnC_succ]; split <;> omega
theorem wnS_ok {N : Nat → Int} (hR : Rng N) : ∀ e, e ≤ 32 → tN N + 4 * e ≤ 13608 → Rng (wnS N e) ∧ tN (wnS N e) ≤ tN N + 4 * e ∧ tN N ≤ tN (wnS N e) ∧ sameM N (wnS N e) := by
  intro e
  induction e with
  | zero => intro _ _; exact ⟨hR, Nat.le_refl _, Nat.le_refl _, sameM.refl N⟩
  | succ e ih =>
    intro h1 h2
    obtain ⟨a, b, c, f⟩ := ih (by omega) (by omega)
    have h0 := a8_t (wnS N e) e 0
    rw [wnS_succ]
    unfold wnT
    split
    · exact ⟨Rng_a8 a (by omega), by omega, by omega, f.trans (fun q q1 q2 _ _ => a8_ne q2 q1)⟩
    · obtain ⟨g1, g2, g3⟩ := nbM_ok (e := e) a 3 (by omega)
      have h3 := nbV_3 (wnS N e) e
      have ht : tN (mdF (nbM (wnS N e) e 3) (8 * e + (nbV (wnS N e) e 3).toNat)) = tN (nbM (wnS N e) e 3) := by unfold tN; rw [md_ne (by omega) (by omega)]
      exact ⟨Rng_md g1 (by omega), by omega, by omega, (f.trans (fun q q1 q2 _ _ => g3 q q2 q1)).trans (sameM_md _ (by omega))⟩
end M19

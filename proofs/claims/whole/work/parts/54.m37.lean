section M37
variable {G : Gl} {d : Nat} {T : Sh} {I : Mi} {N : Nat → Int} {Q : Option AV → Sh → Mi → Prop}
def fxP (Z Y : Nat → Int) (n : Nat) (S : Nat → Int) : Nat → Nat × (Nat → Int)
  | 0 => (0, S)
  | k + 1 => ((fxP Z Y n S k).1 + (fxI Z Y (fxP Z Y n S k).2 n k).toNat, (rdF Z Y n 0 (adS (z8 (fxP Z Y n S k).2 8) k)).2)
theorem fxP_succ (Z Y : Nat → Int) (n : Nat) (S : Nat → Int) (k : Nat) : fxP Z Y n S (k + 1) = ((fxP Z Y n S k).1 + (fxI Z Y (fxP Z Y n S k).2 n k).toNat, (rdF Z Y n 0 (adS (z8 (fxP Z Y n S k).2 8) k)).2) := rfl
theorem fxI_01 (Z Y S : Nat → Int) (n p : Nat) : fxI Z Y S n p = 0 ∨ fxI Z Y S n p = 1 := bi_01 _
theorem fxP_le (Z Y : Nat → Int) (n : Nat) (S : Nat → Int) : ∀ k, (fxP Z Y n S k).1 ≤ k := by
  intro k
  induction k with
  | zero => exact Nat.le_refl 0
  | succ k ih =>
    rw [fxP_succ]
    have := fxI_01 Z Y (fxP Z Y n S k).2 n k
    show (fxP Z Y n S k).1 + (fxI Z Y (fxP Z Y n S k).2 n k).toNat ≤ k + 1
    omega
def fxA (D : SZ) (n : Nat) (p : Int) : Int := if p = -1 then ((fxP D.2.1 D.2.2.1 n D.1 n).1 : Int) else if 0 ≤ p ∧ p < (n : Int) then fxI D.2.1 D.2.2.1 D.1 n p.toNat else -1
def scD (N : Nat → Int) (n : Nat) (D : SZ) : Nat → SZ
  | 0 => D
  | k + 1 => if spI N k = 0 then scD N n D k else tkD n (adS (z8 (scD N n D k).1 8) k, (scD N n D k).2)
theorem scD_succ (N : Nat → Int) (n : Nat) (D : SZ) (k : Nat) : scD N n D (k + 1) = if spI N k = 0 then scD N n D k else tkD n (adS (z8 (scD N n D k).1 8) k, (scD N n D k).2) := rfl
def seD (N : Nat → Int) (n : Nat) (D : SZ) : Nat → SZ
  | 0 => D
  | i + 1 => tkD n (lrS N 2870 i (z8 (seD N n D i).1 8) n, (seD N n D i).2)
theorem seD_succ (N : Nat → Int) (n : Nat) (D : SZ) (i : Nat) : seD N n D (i + 1) = tkD n (lrS N 2870 i (z8 (seD N n D i).1 8) n, (seD N n D i).2) := rfl
def scA (N : Nat → Int) (n L : Nat) (D : SZ) (b : Int) : Int := if N 0 = 5 then w32 ((seD N n (scD N n D (if b = 0 then 0 else n)) L).2.2.2 - (scD N n D (if b = 0 then 0 else n)).2.2.2) else -1
theorem c_fixed {n q : Nat} {p : Int} {S Z Y H : Nat → Int} (hT : ShM T) (hd : 5 ≤ d) (hn : N 1 = (n : Int)) (hn2 : n ≤ 256) (hR : Rng N) (hL : LdOk N q n) (hq6 : q ≤ 6) (hq : ∀ S2 Z2 Y2 K : Nat → Int, kp23 H K → Q (some (aI (fxA (rkD N n S Z Y) n p))) T (sr (sr (sr (sr (sr I 288 S2) 289 Z2) 290 Y2) 274 K) 283 N)) : EvE G mX12_fixed d [aR 274, aI p] T (sr (sr (sr (sr (sr I 288 S) 289 Z) 290 Y) 274 H) 283 N) Q := by
  refine EvE.mk (lv0 := [some (aR 274), some (aI p), none, none]) (Nat.le_of_ble_eq_true rfl) (by decide +kernel) rfl ?_
  refine r_iload_n (pc := 0) (i := 1) dX12_fixed_0 rfl rfl ?_
  refine r_iconst (pc := 1) dX12_fixed_1 (in32_of rfl) ?_
  refine r_icmp_eq (pc := 2) (tgt := 15) dX12_fixed_2 rfl (fun c2 => ?_) (fun c2 => ?_)
  · refine r_aload_n (pc := 15) (i := 0) dX12_fixed_15 rfl rfl ?_
    refine r_callV1 (pc := 16) (d - 1) [] dX12_fixed_16 (CV.mk2 mk_X12_rank lk_X12_293) (RC.of (ltM hT (by omega)) (kM274 hT) (by decide) rfl) rfl rfl (by omega) (Nat.le_of_ble_eq_true rfl) (Nat.le_of_ble_eq_true rfl) (c_rk (n := n) (q := q) hT (by omega) hn hn2 hR hL hq6 ?_)
    refine ⟨_, rfl, fun _ => ?_⟩
    refine r_pop (pc := 19) dX12_fixed_19 rfl ?_
    refine r_iload_n (pc := 20) (i := 1) dX12_fixed_20 rfl rfl ?_
    refine r_iconst (pc := 21) dX12_fixed_21 (in32_of rfl) ?_
    refine r_icmp_eq (pc := 22) (tgt := 39) dX12_fixed_22 rfl (fun c22 => ?_) (fun c22 => absurd (by omega) c22)
    refine r_iconst (pc := 39) dX12_fixed_39 (in32_of rfl) ?_
    refine r_istore_n (pc := 40) (i := 2) (lv' := [_, _, _, _]) dX12_fixed_40 rfl (by decide) rfl ?_
    refine r_iconst (pc := 41) dX12_fixed_41 (in32_of rfl) ?_
    refine r_istore_n (pc := 42) (i := 3) (lv' := [_, _, _, _]) dX12_fixed_42 rfl (by decide) rfl ?_
    refine loop1 (fun (k : Nat) => k ≤ n) (fun (k : Nat) => n - k) (fun (k : Nat) => [some (aR 274), some (aI p), some (aI ((((fxP (rkD N n S Z Y).2.1 (rkD N n S Z Y).2.2.1 n (rkD N n S Z Y).1 k).1) : Nat) : Int)), some (aI ((k : Nat) : Int))]) (fun _ => T) (fun (k : Nat) => sr (sr (sr (sr (sr I 288 ((fxP (rkD N n S Z Y).2.1 (rkD N n S Z Y).2.2.1 n (rkD N n S Z Y).1 k).2)) 289 ((rkD N n S Z Y).2.1)) 290 ((rkD N n S Z Y).2.2.1)) 274 (un H 23 (rkD N n S Z Y).2.2.2)) 283 N) ?_ 0 (Nat.zero_le _)
    intro k hP ih
    have hP : k ≤ n := hP
    have hfp := fxP_le (rkD N n S Z Y).2.1 (rkD N n S Z Y).2.2.1 n (rkD N n S Z Y).1 k
    refine (?_ : Ev G mX12_fixed d 43 [some (aR 274), some (aI p), some (aI ((((fxP (rkD N n S Z Y).2.1 (rkD N n S Z Y).2.2.1 n (rkD N n S Z Y).1 k).1) : Nat) : Int)), some (aI ((k : Nat) : Int))] [] T (sr (sr (sr (sr (sr I 288 ((fxP (rkD N n S Z Y).2.1 (rkD N n S Z Y).2.2.1 n (rkD N n S Z Y).1 k).2)) 289 ((rkD N n S Z Y).2.1)) 290 ((rkD N n S Z Y).2.2.1)) 274 (un H 23 (rkD N n S Z Y).2.2.2)) 283 N) Q)
    refine r_iload_n (pc := 43) (i := 3) dX12_fixed_43 rfl rfl ?_
    refine r_aload_n (pc := 44) (i := 0) dX12_fixed_44 rfl rfl ?_
    refine r_getfr (pc := 45) (b := 283) cks dX12_fixed_45 fl_X12_37 rfl (kM274 hT) (ltM hT (by omega)) (rM11 hT) ?_
    refine r_iconst (pc := 48) dX12_fixed_48 (in32_of rfl) ?_
    refine r_ild (pc := 49) (1) dX12_fixed_49 (kM283 hT) (ltM hT (by omega)) (by omega) (by rw [lM283 hT]; omega) ?_
    refine r_top (b := N 1) (sr_at _ _ _ _) ?_
    refine r_top (b := ((n : Nat) : Int)) (hn) ?_
    refine r_icmp_ge (pc := 50) (tgt := 75) dX12_fixed_50 rfl (fun c50 => ?_) (fun c50 => ?_)
    · refine r_iload_n (pc := 75) (i := 2) dX12_fixed_75 rfl rfl ?_
      exact r_iret (pc := 76) dX12_fixed_76 trivial (by rw [show fxA (rkD N n S Z Y) n p = ((fxP (rkD N n S Z Y).2.1 (rkD N n S Z Y).2.2.1 n (rkD N n S Z Y).1 k).1 : Int) from (if_pos (by omega)).trans (by rw [show n = k by omega])] at hq; exact hq _ _ _ _ kp23_un)
    · refine r_iload_n (pc := 53) (i := 2) dX12_fixed_53 rfl rfl ?_
      refine r_aload_n (pc := 54) (i := 0) dX12_fixed_54 rfl rfl ?_
      refine r_iload_n (pc := 55) (i := 3) dX12_fixed_55 rfl rfl ?_
      refine r_callV1 (pc := 56) (d - 1) [aI ((k : Nat) : Int)] dX12_fixed_56 (CV.mk2 mk_X12_isFixed lk_X12_295) (RC.of (ltM hT (by omega)) (kM274 hT) (by decide) rfl) rfl rfl (by omega) (Nat.le_of_ble_eq_true rfl) (Nat.le_of_ble_eq_true rfl) (c_isFixed (n := n) (p := k) hT (by omega) hn hn2 (by omega) ?_)
      refine ⟨_, rfl, fun _ => ?_⟩
      refine r_if_eq (pc := 59) (tgt := 66) dX12_fixed_59 rfl (fun c59 => ?_) (fun c59 => ?_)
      · refine r_iconst (pc := 66) dX12_fixed_66 (in32_of rfl) ?_
        refine r_iaddN (pc := 67) (c := ((((fxP (rkD N n S Z Y).2.1 (rkD N n S Z Y).2.2.1 n (rkD N n S Z Y).1 k).1) : Nat) : Int)) dX12_fixed_67 (by unfold w32; omega) ?_
        refine r_istore_n (pc := 68) (i := 2) (lv' := [_, _, _, _]) dX12_fixed_68 rfl (by decide) rfl ?_
        refine r_iincN (pc := 69) (i := 3) (c := ((k + 1 : Nat) : Int)) (lv' := [_, _, _, _]) dX12_fixed_69 rfl (by decide) (by unfold w32; omega) rfl ?_
        refine r_goto (pc := 72) (tgt := 43) dX12_fixed_72 rfl ?_
        have h01 : (fxI (rkD N n S Z Y).2.1 (rkD N n S Z Y).2.2.1 (fxP (rkD N n S Z Y).2.1 (rkD N n S Z Y).2.2.1 n (rkD N n S Z Y).1 k).2 n k).toNat = 0 := by have := fxI_01 (rkD N n S Z Y).2.1 (rkD N n S Z Y).2.2.1 (fxP (rkD N n S Z Y).2.1 (rkD N n S Z Y).2.2.1 n (rkD N n S Z Y).1 k).2 n k; omega
        have h02 : (fxP (rkD N n S Z Y).2.1 (rkD N n S Z Y).2.2.1 n (rkD N n S Z Y).1 (k + 1)).1 = (fxP (rkD N n S Z Y).2.1 (rkD N n S Z Y).2.2.1 n (rkD N n S Z Y).1 k).1 := by rw [fxP_succ]; show _ + _ = _; rw [h01]; rfl
        exact Ev.re (by rw [h02]) (by rw [fxP_succ]) (ih (k + 1) (by omega) (by omega))
      · refine r_iconst (pc := 62) dX12_fixed_62 (in32_of rfl) ?_
        refine r_goto (pc := 63) (tgt := 67) dX12_fixed_63 rfl ?_
        refine r_iaddN (pc := 67) (c := ((((fxP (rkD N n S Z Y).2.1 (rkD N n S Z Y).2.2.1 n (rkD N n S Z Y).1 k).1) + 1 : Nat) : Int)) dX12_fixed_67 (by unfold w32; omega) ?_
        refine r_istore_n (pc := 68) (i := 2) (lv' := [_, _, _, _]) dX12_fixed_68 rfl (by decide) rfl ?_
        refine r_iincN (pc := 69) (i := 3) (c := ((k + 1 : Nat) : Int)) (lv' := [_, _, _, _]) dX12_fixed_69 rfl (by decide) (by unfold w32; omega) rfl ?_
        refine r_goto (pc := 72) (tgt := 43) dX12_fixed_72 rfl ?_
        have h01 : (fxI (rkD N n S Z Y).2.1 (rkD N n S Z Y).2.2.1 (fxP (rkD N n S Z Y).2.1 (rkD N n S Z Y).2.2.1 n (rkD N n S Z Y).1 k).2 n k).toNat = 1 := by have := fxI_01 (rkD N n S Z Y).2.1 (rkD N n S Z Y).2.2.1 (fxP (rkD N n S Z Y).2.1 (rkD N n S Z Y).2.2.1 n (rkD N n S Z Y).1 k).2 n k; omega
        have h02 : (fxP (rkD N n S Z Y).2.1 (rkD N n S Z Y).2.2.1 n (rkD N n S Z Y).1 (k + 1)).1 = (fxP (rkD N n S Z Y).2.1 (rkD N n S Z Y).2.2.1 n (rkD N n S Z Y).1 k).1 + 1 := by rw [fxP_succ]; show _ + _ = _; rw [h01]
        exact Ev.re (by rw [h02]) (by rw [fxP_succ]) (ih (k + 1) (by omega) (by omega))
  · refine r_aload_n (pc := 5) (i := 0) dX12_fixed_5 rfl rfl ?_
    refine r_iload_n (pc := 6) (i := 1) dX12_fixed_6 rfl rfl ?_
    refine r_callV1 (pc := 7) (d - 1) [aI p] dX12_fixed_7 (CV.mk2 mk_X12_isPlace lk_X12_232) (RC.of (ltM hT (by omega)) (kM274 hT) (by decide) rfl) rfl rfl (by omega) (Nat.le_of_ble_eq_true rfl) (Nat.le_of_ble_eq_true rfl) (c_isPlace hT hn ?_)
    refine ⟨_, rfl, fun _ => ?_⟩
    refine r_if_ne (pc := 10) (tgt := 15) dX12_fixed_10 rfl (fun c10 => ?_) (fun c10 => ?_)
    · have c10 := bi_1 c10
      refine r_aload_n (pc := 15) (i := 0) dX12_fixed_15 rfl rfl ?_
      refine r_callV1 (pc := 16) (d - 1) [] dX12_fixed_16 (CV.mk2 mk_X12_rank lk_X12_293) (RC.of (ltM hT (by omega)) (kM274 hT) (by decide) rfl) rfl rfl (by omega) (Nat.le_of_ble_eq_true rfl) (Nat.le_of_ble_eq_true rfl) (c_rk (n := n) (q := q) hT (by omega) hn hn2 hR hL hq6 ?_)
      refine ⟨_, rfl, fun _ => ?_⟩
      refine r_pop (pc := 19) dX12_fixed_19 rfl ?_
      refine r_iload_n (pc := 20) (i := 1) dX12_fixed_20 rfl rfl ?_
      refine r_iconst (pc := 21) dX12_fixed_21 (in32_of rfl) ?_
      refine r_icmp_eq (pc := 22) (tgt := 39) dX12_fixed_22 rfl (fun c22 => absurd c22 (by omega)) (fun c22 => ?_)
      obtain ⟨p, rfl⟩ : ∃ e : Nat, p = (e : Int) := ⟨p.toNat, by omega⟩
      refine r_aload_n (pc := 25) (i := 0) dX12_fixed_25 rfl rfl ?_
      refine r_iload_n (pc := 26) (i := 1) dX12_fixed_26 rfl rfl ?_
      refine r_callV1 (pc := 27) (d - 1) [aI ((p : Nat) : Int)] dX12_fixed_27 (CV.mk2 mk_X12_isFixed lk_X12_295) (RC.of (ltM hT (by omega)) (kM274 hT) (by decide) rfl) rfl rfl (by omega) (Nat.le_of_ble_eq_true rfl) (Nat.le_of_ble_eq_true rfl) (c_isFixed (n := n) (p := p) hT (by omega) hn hn2 (by omega) ?_)
      refine ⟨_, rfl, fun _ => ?_⟩
      refine r_if_eq (pc := 30) (tgt := 37) dX12_fixed_30 rfl (fun c30 => ?_) (fun c30 => ?_)
      · refine r_iconst (pc := 37) dX12_fixed_37 (in32_of rfl) ?_
        exact r_iret (pc := 38) dX12_fixed_38 trivial (by rw [show fxA (rkD N n S Z Y) n (p : Int) = 0 from ((if_neg (by omega)).trans (if_pos (by omega))).trans (by rw [Int.toNat_natCast]; exact (by omega))] at hq; exact hq _ _ _ _ kp23_un)
      · refine r_iconst (pc := 33) dX12_fixed_33 (in32_of rfl) ?_
        refine r_goto (pc := 34) (tgt := 38) dX12_fixed_34 rfl ?_
        exact r_iret (pc := 38) dX12_fixed_38 trivial (by rw [show fxA (rkD N n S Z Y) n (p : Int) = 1 from ((if_neg (by omega)).trans (if_pos (by omega))).trans (by rw [Int.toNat_natCast]; exact (by have := fxI_01 (rkD N n S Z Y).2.1 (rkD N n S Z Y).2.2.1 (rkD N n S Z Y).1 n p; omega))] at hq; exact hq _ _ _ _ kp23_un)
    · have c10 := bi_if.mp (Decidable.of_not_not c10)
      refine r_iconst (pc := 13) dX12_fixed_13 (in32_of rfl) ?_
      exact r_iret (pc := 14) dX12_fixed_14 trivial (by rw [show fxA (rkD N n S Z Y) n p = -1 from (if_neg (by omega)).trans (if_neg (by omega))] at hq; exact hq S Z Y H kp23_id)
theorem c_secret {n q L z : Nat} {b : Int} {S Z Y H : Nat → Int} (hT : ShM T) (hd : 5 ≤ d) (hn : N 1 = (n : Int)) (hn2 : n ≤ 256) (hR : Rng N) (hL : LdOk N q n) (hq6 : q ≤ 6) (hL6 : N 6 = (L : Int)) (hL7 : L ≤ 256) (hz : (if b = 0 then 0 else n) = z) (hq : ∀ S2 Z2 Y2 K : Nat → Int, kp23 H K → Q (some (aI (scA N n L (rkD N n S Z Y) b))) T (sr (sr (sr (sr (sr I 288 S2) 289 Z2) 290 Y2) 274 K) 283 N)) : EvE G mX12_secret d [aR 274, aI b] T (sr (sr (sr (sr (sr I 288 S) 289 Z) 290 Y) 274 H) 283 N) Q := by
  refine EvE.mk (lv0 := [some (aR 274), some (aI b), none, none, none]) (Nat.le_of_ble_eq_true rfl) (by decide +kernel) rfl ?_
  refine r_aload_n (pc := 0) (i := 0) dX12_secret_0 rfl rfl ?_
  refine r_getfr (pc := 1) (b := 283) cks dX12_secret_1 fl_X12_37 rfl (kM274 hT) (ltM hT (by omega)) (rM11 hT) ?_
  refine r_iconst (pc := 4) dX12_secret_4 (in32_of rfl) ?_
  refine r_ild (pc := 5) (0) dX12_secret_5 (kM283 hT) (ltM hT (by omega)) (by omega) (by rw [lM283 hT]; omega) ?_
  refine r_top (b := N 0) (sr_at _ _ _ _) ?_
  refine r_iconst (pc := 6) dX12_secret_6 (in32_of rfl) ?_
  refine r_icmp_eq (pc := 7) (tgt := 12) dX12_secret_7 rfl (fun c7 => ?_) (fun c7 => ?_)
  · refine r_aload_n (pc := 12) (i := 0) dX12_secret_12 rfl rfl ?_
    refine r_callV1 (pc := 13) (d - 1) [] dX12_secret_13 (CV.mk2 mk_X12_rank lk_X12_293) (RC.of (ltM hT (by omega)) (kM274 hT) (by decide) rfl) rfl rfl (by omega) (Nat.le_of_ble_eq_true rfl) (Nat.le_of_ble_eq_true rfl) (c_rk (n := n) (q := q) hT (by omega) hn hn2 hR hL hq6 ?_)
    refine ⟨_, rfl, fun _ => ?_⟩
    refine r_pop (pc := 16) dX12_secret_16 rfl ?_
    refine r_iconst (pc := 17) dX12_secret_17 (in32_of rfl) ?_
    refine r_istore_n (pc := 18) (i := 2) (lv' := [_, _, _, _, _]) dX12_secret_18 rfl (by decide) rfl ?_
    refine loop1 (fun (k : Nat) => k ≤ n ∧ (b = 0 → k = 0)) (fun (k : Nat) => n - k) (fun (k : Nat) => [some (aR 274), some (aI b), some (aI ((k : Nat) : Int)), none, none]) (fun _ => T) (fun (k : Nat) => sr (sr (sr (sr (sr I 288 ((scD N n (rkD N n S Z Y) k).1)) 289 ((scD N n (rkD N n S Z Y) k).2.1)) 290 ((scD N n (rkD N n S Z Y) k).2.2.1)) 274 (un H 23 (scD N n (rkD N n S Z Y) k).2.2.2)) 283 N) ?_ 0 ⟨Nat.zero_le _, fun _ => rfl⟩
    intro k hP ih
    have hP : k ≤ n ∧ (b = 0 → k = 0) := hP
    refine (?_ : Ev G mX12_secret d 19 [some (aR 274), some (aI b), some (aI ((k : Nat) : Int)), none, none] [] T (sr (sr (sr (sr (sr I 288 ((scD N n (rkD N n S Z Y) k).1)) 289 ((scD N n (rkD N n S Z Y) k).2.1)) 290 ((scD N n (rkD N n S Z Y) k).2.2.1)) 274 (un H 23 (scD N n (rkD N n S Z Y) k).2.2.2)) 283 N) Q)
    refine r_iload_n (pc := 19) (i := 2) dX12_secret_19 rfl rfl ?_
    refine r_aload_n (pc := 20) (i := 0) dX12_secret_20 rfl rfl ?_
    refine r_getfr (pc := 21) (b := 283) cks dX12_secret_21 fl_X12_37 rfl (kM274 hT) (ltM hT (by omega)) (rM11 hT) ?_
    refine r_iconst (pc := 24) dX12_secret_24 (in32_of rfl) ?_
    refine r_ild (pc := 25) (1) dX12_secret_25 (kM283 hT) (ltM hT (by omega)) (by omega) (by rw [lM283 hT]; omega) ?_
    refine r_top (b := N 1) (sr_at _ _ _ _) ?_
    refine r_top (b := ((n : Nat) : Int)) (hn) ?_
    refine r_icmp_ge (pc := 26) (tgt := 59) dX12_secret_26 rfl (fun c26 => ?_) (fun c26 => ?_)
    · have hkz : z = k := by rw [← hz]; split <;> omega
      subst hkz
      refine Ev.weak (lv2 := [some (aR 274), some (aI b), none, none, none]) ⟨Or.inr rfl, Or.inr rfl, Or.inl rfl, Or.inl rfl, Or.inl rfl, trivial⟩ ?_
      clear hP ih
      refine r_aload_n (pc := 59) (i := 0) dX12_secret_59 rfl rfl ?_
      refine r_getfi (pc := 60) cks dX12_secret_60 fl_X12_275 rfl (kM274 hT) (ltM hT (by omega)) ?_
      refine r_top (b := (un H 23 (scD N n (rkD N n S Z Y) z).2.2.2) 23) ((congrFun (sr_ne (by decide)) _).trans (sr_at _ _ _ _)) ?_
      refine r_top (b := ((scD N n (rkD N n S Z Y) z).2.2.2)) (un_at) ?_
      refine r_istore_n (pc := 63) (i := 2) (lv' := [_, _, _, _, _]) dX12_secret_63 rfl (by decide) rfl ?_
      refine r_iconst (pc := 64) dX12_secret_64 (in32_of rfl) ?_
      refine r_istore_n (pc := 65) (i := 3) (lv' := [_, _, _, _, _]) dX12_secret_65 rfl (by decide) rfl ?_
      refine loop1 (fun (i : Nat) => i ≤ L) (fun (i : Nat) => L - i) (fun (i : Nat) => [some (aR 274), some (aI b), some (aI ((scD N n (rkD N n S Z Y) z).2.2.2)), some (aI ((i : Nat) : Int)), none]) (fun _ => T) (fun (i : Nat) => sr (sr (sr (sr (sr I 288 ((seD N n (scD N n (rkD N n S Z Y) z) i).1)) 289 ((seD N n (scD N n (rkD N n S Z Y) z) i).2.1)) 290 ((seD N n (scD N n (rkD N n S Z Y) z) i).2.2.1)) 274 (un H 23 (seD N n (scD N n (rkD N n S Z Y) z) i).2.2.2)) 283 N) ?_ 0 (Nat.zero_le _)
      intro i hP2 ih2
      have hP2 : i ≤ L := hP2
      refine (?_ : Ev G mX12_secret d 66 [some (aR 274), some (aI b), some (aI ((scD N n (rkD N n S Z Y) z).2.2.2)), some (aI ((i : Nat) : Int)), none] [] T (sr (sr (sr (sr (sr I 288 ((seD N n (scD N n (rkD N n S Z Y) z) i).1)) 289 ((seD N n (scD N n (rkD N n S Z Y) z) i).2.1)) 290 ((seD N n (scD N n (rkD N n S Z Y) z) i).2.2.1)) 274 (un H 23 (seD N n (scD N n (rkD N n S Z Y) z) i).2.2.2)) 283 N) Q)
      refine r_iload_n (pc := 66) (i := 3) dX12_secret_66 rfl rfl ?_
      refine r_aload_n (pc := 67) (i := 0) dX12_secret_67 rfl rfl ?_
      refine r_getfr (pc := 68) (b := 283) cks dX12_secret_68 fl_X12_37 rfl (kM274 hT) (ltM hT (by omega)) (rM11 hT) ?_
      refine r_bipush (pc := 71) dX12_secret_71 rfl (in32_of rfl) ?_
      refine r_ild (pc := 73) (6) dX12_secret_73 (kM283 hT) (ltM hT (by omega)) (by omega) (by rw [lM283 hT]; omega) ?_
      refine r_top (b := N 6) (sr_at _ _ _ _) ?_
      refine r_top (b := ((L : Nat) : Int)) (hL6) ?_
      refine r_icmp_ge (pc := 74) (tgt := 119) dX12_secret_74 rfl (fun c74 => ?_) (fun c74 => ?_)
      · refine r_aload_n (pc := 119) (i := 0) dX12_secret_119 rfl rfl ?_
        refine r_getfi (pc := 120) cks dX12_secret_120 fl_X12_275 rfl (kM274 hT) (ltM hT (by omega)) ?_
        refine r_top (b := (un H 23 (seD N n (scD N n (rkD N n S Z Y) z) i).2.2.2) 23) ((congrFun (sr_ne (by decide)) _).trans (sr_at _ _ _ _)) ?_
        refine r_top (b := ((seD N n (scD N n (rkD N n S Z Y) z) i).2.2.2)) (un_at) ?_
        refine r_iload_n (pc := 123) (i := 2) dX12_secret_123 rfl rfl ?_
        refine r_isubN (pc := 124) (c := (w32 (((seD N n (scD N n (rkD N n S Z Y) z) i).2.2.2) - ((scD N n (rkD N n S Z Y) z).2.2.2)))) dX12_secret_124 rfl ?_
        exact r_iret (pc := 125) dX12_secret_125 trivial (by rw [show scA N n L (rkD N n S Z Y) b = (w32 (((seD N n (scD N n (rkD N n S Z Y) z) i).2.2.2) - ((scD N n (rkD N n S Z Y) z).2.2.2))) from (if_pos c7).trans (by rw [hz, show L = i by omega])] at hq; exact hq _ _ _ _ kp23_un)
      · refine r_iconst (pc := 77) dX12_secret_77 (in32_of rfl) ?_
        refine r_istore (pc := 78) (i := 4) (lv' := [_, _, _, _, _]) dX12_secret_78 (by decide) rfl ?_
        refine r_mem (I2 := sr (sr (sr (sr (sr I 288 (z8 (seD N n (scD N n (rkD N n S Z Y) z) i).1 0)) 289 ((seD N n (scD N n (rkD N n S Z Y) z) i).2.1)) 290 ((seD N n (scD N n (rkD N n S Z Y) z) i).2.2.1)) 274 (un H 23 (seD N n (scD N n (rkD N n S Z Y) z) i).2.2.2)) 283 N) (by rw [z8_0]) ?_
        refine loop1 (fun (x : Nat) => x ≤ 8) (fun (x : Nat) => 8 - x) (fun (x : Nat) => [some (aR 274), some (aI b), some (aI ((scD N n (rkD N n S Z Y) z).2.2.2)), some (aI ((i : Nat) : Int)), some (aI ((x : Nat) : Int))]) (fun _ => T) (fun (x : Nat) => sr (sr (sr (sr (sr I 288 (z8 (seD N n (scD N n (rkD N n S Z Y) z) i).1 x)) 289 ((seD N n (scD N n (rkD N n S Z Y) z) i).2.1)) 290 ((seD N n (scD N n (rkD N n S Z Y) z) i).2.2.1)) 274 (un H 23 (seD N n (scD N n (rkD N n S Z Y) z) i).2.2.2)) 283 N) ?_ 0 (Nat.zero_le _)
        intro x hP3 ih3
        have hP3 : x ≤ 8 := hP3
        refine (?_ : Ev G mX12_secret d 80 [some (aR 274), some (aI b), some (aI ((scD N n (rkD N n S Z Y) z).2.2.2)), some (aI ((i : Nat) : Int)), some (aI ((x : Nat) : Int))] [] T (sr (sr (sr (sr (sr I 288 (z8 (seD N n (scD N n (rkD N n S Z Y) z) i).1 x)) 289 ((seD N n (scD N n (rkD N n S Z Y) z) i).2.1)) 290 ((seD N n (scD N n (rkD N n S Z Y) z) i).2.2.1)) 274 (un H 23 (seD N n (scD N n (rkD N n S Z Y) z) i).2.2.2)) 283 N) Q)
        refine r_iload (pc := 80) (i := 4) dX12_secret_80 rfl ?_
        refine r_bipush (pc := 82) dX12_secret_82 rfl (in32_of rfl) ?_
        refine r_icmp_ge (pc := 84) (tgt := 101) dX12_secret_84 rfl (fun c84 => ?_) (fun c84 => ?_)
        · have hx8 : x = 8 := by omega
          subst hx8
          refine r_aload_n (pc := 101) (i := 0) dX12_secret_101 rfl rfl ?_
          refine r_sipush (pc := 102) dX12_secret_102 rfl (in32_of rfl) ?_
          refine r_iload_n (pc := 105) (i := 3) dX12_secret_105 rfl rfl ?_
          refine r_callV0 (pc := 106) (d - 1) [aI 2870, aI ((i : Nat) : Int)] dX12_secret_106 (CV.mk2 mk_X12_laysRowSet lk_X12_257) (RC.of (ltM hT (by omega)) (kM274 hT) (by decide) rfl) rfl rfl (by omega) (Nat.le_of_ble_eq_true rfl) (Nat.le_of_ble_eq_true rfl) (c_laysRowSet (n := n) (r := 2870) (i := i) hT (by omega) hn hn2 (by omega) ?_)
          refine ⟨rfl, fun _ => ?_⟩
          refine r_aload_n (pc := 109) (i := 0) dX12_secret_109 rfl rfl ?_
          refine r_callV0 (pc := 110) (d - 1) [] dX12_secret_110 (CV.mk2 mk_X12_takesSet lk_X12_281) (RC.of (ltM hT (by omega)) (kM274 hT) (by decide) rfl) rfl rfl (by omega) (Nat.le_of_ble_eq_true rfl) (Nat.le_of_ble_eq_true rfl) (c_tk (d := d - 1) (n := n) (D := (lrS N 2870 i (z8 (seD N n (scD N n (rkD N n S Z Y) z) i).1 8) n, (seD N n (scD N n (rkD N n S Z Y) z) i).2)) hT (by omega) hn hn2 ?_)
          refine ⟨rfl, fun _ => ?_⟩
          refine r_iincN (pc := 113) (i := 3) (c := ((i + 1 : Nat) : Int)) (lv' := [_, _, _, _, _]) dX12_secret_113 rfl (by decide) (by unfold w32; omega) rfl ?_
          refine r_goto (pc := 116) (tgt := 66) dX12_secret_116 rfl ?_
          refine Ev.weak (lv2 := [some (aR 274), some (aI b), some (aI ((scD N n (rkD N n S Z Y) z).2.2.2)), some (aI ((i + 1 : Nat) : Int)), none]) ⟨Or.inr rfl, Or.inr rfl, Or.inr rfl, Or.inr rfl, Or.inl rfl, trivial⟩ ?_
          exact Ev.re rfl (by rw [seD_succ]) (ih2 (i + 1) (by omega) (by omega))
        · refine r_aload_n (pc := 87) (i := 0) dX12_secret_87 rfl rfl ?_
          refine r_getfr (pc := 88) (b := 288) cks dX12_secret_88 fl_X12_58 rfl (kM274 hT) (ltM hT (by omega)) (rM20 hT) ?_
          refine r_iload (pc := 91) (i := 4) dX12_secret_91 rfl ?_
          refine r_iconst (pc := 93) dX12_secret_93 (in32_of rfl) ?_
          refine r_ist (pc := 94) (x) dX12_secret_94 (kM288 hT) (ltM hT (by omega)) rfl (by rw [lM288 hT]; omega) ?_
          refine r_mem (I2 := sr (sr (sr (sr (sr I 288 (un (z8 (seD N n (scD N n (rkD N n S Z Y) z) i).1 x) x 0)) 289 ((seD N n (scD N n (rkD N n S Z Y) z) i).2.1)) 290 ((seD N n (scD N n (rkD N n S Z Y) z) i).2.2.1)) 274 (un H 23 (seD N n (scD N n (rkD N n S Z Y) z) i).2.2.2)) 283 N) (by rw [up2_sr_ne (by decide), up2_sr_ne (by decide), up2_sr_ne (by decide), up2_sr_ne (by decide), up2_sr]) ?_
          refine r_iincN (pc := 95) (i := 4) (c := ((x + 1 : Nat) : Int)) (lv' := [_, _, _, _, _]) dX12_secret_95 rfl (by decide) (by unfold w32; omega) rfl ?_
          refine r_goto (pc := 98) (tgt := 80) dX12_secret_98 rfl ?_
          exact Ev.re rfl (by rw [z8_succ]) (ih3 (x + 1) (by omega) (by omega))
    · refine r_iload_n (pc := 29) (i := 1) dX12_secret_29 rfl rfl ?_
      refine r_if_eq (pc := 30) (tgt := 59) dX12_secret_30 rfl (fun c30 => ?_) (fun c30 => ?_)
      · have hkz : z = k := by rw [← hz]; split <;> omega
        subst hkz
        refine Ev.weak (lv2 := [some (aR 274), some (aI b), none, none, none]) ⟨Or.inr rfl, Or.inr rfl, Or.inl rfl, Or.inl rfl, Or.inl rfl, trivial⟩ ?_
        clear hP ih
        refine r_aload_n (pc := 59) (i := 0) dX12_secret_59 rfl rfl ?_
        refine r_getfi (pc := 60) cks dX12_secret_60 fl_X12_275 rfl (kM274 hT) (ltM hT (by omega)) ?_
        refine r_top (b := (un H 23 (scD N n (rkD N n S Z Y) z).2.2.2) 23) ((congrFun (sr_ne (by decide)) _).trans (sr_at _ _ _ _)) ?_
        refine r_top (b := ((scD N n (rkD N n S Z Y) z).2.2.2)) (un_at) ?_
        refine r_istore_n (pc := 63) (i := 2) (lv' := [_, _, _, _, _]) dX12_secret_63 rfl (by decide) rfl ?_
        refine r_iconst (pc := 64) dX12_secret_64 (in32_of rfl) ?_
        refine r_istore_n (pc := 65) (i := 3) (lv' := [_, _, _, _, _]) dX12_secret_65 rfl (by decide) rfl ?_
        refine loop1 (fun (i : Nat) => i ≤ L) (fun (i : Nat) => L - i) (fun (i : Nat) => [some (aR 274), some (aI b), some (aI ((scD N n (rkD N n S Z Y) z).2.2.2)), some (aI ((i : Nat) : Int)), none]) (fun _ => T) (fun (i : Nat) => sr (sr (sr (sr (sr I 288 ((seD N n (scD N n (rkD N n S Z Y) z) i).1)) 289 ((seD N n (scD N n (rkD N n S Z Y) z) i).2.1)) 290 ((seD N n (scD N n (rkD N n S Z Y) z) i).2.2.1)) 274 (un H 23 (seD N n (scD N n (rkD N n S Z Y) z) i).2.2.2)) 283 N) ?_ 0 (Nat.zero_le _)
        intro i hP2 ih2
        have hP2 : i ≤ L := hP2
        refine (?_ : Ev G mX12_secret d 66 [some (aR 274), some (aI b), some (aI ((scD N n (rkD N n S Z Y) z).2.2.2)), some (aI ((i : Nat) : Int)), none] [] T (sr (sr (sr (sr (sr I 288 ((seD N n (scD N n (rkD N n S Z Y) z) i).1)) 289 ((seD N n (scD N n (rkD N n S Z Y) z) i).2.1)) 290 ((seD N n (scD N n (rkD N n S Z Y) z) i).2.2.1)) 274 (un H 23 (seD N n (scD N n (rkD N n S Z Y) z) i).2.2.2)) 283 N) Q)
        refine r_iload_n (pc := 66) (i := 3) dX12_secret_66 rfl rfl ?_
        refine r_aload_n (pc := 67) (i := 0) dX12_secret_67 rfl rfl ?_
        refine r_getfr (pc := 68) (b := 283) cks dX12_secret_68 fl_X12_37 rfl (kM274 hT) (ltM hT (by omega)) (rM11 hT) ?_
        refine r_bipush (pc := 71) dX12_secret_71 rfl (in32_of rfl) ?_
        refine r_ild (pc := 73) (6) dX12_secret_73 (kM283 hT) (ltM hT (by omega)) (by omega) (by rw [lM283 hT]; omega) ?_
        refine r_top (b := N 6) (sr_at _ _ _ _) ?_
        refine r_top (b := ((L : Nat) : Int)) (hL6) ?_
        refine r_icmp_ge (pc := 74) (tgt := 119) dX12_secret_74 rfl (fun c74 => ?_) (fun c74 => ?_)
        · refine r_aload_n (pc := 119) (i := 0) dX12_secret_119 rfl rfl ?_
          refine r_getfi (pc := 120) cks dX12_secret_120 fl_X12_275 rfl (kM274 hT) (ltM hT (by omega)) ?_
          refine r_top (b := (un H 23 (seD N n (scD N n (rkD N n S Z Y) z) i).2.2.2) 23) ((congrFun (sr_ne (by decide)) _).trans (sr_at _ _ _ _)) ?_
          refine r_top (b := ((seD N n (scD N n (rkD N n S Z Y) z) i).2.2.2)) (un_at) ?_
          refine r_iload_n (pc := 123) (i := 2) dX12_secret_123 rfl rfl ?_
          refine r_isubN (pc := 124) (c := (w32 (((seD N n (scD N n (rkD N n S Z Y) z) i).2.2.2) - ((scD N n (rkD N n S Z Y) z).2.2.2)))) dX12_secret_124 rfl ?_
          exact r_iret (pc := 125) dX12_secret_125 trivial (by rw [show scA N n L (rkD N n S Z Y) b = (w32 (((seD N n (scD N n (rkD N n S Z Y) z) i).2.2.2) - ((scD N n (rkD N n S Z Y) z).2.2.2))) from (if_pos c7).trans (by rw [hz, show L = i by omega])] at hq; exact hq _ _ _ _ kp23_un)
        · refine r_iconst (pc := 77) dX12_secret_77 (in32_of rfl) ?_
          refine r_istore (pc := 78) (i := 4) (lv' := [_, _, _, _, _]) dX12_secret_78 (by decide) rfl ?_
          refine r_mem (I2 := sr (sr (sr (sr (sr I 288 (z8 (seD N n (scD N n (rkD N n S Z Y) z) i).1 0)) 289 ((seD N n (scD N n (rkD N n S Z Y) z) i).2.1)) 290 ((seD N n (scD N n (rkD N n S Z Y) z) i).2.2.1)) 274 (un H 23 (seD N n (scD N n (rkD N n S Z Y) z) i).2.2.2)) 283 N) (by rw [z8_0]) ?_
          refine loop1 (fun (x : Nat) => x ≤ 8) (fun (x : Nat) => 8 - x) (fun (x : Nat) => [some (aR 274), some (aI b), some (aI ((scD N n (rkD N n S Z Y) z).2.2.2)), some (aI ((i : Nat) : Int)), some (aI ((x : Nat) : Int))]) (fun _ => T) (fun (x : Nat) => sr (sr (sr (sr (sr I 288 (z8 (seD N n (scD N n (rkD N n S Z Y) z) i).1 x)) 289 ((seD N n (scD N n (rkD N n S Z Y) z) i).2.1)) 290 ((seD N n (scD N n (rkD N n S Z Y) z) i).2.2.1)) 274 (un H 23 (seD N n (scD N n (rkD N n S Z Y) z) i).2.2.2)) 283 N) ?_ 0 (Nat.zero_le _)
          intro x hP3 ih3
          have hP3 : x ≤ 8 := hP3
          refine (?_ : Ev G mX12_secret d 80 [some (aR 274), some (aI b), some (aI ((scD N n (rkD N n S Z Y) z).2.2.2)), some (aI ((i : Nat) : Int)), some (aI ((x : Nat) : Int))] [] T (sr (sr (sr (sr (sr I 288 (z8 (seD N n (scD N n (rkD N n S Z Y) z) i).1 x)) 289 ((seD N n (scD N n (rkD N n S Z Y) z) i).2.1)) 290 ((seD N n (scD N n (rkD N n S Z Y) z) i).2.2.1)) 274 (un H 23 (seD N n (scD N n (rkD N n S Z Y) z) i).2.2.2)) 283 N) Q)
          refine r_iload (pc := 80) (i := 4) dX12_secret_80 rfl ?_
          refine r_bipush (pc := 82) dX12_secret_82 rfl (in32_of rfl) ?_
          refine r_icmp_ge (pc := 84) (tgt := 101) dX12_secret_84 rfl (fun c84 => ?_) (fun c84 => ?_)
          · have hx8 : x = 8 := by omega
            subst hx8
            refine r_aload_n (pc := 101) (i := 0) dX12_secret_101 rfl rfl ?_
            refine r_sipush (pc := 102) dX12_secret_102 rfl (in32_of rfl) ?_
            refine r_iload_n (pc := 105) (i := 3) dX12_secret_105 rfl rfl ?_
            refine r_callV0 (pc := 106) (d - 1) [aI 2870, aI ((i : Nat) : Int)] dX12_secret_106 (CV.mk2 mk_X12_laysRowSet lk_X12_257) (RC.of (ltM hT (by omega)) (kM274 hT) (by decide) rfl) rfl rfl (by omega) (Nat.le_of_ble_eq_true rfl) (Nat.le_of_ble_eq_true rfl) (c_laysRowSet (n := n) (r := 2870) (i := i) hT (by omega) hn hn2 (by omega) ?_)
            refine ⟨rfl, fun _ => ?_⟩
            refine r_aload_n (pc := 109) (i := 0) dX12_secret_109 rfl rfl ?_
            refine r_callV0 (pc := 110) (d - 1) [] dX12_secret_110 (CV.mk2 mk_X12_takesSet lk_X12_281) (RC.of (ltM hT (by omega)) (kM274 hT) (by decide) rfl) rfl rfl (by omega) (Nat.le_of_ble_eq_true rfl) (Nat.le_of_ble_eq_true rfl) (c_tk (d := d - 1) (n := n) (D := (lrS N 2870 i (z8 (seD N n (scD N n (rkD N n S Z Y) z) i).1 8) n, (seD N n (scD N n (rkD N n S Z Y) z) i).2)) hT (by omega) hn hn2 ?_)
            refine ⟨rfl, fun _ => ?_⟩
            refine r_iincN (pc := 113) (i := 3) (c := ((i + 1 : Nat) : Int)) (lv' := [_, _, _, _, _]) dX12_secret_113 rfl (by decide) (by unfold w32; omega) rfl ?_
            refine r_goto (pc := 116) (tgt := 66) dX12_secret_116 rfl ?_
            refine Ev.weak (lv2 := [some (aR 274), some (aI b), some (aI ((scD N n (rkD N n S Z Y) z).2.2.2)), some (aI ((i + 1 : Nat) : Int)), none]) ⟨Or.inr rfl, Or.inr rfl, Or.inr rfl, Or.inr rfl, Or.inl rfl, trivial⟩ ?_
            exact Ev.re rfl (by rw [seD_succ]) (ih2 (i + 1) (by omega) (by omega))
          · refine r_aload_n (pc := 87) (i := 0) dX12_secret_87 rfl rfl ?_
            refine r_getfr (pc := 88) (b := 288) cks dX12_secret_88 fl_X12_58 rfl (kM274 hT) (ltM hT (by omega)) (rM20 hT) ?_
            refine r_iload (pc := 91) (i := 4) dX12_secret_91 rfl ?_
            refine r_iconst (pc := 93) dX12_secret_93 (in32_of rfl) ?_
            refine r_ist (pc := 94) (x) dX12_secret_94 (kM288 hT) (ltM hT (by omega)) rfl (by rw [lM288 hT]; omega) ?_
            refine r_mem (I2 := sr (sr (sr (sr (sr I 288 (un (z8 (seD N n (scD N n (rkD N n S Z Y) z) i).1 x) x 0)) 289 ((seD N n (scD N n (rkD N n S Z Y) z) i).2.1)) 290 ((seD N n (scD N n (rkD N n S Z Y) z) i).2.2.1)) 274 (un H 23 (seD N n (scD N n (rkD N n S Z Y) z) i).2.2.2)) 283 N) (by rw [up2_sr_ne (by decide), up2_sr_ne (by decide), up2_sr_ne (by decide), up2_sr_ne (by decide), up2_sr]) ?_
            refine r_iincN (pc := 95) (i := 4) (c := ((x + 1 : Nat) : Int)) (lv' := [_, _, _, _, _]) dX12_secret_95 rfl (by decide) (by unfold w32; omega) rfl ?_
            refine r_goto (pc := 98) (tgt := 80) dX12_secret_98 rfl ?_
            exact Ev.re rfl (by rw [z8_succ]) (ih3 (x + 1) (by omega) (by omega))
      · refine r_aload_n (pc := 33) (i := 0) dX12_secret_33 rfl rfl ?_
        refine r_iload_n (pc := 34) (i := 2) dX12_secret_34 rfl rfl ?_
        refine r_callV1 (pc := 35) (d - 1) [aI ((k : Nat) : Int)] dX12_secret_35 (CV.mk2 mk_X12_isSpied lk_X12_298) (RC.of (ltM hT (by omega)) (kM274 hT) (by decide) rfl) rfl rfl (by omega) (Nat.le_of_ble_eq_true rfl) (Nat.le_of_ble_eq_true rfl) (c_isSpied (p := (k : Int)) hT (by omega) (Rng_F hR) (by omega) (by omega) ?_)
        refine ⟨_, rfl, fun _ => ?_⟩
        refine r_if_ne (pc := 38) (tgt := 44) dX12_secret_38 rfl (fun c38 => ?_) (fun c38 => ?_)
        · refine r_aload_n (pc := 44) (i := 0) dX12_secret_44 rfl rfl ?_
          refine r_iload_n (pc := 45) (i := 2) dX12_secret_45 rfl rfl ?_
          refine r_callV0 (pc := 46) (d - 1) [aI ((k : Nat) : Int)] dX12_secret_46 (CV.mk2 mk_X12_laysOne lk_X12_290) (RC.of (ltM hT (by omega)) (kM274 hT) (by decide) rfl) rfl rfl (by omega) (Nat.le_of_ble_eq_true rfl) (Nat.le_of_ble_eq_true rfl) (c_laysOne (p := k) hT (by omega) (by omega) ?_)
          refine ⟨rfl, fun _ => ?_⟩
          refine r_aload_n (pc := 49) (i := 0) dX12_secret_49 rfl rfl ?_
          refine r_callV0 (pc := 50) (d - 1) [] dX12_secret_50 (CV.mk2 mk_X12_takesSet lk_X12_281) (RC.of (ltM hT (by omega)) (kM274 hT) (by decide) rfl) rfl rfl (by omega) (Nat.le_of_ble_eq_true rfl) (Nat.le_of_ble_eq_true rfl) (c_tk (n := n) (D := (adS (z8 (scD N n (rkD N n S Z Y) k).1 8) k, (scD N n (rkD N n S Z Y) k).2)) hT (by omega) hn hn2 ?_)
          refine ⟨rfl, fun _ => ?_⟩
          refine r_iincN (pc := 53) (i := 2) (c := ((k + 1 : Nat) : Int)) (lv' := [_, _, _, _, _]) dX12_secret_53 rfl (by decide) (by unfold w32; omega) rfl ?_
          refine r_goto (pc := 56) (tgt := 19) dX12_secret_56 rfl ?_
          exact Ev.re rfl (by rw [scD_succ, if_neg c38]) (ih (k + 1) ⟨by omega, fun h => absurd h c30⟩ (by omega))
        · have c38 := Decidable.of_not_not c38
          refine r_goto (pc := 41) (tgt := 53) dX12_secret_41 rfl ?_
          refine r_iincN (pc := 53) (i := 2) (c := ((k + 1 : Nat) : Int)) (lv' := [_, _, _, _, _]) dX12_secret_53 rfl (by decide) (by unfold w32; omega) rfl ?_
          refine r_goto (pc := 56) (tgt := 19) dX12_secret_56 rfl ?_
          exact Ev.re rfl (by rw [scD_succ, if_pos c38]) (ih (k + 1) ⟨by omega, fun h => absurd h c30⟩ (by omega))
  · refine r_iconst (pc := 10) dX12_secret_10 (in32_of rfl) ?_
    exact r_iret (pc := 11) dX12_secret_11 trivial (by rw [show scA N n L (rkD N n S Z Y) b = -1 from if_neg c7] at hq; exact hq S Z Y H kp23_id)
end M37

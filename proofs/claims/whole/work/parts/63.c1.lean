section C1
variable {G : Gl} {d : Nat} {T : Sh} {I : Mi} {N : Nat → Int} {Q : Option AV → Sh → Mi → Prop}
theorem k_has {n : Nat} {q : Int} {s p o t c : Nat} (hS : ShS T s p o t c) (hn : I (s + 3) 0 = (n : Int)) (hn2 : n ≤ 256) (hq : Q (some (aI (bi (0 ≤ q ∧ q < (n : Int))))) T I) : EvE G mX3_has d [aR (s + 3), aI q] T I Q := by
  refine EvE.mk (lv0 := [some (aR (s + 3)), some (aI q)]) (Nat.le_of_ble_eq_true rfl) (by decide +kernel) rfl ?_
  refine r_iload_n (pc := 0) (i := 1) dX3_has_0 rfl rfl ?_
  refine r_if_lt (pc := 1) (tgt := 16) dX3_has_1 rfl (fun c1 => ?_) (fun c1 => ?_)
  · refine r_iconst (pc := 16) dX3_has_16 (in32_of rfl) ?_
    exact r_iret (pc := 17) dX3_has_17 (Or.inl rfl) (by rw [show bi (0 ≤ q ∧ q < (n : Int)) = 0 from bi_f (by omega)] at hq; exact hq)
  · refine r_iload_n (pc := 4) (i := 1) dX3_has_4 rfl rfl ?_
    refine r_aload_n (pc := 5) (i := 0) dX3_has_5 rfl rfl ?_
    refine r_getfi (pc := 6) cks dX3_has_6 fl_X3_9 rfl (kS3 hS) (ltS (k := 3) hS (by omega)) ?_
    refine r_top (b := (n : Int)) (hn) ?_
    refine r_icmp_ge (pc := 9) (tgt := 16) dX3_has_9 rfl (fun c9 => ?_) (fun c9 => ?_)
    · refine r_iconst (pc := 16) dX3_has_16 (in32_of rfl) ?_
      exact r_iret (pc := 17) dX3_has_17 (Or.inl rfl) (by rw [show bi (0 ≤ q ∧ q < (n : Int)) = 0 from bi_f (by omega)] at hq; exact hq)
    · refine r_iconst (pc := 12) dX3_has_12 (in32_of rfl) ?_
      refine r_goto (pc := 13) (tgt := 17) dX3_has_13 rfl ?_
      exact r_iret (pc := 17) dX3_has_17 (Or.inr rfl) (by rw [show bi (0 ≤ q ∧ q < (n : Int)) = 1 from bi_t (by omega)] at hq; exact hq)
def kuA (I : Mi) (s n : Nat) (q : Int) : Int := bi ((0 ≤ q ∧ q < (n : Int)) ∧ ¬ I (s + 4) q.toNat = I (s + 5) q.toNat)
theorem k_isUnlike {n : Nat} {q : Int} {s p o t c : Nat} (hS : ShS T s p o t c) (hd : 1 ≤ d) (hn : I (s + 3) 0 = (n : Int)) (hn2 : n ≤ 256) (hq : Q (some (aI (kuA I s n q))) T I) : EvE G mX3_isUnlike d [aR (s + 3), aI q] T I Q := by
  refine EvE.mk (lv0 := [some (aR (s + 3)), some (aI q)]) (Nat.le_of_ble_eq_true rfl) (by decide +kernel) rfl ?_
  refine r_aload_n (pc := 0) (i := 0) dX3_isUnlike_0 rfl rfl ?_
  refine r_iload_n (pc := 1) (i := 1) dX3_isUnlike_1 rfl rfl ?_
  refine r_callV1 (pc := 2) (d - 1) [aI q] dX3_isUnlike_2 (CV.mk2 mk_X3_has lk_X3_31) (RC.of (ltS (k := 3) hS (by omega)) (kS3 hS) (by decide) rfl) rfl rfl (by omega) (Nat.le_of_ble_eq_true rfl) (Nat.le_of_ble_eq_true rfl) (k_has (n := n) hS hn hn2 ?_)
  refine ⟨_, rfl, fun _ => ?_⟩
  refine r_if_eq (pc := 5) (tgt := 27) dX3_isUnlike_5 rfl (fun c5 => ?_) (fun c5 => ?_)
  · have c5 := bi_if.mp c5
    refine r_iconst (pc := 27) dX3_isUnlike_27 (in32_of rfl) ?_
    exact r_iret (pc := 28) dX3_isUnlike_28 (Or.inl rfl) (by rw [show kuA I s n q = 0 from bi_f (fun h => c5 h.1)] at hq; exact hq)
  · have c5 := bi_1 c5
    obtain ⟨k, rfl⟩ : ∃ e : Nat, q = (e : Int) := ⟨q.toNat, by omega⟩
    refine r_aload_n (pc := 8) (i := 0) dX3_isUnlike_8 rfl rfl ?_
    refine r_getfr (pc := 9) (b := s + 4) cks dX3_isUnlike_9 fl_X3_15 rfl (kS3 hS) (ltS (k := 3) hS (by omega)) (rS3_1 hS) ?_
    refine r_iload_n (pc := 12) (i := 1) dX3_isUnlike_12 rfl rfl ?_
    refine r_ild (pc := 13) (k) dX3_isUnlike_13 (kS4 hS) (ltS (k := 4) hS (by omega)) rfl (by rw [lS4 hS]; omega) ?_
    refine r_aload_n (pc := 14) (i := 0) dX3_isUnlike_14 rfl rfl ?_
    refine r_getfr (pc := 15) (b := s + 5) cks dX3_isUnlike_15 fl_X3_19 rfl (kS3 hS) (ltS (k := 3) hS (by omega)) (rS3_2 hS) ?_
    refine r_iload_n (pc := 18) (i := 1) dX3_isUnlike_18 rfl rfl ?_
    refine r_ild (pc := 19) (k) dX3_isUnlike_19 (kS5 hS) (ltS (k := 5) hS (by omega)) rfl (by rw [lS5 hS]; omega) ?_
    refine r_icmp_eq (pc := 20) (tgt := 27) dX3_isUnlike_20 rfl (fun c20 => ?_) (fun c20 => ?_)
    · refine r_iconst (pc := 27) dX3_isUnlike_27 (in32_of rfl) ?_
      exact r_iret (pc := 28) dX3_isUnlike_28 (Or.inl rfl) (by rw [show kuA I s n (k : Int) = 0 from bi_f (fun h => h.2 (by rw [Int.toNat_natCast]; exact c20))] at hq; exact hq)
    · refine r_iconst (pc := 23) dX3_isUnlike_23 (in32_of rfl) ?_
      refine r_goto (pc := 24) (tgt := 28) dX3_isUnlike_24 rfl ?_
      exact r_iret (pc := 28) dX3_isUnlike_28 (Or.inr rfl) (by rw [show kuA I s n (k : Int) = 1 from bi_t ⟨by omega, by rw [Int.toNat_natCast]; exact c20⟩] at hq; exact hq)
theorem k_turn {n : Nat} {q : Int} {s p o t c : Nat} (hS : ShS T s p o t c) (hd : 1 ≤ d) (hn : I (s + 3) 0 = (n : Int)) (hn2 : n ≤ 256) (hq0 : ¬ (0 ≤ q ∧ q < (n : Int)) → Q none T I) (hq1 : ∀ k : Nat, q = (k : Int) → k < n → Q none T (sr I (s + 5) (un (I (s + 5)) k (ixo (I (s + 5) k) 1)))) : EvE G mX3_turn d [aR (s + 3), aI q] T I Q := by
  have hne := neS hS
  refine EvE.mk (lv0 := [some (aR (s + 3)), some (aI q)]) (Nat.le_of_ble_eq_true rfl) (by decide +kernel) rfl ?_
  refine r_aload_n (pc := 0) (i := 0) dX3_turn_0 rfl rfl ?_
  refine r_iload_n (pc := 1) (i := 1) dX3_turn_1 rfl rfl ?_
  refine r_callV1 (pc := 2) (d - 1) [aI q] dX3_turn_2 (CV.mk2 mk_X3_has lk_X3_31) (RC.of (ltS (k := 3) hS (by omega)) (kS3 hS) (by decide) rfl) rfl rfl (by omega) (Nat.le_of_ble_eq_true rfl) (Nat.le_of_ble_eq_true rfl) (k_has (n := n) hS hn hn2 ?_)
  refine ⟨_, rfl, fun _ => ?_⟩
  refine r_if_eq (pc := 5) (tgt := 18) dX3_turn_5 rfl (fun c5 => ?_) (fun c5 => ?_)
  · have c5 := bi_if.mp c5
    exact r_vret (pc := 18) dX3_turn_18 trivial (hq0 c5)
  · have c5 := bi_1 c5
    obtain ⟨k, rfl⟩ : ∃ e : Nat, q = (e : Int) := ⟨q.toNat, by omega⟩
    refine r_aload_n (pc := 8) (i := 0) dX3_turn_8 rfl rfl ?_
    refine r_getfr (pc := 9) (b := s + 5) cks dX3_turn_9 fl_X3_19 rfl (kS3 hS) (ltS (k := 3) hS (by omega)) (rS3_2 hS) ?_
    refine r_iload_n (pc := 12) (i := 1) dX3_turn_12 rfl rfl ?_
    refine r_dup2 (pc := 13) dX3_turn_13 rfl rfl ?_
    refine r_ild (pc := 14) (k) dX3_turn_14 (kS5 hS) (ltS (k := 5) hS (by omega)) rfl (by rw [lS5 hS]; omega) ?_
    refine r_iconst (pc := 15) dX3_turn_15 (in32_of rfl) ?_
    refine r_ixor (pc := 16) dX3_turn_16 ?_
    refine r_ist (pc := 17) (k) dX3_turn_17 (kS5 hS) (ltS (k := 5) hS (by omega)) rfl (by rw [lS5 hS]; omega) ?_
    refine r_mem (I2 := sr I (s + 5) (un (I (s + 5)) k (ixo (I (s + 5) k) 1))) ((up2_row _ _ _ _).trans ((congrArg (fun fz_ => sr I (s + 5) (un fz_ k (ixo (I (s + 5) k) 1))) (show I (s + 5) = I (s + 5) from rfl)).trans (rfl))) ?_
    exact r_vret (pc := 18) dX3_turn_18 trivial (hq1 k rfl (by omega))
def kuS (I : Mi) (s : Nat) : Nat → Int
  | 0 => 0
  | k + 1 => w32 (kuS I s k + ixo (I (s + 4) k) (I (s + 5) k))
theorem kuS_succ (I : Mi) (s k : Nat) : kuS I s (k + 1) = w32 (kuS I s k + ixo (I (s + 4) k) (I (s + 5) k)) := rfl
def knS (I : Mi) (s : Nat) : Nat → Int
  | 0 => 0
  | k + 1 => w32 (knS I s k + I (s + 6) k)
theorem knS_succ (I : Mi) (s k : Nat) : knS I s (k + 1) = w32 (knS I s k + I (s + 6) k) := rfl
theorem k_unlike {n : Nat} {s p o t c : Nat} (hS : ShS T s p o t c) (hn : I (s + 3) 0 = (n : Int)) (hn2 : n ≤ 256) (hq : Q (some (aI (kuS I s n))) T I) : EvE G mX3_unlike d [aR (s + 3)] T I Q := by
  refine EvE.mk (lv0 := [some (aR (s + 3)), none, none]) (Nat.le_of_ble_eq_true rfl) (by decide +kernel) rfl ?_
  refine r_iconst (pc := 0) dX3_unlike_0 (in32_of rfl) ?_
  refine r_istore_n (pc := 1) (i := 1) (lv' := [_, _, _]) dX3_unlike_1 rfl (by decide) rfl ?_
  refine r_iconst (pc := 2) dX3_unlike_2 (in32_of rfl) ?_
  refine r_istore_n (pc := 3) (i := 2) (lv' := [_, _, _]) dX3_unlike_3 rfl (by decide) rfl ?_
  refine loop1 (fun (k : Nat) => k ≤ n) (fun (k : Nat) => n - k) (fun (k : Nat) => [some (aR (s + 3)), some (aI (kuS I s k)), some (aI ((k : Nat) : Int))]) (fun _ => T) (fun (k : Nat) => I) ?_ 0 (Nat.zero_le _)
  intro k hP ih
  have hP : k ≤ n := hP
  refine (?_ : Ev G mX3_unlike d 4 [some (aR (s + 3)), some (aI (kuS I s k)), some (aI ((k : Nat) : Int))] [] T I Q)
  refine r_iload_n (pc := 4) (i := 2) dX3_unlike_4 rfl rfl ?_
  refine r_aload_n (pc := 5) (i := 0) dX3_unlike_5 rfl rfl ?_
  refine r_getfi (pc := 6) cks dX3_unlike_6 fl_X3_9 rfl (kS3 hS) (ltS (k := 3) hS (by omega)) ?_
  refine r_top (b := (n : Int)) (hn) ?_
  refine r_icmp_ge (pc := 9) (tgt := 34) dX3_unlike_9 rfl (fun c9 => ?_) (fun c9 => ?_)
  · refine r_iload_n (pc := 34) (i := 1) dX3_unlike_34 rfl rfl ?_
    exact r_iret (pc := 35) dX3_unlike_35 trivial (by rw [show n = k by omega] at hq; exact hq)
  · refine r_iload_n (pc := 12) (i := 1) dX3_unlike_12 rfl rfl ?_
    refine r_aload_n (pc := 13) (i := 0) dX3_unlike_13 rfl rfl ?_
    refine r_getfr (pc := 14) (b := s + 4) cks dX3_unlike_14 fl_X3_15 rfl (kS3 hS) (ltS (k := 3) hS (by omega)) (rS3_1 hS) ?_
    refine r_iload_n (pc := 17) (i := 2) dX3_unlike_17 rfl rfl ?_
    refine r_ild (pc := 18) (k) dX3_unlike_18 (kS4 hS) (ltS (k := 4) hS (by omega)) rfl (by rw [lS4 hS]; omega) ?_
    refine r_aload_n (pc := 19) (i := 0) dX3_unlike_19 rfl rfl ?_
    refine r_getfr (pc := 20) (b := s + 5) cks dX3_unlike_20 fl_X3_19 rfl (kS3 hS) (ltS (k := 3) hS (by omega)) (rS3_2 hS) ?_
    refine r_iload_n (pc := 23) (i := 2) dX3_unlike_23 rfl rfl ?_
    refine r_ild (pc := 24) (k) dX3_unlike_24 (kS5 hS) (ltS (k := 5) hS (by omega)) rfl (by rw [lS5 hS]; omega) ?_
    refine r_ixor (pc := 25) dX3_unlike_25 ?_
    refine r_iaddN (pc := 26) (c := (kuS I s (k + 1))) dX3_unlike_26 rfl ?_
    refine r_istore_n (pc := 27) (i := 1) (lv' := [_, _, _]) dX3_unlike_27 rfl (by decide) rfl ?_
    refine r_iincN (pc := 28) (i := 2) (c := ((k + 1 : Nat) : Int)) (lv' := [_, _, _]) dX3_unlike_28 rfl (by decide) (by unfold w32; omega) rfl ?_
    refine r_goto (pc := 31) (tgt := 4) dX3_unlike_31 rfl ?_
    exact ih (k + 1) (by omega) (by omega)
theorem k_knownPlaces {n : Nat} {s p o t c : Nat} (hS : ShS T s p o t c) (hn : I (s + 3) 0 = (n : Int)) (hn2 : n ≤ 256) (hq : Q (some (aI (knS I s n))) T I) : EvE G mX3_knownPlaces d [aR (s + 3)] T I Q := by
  refine EvE.mk (lv0 := [some (aR (s + 3)), none, none]) (Nat.le_of_ble_eq_true rfl) (by decide +kernel) rfl ?_
  refine r_iconst (pc := 0) dX3_knownPlaces_0 (in32_of rfl) ?_
  refine r_istore_n (pc := 1) (i := 1) (lv' := [_, _, _]) dX3_knownPlaces_1 rfl (by decide) rfl ?_
  refine r_iconst (pc := 2) dX3_knownPlaces_2 (in32_of rfl) ?_
  refine r_istore_n (pc := 3) (i := 2) (lv' := [_, _, _]) dX3_knownPlaces_3 rfl (by decide) rfl ?_
  refine loop1 (fun (k : Nat) => k ≤ n) (fun (k : Nat) => n - k) (fun (k : Nat) => [some (aR (s + 3)), some (aI (knS I s k)), some (aI ((k : Nat) : Int))]) (fun _ => T) (fun (k : Nat) => I) ?_ 0 (Nat.zero_le _)
  intro k hP ih
  have hP : k ≤ n := hP
  refine (?_ : Ev G mX3_knownPlaces d 4 [some (aR (s + 3)), some (aI (knS I s k)), some (aI ((k : Nat) : Int))] [] T I Q)
  refine r_iload_n (pc := 4) (i := 2) dX3_knownPlaces_4 rfl rfl ?_
  refine r_aload_n (pc := 5) (i := 0) dX3_knownPlaces_5 rfl rfl ?_
  refine r_getfi (pc := 6) cks dX3_knownPlaces_6 fl_X3_9 rfl (kS3 hS) (ltS (k := 3) hS (by omega)) ?_
  refine r_top (b := (n : Int)) (hn) ?_
  refine r_icmp_ge (pc := 9) (tgt := 27) dX3_knownPlaces_9 rfl (fun c9 => ?_) (fun c9 => ?_)
  · refine r_iload_n (pc := 27) (i := 1) dX3_knownPlaces_27 rfl rfl ?_
    exact r_iret (pc := 28) dX3_knownPlaces_28 trivial (by rw [show n = k by omega] at hq; exact hq)
  · refine r_iload_n (pc := 12) (i := 1) dX3_knownPlaces_12 rfl rfl ?_
    refine r_aload_n (pc := 13) (i := 0) dX3_knownPlaces_13 rfl rfl ?_
    refine r_getfr (pc := 14) (b := s + 6) cks dX3_knownPlaces_14 fl_X3_22 rfl (kS3 hS) (ltS (k := 3) hS (by omega)) (rS3_3 hS) ?_
    refine r_iload_n (pc := 17) (i := 2) dX3_knownPlaces_17 rfl rfl ?_
    refine r_ild (pc := 18) (k) dX3_knownPlaces_18 (kS6 hS) (ltS (k := 6) hS (by omega)) rfl (by rw [lS6 hS]; omega) ?_
    refine r_iaddN (pc := 19) (c := (knS I s (k + 1))) dX3_knownPlaces_19 rfl ?_
    refine r_istore_n (pc := 20) (i := 1) (lv' := [_, _, _]) dX3_knownPlaces_20 rfl (by decide) rfl ?_
    refine r_iincN (pc := 21) (i := 2) (c := ((k + 1 : Nat) : Int)) (lv' := [_, _, _]) dX3_knownPlaces_21 rfl (by decide) (by unfold w32; omega) rfl ?_
    refine r_goto (pc := 24) (tgt := 4) dX3_knownPlaces_24 rfl ?_
    exact ih (k + 1) (by omega) (by omega)
end C1

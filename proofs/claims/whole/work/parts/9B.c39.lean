section C39
variable {G : Gl} {d : Nat} {T : Sh} {I : Mi} {N : Nat → Int} {Q : Option AV → Sh → Mi → Prop}
theorem un_sw {f : Nat → Int} {i j : Nat} {x y : Int} (h : i ≠ j) : un (un f i x) j y = un (un f j y) i x := by
  funext k
  unfold un
  by_cases h1 : k = j
  · rw [if_pos h1, if_neg (by omega), if_pos h1]
  · rw [if_neg h1]
    by_cases h2 : k = i
    · rw [if_pos h2, if_pos h2]
    · rw [if_neg h2, if_neg h2, if_neg h1]
theorem un_same {f : Nat → Int} {i : Nat} {x : Int} (h : f i = x) : un f i x = f := by
  funext k
  unfold un
  by_cases g : k = i
  · rw [if_pos g, g, h]
  · rw [if_neg g]
theorem lcp_bi (p : Prop) [Decidable p] : lcp (bi p) 0 = bi p := by
  unfold lcp
  by_cases h : p
  · rw [bi_t h]; rfl
  · rw [bi_f h]; rfl
theorem lan_1 (x : Int) : lan x 1 = bi (b64 x 0 = true) := by
  have h01 : in64 (bi (b64 x 0 = true)) := by have := bi_rng (b64 x 0 = true); unfold in64; omega
  refine ext64 (lan_in _ _) h01 (fun k hk => ?_)
  rw [b64_and, b64_one]
  cases h : b64 x 0
  · rw [bi_f (by decide), b64_0]
    by_cases g : k = 0
    · subst g; rw [h]; rfl
    · simp [g]
  · rw [bi_t rfl, b64_one]
    by_cases g : k = 0
    · subst g; rw [h]; rfl
    · simp [g]
/-- what is xored together, bit for bit from the highest down -/
def cyS (v : Int) (f : Nat → Int) : Nat → Int
  | 0 => v
  | k + 1 => ixo (cyS v f k) (isl (f k) (7 - (k : Int)))
theorem cyS_succ (v : Int) (f : Nat → Int) (k : Nat) : cyS v f (k + 1) = ixo (cyS v f k) (isl (f k) (7 - (k : Int))) := rfl
theorem ixo_as (x y z : Int) : ixo (ixo x y) z = ixo x (ixo y z) := by
  refine ext32 (ixo_in _ _) (ixo_in _ _) (fun k _ => ?_)
  rw [b32_xor, b32_xor, b32_xor, b32_xor, Bool.xor_assoc]
theorem ixo_0 {x : Int} (h : in32 x) : ixo x 0 = x := by
  refine ext32 (ixo_in _ _) h (fun k _ => ?_)
  rw [b32_xor, show (0 : Int) = ((0 : Nat) : Int) from rfl, b32_nat]
  simp
theorem cyS_v {v : Int} {f : Nat → Int} (hv : in32 v) : ∀ k, cyS v f k = ixo v (cyS 0 f k) := by
  intro k
  induction k with
  | zero => exact (ixo_0 hv).symm
  | succ k ih => rw [cyS_succ, cyS_succ, ih, ixo_as]
def by8 (f : Nat → Int) : Nat → Int
  | 0 => 0
  | k + 1 => iro (isl (by8 f k) 1) (f k)
theorem cy_st : ∀ k : Nat, k < 8 → ∀ a : Nat, a < 2 ^ k → ∀ b : Nat, b < 2 → ixo ((a * 2 ^ (8 - k) : Nat) : Int) (isl (b : Int) (7 - (k : Int))) = (((2 * a + b) * 2 ^ (7 - k) : Nat) : Int) ∧ iro (isl (a : Int) 1) (b : Int) = ((2 * a + b : Nat) : Int) := by decide +kernel
theorem cyS_by {f : Nat → Int} (h : ∀ i, i < 8 → f i = 0 ∨ f i = 1) : cyS 0 f 8 = by8 f 8 := by
  have key : ∀ k, k ≤ 8 → ∃ a : Nat, a < 2 ^ k ∧ by8 f k = (a : Int) ∧ cyS 0 f k = ((a * 2 ^ (8 - k) : Nat) : Int) := by
    intro k
    induction k with
    | zero => intro _; exact ⟨0, by decide, rfl, rfl⟩
    | succ k ih =>
      intro hk
      obtain ⟨a, h1, h2, h3⟩ := ih (by omega)
      obtain ⟨b, b1, b2⟩ := b01_n (h k (by omega))
      have hs := cy_st k (by omega) a h1 b b1
      refine ⟨2 * a + b, by rw [Nat.pow_succ]; omega, ?_, ?_⟩
      · show iro (isl (by8 f k) 1) (f k) = _
        rw [h2, b2]; exact hs.2
      · rw [cyS_succ, h3, b2, hs.1, show 8 - (k + 1) = 7 - k by omega]
  obtain ⟨a, h1, h2, h3⟩ := key 8 (Nat.le_refl _)
  rw [h2, h3, show 8 - 8 = 0 by decide, Nat.pow_zero, Nat.mul_one]
theorem by8_N {N : Nat → Int} {y u : Nat} : ∀ k, byN N y u k = by8 (fun i => N (y + u + i)) k := by
  intro k
  induction k with
  | zero => rfl
  | succ k ih => show iro (isl (byN N y u k) 1) (N (y + u + k)) = iro (isl (by8 _ k) 1) (N (y + u + k)); rw [ih]
/-- the least of the first that is true, from k on; -1 -/
def lsB (f : Nat → Bool) : Nat → Nat → Int
  | 0, _ => -1
  | u + 1, k => if f k = true then (k : Int) else lsB f u (k + 1)
theorem lsB_succ (f : Nat → Bool) (u k : Nat) : lsB f (u + 1) k = if f k = true then (k : Int) else lsB f u (k + 1) := rfl
/-- the set of the k-th, out of a ledger's longs -/
def stB (I : Mi) (t k : Nat) (q : Nat) : Bool := b64 (I t (4 * k + q / 64)) (q % 64)
theorem stB_w {I : Mi} {t k w : Nat} : ∀ r, r < 64 → stB I t k (64 * w + r) = b64 (I t (4 * k + w)) r := by
  intro r hr
  unfold stB
  rw [show (64 * w + r) / 64 = w by omega, show (64 * w + r) % 64 = r by omega]
theorem k_ledHas {n0 : Nat} {q : Int} {s p o t c : Nat} (hS : ShS T s p o t c) (hn : I (s + 7) 0 = (n0 : Int)) (hq : Q (some (aI (bi (0 ≤ q ∧ q < (n0 : Int))))) T I) : EvE G mX4_has d [aR (s + 7), aI q] T I Q := by
  refine EvE.mk (lv0 := [some (aR (s + 7)), some (aI q)]) (Nat.le_of_ble_eq_true rfl) (by decide +kernel) rfl ?_
  refine r_iload_n (pc := 0) (i := 1) dX4_has_0 rfl rfl ?_
  refine r_if_lt (pc := 1) (tgt := 16) dX4_has_1 rfl (fun c1 => ?_) (fun c1 => ?_)
  · refine r_iconst (pc := 16) dX4_has_16 (in32_of rfl) ?_
    exact r_iret (pc := 17) dX4_has_17 (Or.inl rfl) (by rw [show bi (0 ≤ q ∧ q < (n0 : Int)) = 0 from bi_f (by omega)] at hq; exact hq)
  · refine r_iload_n (pc := 4) (i := 1) dX4_has_4 rfl rfl ?_
    refine r_aload_n (pc := 5) (i := 0) dX4_has_5 rfl rfl ?_
    refine r_getfi (pc := 6) cks dX4_has_6 fl_X4_9 rfl (kS7 hS) (ltS (k := 7) hS (by omega)) ?_
    refine r_top (b := ((n0 : Nat) : Int)) (hn) ?_
    refine r_icmp_ge (pc := 9) (tgt := 16) dX4_has_9 rfl (fun c9 => ?_) (fun c9 => ?_)
    · refine r_iconst (pc := 16) dX4_has_16 (in32_of rfl) ?_
      exact r_iret (pc := 17) dX4_has_17 (Or.inl rfl) (by rw [show bi (0 ≤ q ∧ q < (n0 : Int)) = 0 from bi_f (by omega)] at hq; exact hq)
    · refine r_iconst (pc := 12) dX4_has_12 (in32_of rfl) ?_
      refine r_goto (pc := 13) (tgt := 17) dX4_has_13 rfl ?_
      exact r_iret (pc := 17) dX4_has_17 (Or.inr rfl) (by rw [show bi (0 ≤ q ∧ q < (n0 : Int)) = 1 from bi_t (by omega)] at hq; exact hq)
theorem k_holds {k x : Nat} {s p o t c : Nat} (hS : ShS T s p o t c) (hk : k < c) (hx : x < 256) (hq : Q (some (aI (bi (stB I t k x = true)))) T I) : EvE G mX4_holds d [aR (s + 7), aI ((k : Nat) : Int), aI ((x : Nat) : Int)] T I Q := by
  have hcc := cap_le hS
  refine EvE.mk (lv0 := [some (aR (s + 7)), some (aI ((k : Nat) : Int)), some (aI ((x : Nat) : Int))]) (Nat.le_of_ble_eq_true rfl) (by decide +kernel) rfl ?_
  refine r_aload_n (pc := 0) (i := 0) dX4_holds_0 rfl rfl ?_
  refine r_getfr (pc := 1) (b := t) cks dX4_holds_1 fl_X4_22 rfl (kS7 hS) (ltS (k := 7) hS (by omega)) (rS7_3 hS) ?_
  refine r_iload_n (pc := 4) (i := 1) dX4_holds_4 rfl rfl ?_
  refine r_iconst (pc := 5) dX4_holds_5 (in32_of rfl) ?_
  refine r_imulN (pc := 6) (c := ((4 * k : Nat) : Int)) dX4_holds_6 (by unfold w32; omega) ?_
  refine r_iload_n (pc := 7) (i := 2) dX4_holds_7 rfl rfl ?_
  refine r_bipush (pc := 8) dX4_holds_8 rfl (in32_of rfl) ?_
  refine r_ishr (pc := 10) dX4_holds_10 ?_
  refine r_top (b := (((x / 64) : Nat) : Int)) (isr_6 hx) ?_
  refine r_iaddN (pc := 11) (c := ((4 * k + (x / 64) : Nat) : Int)) dX4_holds_11 (by unfold w32; omega) ?_
  refine r_lld (pc := 12) (4 * k + (x / 64)) dX4_holds_12 (kt_ hS) (ltt hS) rfl (by rw [lt_ hS]; omega) ?_
  refine r_iload_n (pc := 13) (i := 2) dX4_holds_13 rfl rfl ?_
  refine r_bipush (pc := 14) dX4_holds_14 rfl (in32_of rfl) ?_
  refine r_iand (pc := 16) dX4_holds_16 ?_
  refine r_top (b := (((x % 64) : Nat) : Int)) (ian_63 hx) ?_
  refine r_lushr (pc := 17) dX4_holds_17 ?_
  refine r_lconst (pc := 18) (z := 1) dX4_holds_18 rfl (in64_of rfl) ?_
  refine r_land (pc := 19) dX4_holds_19 ?_
  refine r_topL (b := (bi (stB I t k x = true))) (by rw [lan_1, b64_ushr _ (by omega), Nat.add_zero]; rfl) ?_
  refine r_lconst (pc := 20) (z := 0) dX4_holds_20 rfl (in64_of rfl) ?_
  refine r_lcmp (pc := 21) dX4_holds_21 ?_
  refine r_top (b := (bi (stB I t k x = true))) (lcp_bi _) ?_
  refine r_if_eq (pc := 22) (tgt := 29) dX4_holds_22 rfl (fun c22 => ?_) (fun c22 => ?_)
  · have c22 := bi_if.mp c22
    refine r_iconst (pc := 29) dX4_holds_29 (in32_of rfl) ?_
    exact r_iret (pc := 30) dX4_holds_30 (Or.inl rfl) (by rw [show bi (stB I t k x = true) = 0 from bi_f (c22)] at hq; exact hq)
  · have c22 := bi_1 c22
    refine r_iconst (pc := 25) dX4_holds_25 (in32_of rfl) ?_
    refine r_goto (pc := 26) (tgt := 30) dX4_holds_26 rfl ?_
    exact r_iret (pc := 30) dX4_holds_30 (Or.inr rfl) (by rw [show bi (stB I t k x = true) = 1 from bi_t (c22)] at hq; exact hq)
theorem k_least {k : Nat} {s p o t c : Nat} (hS : ShS T s p o t c) (hd : 1 ≤ d) (hk : k < c) (hq : Q (some (aI (lsB (stB I t k) 256 0))) T I) : EvE G mX4_least d [aR (s + 7), aI ((k : Nat) : Int)] T I Q := by
  refine EvE.mk (lv0 := [some (aR (s + 7)), some (aI ((k : Nat) : Int)), none]) (Nat.le_of_ble_eq_true rfl) (by decide +kernel) rfl ?_
  refine r_iconst (pc := 0) dX4_least_0 (in32_of rfl) ?_
  refine r_istore_n (pc := 1) (i := 2) (lv' := [_, _, _]) dX4_least_1 rfl (by decide) rfl ?_
  refine loop1 (fun (x : Nat) => x ≤ 256 ∧ lsB (stB I t k) (256 - x) x = lsB (stB I t k) 256 0) (fun (x : Nat) => 256 - x) (fun (x : Nat) => [some (aR (s + 7)), some (aI ((k : Nat) : Int)), some (aI ((x : Nat) : Int))]) (fun _ => T) (fun (x : Nat) => I) ?_ 0 ⟨Nat.zero_le _, rfl⟩
  intro x hP ih
  have hP : x ≤ 256 ∧ lsB (stB I t k) (256 - x) x = lsB (stB I t k) 256 0 := hP
  refine (?_ : Ev G mX4_least d 2 [some (aR (s + 7)), some (aI ((k : Nat) : Int)), some (aI ((x : Nat) : Int))] [] T I Q)
  refine r_iload_n (pc := 2) (i := 2) dX4_least_2 rfl rfl ?_
  refine r_sipush (pc := 3) dX4_least_3 rfl (in32_of rfl) ?_
  refine r_icmp_ge (pc := 6) (tgt := 26) dX4_least_6 rfl (fun c6 => ?_) (fun c6 => ?_)
  · refine r_iconst (pc := 26) dX4_least_26 (in32_of rfl) ?_
    have hz := hP.2
    rw [show 256 - x = 0 by omega, show lsB (stB I t k) 0 x = -1 from rfl] at hz
    exact r_iret (pc := 27) dX4_least_27 trivial (by rw [← hz] at hq; exact hq)
  · refine r_aload_n (pc := 9) (i := 0) dX4_least_9 rfl rfl ?_
    refine r_iload_n (pc := 10) (i := 1) dX4_least_10 rfl rfl ?_
    refine r_iload_n (pc := 11) (i := 2) dX4_least_11 rfl rfl ?_
    refine r_callV1 (pc := 12) (d - 1) [aI ((k : Nat) : Int), aI ((x : Nat) : Int)] dX4_least_12 (CV.mk2 mk_X4_holds lk_X4_47) (RC.of (ltS (k := 7) hS (by omega)) (kS7 hS) (by decide) rfl) rfl rfl (by omega) (Nat.le_of_ble_eq_true rfl) (Nat.le_of_ble_eq_true rfl) (k_holds (k := k) (x := x) hS hk (by omega) ?_)
    refine ⟨_, rfl, fun _ => ?_⟩
    refine r_if_eq (pc := 15) (tgt := 20) dX4_least_15 rfl (fun c15 => ?_) (fun c15 => ?_)
    · have c15 := bi_if.mp c15
      refine r_iincN (pc := 20) (i := 2) (c := ((x + 1 : Nat) : Int)) (lv' := [_, _, _]) dX4_least_20 rfl (by decide) (by unfold w32; omega) rfl ?_
      refine r_goto (pc := 23) (tgt := 2) dX4_least_23 rfl ?_
      have hz := hP.2
      rw [show 256 - x = (256 - (x + 1)) + 1 by omega, lsB_succ, if_neg c15] at hz
      exact ih (x + 1) ⟨by omega, hz⟩ (by omega)
    · have c15 := bi_1 c15
      refine r_iload_n (pc := 18) (i := 2) dX4_least_18 rfl rfl ?_
      have hz := hP.2
      rw [show 256 - x = (256 - (x + 1)) + 1 by omega, lsB_succ, if_pos c15] at hz
      exact r_iret (pc := 19) dX4_least_19 trivial (by rw [← hz] at hq; exact hq)
theorem cnB_le (f : Nat → Bool) : ∀ m, cnB f m ≤ m := by
  intro m
  induction m with
  | zero => exact Nat.le_refl _
  | succ m ih =>
    show cnB f m + _ ≤ _
    split <;> omega
theorem k_places {k : Nat} {s p o t c : Nat} (hS : ShS T s p o t c) (hd : 1 ≤ d) (hk : k < c) (hq : Q (some (aI ((cnB (stB I t k) 256 : Nat) : Int))) T I) : EvE G mX4_places d [aR (s + 7), aI ((k : Nat) : Int)] T I Q := by
  have hcc := cap_le hS
  refine EvE.mk (lv0 := [some (aR (s + 7)), some (aI ((k : Nat) : Int)), none, none]) (Nat.le_of_ble_eq_true rfl) (by decide +kernel) rfl ?_
  refine r_iconst (pc := 0) dX4_places_0 (in32_of rfl) ?_
  refine r_istore_n (pc := 1) (i := 2) (lv' := [_, _, _, _]) dX4_places_1 rfl (by decide) rfl ?_
  refine r_iconst (pc := 2) dX4_places_2 (in32_of rfl) ?_
  refine r_istore_n (pc := 3) (i := 3) (lv' := [_, _, _, _]) dX4_places_3 rfl (by decide) rfl ?_
  refine loop1 (fun (w : Nat) => w ≤ 4) (fun (w : Nat) => 4 - w) (fun (w : Nat) => [some (aR (s + 7)), some (aI ((k : Nat) : Int)), some (aI (((cnB (stB I t k) (64 * w)) : Nat) : Int)), some (aI ((w : Nat) : Int))]) (fun _ => T) (fun (w : Nat) => I) ?_ 0 (by decide)
  intro w hP ih
  have hP : w ≤ 4 := hP
  refine (?_ : Ev G mX4_places d 4 [some (aR (s + 7)), some (aI ((k : Nat) : Int)), some (aI (((cnB (stB I t k) (64 * w)) : Nat) : Int)), some (aI ((w : Nat) : Int))] [] T I Q)
  refine r_iload_n (pc := 4) (i := 3) dX4_places_4 rfl rfl ?_
  refine r_iconst (pc := 5) dX4_places_5 (in32_of rfl) ?_
  refine r_icmp_ge (pc := 6) (tgt := 31) dX4_places_6 rfl (fun c6 => ?_) (fun c6 => ?_)
  · refine r_iload_n (pc := 31) (i := 2) dX4_places_31 rfl rfl ?_
    exact r_iret (pc := 32) dX4_places_32 trivial (by rw [show w = 4 by omega]; exact hq)
  · refine r_iload_n (pc := 9) (i := 2) dX4_places_9 rfl rfl ?_
    refine r_aload_n (pc := 10) (i := 0) dX4_places_10 rfl rfl ?_
    refine r_getfr (pc := 11) (b := t) cks dX4_places_11 fl_X4_22 rfl (kS7 hS) (ltS (k := 7) hS (by omega)) (rS7_3 hS) ?_
    refine r_iload_n (pc := 14) (i := 1) dX4_places_14 rfl rfl ?_
    refine r_iconst (pc := 15) dX4_places_15 (in32_of rfl) ?_
    refine r_imulN (pc := 16) (c := ((4 * k : Nat) : Int)) dX4_places_16 (by unfold w32; omega) ?_
    refine r_iload_n (pc := 17) (i := 3) dX4_places_17 rfl rfl ?_
    refine r_iaddN (pc := 18) (c := ((4 * k + w : Nat) : Int)) dX4_places_18 (by unfold w32; omega) ?_
    refine r_lld (pc := 19) (4 * k + w) dX4_places_19 (kt_ hS) (ltt hS) rfl (by rw [lt_ hS]; omega) ?_
    refine r_callS1 (pc := 20) (d - 1) [aL (I t (4 * k + w))] dX4_places_20 (CS.mk2 mk_J13_bitCount_95d88 lk_X4_41) rfl rfl (by omega) (Nat.le_of_ble_eq_true rfl) (Nat.le_of_ble_eq_true rfl) (k_bitCount (x := (I t (4 * k + w))) ?_)
    refine ⟨_, rfl, fun _ => ?_⟩
    refine r_iaddN (pc := 23) (c := (((cnB (stB I t k) (64 * (w + 1))) : Nat) : Int)) dX4_places_23 (by rw [show 64 * (w + 1) = 64 * w + 64 by omega, cnB_add, cnB_ext (g := fun j => b64 (I t (4 * k + w)) j) 64 (fun r hr => stB_w (I := I) (t := t) (k := k) (w := w) r hr)]; have h1 := cnB_le (stB I t k) (64 * w); have h2 := cnB_le (fun j => b64 (I t (4 * k + w)) j) 64; unfold w32; omega) ?_
    refine r_istore_n (pc := 24) (i := 2) (lv' := [_, _, _, _]) dX4_places_24 rfl (by decide) rfl ?_
    refine r_iincN (pc := 25) (i := 3) (c := ((w + 1 : Nat) : Int)) (lv' := [_, _, _, _]) dX4_places_25 rfl (by decide) (by unfold w32; omega) rfl ?_
    refine r_goto (pc := 28) (tgt := 4) dX4_places_28 rfl ?_
    exact ih (w + 1) (by omega) (by omega)
theorem k_left {l u : Nat} {s p o t c : Nat} (hS : ShS T s p o t c) (hl : I (s + 11) 0 = (l : Int)) (hu : I (s + 11) 4 = (u : Int)) (hl2 : l ≤ 256) (hu2 : u ≤ 256) (hq : Q (some (aI ((l : Int) - (u : Int)))) T I) : EvE G mX1_left d [aR (s + 11)] T I Q := by
  refine EvE.mk (lv0 := [some (aR (s + 11))]) (Nat.le_of_ble_eq_true rfl) (by decide +kernel) rfl ?_
  refine r_aload_n (pc := 0) (i := 0) dX1_left_0 rfl rfl ?_
  refine r_getfi (pc := 1) cks dX1_left_1 fl_X1_9 rfl (kS11 hS) (ltS (k := 11) hS (by omega)) ?_
  refine r_top (b := ((l : Nat) : Int)) (hl) ?_
  refine r_aload_n (pc := 4) (i := 0) dX1_left_4 rfl rfl ?_
  refine r_getfi (pc := 5) cks dX1_left_5 fl_X1_25 rfl (kS11 hS) (ltS (k := 11) hS (by omega)) ?_
  refine r_top (b := ((u : Nat) : Int)) (hu) ?_
  refine r_isubN (pc := 8) (c := (((l : Nat) : Int) - ((u : Nat) : Int))) dX1_left_8 (by unfold w32; omega) ?_
  exact r_iret (pc := 9) dX1_left_9 trivial hq
theorem k_useByte {l u : Nat} {v : Int} {s p o t c : Nat} (hS : ShS T s p o t c) (hl : I (s + 11) 0 = (l : Int)) (hu : I (s + 11) 4 = (u : Int)) (hul : u + 8 ≤ l) (hl2 : l ≤ 256) (hq : Q (some (aI (cyS v (fun i => I (s + 13) (u + i)) 8))) T (sr I (s + 11) (un (un (un (I (s + 11)) 5 (cyS v (fun i => I (s + 13) (u + i)) 8)) 4 ((u + 8 : Nat) : Int)) 6 (ixo (cyS v (fun i => I (s + 13) (u + i)) 8) (cyS 0 (fun i => I (s + 14) (u + i)) 8))))) : EvE G mX1_useByte d [aR (s + 11), aI v] T I Q := by
  refine EvE.mk (lv0 := [some (aR (s + 11)), some (aI v), none, none, none]) (Nat.le_of_ble_eq_true rfl) (by decide +kernel) rfl ?_
  refine r_aload_n (pc := 0) (i := 0) dX1_useByte_0 rfl rfl ?_
  refine r_iload_n (pc := 1) (i := 1) dX1_useByte_1 rfl rfl ?_
  refine r_putfi (pc := 2) cks dX1_useByte_2 fl_X1_28 (pf_1_5 _ _) rfl (kS11 hS) (ltS (k := 11) hS (by omega)) ?_
  refine r_mem (I2 := sr I (s + 11) (un (I (s + 11)) 5 v)) ((up2_row _ _ _ _).trans ((congrArg (fun fz_ => sr I (s + 11) (un fz_ 5 v)) (show I (s + 11) = I (s + 11) from rfl)).trans (rfl))) ?_
  refine r_iconst (pc := 5) dX1_useByte_5 (in32_of rfl) ?_
  refine r_istore_n (pc := 6) (i := 2) (lv' := [_, _, _, _, _]) dX1_useByte_6 rfl (by decide) rfl ?_
  refine r_iconst (pc := 7) dX1_useByte_7 (in32_of rfl) ?_
  refine r_istore_n (pc := 8) (i := 3) (lv' := [_, _, _, _, _]) dX1_useByte_8 rfl (by decide) rfl ?_
  refine r_mem (I2 := sr I (s + 11) (un (un (I (s + 11)) 5 (cyS v (fun i => I (s + 13) (u + i)) 0)) 4 ((u + 0 : Nat) : Int))) (by rw [un_same (f := un (I (s + 11)) 5 (cyS v (fun i => I (s + 13) (u + i)) 0)) (i := 4) (by rw [un_ne (by decide), Nat.add_zero]; exact hu)]; rfl) ?_
  refine loop1 (fun (k : Nat) => k ≤ 8) (fun (k : Nat) => 8 - k) (fun (k : Nat) => [some (aR (s + 11)), some (aI v), some (aI (cyS 0 (fun i => I (s + 14) (u + i)) k)), some (aI ((k : Nat) : Int)), none]) (fun _ => T) (fun (k : Nat) => sr I (s + 11) (un (un (I (s + 11)) 5 (cyS v (fun i => I (s + 13) (u + i)) k)) 4 ((u + k : Nat) : Int))) ?_ 0 (Nat.zero_le _)
  intro k hP ih
  have hP : k ≤ 8 := hP
  refine (?_ : Ev G mX1_useByte d 9 [some (aR (s + 11)), some (aI v), some (aI (cyS 0 (fun i => I (s + 14) (u + i)) k)), some (aI ((k : Nat) : Int)), none] [] T (sr I (s + 11) (un (un (I (s + 11)) 5 (cyS v (fun i => I (s + 13) (u + i)) k)) 4 ((u + k : Nat) : Int))) Q)
  refine r_iload_n (pc := 9) (i := 3) dX1_useByte_9 rfl rfl ?_
  refine r_bipush (pc := 10) dX1_useByte_10 rfl (in32_of rfl) ?_
  refine r_icmp_ge (pc := 12) (tgt := 84) dX1_useByte_12 rfl (fun c12 => ?_) (fun c12 => ?_)
  · refine r_aload_n (pc := 84) (i := 0) dX1_useByte_84 rfl rfl ?_
    refine r_aload_n (pc := 85) (i := 0) dX1_useByte_85 rfl rfl ?_
    refine r_getfi (pc := 86) cks dX1_useByte_86 fl_X1_28 rfl (kS11 hS) (ltS (k := 11) hS (by omega)) ?_
    refine r_top (b := (un (un (I (s + 11)) 5 (cyS v (fun i => I (s + 13) (u + i)) k)) 4 ((u + k : Nat) : Int)) 5) (sr_at _ _ _ _) ?_
    refine r_top (b := cyS v (fun i => I (s + 13) (u + i)) k) ((un_ne (by decide)).trans un_at) ?_
    refine r_iload_n (pc := 89) (i := 2) dX1_useByte_89 rfl rfl ?_
    refine r_ixor (pc := 90) dX1_useByte_90 ?_
    refine r_putfi (pc := 91) cks dX1_useByte_91 fl_X1_31 (pf_1_6 _ _) rfl (kS11 hS) (ltS (k := 11) hS (by omega)) ?_
    refine r_mem (I2 := sr I (s + 11) (un (un (un (I (s + 11)) 5 (cyS v (fun i => I (s + 13) (u + i)) k)) 4 ((u + k : Nat) : Int)) 6 (ixo (cyS v (fun i => I (s + 13) (u + i)) k) (cyS 0 (fun i => I (s + 14) (u + i)) k)))) ((up2_row _ _ _ _).trans ((congrArg (fun fz_ => sr (sr I (s + 11) (un (un (I (s + 11)) 5 (cyS v (fun i => I (s + 13) (u + i)) k)) 4 ((u + k : Nat) : Int))) (s + 11) (un fz_ 6 (ixo (cyS v (fun i => I (s + 13) (u + i)) k) (cyS 0 (fun i => I (s + 14) (u + i)) k)))) (show (sr I (s + 11) (un (un (I (s + 11)) 5 (cyS v (fun i => I (s + 13) (u + i)) k)) 4 ((u + k : Nat) : Int))) (s + 11) = un (un (I (s + 11)) 5 (cyS v (fun i => I (s + 13) (u + i)) k)) 4 ((u + k : Nat) : Int) from sr_row _ _ _)).trans (sr_sr _ _ _ _))) ?_
    refine r_aload_n (pc := 94) (i := 0) dX1_useByte_94 rfl rfl ?_
    refine r_getfi (pc := 95) cks dX1_useByte_95 fl_X1_28 rfl (kS11 hS) (ltS (k := 11) hS (by omega)) ?_
    refine r_top (b := (un (un (un (I (s + 11)) 5 (cyS v (fun i => I (s + 13) (u + i)) k)) 4 ((u + k : Nat) : Int)) 6 (ixo (cyS v (fun i => I (s + 13) (u + i)) k) (cyS 0 (fun i => I (s + 14) (u + i)) k))) 5) (sr_at _ _ _ _) ?_
    refine r_top (b := (un (un (I (s + 11)) 5 (cyS v (fun i => I (s + 13) (u + i)) k)) 4 ((u + k : Nat) : Int)) 5) (un_ne (by omega)) ?_
    refine r_top (b := cyS v (fun i => I (s + 13) (u + i)) k) ((un_ne (by decide)).trans un_at) ?_
    have hk8 : k = 8 := by omega
    subst hk8
    exact r_iret (pc := 98) dX1_useByte_98 trivial hq
  · refine r_aload_n (pc := 15) (i := 0) dX1_useByte_15 rfl rfl ?_
    refine r_getfi (pc := 16) cks dX1_useByte_16 fl_X1_25 rfl (kS11 hS) (ltS (k := 11) hS (by omega)) ?_
    refine r_top (b := (un (un (I (s + 11)) 5 (cyS v (fun i => I (s + 13) (u + i)) k)) 4 ((u + k : Nat) : Int)) 4) (sr_at _ _ _ _) ?_
    refine r_top (b := ((u + k : Nat) : Int)) (un_at) ?_
    refine r_aload_n (pc := 19) (i := 0) dX1_useByte_19 rfl rfl ?_
    refine r_getfi (pc := 20) cks dX1_useByte_20 fl_X1_9 rfl (kS11 hS) (ltS (k := 11) hS (by omega)) ?_
    refine r_top (b := (un (un (I (s + 11)) 5 (cyS v (fun i => I (s + 13) (u + i)) k)) 4 ((u + k : Nat) : Int)) 0) (sr_at _ _ _ _) ?_
    refine r_top (b := (l : Int)) ((un_ne (by decide)).trans ((un_ne (by decide)).trans hl)) ?_
    refine r_icmp_ge (pc := 23) (tgt := 84) dX1_useByte_23 rfl (fun c23 => absurd c23 (by omega)) (fun c23 => ?_)
    refine r_bipush (pc := 26) dX1_useByte_26 rfl (in32_of rfl) ?_
    refine r_iload_n (pc := 28) (i := 3) dX1_useByte_28 rfl rfl ?_
    refine r_isubN (pc := 29) (c := (-((k : Nat) : Int) + 7)) dX1_useByte_29 (by unfold w32; omega) ?_
    refine r_istore (pc := 30) (i := 4) (lv' := [_, _, _, _, _]) dX1_useByte_30 (by decide) rfl ?_
    refine r_aload_n (pc := 32) (i := 0) dX1_useByte_32 rfl rfl ?_
    refine r_dup (pc := 33) dX1_useByte_33 rfl ?_
    refine r_getfi (pc := 34) cks dX1_useByte_34 fl_X1_28 rfl (kS11 hS) (ltS (k := 11) hS (by omega)) ?_
    refine r_top (b := (un (un (I (s + 11)) 5 (cyS v (fun i => I (s + 13) (u + i)) k)) 4 ((u + k : Nat) : Int)) 5) (sr_at _ _ _ _) ?_
    refine r_top (b := cyS v (fun i => I (s + 13) (u + i)) k) ((un_ne (by decide)).trans un_at) ?_
    refine r_aload_n (pc := 37) (i := 0) dX1_useByte_37 rfl rfl ?_
    refine r_getfr (pc := 38) (b := s + 13) cks dX1_useByte_38 fl_X1_19 rfl (kS11 hS) (ltS (k := 11) hS (by omega)) (rS11_2 hS) ?_
    refine r_aload_n (pc := 41) (i := 0) dX1_useByte_41 rfl rfl ?_
    refine r_getfi (pc := 42) cks dX1_useByte_42 fl_X1_25 rfl (kS11 hS) (ltS (k := 11) hS (by omega)) ?_
    refine r_top (b := (un (un (I (s + 11)) 5 (cyS v (fun i => I (s + 13) (u + i)) k)) 4 ((u + k : Nat) : Int)) 4) (sr_at _ _ _ _) ?_
    refine r_top (b := ((u + k : Nat) : Int)) (un_at) ?_
    refine r_ild (pc := 45) (u + k) dX1_useByte_45 (kS13 hS) (ltS (k := 13) hS (by omega)) rfl (by rw [lS13 hS]; omega) ?_
    refine r_top (b := I (s + 13) (u + k)) ((congrFun (sr_ne (by omega)) _).trans (rfl)) ?_
    refine r_iload (pc := 46) (i := 4) dX1_useByte_46 rfl ?_
    refine r_ishl (pc := 48) dX1_useByte_48 ?_
    refine r_ixor (pc := 49) dX1_useByte_49 ?_
    refine r_top (b := (cyS v (fun i => I (s + 13) (u + i)) (k + 1))) (by rw [show -((k : Nat) : Int) + 7 = 7 - (k : Int) by omega]; rfl) ?_
    refine r_putfi (pc := 50) cks dX1_useByte_50 fl_X1_28 (pf_1_5 _ _) rfl (kS11 hS) (ltS (k := 11) hS (by omega)) ?_
    refine r_mem (I2 := sr I (s + 11) (un (un (un (I (s + 11)) 5 (cyS v (fun i => I (s + 13) (u + i)) k)) 4 ((u + k : Nat) : Int)) 5 (cyS v (fun i => I (s + 13) (u + i)) (k + 1)))) ((up2_row _ _ _ _).trans ((congrArg (fun fz_ => sr (sr I (s + 11) (un (un (I (s + 11)) 5 (cyS v (fun i => I (s + 13) (u + i)) k)) 4 ((u + k : Nat) : Int))) (s + 11) (un fz_ 5 (cyS v (fun i => I (s + 13) (u + i)) (k + 1)))) (show (sr I (s + 11) (un (un (I (s + 11)) 5 (cyS v (fun i => I (s + 13) (u + i)) k)) 4 ((u + k : Nat) : Int))) (s + 11) = un (un (I (s + 11)) 5 (cyS v (fun i => I (s + 13) (u + i)) k)) 4 ((u + k : Nat) : Int) from sr_row _ _ _)).trans (sr_sr _ _ _ _))) ?_
    refine r_iload_n (pc := 53) (i := 2) dX1_useByte_53 rfl rfl ?_
    refine r_aload_n (pc := 54) (i := 0) dX1_useByte_54 rfl rfl ?_
    refine r_getfr (pc := 55) (b := s + 14) cks dX1_useByte_55 fl_X1_22 rfl (kS11 hS) (ltS (k := 11) hS (by omega)) (rS11_3 hS) ?_
    refine r_aload_n (pc := 58) (i := 0) dX1_useByte_58 rfl rfl ?_
    refine r_getfi (pc := 59) cks dX1_useByte_59 fl_X1_25 rfl (kS11 hS) (ltS (k := 11) hS (by omega)) ?_
    refine r_top (b := (un (un (un (I (s + 11)) 5 (cyS v (fun i => I (s + 13) (u + i)) k)) 4 ((u + k : Nat) : Int)) 5 (cyS v (fun i => I (s + 13) (u + i)) (k + 1))) 4) (sr_at _ _ _ _) ?_
    refine r_top (b := ((u + k : Nat) : Int)) ((un_ne (by decide)).trans un_at) ?_
    refine r_ild (pc := 62) (u + k) dX1_useByte_62 (kS14 hS) (ltS (k := 14) hS (by omega)) rfl (by rw [lS14 hS]; omega) ?_
    refine r_top (b := I (s + 14) (u + k)) ((congrFun (sr_ne (by omega)) _).trans (rfl)) ?_
    refine r_iload (pc := 63) (i := 4) dX1_useByte_63 rfl ?_
    refine r_ishl (pc := 65) dX1_useByte_65 ?_
    refine r_ixor (pc := 66) dX1_useByte_66 ?_
    refine r_top (b := (cyS 0 (fun i => I (s + 14) (u + i)) (k + 1))) (by rw [show -((k : Nat) : Int) + 7 = 7 - (k : Int) by omega]; rfl) ?_
    refine r_istore_n (pc := 67) (i := 2) (lv' := [_, _, _, _, _]) dX1_useByte_67 rfl (by decide) rfl ?_
    refine r_aload_n (pc := 68) (i := 0) dX1_useByte_68 rfl rfl ?_
    refine r_dup (pc := 69) dX1_useByte_69 rfl ?_
    refine r_getfi (pc := 70) cks dX1_useByte_70 fl_X1_25 rfl (kS11 hS) (ltS (k := 11) hS (by omega)) ?_
    refine r_top (b := (un (un (un (I (s + 11)) 5 (cyS v (fun i => I (s + 13) (u + i)) k)) 4 ((u + k : Nat) : Int)) 5 (cyS v (fun i => I (s + 13) (u + i)) (k + 1))) 4) (sr_at _ _ _ _) ?_
    refine r_top (b := ((u + k : Nat) : Int)) ((un_ne (by decide)).trans un_at) ?_
    refine r_iconst (pc := 73) dX1_useByte_73 (in32_of rfl) ?_
    refine r_iaddN (pc := 74) (c := ((u + k + 1 : Nat) : Int)) dX1_useByte_74 (by unfold w32; omega) ?_
    refine r_putfi (pc := 75) cks dX1_useByte_75 fl_X1_25 (pf_1_4 _ _) rfl (kS11 hS) (ltS (k := 11) hS (by omega)) ?_
    refine r_mem (I2 := sr I (s + 11) (un (un (un (un (I (s + 11)) 5 (cyS v (fun i => I (s + 13) (u + i)) k)) 4 ((u + k : Nat) : Int)) 5 (cyS v (fun i => I (s + 13) (u + i)) (k + 1))) 4 ((u + k + 1 : Nat) : Int))) ((up2_row _ _ _ _).trans ((congrArg (fun fz_ => sr (sr I (s + 11) (un (un (un (I (s + 11)) 5 (cyS v (fun i => I (s + 13) (u + i)) k)) 4 ((u + k : Nat) : Int)) 5 (cyS v (fun i => I (s + 13) (u + i)) (k + 1)))) (s + 11) (un fz_ 4 ((u + k + 1 : Nat) : Int))) (show (sr I (s + 11) (un (un (un (I (s + 11)) 5 (cyS v (fun i => I (s + 13) (u + i)) k)) 4 ((u + k : Nat) : Int)) 5 (cyS v (fun i => I (s + 13) (u + i)) (k + 1)))) (s + 11) = un (un (un (I (s + 11)) 5 (cyS v (fun i => I (s + 13) (u + i)) k)) 4 ((u + k : Nat) : Int)) 5 (cyS v (fun i => I (s + 13) (u + i)) (k + 1)) from sr_row _ _ _)).trans (sr_sr _ _ _ _))) ?_
    refine r_iincN (pc := 78) (i := 3) (c := ((k + 1 : Nat) : Int)) (lv' := [_, _, _, _, _]) dX1_useByte_78 rfl (by decide) (by unfold w32; omega) rfl ?_
    refine r_goto (pc := 81) (tgt := 9) dX1_useByte_81 rfl ?_
    refine Ev.weak (lv2 := [some (aR (s + 11)), some (aI v), some (aI (cyS 0 (fun i => I (s + 14) (u + i)) (k + 1))), some (aI ((k + 1 : Nat) : Int)), none]) ⟨Or.inr rfl, Or.inr rfl, Or.inr rfl, Or.inr rfl, Or.inl rfl, trivial⟩ ?_
    exact Ev.re rfl (by rw [show ∀ F : Nat → Int, ∀ x y z w : Int, un (un (un (un F 5 x) 4 y) 5 z) 4 w = un (un F 5 z) 4 w from fun F x y z w => by rw [un_sw (f := un F 5 x) (i := 4) (j := 5) (by decide), un_un, un_un]]; rfl) (ih (k + 1) (by omega) (by omega))
theorem k_finUnlike {l : Nat} {s p o t c : Nat} (hS : ShS T s p o t c) (hl : I (s + 11) 0 = (l : Int)) (hl2 : l ≤ 256) (hf : ∀ i, i < l → I (s + 13) i = N (i + 3390) ∧ I (s + 14) i = N (i + 3646)) (hq : Q (some (aI (1 - lakS N l 0))) T I) : EvE G mX1_areUnlike d [aR (s + 11)] T I Q := by
  refine EvE.mk (lv0 := [some (aR (s + 11)), none]) (Nat.le_of_ble_eq_true rfl) (by decide +kernel) rfl ?_
  refine r_iconst (pc := 0) dX1_areUnlike_0 (in32_of rfl) ?_
  refine r_istore_n (pc := 1) (i := 1) (lv' := [_, _]) dX1_areUnlike_1 rfl (by decide) rfl ?_
  refine loop1 (fun (i : Nat) => i ≤ l ∧ lakS N (l - i) i = lakS N l 0) (fun (i : Nat) => l - i) (fun (i : Nat) => [some (aR (s + 11)), some (aI ((i : Nat) : Int))]) (fun _ => T) (fun (i : Nat) => I) ?_ 0 ⟨Nat.zero_le _, rfl⟩
  intro i hP ih
  have hP : i ≤ l ∧ lakS N (l - i) i = lakS N l 0 := hP
  refine (?_ : Ev G mX1_areUnlike d 2 [some (aR (s + 11)), some (aI ((i : Nat) : Int))] [] T I Q)
  refine r_iload_n (pc := 2) (i := 1) dX1_areUnlike_2 rfl rfl ?_
  refine r_aload_n (pc := 3) (i := 0) dX1_areUnlike_3 rfl rfl ?_
  refine r_getfi (pc := 4) cks dX1_areUnlike_4 fl_X1_9 rfl (kS11 hS) (ltS (k := 11) hS (by omega)) ?_
  refine r_top (b := ((l : Nat) : Int)) (hl) ?_
  refine r_icmp_ge (pc := 7) (tgt := 33) dX1_areUnlike_7 rfl (fun c7 => ?_) (fun c7 => ?_)
  · refine r_iconst (pc := 33) dX1_areUnlike_33 (in32_of rfl) ?_
    have hz := hP.2
    rw [show l - i = 0 by omega, show lakS N 0 i = 1 from rfl] at hz
    exact r_iret (pc := 34) dX1_areUnlike_34 (Or.inl rfl) (by rw [← hz] at hq; exact hq)
  · refine r_aload_n (pc := 10) (i := 0) dX1_areUnlike_10 rfl rfl ?_
    refine r_getfr (pc := 11) (b := s + 13) cks dX1_areUnlike_11 fl_X1_19 rfl (kS11 hS) (ltS (k := 11) hS (by omega)) (rS11_2 hS) ?_
    refine r_iload_n (pc := 14) (i := 1) dX1_areUnlike_14 rfl rfl ?_
    refine r_ild (pc := 15) (i) dX1_areUnlike_15 (kS13 hS) (ltS (k := 13) hS (by omega)) rfl (by rw [lS13 hS]; omega) ?_
    refine r_aload_n (pc := 16) (i := 0) dX1_areUnlike_16 rfl rfl ?_
    refine r_getfr (pc := 17) (b := s + 14) cks dX1_areUnlike_17 fl_X1_22 rfl (kS11 hS) (ltS (k := 11) hS (by omega)) (rS11_3 hS) ?_
    refine r_iload_n (pc := 20) (i := 1) dX1_areUnlike_20 rfl rfl ?_
    refine r_ild (pc := 21) (i) dX1_areUnlike_21 (kS14 hS) (ltS (k := 14) hS (by omega)) rfl (by rw [lS14 hS]; omega) ?_
    refine r_icmp_eq (pc := 22) (tgt := 27) dX1_areUnlike_22 rfl (fun c22 => ?_) (fun c22 => ?_)
    · refine r_iincN (pc := 27) (i := 1) (c := ((i + 1 : Nat) : Int)) (lv' := [_, _]) dX1_areUnlike_27 rfl (by decide) (by unfold w32; omega) rfl ?_
      refine r_goto (pc := 30) (tgt := 2) dX1_areUnlike_30 rfl ?_
      have hz := hP.2
      have hfi := hf i (by omega)
      rw [show l - i = (l - (i + 1)) + 1 by omega] at hz
      rw [show lakS N (l - (i + 1) + 1) i = if N (i + 3390) = N (i + 3646) then lakS N (l - (i + 1)) (i + 1) else 0 from rfl, if_pos (by rw [← hfi.1, ← hfi.2]; omega)] at hz
      exact ih (i + 1) ⟨by omega, hz⟩ (by omega)
    · refine r_iconst (pc := 25) dX1_areUnlike_25 (in32_of rfl) ?_
      have hz := hP.2
      have hfi := hf i (by omega)
      rw [show l - i = (l - (i + 1)) + 1 by omega, show lakS N (l - (i + 1) + 1) i = if N (i + 3390) = N (i + 3646) then lakS N (l - (i + 1)) (i + 1) else 0 from rfl, if_neg (by rw [← hfi.1, ← hfi.2]; omega)] at hz
      exact r_iret (pc := 26) dX1_areUnlike_26 (Or.inr rfl) (by rw [← hz] at hq; exact hq)
theorem k_unlikeAlong {q b x0 n : Nat} {s p o t c : Nat} (hS : ShS T s p o t c) (hd : 2 ≤ d) (hn : I (s + 3) 0 = (n : Int)) (hn2 : n ≤ 256) (hq6 : q < 6) (hb : b + x0 ≤ n) (hor : ∀ k, k < n → I (s + 2) (256 * q + k) = (oP N q k : Int) ∧ oP N q k < n) (hky : ∀ k, k < n → I (s + 4) k = N (k + 276) ∧ I (s + 5) k = N (k + 532)) (hq : Q (some (aI ((unP N q b x0 : Nat) : Int))) T I) : EvE G mX9_unlikeAlong d [aR s, aI ((q : Nat) : Int), aI ((b : Nat) : Int), aI ((x0 : Nat) : Int)] T I Q := by
  refine EvE.mk (lv0 := [some (aR s), some (aI ((q : Nat) : Int)), some (aI ((b : Nat) : Int)), some (aI ((x0 : Nat) : Int)), none, none]) (Nat.le_of_ble_eq_true rfl) (by decide +kernel) rfl ?_
  refine r_iconst (pc := 0) dX9_unlikeAlong_0 (in32_of rfl) ?_
  refine r_istore (pc := 1) (i := 4) (lv' := [_, _, _, _, _, _]) dX9_unlikeAlong_1 (by decide) rfl ?_
  refine r_iload_n (pc := 3) (i := 2) dX9_unlikeAlong_3 rfl rfl ?_
  refine r_istore (pc := 4) (i := 5) (lv' := [_, _, _, _, _, _]) dX9_unlikeAlong_4 (by decide) rfl ?_
  refine loop1 (fun (x : Nat) => x ≤ x0) (fun (x : Nat) => x0 - x) (fun (x : Nat) => [some (aR s), some (aI ((q : Nat) : Int)), some (aI ((b : Nat) : Int)), some (aI ((x0 : Nat) : Int)), some (aI (((unP N q b x) : Nat) : Int)), some (aI ((b + x : Nat) : Int))]) (fun _ => T) (fun (x : Nat) => I) ?_ 0 (Nat.zero_le _)
  intro x hP ih
  have hP : x ≤ x0 := hP
  refine (?_ : Ev G mX9_unlikeAlong d 6 [some (aR s), some (aI ((q : Nat) : Int)), some (aI ((b : Nat) : Int)), some (aI ((x0 : Nat) : Int)), some (aI (((unP N q b x) : Nat) : Int)), some (aI ((b + x : Nat) : Int))] [] T I Q)
  refine r_iload (pc := 6) (i := 5) dX9_unlikeAlong_6 rfl ?_
  refine r_iload_n (pc := 8) (i := 2) dX9_unlikeAlong_8 rfl rfl ?_
  refine r_iload_n (pc := 9) (i := 3) dX9_unlikeAlong_9 rfl rfl ?_
  refine r_iaddN (pc := 10) (c := ((b + x0 : Nat) : Int)) dX9_unlikeAlong_10 (by unfold w32; omega) ?_
  refine r_icmp_ge (pc := 11) (tgt := 47) dX9_unlikeAlong_11 rfl (fun c11 => ?_) (fun c11 => ?_)
  · refine r_iload (pc := 47) (i := 4) dX9_unlikeAlong_47 rfl ?_
    exact r_iret (pc := 49) dX9_unlikeAlong_49 trivial (by rw [show x0 = x by omega] at hq; exact hq)
  · refine r_iload (pc := 14) (i := 4) dX9_unlikeAlong_14 rfl ?_
    refine r_aload_n (pc := 16) (i := 0) dX9_unlikeAlong_16 rfl rfl ?_
    refine r_getfr (pc := 17) (b := s + 3) cks dX9_unlikeAlong_17 fl_X9_49 rfl (kS0 hS) (ltS0 hS) (rS0_11 hS) ?_
    refine r_aload_n (pc := 20) (i := 0) dX9_unlikeAlong_20 rfl rfl ?_
    refine r_iload_n (pc := 21) (i := 1) dX9_unlikeAlong_21 rfl rfl ?_
    refine r_iload (pc := 22) (i := 5) dX9_unlikeAlong_22 rfl ?_
    refine r_callV1 (pc := 24) (d - 1) [aI ((q : Nat) : Int), aI ((b + x : Nat) : Int)] dX9_unlikeAlong_24 (CV.mk2 mk_X9_ordered lk_X9_98) (RC.of (ltS0 hS) (kS0 hS) (by decide) rfl) rfl rfl (by omega) (Nat.le_of_ble_eq_true rfl) (Nat.le_of_ble_eq_true rfl) (k_ordered (q := q) (k := b + x) hS (by omega) ?_)
    refine ⟨_, rfl, fun _ => ?_⟩
    have hxn := hor (b + x) (by omega)
    refine r_top (b := ((oP N q (b + x) : Nat) : Int)) hxn.1 ?_
    refine r_callV1 (pc := 27) (d - 1) [aI (((oP N q (b + x)) : Nat) : Int)] dX9_unlikeAlong_27 (CV.mk2 mk_X3_isUnlike lk_X9_102) (RC.of (ltS (k := 3) hS (by omega)) (kS3 hS) (by decide) rfl) rfl rfl (by omega) (Nat.le_of_ble_eq_true rfl) (Nat.le_of_ble_eq_true rfl) (k_isUnlike (n := n) hS (by omega) hn hn2 ?_)
    refine ⟨_, rfl, fun _ => ?_⟩
    refine r_if_eq (pc := 30) (tgt := 37) dX9_unlikeAlong_30 rfl (fun c30 => ?_) (fun c30 => ?_)
    · refine r_iconst (pc := 37) dX9_unlikeAlong_37 (in32_of rfl) ?_
      refine r_iaddN (pc := 38) (c := (((unP N q b x : Nat) : Int) + 0)) dX9_unlikeAlong_38 (by have := unP_le N q b x; unfold w32; omega) ?_
      refine r_istore (pc := 39) (i := 4) (lv' := [_, _, _, _, _, _]) dX9_unlikeAlong_39 (by decide) rfl ?_
      refine r_iincN (pc := 41) (i := 5) (c := ((b + x + 1 : Nat) : Int)) (lv' := [_, _, _, _, _, _]) dX9_unlikeAlong_41 rfl (by decide) (by unfold w32; omega) rfl ?_
      refine r_goto (pc := 44) (tgt := 6) dX9_unlikeAlong_44 rfl ?_
      have hkv := kuA_v (J := I) (s := s) (M := N) hxn.2 (hky _ hxn.2).1 (hky _ hxn.2).2
      have hk01 : kuA I s n (oP N q (b + x) : Int) = 0 := by have h01 : kuA I s n (oP N q (b + x) : Int) = 0 ∨ kuA I s n (oP N q (b + x) : Int) = 1 := bi_01 _; omega
      refine Ev.re (by rw [show ((unP N q b x : Nat) : Int) + 0 = ((unP N q b (x + 1) : Nat) : Int) from by rw [unP_succ]; rw [hk01] at hkv; by_cases g : N (oP N q (b + x) + 276) = N (oP N q (b + x) + 532); (rw [if_pos g] at hkv ⊢; omega); (rw [if_neg g] at hkv ⊢; omega), Nat.add_assoc]) rfl (ih (x + 1) (by omega) (by omega))
    · refine r_iconst (pc := 33) dX9_unlikeAlong_33 (in32_of rfl) ?_
      refine r_goto (pc := 34) (tgt := 38) dX9_unlikeAlong_34 rfl ?_
      refine r_iaddN (pc := 38) (c := (((unP N q b x : Nat) : Int) + 1)) dX9_unlikeAlong_38 (by have := unP_le N q b x; unfold w32; omega) ?_
      refine r_istore (pc := 39) (i := 4) (lv' := [_, _, _, _, _, _]) dX9_unlikeAlong_39 (by decide) rfl ?_
      refine r_iincN (pc := 41) (i := 5) (c := ((b + x + 1 : Nat) : Int)) (lv' := [_, _, _, _, _, _]) dX9_unlikeAlong_41 rfl (by decide) (by unfold w32; omega) rfl ?_
      refine r_goto (pc := 44) (tgt := 6) dX9_unlikeAlong_44 rfl ?_
      have hkv := kuA_v (J := I) (s := s) (M := N) hxn.2 (hky _ hxn.2).1 (hky _ hxn.2).2
      have hk01 : kuA I s n (oP N q (b + x) : Int) = 1 := by have h01 : kuA I s n (oP N q (b + x) : Int) = 0 ∨ kuA I s n (oP N q (b + x) : Int) = 1 := bi_01 _; omega
      refine Ev.re (by rw [show ((unP N q b x : Nat) : Int) + 1 = ((unP N q b (x + 1) : Nat) : Int) from by rw [unP_succ]; rw [hk01] at hkv; by_cases g : N (oP N q (b + x) + 276) = N (oP N q (b + x) + 532); (rw [if_pos g] at hkv ⊢; omega); (rw [if_neg g] at hkv ⊢; omega), Nat.add_assoc]) rfl (ih (x + 1) (by omega) (by omega))
end C39

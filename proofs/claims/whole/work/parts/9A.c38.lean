section C38
variable {G : Gl} {d : Nat} {T : Sh} {I : Mi} {N : Nat → Int} {Q : Option AV → Sh → Mi → Prop}
/-- a long's 64 bits as a plain number -/
def uL (x : Int) : Nat := (oL x).toBitVec.toNat
theorem uL_eq (x : Int) : uL x = (x % 18446744073709551616).toNat := by
  show (BitVec.ofInt 64 x).toNat = _
  rw [BitVec.toNat_ofInt]
  rfl
theorem uL_lt (x : Int) : uL x < 18446744073709551616 := (oL x).toBitVec.isLt
theorem uL_and (x y : Int) : uL (lan x y) = uL x &&& uL y := by
  unfold uL lan
  rw [o_toL]
  rfl
theorem uL_us (x : Int) {s : Nat} (hs : s < 64) : uL (lus x (s : Int)) = uL x / 2 ^ s := by
  unfold uL lus
  rw [o_toL]
  have h := shU64 s hs
  have e : ((oL x).toUInt64 >>> ((oI (s : Int)).toInt64.toUInt64 &&& Int64.toUInt64 63)).toInt64.toBitVec = (oL x).toBitVec >>> (((oI (s : Int)).toInt64.toUInt64 &&& Int64.toUInt64 63).toBitVec % 64) := rfl
  rw [e, BitVec.ushiftRight_eq']
  rw [show ((((oI (s : Int)).toInt64.toUInt64 &&& Int64.toUInt64 63).toBitVec % 64)).toNat = s from h, BitVec.toNat_ushiftRight, Nat.shiftRight_eq_div_pow]
theorem uL_add (x y : Int) : uL (w64 (x + y)) = (uL x + uL y) % 18446744073709551616 := by
  rw [uL_eq, uL_eq, uL_eq]
  unfold w64
  omega
theorem uL_sub {x y : Int} (h : uL y ≤ uL x) : uL (w64 (x - y)) = uL x - uL y := by
  rw [uL_eq, uL_eq] at h
  rw [uL_eq, uL_eq, uL_eq]
  unfold w64
  omega
theorem uL_nat {n : Nat} (h : n < 18446744073709551616) : uL (n : Int) = n := by rw [uL_eq]; omega
theorem b64_uL (x : Int) (k : Nat) : b64 x k = (uL x).testBit k := (BitVec.testBit_toNat _).symm
theorem ian_127 (y : Int) : ian y 127 = y % 128 := by
  have h0 : 0 ≤ y % 128 ∧ y % 128 < 128 := by omega
  obtain ⟨r, hr⟩ : ∃ r : Nat, y % 128 = (r : Int) := ⟨(y % 128).toNat, by omega⟩
  rw [hr]
  refine ext32 (ian_in _ _) (nat_lt31 (by omega)) (fun k hk => ?_)
  rw [b32_and, show (127 : Int) = ((2 ^ 7 - 1 : Nat) : Int) by decide, b32_nat, b32_nat, Nat.testBit_two_pow_sub_one]
  have e : (oI y).toBitVec.toNat = (y % 4294967296).toNat := by
    show (BitVec.ofInt 32 y).toNat = _
    rw [BitVec.toNat_ofInt]
    rfl
  have e2 : b32 y k = ((oI y).toBitVec.toNat).testBit k := by unfold b32; rw [BitVec.testBit_toNat]
  have e3 : r = (y % 4294967296).toNat % 2 ^ 7 := by
    rw [show (2 : Nat) ^ 7 = 128 by decide]
    omega
  rw [e2, e, e3, Nat.testBit_mod_two_pow]
  by_cases g : k < 7 <;> simp [g, hk]
/-- a number's k-th byte -/
def B8 (X k : Nat) : Nat := X / 256 ^ k % 256
theorem B8_lt (X k : Nat) : B8 X k < 256 := Nat.mod_lt _ (by decide)
theorem p256 (k : Nat) : (256 : Nat) ^ k = 2 ^ (8 * k) := by rw [Nat.pow_mul]
theorem B8_and (X Y k : Nat) : B8 (X &&& Y) k = B8 X k &&& B8 Y k := by
  unfold B8
  rw [p256, Nat.and_div_two_pow, show (256 : Nat) = 2 ^ 8 by decide, Nat.and_mod_two_pow]
theorem B8_q (X k s : Nat) : X / s / 256 ^ k = X / 256 ^ k / s := by rw [Nat.div_div_eq_div_mul, Nat.div_div_eq_div_mul, Nat.mul_comm]
theorem B8_s (X k : Nat) : B8 X (k + 1) = X / 256 ^ k / 256 % 256 := by unfold B8; rw [Nat.pow_succ, ← Nat.div_div_eq_div_mul]
theorem B8_r1 (X k : Nat) : B8 (X / 2) k = B8 X k / 2 + B8 X (k + 1) % 2 * 128 := by
  rw [B8_s]
  unfold B8
  rw [B8_q]
  generalize X / 256 ^ k = q
  omega
theorem B8_r2 (X k : Nat) : B8 (X / 4) k = B8 X k / 4 + B8 X (k + 1) % 4 * 64 := by
  rw [B8_s]
  unfold B8
  rw [B8_q]
  generalize X / 256 ^ k = q
  omega
theorem B8_r4 (X k : Nat) : B8 (X / 16) k = B8 X k / 16 + B8 X (k + 1) % 16 * 16 := by
  rw [B8_s]
  unfold B8
  rw [B8_q]
  generalize X / 256 ^ k = q
  omega
theorem B8_sh (X k j : Nat) : B8 (X / 256 ^ j) k = B8 X (k + j) := by unfold B8; rw [Nat.div_div_eq_div_mul, ← Nat.pow_add, Nat.add_comm j k]
theorem dv_add {X Y : Nat} : ∀ k, (∀ j, j < k → B8 X j + B8 Y j < 256) → (X + Y) / 256 ^ k = X / 256 ^ k + Y / 256 ^ k := by
  intro k
  induction k with
  | zero => intro _; rw [Nat.pow_zero, Nat.div_one, Nat.div_one, Nat.div_one]
  | succ k ih =>
    intro h
    have h1 := ih (fun j hj => h j (by omega))
    have h2 := h k (by omega)
    unfold B8 at h2
    rw [Nat.pow_succ, ← Nat.div_div_eq_div_mul, ← Nat.div_div_eq_div_mul, ← Nat.div_div_eq_div_mul, h1]
    omega
theorem B8_add {X Y k : Nat} (h : ∀ j, j < k + 1 → B8 X j + B8 Y j < 256) : B8 (X + Y) k = B8 X k + B8 Y k := by
  have h1 := dv_add (X := X) (Y := Y) k (fun j hj => h j (by omega))
  have h2 := h k (by omega)
  unfold B8 at h2 ⊢
  rw [h1]
  omega
theorem dv_sub {X Y : Nat} (hle : ∀ j, B8 Y j ≤ B8 X j) (hXY : Y ≤ X) : ∀ k, (X - Y) / 256 ^ k = X / 256 ^ k - Y / 256 ^ k ∧ Y / 256 ^ k ≤ X / 256 ^ k := by
  intro k
  induction k with
  | zero => rw [Nat.pow_zero, Nat.div_one, Nat.div_one, Nat.div_one]; exact ⟨rfl, hXY⟩
  | succ k ih =>
    have h2 := hle k
    unfold B8 at h2
    rw [Nat.pow_succ, ← Nat.div_div_eq_div_mul, ← Nat.div_div_eq_div_mul, ← Nat.div_div_eq_div_mul, ih.1]
    have := ih.2
    omega
theorem B8_sub {X Y : Nat} (hle : ∀ j, B8 Y j ≤ B8 X j) (hXY : Y ≤ X) (k : Nat) : B8 (X - Y) k = B8 X k - B8 Y k := by
  have h1 := dv_sub hle hXY k
  have h2 := hle k
  unfold B8 at h2 ⊢
  rw [h1.1]
  have := h1.2
  omega
theorem B8_md {X k : Nat} (hk : k < 8) : B8 (X % 18446744073709551616) k = B8 X k := by
  have : k = 0 ∨ k = 1 ∨ k = 2 ∨ k = 3 ∨ k = 4 ∨ k = 5 ∨ k = 6 ∨ k = 7 := by omega
  unfold B8
  rcases this with rfl | rfl | rfl | rfl | rfl | rfl | rfl | rfl
  · rw [show (256 : Nat) ^ 0 = 1 by decide]; omega
  · rw [show (256 : Nat) ^ 1 = 256 by decide]; omega
  · rw [show (256 : Nat) ^ 2 = 65536 by decide]; omega
  · rw [show (256 : Nat) ^ 3 = 16777216 by decide]; omega
  · rw [show (256 : Nat) ^ 4 = 4294967296 by decide]; omega
  · rw [show (256 : Nat) ^ 5 = 1099511627776 by decide]; omega
  · rw [show (256 : Nat) ^ 6 = 281474976710656 by decide]; omega
  · rw [show (256 : Nat) ^ 7 = 72057594037927936 by decide]; omega
theorem B8_ge {X k : Nat} (h : X < 18446744073709551616) (hk : 8 ≤ k) : B8 X k = 0 := by
  unfold B8
  have : (256 : Nat) ^ 8 ≤ 256 ^ k := Nat.pow_le_pow_right (by decide) hk
  rw [show (256 : Nat) ^ 8 = 18446744073709551616 by decide] at this
  rw [Nat.div_eq_of_lt (by omega)]
theorem le_of_and {X Y : Nat} : X &&& Y ≤ X := Nat.and_le_left
/-- how many of the first are true -/
def cnB (f : Nat → Bool) : Nat → Nat
  | 0 => 0
  | k + 1 => cnB f k + if f k = true then 1 else 0
theorem cnB_add (f : Nat → Bool) (a : Nat) : ∀ m, cnB f (a + m) = cnB f a + cnB (fun r => f (a + r)) m := by
  intro m
  induction m with
  | zero => rfl
  | succ m ih =>
    show cnB f (a + m) + (if f (a + m) = true then 1 else 0) = cnB f a + (cnB (fun r => f (a + r)) m + (if f (a + m) = true then 1 else 0))
    rw [ih, Nat.add_assoc]
theorem cnB_ext {f g : Nat → Bool} : ∀ m, (∀ i, i < m → f i = g i) → cnB f m = cnB g m := by
  intro m
  induction m with
  | zero => intro _; rfl
  | succ m ih =>
    intro h
    show cnB f m + _ = cnB g m + _
    rw [ih (fun i hi => h i (by omega)), h m (by omega)]
def pb8 (a : Nat) : Nat := cnB (fun r => a.testBit r) 8
def f1B (a : Nat) : Nat := a - (a / 2 &&& 85)
def f2B (b : Nat) : Nat := (b &&& 51) + (b / 4 &&& 51)
theorem F1B : ∀ a, a < 256 → ∀ c, c < 2 → ((a / 2 + c * 128) &&& 85) ≤ a ∧ (a / 2 + c * 128) &&& 85 = a / 2 &&& 85 := by decide +kernel
theorem F2B : ∀ b, b < 256 → ∀ c, c < 4 → (b / 4 + c * 64) &&& 51 = b / 4 &&& 51 ∧ (b &&& 51) + (b / 4 &&& 51) < 256 := by decide +kernel
theorem F3B : ∀ a, a < 256 → f1B a < 256 ∧ f2B (f1B a) % 16 ≤ 4 ∧ f2B (f1B a) / 16 ≤ 4 ∧ f2B (f1B a) < 256 ∧ f2B (f1B a) % 16 + f2B (f1B a) / 16 = pb8 a ∧ pb8 a ≤ 8 := by decide +kernel
theorem F4B : ∀ c, c < 16 → ∀ b, b ≤ 4 → ∀ e, e ≤ 4 → (16 * b + c + (b + e * 16)) &&& 15 = (c + b) % 16 := by decide +kernel
theorem B8_85 : ∀ k, k < 8 → B8 6148914691236517205 k = 85 ∧ B8 3689348814741910323 k = 51 ∧ B8 1085102592571150095 k = 15 := by decide +kernel
theorem bit_B8 (X k r : Nat) (hr : r < 8) : X.testBit (8 * k + r) = (B8 X k).testBit r := by
  unfold B8
  rw [p256, show (256 : Nat) = 2 ^ 8 by decide, Nat.testBit_mod_two_pow, Nat.testBit_div_two_pow, Nat.add_comm r]
  simp [hr]
theorem cn64 (X : Nat) : cnB (fun j => X.testBit j) 64 = pb8 (B8 X 0) + pb8 (B8 X 1) + pb8 (B8 X 2) + pb8 (B8 X 3) + pb8 (B8 X 4) + pb8 (B8 X 5) + pb8 (B8 X 6) + pb8 (B8 X 7) := by
  have h : ∀ k, cnB (fun j => X.testBit j) (8 * k + 8) = cnB (fun j => X.testBit j) (8 * k) + pb8 (B8 X k) := by
    intro k
    rw [cnB_add]
    unfold pb8
    rw [cnB_ext 8 (fun r hr => bit_B8 X k r hr)]
  have h0 : cnB (fun j => X.testBit j) 8 = cnB (fun j => X.testBit j) 0 + pb8 (B8 X 0) := h 0
  have h1 : cnB (fun j => X.testBit j) 16 = cnB (fun j => X.testBit j) 8 + pb8 (B8 X 1) := h 1
  have h2 : cnB (fun j => X.testBit j) 24 = cnB (fun j => X.testBit j) 16 + pb8 (B8 X 2) := h 2
  have h3 : cnB (fun j => X.testBit j) 32 = cnB (fun j => X.testBit j) 24 + pb8 (B8 X 3) := h 3
  have h4 : cnB (fun j => X.testBit j) 40 = cnB (fun j => X.testBit j) 32 + pb8 (B8 X 4) := h 4
  have h5 : cnB (fun j => X.testBit j) 48 = cnB (fun j => X.testBit j) 40 + pb8 (B8 X 5) := h 5
  have h6 : cnB (fun j => X.testBit j) 56 = cnB (fun j => X.testBit j) 48 + pb8 (B8 X 6) := h 6
  have h7 : cnB (fun j => X.testBit j) 64 = cnB (fun j => X.testBit j) 56 + pb8 (B8 X 7) := h 7
  have hz : cnB (fun j => X.testBit j) 0 = 0 := rfl
  omega
theorem bc_nat {X Y1 Y2 Y3 Y4 Y5 Y6 : Nat} (hX : X < 18446744073709551616) (h1 : Y1 = X - (X / 2 &&& 6148914691236517205)) (h2 : Y2 = ((Y1 &&& 3689348814741910323) + (Y1 / 4 &&& 3689348814741910323)) % 18446744073709551616) (h3 : Y3 = (Y2 + Y2 / 16) % 18446744073709551616 &&& 1085102592571150095)
   (h4 : Y4 = (Y3 + Y3 / 256) % 18446744073709551616) (h5 : Y5 = (Y4 + Y4 / 65536) % 18446744073709551616) (h6 : Y6 = (Y5 + Y5 / 4294967296) % 18446744073709551616) : Y6 % 128 = cnB (fun j => X.testBit j) 64 ∧ X / 2 &&& 6148914691236517205 ≤ X := by
  have hm8 : ∀ k, 8 ≤ k → B8 6148914691236517205 k = 0 ∧ B8 3689348814741910323 k = 0 ∧ B8 1085102592571150095 k = 0 := fun k hk => ⟨B8_ge (by decide) hk, B8_ge (by decide) hk, B8_ge (by decide) hk⟩
  have hle : X / 2 &&& 6148914691236517205 ≤ X := Nat.le_trans Nat.and_le_left (Nat.div_le_self _ _)
  have hb : ∀ j, B8 (X / 2 &&& 6148914691236517205) j ≤ B8 X j ∧ (j < 8 → B8 (X / 2 &&& 6148914691236517205) j = B8 X j / 2 &&& 85) := by
    intro j
    rw [B8_and, B8_r1]
    have hf := F1B (B8 X j) (B8_lt _ _) (B8 X (j + 1) % 2) (Nat.mod_lt _ (by decide))
    by_cases hj : j < 8
    · rw [(B8_85 j hj).1]
      exact ⟨hf.1, fun _ => hf.2⟩
    · rw [(hm8 j (by omega)).1, Nat.and_zero]
      exact ⟨Nat.zero_le _, fun h => absurd h hj⟩
  have e1 : ∀ j, j < 8 → B8 Y1 j = f1B (B8 X j) := by
    intro j hj
    rw [h1, B8_sub (fun j => (hb j).1) hle, (hb j).2 hj]
    rfl
  have g3 := fun j => F3B (B8 X j) (B8_lt _ _)
  have e2 : ∀ j, j < 8 → B8 Y2 j = f2B (f1B (B8 X j)) := by
    intro j hj
    have ha : ∀ i, i < 8 → B8 (Y1 &&& 3689348814741910323) i = f1B (B8 X i) &&& 51 ∧ B8 (Y1 / 4 &&& 3689348814741910323) i = f1B (B8 X i) / 4 &&& 51 := by
      intro i hi
      rw [B8_and, B8_and, B8_r2, (B8_85 i hi).2.1, e1 i hi]
      exact ⟨rfl, (F2B _ (g3 i).1 _ (Nat.mod_lt _ (by decide))).1⟩
    rw [h2, B8_md hj, B8_add (fun i hi => by rw [(ha i (by omega)).1, (ha i (by omega)).2]; exact (F2B _ (g3 i).1 0 (by decide)).2), (ha j hj).1, (ha j hj).2]
    rfl
  have y2lt : Y2 < 18446744073709551616 := by rw [h2]; exact Nat.mod_lt _ (by decide)
  have n2 : ∀ j, B8 Y2 j % 16 ≤ 4 ∧ B8 Y2 j / 16 ≤ 4 := by
    intro j
    by_cases hj : j < 8
    · rw [e2 j hj]; exact ⟨(g3 j).2.1, (g3 j).2.2.1⟩
    · rw [B8_ge y2lt (by omega)]; exact ⟨by decide, by decide⟩
  have e3 : ∀ j, j < 8 → B8 Y3 j = pb8 (B8 X j) := by
    intro j hj
    have hs : ∀ i, B8 Y2 i + B8 (Y2 / 16) i < 256 := by
      intro i
      rw [B8_r4]
      have q1 := n2 i
      have q2 := n2 (i + 1)
      omega
    rw [h3, B8_and, B8_md hj, B8_add (fun i _ => hs i), (B8_85 j hj).2.2, B8_r4]
    have q1 := n2 j
    have q2 := n2 (j + 1)
    have hf := F4B (B8 Y2 j % 16) (Nat.mod_lt _ (by decide)) (B8 Y2 j / 16) q1.2 (B8 Y2 (j + 1) % 16) q2.1
    rw [show 16 * (B8 Y2 j / 16) + B8 Y2 j % 16 = B8 Y2 j by omega] at hf
    rw [hf]
    have q3 := (g3 j).2.2.2.2.1
    rw [← e2 j hj] at q3
    omega
  have y3lt : Y3 < 18446744073709551616 := by rw [h3]; exact Nat.lt_of_le_of_lt Nat.and_le_left (Nat.mod_lt _ (by decide))
  have n3 : ∀ j, B8 Y3 j ≤ 8 := by
    intro j
    by_cases hj : j < 8
    · rw [e3 j hj]; exact (g3 j).2.2.2.2.2
    · rw [B8_ge y3lt (by omega)]; exact Nat.zero_le _
  have e4 : ∀ j, j < 8 → B8 Y4 j = B8 Y3 j + B8 Y3 (j + 1) := by
    intro j hj
    have hh : ∀ i, B8 (Y3 / 256) i = B8 Y3 (i + 1) := fun i => by
      have := B8_sh Y3 i 1
      rw [Nat.pow_one] at this
      exact this
    rw [h4, B8_md hj, B8_add (fun i _ => by rw [hh]; have := n3 i; have := n3 (i + 1); omega), hh]
  have y4lt : Y4 < 18446744073709551616 := by rw [h4]; exact Nat.mod_lt _ (by decide)
  have n4 : ∀ j, B8 Y4 j ≤ 16 := by
    intro j
    by_cases hj : j < 8
    · rw [e4 j hj]; have := n3 j; have := n3 (j + 1); omega
    · rw [B8_ge y4lt (by omega)]; exact Nat.zero_le _
  have e5 : ∀ j, j < 8 → B8 Y5 j = B8 Y4 j + B8 Y4 (j + 2) := by
    intro j hj
    have hh : ∀ i, B8 (Y4 / 65536) i = B8 Y4 (i + 2) := fun i => by
      have := B8_sh Y4 i 2
      rw [show (256 : Nat) ^ 2 = 65536 by decide] at this
      exact this
    rw [h5, B8_md hj, B8_add (fun i _ => by rw [hh]; have := n4 i; have := n4 (i + 2); omega), hh]
  have y5lt : Y5 < 18446744073709551616 := by rw [h5]; exact Nat.mod_lt _ (by decide)
  have n5 : ∀ j, B8 Y5 j ≤ 32 := by
    intro j
    by_cases hj : j < 8
    · rw [e5 j hj]; have := n4 j; have := n4 (j + 2); omega
    · rw [B8_ge y5lt (by omega)]; exact Nat.zero_le _
  have e6 : B8 Y6 0 = B8 Y5 0 + B8 Y5 4 := by
    have hh : ∀ i, B8 (Y5 / 4294967296) i = B8 Y5 (i + 4) := fun i => by
      have := B8_sh Y5 i 4
      rw [show (256 : Nat) ^ 4 = 4294967296 by decide] at this
      exact this
    rw [h6, B8_md (by decide), B8_add (fun i _ => by rw [hh]; have := n5 i; have := n5 (i + 4); omega), hh]
  have c := cn64 X
  have v0 := e3 0 (by decide)
  have v1 := e3 1 (by decide)
  have v2 := e3 2 (by decide)
  have v3 := e3 3 (by decide)
  have v4 := e3 4 (by decide)
  have v5 := e3 5 (by decide)
  have v6 := e3 6 (by decide)
  have v7 := e3 7 (by decide)
  have w0 := e4 0 (by decide)
  have w2 := e4 2 (by decide)
  have w4 := e4 4 (by decide)
  have w6 := e4 6 (by decide)
  have z0 := e5 0 (by decide)
  have z4 := e5 4 (by decide)
  have k5 := n5 0
  have k54 := n5 4
  have hB : B8 Y6 0 = Y6 % 256 := by unfold B8; rw [Nat.pow_zero, Nat.div_one]
  refine ⟨?_, hle⟩
  simp only [Nat.reduceAdd] at w0 w2 w4 w6 z0 z4
  omega
theorem bc_all {x y1 y2 y3 y4 y5 y6 : Int} (h1 : y1 = w64 (x - lan (lus x 1) 6148914691236517205)) (h2 : y2 = w64 (lan y1 3689348814741910323 + lan (lus y1 2) 3689348814741910323)) (h3 : y3 = lan (w64 (y2 + lus y2 4)) 1085102592571150095)
   (h4 : y4 = w64 (y3 + lus y3 8)) (h5 : y5 = w64 (y4 + lus y4 16)) (h6 : y6 = w64 (y5 + lus y5 32)) : ian (w32 y6) 127 = ((cnB (fun j => b64 x j) 64 : Nat) : Int) := by
  have c1 : uL 6148914691236517205 = 6148914691236517205 := uL_nat (n := 6148914691236517205) (by decide)
  have c2 : uL 3689348814741910323 = 3689348814741910323 := uL_nat (n := 3689348814741910323) (by decide)
  have c3 : uL 1085102592571150095 = 1085102592571150095 := uL_nat (n := 1085102592571150095) (by decide)
  have s1 := uL_us x (s := 1) (by decide)
  have s2 := uL_us y1 (s := 2) (by decide)
  have s3 := uL_us y2 (s := 4) (by decide)
  have s4 := uL_us y3 (s := 8) (by decide)
  have s5 := uL_us y4 (s := 16) (by decide)
  have s6 := uL_us y5 (s := 32) (by decide)
  have hle : uL (lan (lus x 1) 6148914691236517205) ≤ uL x := by
    rw [uL_and]
    refine Nat.le_trans Nat.and_le_left ?_
    have e : uL (lus x 1) = uL x / 2 ^ 1 := s1
    rw [e]
    exact Nat.div_le_self _ _
  have n1 : uL y1 = uL x - (uL x / 2 &&& 6148914691236517205) := by
    rw [h1, uL_sub hle, uL_and, c1]
    have e : uL (lus x 1) = uL x / 2 ^ 1 := s1
    rw [e]
  have n2 : uL y2 = ((uL y1 &&& 3689348814741910323) + (uL y1 / 4 &&& 3689348814741910323)) % 18446744073709551616 := by
    rw [h2, uL_add, uL_and, uL_and, c2]
    have e : uL (lus y1 2) = uL y1 / 2 ^ 2 := s2
    rw [e]
  have n3 : uL y3 = (uL y2 + uL y2 / 16) % 18446744073709551616 &&& 1085102592571150095 := by
    rw [h3, uL_and, uL_add, c3]
    have e : uL (lus y2 4) = uL y2 / 2 ^ 4 := s3
    rw [e]
  have n4 : uL y4 = (uL y3 + uL y3 / 256) % 18446744073709551616 := by
    rw [h4, uL_add]
    have e : uL (lus y3 8) = uL y3 / 2 ^ 8 := s4
    rw [e]
  have n5 : uL y5 = (uL y4 + uL y4 / 65536) % 18446744073709551616 := by
    rw [h5, uL_add]
    have e : uL (lus y4 16) = uL y4 / 2 ^ 16 := s5
    rw [e]
  have n6 : uL y6 = (uL y5 + uL y5 / 4294967296) % 18446744073709551616 := by
    rw [h6, uL_add]
    have e : uL (lus y5 32) = uL y5 / 2 ^ 32 := s6
    rw [e]
  have h := (bc_nat (uL_lt x) n1 n2 n3 n4 n5 n6).1
  rw [ian_127]
  have e : cnB (fun j => b64 x j) 64 = cnB (fun j => (uL x).testBit j) 64 := cnB_ext _ (fun i _ => b64_uL x i)
  rw [e, ← h]
  have e2 := uL_eq y6
  unfold w32
  omega
theorem k_bitCount {x : Int} (hq : Q (some (aI ((cnB (fun j => b64 x j) 64 : Nat) : Int))) T I) : EvE G mJ13_bitCount_95d88 d [aL x] T I Q := by
  refine EvE.mk (lv0 := [some (aL x), none]) (Nat.le_of_ble_eq_true rfl) (by decide +kernel) rfl ?_
  refine r_lload_n (pc := 0) (i := 0) dJ13_bitCount_95d88_0 rfl rfl ?_
  refine r_lload_n (pc := 1) (i := 0) dJ13_bitCount_95d88_1 rfl rfl ?_
  refine r_iconst (pc := 2) dJ13_bitCount_95d88_2 (in32_of rfl) ?_
  refine r_lushr (pc := 3) dJ13_bitCount_95d88_3 ?_
  refine r_ldc2 (pc := 4) (n := 6148914691236517205) dJ13_bitCount_95d88_4 cn_J13_314 (in64_of rfl) ?_
  refine r_land (pc := 7) dJ13_bitCount_95d88_7 ?_
  refine r_lsub (pc := 8) dJ13_bitCount_95d88_8 ?_
  refine r_lstore_n (pc := 9) (i := 0) (lv' := [_, _]) dJ13_bitCount_95d88_9 rfl (by decide) rfl ?_
  obtain ⟨y1, hy1⟩ : ∃ y : Int, y = (w64 (x - (lan (lus x 1) 6148914691236517205))) := ⟨_, rfl⟩
  rw [← hy1]
  refine r_lload_n (pc := 10) (i := 0) dJ13_bitCount_95d88_10 rfl rfl ?_
  refine r_ldc2 (pc := 11) (n := 3689348814741910323) dJ13_bitCount_95d88_11 cn_J13_316 (in64_of rfl) ?_
  refine r_land (pc := 14) dJ13_bitCount_95d88_14 ?_
  refine r_lload_n (pc := 15) (i := 0) dJ13_bitCount_95d88_15 rfl rfl ?_
  refine r_iconst (pc := 16) dJ13_bitCount_95d88_16 (in32_of rfl) ?_
  refine r_lushr (pc := 17) dJ13_bitCount_95d88_17 ?_
  refine r_ldc2 (pc := 18) (n := 3689348814741910323) dJ13_bitCount_95d88_18 cn_J13_316 (in64_of rfl) ?_
  refine r_land (pc := 21) dJ13_bitCount_95d88_21 ?_
  refine r_ladd (pc := 22) dJ13_bitCount_95d88_22 ?_
  refine r_lstore_n (pc := 23) (i := 0) (lv' := [_, _]) dJ13_bitCount_95d88_23 rfl (by decide) rfl ?_
  obtain ⟨y2, hy2⟩ : ∃ y : Int, y = (w64 ((lan y1 3689348814741910323) + (lan (lus y1 2) 3689348814741910323))) := ⟨_, rfl⟩
  rw [← hy2]
  refine r_lload_n (pc := 24) (i := 0) dJ13_bitCount_95d88_24 rfl rfl ?_
  refine r_lload_n (pc := 25) (i := 0) dJ13_bitCount_95d88_25 rfl rfl ?_
  refine r_iconst (pc := 26) dJ13_bitCount_95d88_26 (in32_of rfl) ?_
  refine r_lushr (pc := 27) dJ13_bitCount_95d88_27 ?_
  refine r_ladd (pc := 28) dJ13_bitCount_95d88_28 ?_
  refine r_ldc2 (pc := 29) (n := 1085102592571150095) dJ13_bitCount_95d88_29 cn_J13_318 (in64_of rfl) ?_
  refine r_land (pc := 32) dJ13_bitCount_95d88_32 ?_
  refine r_lstore_n (pc := 33) (i := 0) (lv' := [_, _]) dJ13_bitCount_95d88_33 rfl (by decide) rfl ?_
  obtain ⟨y3, hy3⟩ : ∃ y : Int, y = (lan (w64 (y2 + (lus y2 4))) 1085102592571150095) := ⟨_, rfl⟩
  rw [← hy3]
  refine r_lload_n (pc := 34) (i := 0) dJ13_bitCount_95d88_34 rfl rfl ?_
  refine r_lload_n (pc := 35) (i := 0) dJ13_bitCount_95d88_35 rfl rfl ?_
  refine r_bipush (pc := 36) dJ13_bitCount_95d88_36 rfl (in32_of rfl) ?_
  refine r_lushr (pc := 38) dJ13_bitCount_95d88_38 ?_
  refine r_ladd (pc := 39) dJ13_bitCount_95d88_39 ?_
  refine r_lstore_n (pc := 40) (i := 0) (lv' := [_, _]) dJ13_bitCount_95d88_40 rfl (by decide) rfl ?_
  obtain ⟨y4, hy4⟩ : ∃ y : Int, y = (w64 (y3 + (lus y3 8))) := ⟨_, rfl⟩
  rw [← hy4]
  refine r_lload_n (pc := 41) (i := 0) dJ13_bitCount_95d88_41 rfl rfl ?_
  refine r_lload_n (pc := 42) (i := 0) dJ13_bitCount_95d88_42 rfl rfl ?_
  refine r_bipush (pc := 43) dJ13_bitCount_95d88_43 rfl (in32_of rfl) ?_
  refine r_lushr (pc := 45) dJ13_bitCount_95d88_45 ?_
  refine r_ladd (pc := 46) dJ13_bitCount_95d88_46 ?_
  refine r_lstore_n (pc := 47) (i := 0) (lv' := [_, _]) dJ13_bitCount_95d88_47 rfl (by decide) rfl ?_
  obtain ⟨y5, hy5⟩ : ∃ y : Int, y = (w64 (y4 + (lus y4 16))) := ⟨_, rfl⟩
  rw [← hy5]
  refine r_lload_n (pc := 48) (i := 0) dJ13_bitCount_95d88_48 rfl rfl ?_
  refine r_lload_n (pc := 49) (i := 0) dJ13_bitCount_95d88_49 rfl rfl ?_
  refine r_bipush (pc := 50) dJ13_bitCount_95d88_50 rfl (in32_of rfl) ?_
  refine r_lushr (pc := 52) dJ13_bitCount_95d88_52 ?_
  refine r_ladd (pc := 53) dJ13_bitCount_95d88_53 ?_
  refine r_lstore_n (pc := 54) (i := 0) (lv' := [_, _]) dJ13_bitCount_95d88_54 rfl (by decide) rfl ?_
  obtain ⟨y6, hy6⟩ : ∃ y : Int, y = (w64 (y5 + (lus y5 32))) := ⟨_, rfl⟩
  rw [← hy6]
  refine r_lload_n (pc := 55) (i := 0) dJ13_bitCount_95d88_55 rfl rfl ?_
  refine r_l2i (pc := 56) dJ13_bitCount_95d88_56 ?_
  refine r_bipush (pc := 57) dJ13_bitCount_95d88_57 rfl (in32_of rfl) ?_
  refine r_iand (pc := 59) dJ13_bitCount_95d88_59 ?_
  exact r_iret (pc := 60) dJ13_bitCount_95d88_60 trivial (by rw [bc_all hy1 hy2 hy3 hy4 hy5 hy6]; exact hq)
end C38

def b32 (x : Int) (k : Nat) : Bool := (oI x).toBitVec.getLsbD k
theorem b32_and (x y : Int) (k : Nat) : b32 (ian x y) k = (b32 x k && b32 y k) := by
  unfold b32 ian
  rw [o_toI, Int32.toBitVec_and, BitVec.getLsbD_and]
theorem b32_or (x y : Int) (k : Nat) : b32 (iro x y) k = (b32 x k || b32 y k) := by
  unfold b32 iro
  rw [o_toI, Int32.toBitVec_or, BitVec.getLsbD_or]
theorem b32_xor (x y : Int) (k : Nat) : b32 (ixo x y) k = Bool.xor (b32 x k) (b32 y k) := by
  unfold b32 ixo
  rw [o_toI, Int32.toBitVec_xor, BitVec.getLsbD_xor]
theorem sh32 : ∀ s : Nat, s < 32 → ((oI (s : Int) &&& 31).toBitVec.smod 32#32).toNat = s := by decide +kernel
theorem b32_shl (x : Int) {s : Nat} (hs : s < 32) (k : Nat) : b32 (isl x (s : Int)) k = (decide (k < 32) && !decide (k < s) && b32 x (k - s)) := by
  unfold b32 isl
  rw [o_toI, Int32.toBitVec_shiftLeft, BitVec.shiftLeft_eq']
  have h := sh32 s hs
  rw [show ((oI (s : Int) &&& 31).toBitVec.smod 32).toNat = s from h, BitVec.getLsbD_shiftLeft]
theorem b32_nat (n k : Nat) : b32 (n : Int) k = (decide (k < 32) && n.testBit k) := by
  unfold b32
  rw [show (oI (n : Int)).toBitVec = BitVec.ofNat 32 n from BitVec.ofInt_natCast 32 n, BitVec.getLsbD_ofNat]
theorem b32_ge (x : Int) {k : Nat} (h : 32 ≤ k) : b32 x k = false := BitVec.getLsbD_of_ge _ _ h
theorem ext32 {x y : Int} (hx : in32 x) (hy : in32 y) (h : ∀ k, k < 32 → b32 x k = b32 y k) : x = y := by
  have e : (oI x).toBitVec = (oI y).toBitVec := BitVec.eq_of_getLsbD_eq (fun k hk => h k hk)
  have e2 : oI x = oI y := Int32.toBitVec_inj.mp e
  exact (o_eq hx hy).mp e2
def b64 (x : Int) (k : Nat) : Bool := (oL x).toBitVec.getLsbD k
theorem b64_and (x y : Int) (k : Nat) : b64 (lan x y) k = (b64 x k && b64 y k) := by
  unfold b64 lan
  rw [o_toL, Int64.toBitVec_and, BitVec.getLsbD_and]
theorem b64_or (x y : Int) (k : Nat) : b64 (lro x y) k = (b64 x k || b64 y k) := by
  unfold b64 lro
  rw [o_toL, Int64.toBitVec_or, BitVec.getLsbD_or]
theorem b64_xor (x y : Int) (k : Nat) : b64 (lxo x y) k = Bool.xor (b64 x k) (b64 y k) := by
  unfold b64 lxo
  rw [o_toL, Int64.toBitVec_xor, BitVec.getLsbD_xor]
theorem sh64 : ∀ s : Nat, s < 64 → (((oI (s : Int)).toInt64 &&& 63).toBitVec.smod 64#64).toNat = s := by decide +kernel
theorem b64_shl (x : Int) {s : Nat} (hs : s < 64) (k : Nat) : b64 (lsl x (s : Int)) k = (decide (k < 64) && !decide (k < s) && b64 x (k - s)) := by
  unfold b64 lsl
  rw [o_toL, Int64.toBitVec_shiftLeft, BitVec.shiftLeft_eq']
  have h := sh64 s hs
  rw [show (((oI (s : Int)).toInt64 &&& 63).toBitVec.smod 64).toNat = s from h, BitVec.getLsbD_shiftLeft]
theorem b64_nat (n k : Nat) : b64 (n : Int) k = (decide (k < 64) && n.testBit k) := by
  unfold b64
  rw [show (oL (n : Int)).toBitVec = BitVec.ofNat 64 n from BitVec.ofInt_natCast 64 n, BitVec.getLsbD_ofNat]
theorem b64_ge (x : Int) {k : Nat} (h : 64 ≤ k) : b64 x k = false := BitVec.getLsbD_of_ge _ _ h
theorem ext64 {x y : Int} (hx : in64 x) (hy : in64 y) (h : ∀ k, k < 64 → b64 x k = b64 y k) : x = y := by
  have e : (oL x).toBitVec = (oL y).toBitVec := BitVec.eq_of_getLsbD_eq (fun k hk => h k hk)
  have e2 : oL x = oL y := Int64.toBitVec_inj.mp e
  exact (oL_eq hx hy).mp e2
theorem b32_shr (x : Int) {s k : Nat} (hs : s < 32) (hk : s + k < 32) : b32 (isr x (s : Int)) k = b32 x (s + k) := by
  unfold b32 isr
  rw [o_toI, Int32.toBitVec_shiftRight, BitVec.sshiftRight_eq']
  have h := sh32 s hs
  rw [show ((oI (s : Int) &&& 31).toBitVec.smod 32).toNat = s from h, BitVec.getLsbD_sshiftRight, if_pos hk]
  have : ¬ 32 ≤ k := by omega
  simp [this]
theorem shU64 : ∀ s : Nat, s < 64 → (((oI (s : Int)).toInt64.toUInt64 &&& Int64.toUInt64 63).toBitVec % 64#64).toNat = s := by decide +kernel
theorem b64_ushr (x : Int) {s : Nat} (hs : s < 64) (k : Nat) : b64 (lus x (s : Int)) k = b64 x (s + k) := by
  unfold b64 lus
  rw [o_toL]
  have h := shU64 s hs
  have e : ((oL x).toUInt64 >>> ((oI (s : Int)).toInt64.toUInt64 &&& Int64.toUInt64 63)).toInt64.toBitVec = (oL x).toBitVec >>> (((oI (s : Int)).toInt64.toUInt64 &&& Int64.toUInt64 63).toBitVec % 64) := rfl
  rw [e, BitVec.ushiftRight_eq']
  rw [show ((((oI (s : Int)).toInt64.toUInt64 &&& Int64.toUInt64 63).toBitVec % 64)).toNat = s from h, BitVec.getLsbD_ushiftRight]
theorem nat_lt31 {n : Nat} (h : n < 2147483648) : in32 (n : Int) := by unfold in32; omega
theorem ian_nat {a b : Nat} (ha : a < 2147483648) : ian (a : Int) (b : Int) = ((a &&& b : Nat) : Int) := by
  refine ext32 (ian_in _ _) (nat_lt31 (Nat.lt_of_le_of_lt Nat.and_le_left ha)) (fun k hk => ?_)
  rw [b32_and, b32_nat, b32_nat, b32_nat, Nat.testBit_and]
  simp [hk]
theorem iro_nat {a b : Nat} (ha : a < 2147483648) (hb : b < 2147483648) : iro (a : Int) (b : Int) = ((a ||| b : Nat) : Int) := by
  refine ext32 (iro_in _ _) (nat_lt31 (Nat.or_lt_two_pow (n := 31) ha hb)) (fun k hk => ?_)
  rw [b32_or, b32_nat, b32_nat, b32_nat, Nat.testBit_or]
  simp [hk]
theorem ixo_nat {a b : Nat} (ha : a < 2147483648) (hb : b < 2147483648) : ixo (a : Int) (b : Int) = ((a ^^^ b : Nat) : Int) := by
  refine ext32 (ixo_in _ _) (nat_lt31 (Nat.xor_lt_two_pow (n := 31) ha hb)) (fun k hk => ?_)
  rw [b32_xor, b32_nat, b32_nat, b32_nat, Nat.testBit_xor]
  simp [hk]
theorem isl_nat {a s : Nat} (hs : s < 32) (h : a * 2 ^ s < 2147483648) : isl (a : Int) (s : Int) = ((a * 2 ^ s : Nat) : Int) := by
  rw [← Nat.shiftLeft_eq] at h ⊢
  refine ext32 (isl_in _ _) (nat_lt31 h) (fun k hk => ?_)
  rw [b32_shl _ hs, b32_nat, b32_nat, Nat.testBit_shiftLeft]
  by_cases g : s ≤ k
  · have g1 : ¬ k < s := by omega
    have g2 : k - s < 32 := by omega
    simp [hk, g, g1, g2]
  · have g1 : k < s := by omega
    simp [hk, g, g1]
theorem isr_nat {a s : Nat} (hs : s < 32) (ha : a < 2147483648) : isr (a : Int) (s : Int) = ((a / 2 ^ s : Nat) : Int) := by
  rw [← Nat.shiftRight_eq_div_pow]
  have h2 : a >>> s < 2147483648 := Nat.lt_of_le_of_lt (Nat.shiftRight_le a s) ha
  refine ext32 (isr_in _ _) (nat_lt31 h2) (fun k hk => ?_)
  by_cases g : s + k < 32
  · rw [b32_shr _ hs g, b32_nat, b32_nat, Nat.testBit_shiftRight]
    simp [g, hk]
  · have hm : (oI (a : Int)).toBitVec.msb = false := by
      rw [BitVec.msb_eq_getLsbD_last]
      have h3 := b32_nat a 31
      unfold b32 at h3
      rw [h3, Nat.testBit_lt_two_pow (i := 31) ha]
      rfl
    have hp : (2147483648 : Nat) ≤ 2 ^ (s + k) := by
      rw [show (2147483648 : Nat) = 2 ^ 31 by decide]
      exact Nat.pow_le_pow_right (by decide) (by omega)
    rw [b32_nat, Nat.testBit_shiftRight, Nat.testBit_lt_two_pow (i := s + k) (Nat.lt_of_lt_of_le ha hp)]
    unfold b32 isr
    rw [o_toI, Int32.toBitVec_shiftRight, BitVec.sshiftRight_eq']
    rw [show ((oI (s : Int) &&& 31).toBitVec.smod 32).toNat = s from sh32 s hs, BitVec.getLsbD_sshiftRight, if_neg g, hm]
    simp
theorem ian_mask {a : Nat} (b : Nat) (ha : a < 2147483648) : ian (a : Int) ((2 ^ b - 1 : Nat) : Int) = ((a % 2 ^ b : Nat) : Int) := by rw [ian_nat ha, Nat.and_two_pow_sub_one_eq_mod]
theorem iro_sum {a b s : Nat} (hs : s < 31) (ha : a < 2 ^ s) (hb : b * 2 ^ s < 2147483648) : iro (a : Int) ((b * 2 ^ s : Nat) : Int) = ((b * 2 ^ s + a : Nat) : Int) := by
  have h1 : (2 : Nat) ^ s ≤ 2 ^ 31 := Nat.pow_le_pow_right (by decide) (by omega)
  have h2 : (2 : Nat) ^ 31 = 2147483648 := by decide
  rw [iro_nat (by omega) hb, Nat.or_comm, ← Nat.shiftLeft_eq, ← Nat.shiftLeft_add_eq_or_of_lt ha]

/-! whole numbers beside the machine's ints and longs: an int is its number (toInt); what a row answers is said in numbers -/
def in32 (x : Int) : Prop := -2147483648 ≤ x ∧ x < 2147483648
def in64 (x : Int) : Prop := -9223372036854775808 ≤ x ∧ x < 9223372036854775808
/-- wrapped into an int, a long -/
def w32 (x : Int) : Int := (x + 2147483648) % 4294967296 - 2147483648
def w64 (x : Int) : Int := (x + 9223372036854775808) % 18446744073709551616 - 9223372036854775808
abbrev oI (x : Int) : Int32 := Int32.ofInt x
abbrev oL (x : Int) : Int64 := Int64.ofInt x
theorem w32_in (x : Int) : in32 (w32 x) := by unfold in32 w32; omega
theorem w64_in (x : Int) : in64 (w64 x) := by unfold in64 w64; omega
theorem w32_id {x : Int} (h : in32 x) : w32 x = x := by unfold in32 at h; unfold w32; omega
theorem w64_id {x : Int} (h : in64 x) : w64 x = x := by unfold in64 at h; unfold w64; omega
theorem in32_in64 {x : Int} (h : in32 x) : in64 x := by unfold in32 at h; unfold in64; omega
theorem bmod_w32 (x : Int) : x.bmod 4294967296 = w32 x := by
  unfold w32 Int.bmod
  have : ((4294967296 : Nat) : Int) = 4294967296 := rfl
  simp only [this]
  split <;> omega
theorem bmod_w64 (x : Int) : x.bmod 18446744073709551616 = w64 x := by
  unfold w64 Int.bmod
  have : ((18446744073709551616 : Nat) : Int) = 18446744073709551616 := rfl
  simp only [this]
  split <;> omega
theorem toI_o (x : Int) : (oI x).toInt = w32 x := by rw [Int32.toInt_ofInt]; exact bmod_w32 x
theorem toL_o (x : Int) : (oL x).toInt = w64 x := by rw [Int64.toInt_ofInt]; exact bmod_w64 x
theorem toI_in {x : Int} (h : in32 x) : (oI x).toInt = x := by rw [toI_o, w32_id h]
theorem toL_in {x : Int} (h : in64 x) : (oL x).toInt = x := by rw [toL_o, w64_id h]
theorem in32_toI (y : Int32) : in32 y.toInt := ⟨Int32.le_toInt y, Int32.toInt_lt y⟩
theorem in64_toL (y : Int64) : in64 y.toInt := ⟨Int64.le_toInt y, Int64.toInt_lt y⟩
theorem o_toI (y : Int32) : oI y.toInt = y := Int32.ofInt_toInt y
theorem o_toL (y : Int64) : oL y.toInt = y := Int64.ofInt_toInt y
theorem o_w32 (x : Int) : oI (w32 x) = oI x := by apply Int32.toInt_inj.mp; rw [toI_o, toI_o, w32_id (w32_in x)]
theorem o_w64 (x : Int) : oL (w64 x) = oL x := by apply Int64.toInt_inj.mp; rw [toL_o, toL_o, w64_id (w64_in x)]
theorem o_add (x y : Int) : oI (w32 (x + y)) = oI x + oI y := by rw [o_w32]; exact Int32.ofInt_add x y
theorem o_sub (x y : Int) : oI (w32 (x - y)) = oI x - oI y := by rw [o_w32]; exact Int32.ofInt_sub x y
theorem o_mul (x y : Int) : oI (w32 (x * y)) = oI x * oI y := by rw [o_w32]; exact Int32.ofInt_mul x y
theorem o_neg (x : Int) : oI (w32 (-x)) = - oI x := by rw [o_w32]; exact Int32.ofInt_neg x
theorem oL_add (x y : Int) : oL (w64 (x + y)) = oL x + oL y := by rw [o_w64]; exact Int64.ofInt_add x y
theorem oL_sub (x y : Int) : oL (w64 (x - y)) = oL x - oL y := by rw [o_w64]; exact Int64.ofInt_sub x y
theorem oL_mul (x y : Int) : oL (w64 (x * y)) = oL x * oL y := by rw [o_w64]; exact Int64.ofInt_mul x y
theorem oL_neg (x : Int) : oL (w64 (-x)) = - oL x := by rw [o_w64]; exact Int64.ofInt_neg x
/-- the other operations, by the machine's own -/
def idv (x y : Int) : Int := (oI x / oI y).toInt
def irm (x y : Int) : Int := (oI x - oI x / oI y * oI y).toInt
def ian (x y : Int) : Int := (oI x &&& oI y).toInt
def iro (x y : Int) : Int := (oI x ||| oI y).toInt
def ixo (x y : Int) : Int := (oI x ^^^ oI y).toInt
def isl (x y : Int) : Int := (oI x <<< (oI y &&& 31)).toInt
def isr (x y : Int) : Int := (oI x >>> (oI y &&& 31)).toInt
def ius (x y : Int) : Int := ((oI x).toUInt32 >>> ((oI y).toUInt32 &&& Int32.toUInt32 31)).toInt32.toInt
def ib8 (x : Int) : Int := ((oI x).toInt8.toInt32).toInt
def ic16 (x : Int) : Int := (((oI x).toUInt32 % 65536).toInt32).toInt
def ldv (x y : Int) : Int := (oL x / oL y).toInt
def lrm (x y : Int) : Int := (oL x - oL x / oL y * oL y).toInt
def lan (x y : Int) : Int := (oL x &&& oL y).toInt
def lro (x y : Int) : Int := (oL x ||| oL y).toInt
def lxo (x y : Int) : Int := (oL x ^^^ oL y).toInt
def lsl (x y : Int) : Int := (oL x <<< ((oI y).toInt64 &&& 63)).toInt
def lus (x y : Int) : Int := ((oL x).toUInt64 >>> ((oI y).toInt64.toUInt64 &&& Int64.toUInt64 63)).toInt64.toInt
def lcp (x y : Int) : Int := if y < x then 1 else if x = y then 0 else -1
theorem o_lt {x y : Int} (hx : in32 x) (hy : in32 y) : oI x < oI y ↔ x < y := by rw [Int32.lt_iff_toInt_lt, toI_in hx, toI_in hy]
theorem o_le {x y : Int} (hx : in32 x) (hy : in32 y) : oI x ≤ oI y ↔ x ≤ y := by rw [Int32.le_iff_toInt_le, toI_in hx, toI_in hy]
theorem o_eq {x y : Int} (hx : in32 x) (hy : in32 y) : oI x = oI y ↔ x = y := by rw [← Int32.toInt_inj, toI_in hx, toI_in hy]
theorem oL_lt {x y : Int} (hx : in64 x) (hy : in64 y) : oL x < oL y ↔ x < y := by rw [Int64.lt_iff_toInt_lt, toL_in hx, toL_in hy]
theorem oL_eq {x y : Int} (hx : in64 x) (hy : in64 y) : oL x = oL y ↔ x = y := by rw [← Int64.toInt_inj, toL_in hx, toL_in hy]
theorem o_0 : oI 0 = 0 := rfl
theorem oL_0 : oL 0 = 0 := rfl
theorem in32_0 : in32 0 := by unfold in32; omega
theorem in64_0 : in64 0 := by unfold in64; omega
theorem lcp_o {x y : Int} (hx : in64 x) (hy : in64 y) : oI (lcp x y) = lg_cmp (oL x) (oL y) := by
  unfold lcp lg_cmp
  simp only [gt_iff_lt, oL_lt hy hx, oL_eq hx hy]
  split
  · rfl
  · split <;> rfl
theorem lcp_in (x y : Int) : in32 (lcp x y) := by unfold lcp in32; split <;> (try split) <;> omega
theorem i2l_o {x : Int} (hx : in32 x) : oL x = (oI x).toInt64 := by apply Int64.toInt_inj.mp; rw [Int32.toInt_toInt64, toI_in hx, toL_in (in32_in64 hx)]
theorem l2i_o (x : Int) : oI (w32 x) = (oL x).toInt32 := by
  apply Int32.toInt_inj.mp
  rw [o_w32, toI_o, Int64.toInt_toInt32, toL_o, bmod_w32]
  unfold w32 w64
  omega
theorem clampI {x : Int} (h : in32 x) (h0 : 0 ≤ x) : (oI x).toNatClampNeg = x.toNat := by
  show (oI x).toInt.toNat = _
  rw [toI_in h]
theorem in_o {x : Int} {n : Nat} (h : in32 x) : vp_in (oI x) n ↔ 0 ≤ x ∧ x < n := by rw [vp_in_iff, toI_in h]
theorem o_not_neg {x : Int} (h : in32 x) (h0 : 0 ≤ x) : ¬ oI x < 0 := by
  rw [← o_0, o_lt h in32_0]; omega
/-- plain numbers: division, rest, masks, shifts -/
theorem idv_n {x y : Int} (hx : in32 x) (hy : in32 y) (h0 : 0 ≤ x) (h1 : 0 < y) : idv x y = x / y := by
  unfold idv
  rw [Int32.toInt_div, toI_in hx, toI_in hy, Int.tdiv_eq_ediv_of_nonneg h0]
  rw [show (2 ^ 32 : Nat) = 4294967296 from rfl, bmod_w32]
  apply w32_id
  unfold in32 at *
  have h2 : x / y ≤ x := Int.ediv_le_self y h0
  have h3 : 0 ≤ x / y := Int.ediv_nonneg h0 (by omega)
  omega
theorem irm_n {x y : Int} (hx : in32 x) (hy : in32 y) (h0 : 0 ≤ x) (h1 : 0 < y) : irm x y = x % y := by
  have e : oI x / oI y = oI (x / y) := by rw [← o_toI (oI x / oI y)]; rw [show (oI x / oI y).toInt = x / y from idv_n hx hy h0 h1]
  unfold irm
  rw [e, ← o_mul, ← o_sub, o_w32, toI_o]
  have h2 : 0 ≤ x % y := Int.emod_nonneg x (by omega)
  have h3 : x % y < y := Int.emod_lt_of_pos x h1
  have h4 : y * (x / y) + x % y = x := Int.mul_ediv_add_emod x y
  rw [Int.mul_comm] at h4
  unfold in32 at *
  generalize x / y * y = q at *
  have : w32 q = q := by unfold w32; omega
  rw [this]
  unfold w32
  omega
theorem ldv_n {x y : Int} (hx : in64 x) (hy : in64 y) (h0 : 0 ≤ x) (h1 : 0 < y) : ldv x y = x / y := by
  unfold ldv
  rw [Int64.toInt_div, toL_in hx, toL_in hy, Int.tdiv_eq_ediv_of_nonneg h0]
  rw [show (2 ^ 64 : Nat) = 18446744073709551616 from rfl, bmod_w64]
  apply w64_id
  unfold in64 at *
  have h2 : x / y ≤ x := Int.ediv_le_self y h0
  have h3 : 0 ≤ x / y := Int.ediv_nonneg h0 (by omega)
  omega
theorem lrm_n {x y : Int} (hx : in64 x) (hy : in64 y) (h0 : 0 ≤ x) (h1 : 0 < y) : lrm x y = x % y := by
  have e : oL x / oL y = oL (x / y) := by rw [← o_toL (oL x / oL y)]; rw [show (oL x / oL y).toInt = x / y from ldv_n hx hy h0 h1]
  unfold lrm
  rw [e, ← oL_mul, ← oL_sub, o_w64, toL_o]
  have h2 : 0 ≤ x % y := Int.emod_nonneg x (by omega)
  have h3 : x % y < y := Int.emod_lt_of_pos x h1
  have h4 : y * (x / y) + x % y = x := Int.mul_ediv_add_emod x y
  rw [Int.mul_comm] at h4
  unfold in64 at *
  generalize x / y * y = q at *
  have : w64 q = q := by unfold w64; omega
  rw [this]
  unfold w64
  omega
theorem idv_in (x y : Int) : in32 (idv x y) := in32_toI _
theorem irm_in (x y : Int) : in32 (irm x y) := in32_toI _
theorem ian_in (x y : Int) : in32 (ian x y) := in32_toI _
theorem iro_in (x y : Int) : in32 (iro x y) := in32_toI _
theorem ixo_in (x y : Int) : in32 (ixo x y) := in32_toI _
theorem isl_in (x y : Int) : in32 (isl x y) := in32_toI _
theorem isr_in (x y : Int) : in32 (isr x y) := in32_toI _
theorem ius_in (x y : Int) : in32 (ius x y) := in32_toI _
theorem ib8_in (x : Int) : in32 (ib8 x) := in32_toI _
theorem ic16_in (x : Int) : in32 (ic16 x) := in32_toI _
theorem ldv_in (x y : Int) : in64 (ldv x y) := in64_toL _
theorem lrm_in (x y : Int) : in64 (lrm x y) := in64_toL _
theorem lan_in (x y : Int) : in64 (lan x y) := in64_toL _
theorem lro_in (x y : Int) : in64 (lro x y) := in64_toL _
theorem lxo_in (x y : Int) : in64 (lxo x y) := in64_toL _
theorem lsl_in (x y : Int) : in64 (lsl x y) := in64_toL _
theorem lus_in (x y : Int) : in64 (lus x y) := in64_toL _

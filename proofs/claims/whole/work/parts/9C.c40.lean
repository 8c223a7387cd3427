section C40
variable {G : Gl} {d : Nat} {T : Sh} {I : Mi} {N : Nat → Int} {Q : Option AV → Sh → Mi → Prop}
theorem cnB_lt {i : Nat} : ∀ m, cnB (fun k => decide (k < i)) m = min m i := by
  intro m
  induction m with
  | zero => show 0 = _; omega
  | succ m ih =>
    show cnB (fun k => decide (k < i)) m + (if decide (m < i) = true then 1 else 0) = _
    rw [ih]
    by_cases g : m < i
    · rw [if_pos (decide_eq_true g)]; omega
    · rw [if_neg (by simp [g])]; omega
theorem low_ex {f : Nat → Bool} : ∀ m, (∀ j, j < m → f j = false) ∨ ∃ i, i < m ∧ f i = true ∧ ∀ j, j < i → f j = false := by
  intro m
  induction m with
  | zero => exact Or.inl (fun j hj => absurd hj (Nat.not_lt_zero j))
  | succ m ih =>
    rcases ih with h | ⟨i, h1, h2⟩
    · cases hf : f m
      · refine Or.inl (fun j hj => ?_)
        by_cases g : j = m
        · rw [g]; exact hf
        · exact h j (by omega)
      · exact Or.inr ⟨m, by omega, hf, h⟩
    · exact Or.inr ⟨i, by omega, h2⟩
theorem low_x {x : Int} (hx : in64 x) (h : ¬ x = 0) : ∃ i, i < 64 ∧ b64 x i = true ∧ ∀ j, j < i → b64 x j = false := by
  rcases low_ex (f := b64 x) 64 with g | g
  · exact absurd (ext64 hx in64_0 (fun k hk => by rw [g k hk, b64_0])) h
  · exact g
theorem b64_neg (x : Int) (k : Nat) : b64 (w64 (-x)) k = Bool.xor (b64 x k) (decide (k < 64) && decide (∃ j, j < k ∧ b64 x j = true)) := by
  unfold b64
  rw [oL_neg, show (-oL x).toBitVec = -(oL x).toBitVec from rfl, BitVec.getLsbD_neg]
theorem low_1 {x : Int} {i : Nat} (hb : b64 x i = true) (hl : ∀ j, j < i → b64 x j = false) (k : Nat) (hk : k < 64) : b64 (lan x (w64 (-x))) k = decide (i = k) := by
  rw [b64_and, b64_neg]
  rcases Nat.lt_trichotomy k i with g | g | g
  · rw [hl k g]
    simp
    omega
  · subst g
    have h2 : ¬ ∃ j, j < k ∧ b64 x j = true := fun ⟨j, h3, h4⟩ => by rw [hl j h3] at h4; exact Bool.false_ne_true h4
    rw [hb]
    simp only [h2, decide_false, Bool.and_false, Bool.xor_false, Bool.true_and, decide_true]
  · have h2 : ∃ j, j < k ∧ b64 x j = true := ⟨i, g, hb⟩
    have h3 : ¬ i = k := by omega
    simp only [h2, hk, h3, decide_true, decide_false, Bool.true_and, Bool.xor_true, Bool.and_not_self]
theorem low_bit {x : Int} {i : Nat} (hi : i < 64) (hb : b64 x i = true) (hl : ∀ j, j < i → b64 x j = false) : cnB (fun j => b64 (w64 (lan x (w64 (-x)) - 1)) j) 64 = i := by
  have hu : uL (lan x (w64 (-x))) = 2 ^ i := by
    refine Nat.eq_of_testBit_eq (fun k => ?_)
    rw [Nat.testBit_two_pow]
    by_cases hk : k < 64
    · rw [← b64_uL]; exact low_1 hb hl k hk
    · rw [← b64_uL, b64_ge _ (by omega)]
      have : ¬ i = k := by omega
      simp [this]
  have hp : 1 ≤ 2 ^ i := Nat.one_le_two_pow
  have h1 : uL 1 = 1 := uL_nat (n := 1) (by decide)
  have hs : uL (w64 (lan x (w64 (-x)) - 1)) = 2 ^ i - 1 := by rw [uL_sub (by rw [h1, hu]; exact hp), hu, h1]
  have he : cnB (fun j => b64 (w64 (lan x (w64 (-x)) - 1)) j) 64 = cnB (fun k => decide (k < i)) 64 := cnB_ext 64 (fun k _ => by rw [b64_uL, hs, Nat.testBit_two_pow_sub_one])
  rw [he, cnB_lt]
  omega
theorem lcp_0 (x : Int) : lcp x 0 = 0 ↔ x = 0 := by
  unfold lcp
  by_cases h1 : (0 : Int) < x
  · rw [if_pos h1]; omega
  · rw [if_neg h1]
    by_cases h2 : x = 0
    · rw [if_pos h2]; exact ⟨fun _ => h2, fun _ => rfl⟩
    · rw [if_neg h2]; omega
theorem inS_sb (S : Nat → Int) (p : Nat) : inS S p = if sb S p = true then 1 else 0 := by
  unfold inS
  have hr : in32 (if sb S p = true then 1 else 0) := by unfold in32; split <;> omega
  refine ext32 (ian_in _ _) hr (fun k hk => ?_)
  rw [b32_and, b32_one]
  by_cases g : k = 0
  · subst g
    rw [b32_shr _ (by omega) (by omega), Nat.add_zero]
    cases h : sb S p
    · rw [show b32 (S (p / 32)) (p % 32) = false from h, if_neg (by decide), show (0 : Int) = ((0 : Nat) : Int) from rfl, b32_nat]; rfl
    · rw [show b32 (S (p / 32)) (p % 32) = true from h, if_pos rfl, b32_one]; rfl
  · have h2 : decide (k = 0) = false := decide_eq_false g
    rw [h2, Bool.and_false]
    cases h : sb S p
    · rw [if_neg (by decide), show (0 : Int) = ((0 : Nat) : Int) from rfl, b32_nat]; simp
    · rw [if_pos rfl, b32_one, h2]
theorem inS_1 {S : Nat → Int} {p : Nat} : inS S p = 1 ↔ sb S p = true := by
  rw [inS_sb]
  cases h : sb S p
  · rw [if_neg (by decide)]; exact ⟨fun h => absurd h (by decide), fun h => absurd h (by decide)⟩
  · rw [if_pos rfl]; exact ⟨fun _ => rfl, fun _ => rfl⟩
theorem rdF_sk {Z Y S : Nat → Int} {n : Nat} : ∀ m p, p + m ≤ n → (∀ j, p ≤ j → j < p + m → sb S j = false) → rdF Z Y (n - p) p S = rdF Z Y (n - (p + m)) (p + m) S := by
  intro m
  induction m with
  | zero => intro p _ _; rfl
  | succ m ih =>
    intro p hp h
    have h0 : ¬ inS S p = 1 := by rw [inS_1, h p (by omega) (by omega)]; decide
    rw [show n - p = (n - (p + 1)) + 1 by omega, rdF_succ, if_neg h0, ih (p + 1) (by omega) (fun j h1 h2 => h j (by omega) (by omega)), show p + 1 + m = p + (m + 1) by omega]
theorem rdF_to {Z Y S : Nat → Int} {n p p2 : Nat} (hp : p ≤ p2) (h : ∀ j, p ≤ j → j < p2 → j < n → sb S j = false) : rdF Z Y (n - p) p S = rdF Z Y (n - p2) p2 S := by
  by_cases g : p2 ≤ n
  · have := rdF_sk (Z := Z) (Y := Y) (S := S) (n := n) (p2 - p) p (by omega) (fun j h1 h2 => h j h1 (by omega) (by omega))
    rw [show p + (p2 - p) = p2 by omega] at this
    exact this
  · rw [show n - p2 = 0 by omega]
    by_cases g2 : p ≤ n
    · have := rdF_sk (Z := Z) (Y := Y) (S := S) (n := n) (n - p) p (by omega) (fun j h1 h2 => h j h1 (by omega) (by omega))
      rw [show p + (n - p) = n by omega, Nat.sub_self] at this
      rw [this]
      rfl
    · rw [show n - p = 0 by omega]; rfl
theorem xrS_k {S Z : Nat → Int} {p : Nat} : ∀ m k, xrS S Z p m k = if k < m then ixo (S k) (Z (8 * p + k)) else S k := by
  intro m
  induction m with
  | zero => intro k; rw [if_neg (Nat.not_lt_zero k)]; rfl
  | succ m ih =>
    intro k
    rw [xrS_succ]
    by_cases g : k = m
    · subst g
      rw [un_at, ih k, if_neg (Nat.lt_irrefl k), if_pos (Nat.lt_succ_self k)]
    · rw [un_ne g, ih k]
      by_cases h : k < m
      · rw [if_pos h, if_pos (by omega)]
      · rw [if_neg h, if_neg (by omega)]
theorem bsS_k {S Z : Nat → Int} {p : Nat} : ∀ m j, bsS S Z p m j = if 8 * p ≤ j ∧ j < 8 * p + m then S (j - 8 * p) else Z j := by
  intro m
  induction m with
  | zero => intro j; rw [if_neg (by omega)]; rfl
  | succ m ih =>
    intro j
    rw [bsS_succ]
    by_cases g : j = 8 * p + m
    · subst g
      rw [un_at, if_pos (by omega), show 8 * p + m - 8 * p = m by omega]
    · rw [un_ne g, ih j]
      by_cases h : 8 * p ≤ j ∧ j < 8 * p + m
      · rw [if_pos h, if_pos (by omega)]
      · rw [if_neg h, if_neg (by omega)]
/-- the row of a base -/
def zR (Z : Nat → Int) (p : Nat) : Nat → Int := fun t => Z (8 * p + t)
theorem sb_xr {S Z : Nat → Int} {p q : Nat} (hq : q < 256) : sb (xrS S Z p 8) q = Bool.xor (sb S q) (sb (zR Z p) q) := by
  unfold sb zR
  rw [xrS_k, if_pos (by omega), b32_xor]
theorem sb_bs {S Z : Nat → Int} {p : Nat} {q : Nat} (hq : q < 256) : sb (zR (bsS S Z p 8) p) q = sb S q := by
  unfold sb zR
  rw [bsS_k, if_pos (by omega), show 8 * p + q / 32 - 8 * p = q / 32 by omega]
theorem sb_bn {S Z : Nat → Int} {p r : Nat} (h : r ≠ p) {q : Nat} (hq : q < 256) : sb (zR (bsS S Z p 8) r) q = sb (zR Z r) q := by
  unfold sb zR
  rw [bsS_k, if_neg (by omega)]
theorem lsS_lo {S : Nat → Int} {n : Nat} : ∀ u k q : Nat, k ≤ q → q < k + u → sb S q = true → (∀ j, k ≤ j → j < q → sb S j = false) → lsS S n u k = (q : Int) := by
  intro u
  induction u with
  | zero => intro k q h1 h2; omega
  | succ u ih =>
    intro k q h1 h2 h3 h4
    rw [lsS_succ]
    by_cases g : k = q
    · subst g; rw [if_pos (inS_1.mpr h3)]
    · rw [if_neg (by rw [inS_1, h4 k (Nat.le_refl k) (by omega)]; decide)]
      exact ih (k + 1) q (by omega) (by omega) h3 (fun j a b => h4 j (by omega) b)
theorem lsS_no {S : Nat → Int} {n : Nat} : ∀ u k : Nat, (∀ j, k ≤ j → j < k + u → sb S j = false) → lsS S n u k = -1 := by
  intro u
  induction u with
  | zero => intro k _; rfl
  | succ u ih =>
    intro k h
    rw [lsS_succ, if_neg (by rw [inS_1, h k (Nat.le_refl k) (by omega)]; decide)]
    exact ih (k + 1) (fun j a b => h j (by omega) (by omega))
/-- four longs hold a set -/
def WkP (W S : Nat → Int) : Prop := ∀ q, q < 256 → b64 (W (q / 64)) (q % 64) = sb S q
/-- no place from n on -/
def hiP (S : Nat → Int) (n : Nat) : Prop := ∀ q, q < 256 → n ≤ q → sb S q = false
/-- the bases lie in the component's rows -/
def BsP (R K : Nat → Int) (n : Nat) (Z Y : Nat → Int) : Prop :=
  ∀ p, p < 256 → (K p = 0 ↔ Y p = 0) ∧ (¬ Y p = 0 → p < n ∧ (∀ q, q < 256 → b64 (R (4 * p + q / 64)) (q % 64) = sb (zR Z p) q) ∧ sb (zR Z p) p = true ∧ (∀ q, q < p → sb (zR Z p) q = false) ∧ hiP (zR Z p) n)
/-- while a set is reduced: word w, place p -/
def rsI (Z Y S0 : Nat → Int) (n w p : Nat) (W S : Nat → Int) : Prop := rdF Z Y (n - p) p S = rdF Z Y n 0 S0 ∧ WkP W S ∧ (∀ q, q < p → q < 256 → sb S q = false) ∧ hiP S n ∧ 64 * w ≤ p
def xwF (W R : Nat → Int) (q w k : Nat) : Nat → Int := fun j => if w ≤ j ∧ j < k then lxo (W j) (R (4 * q + j)) else W j
theorem xwF_0 (W R : Nat → Int) (q w : Nat) : xwF W R q w w = W := by funext j; unfold xwF; rw [if_neg (by omega)]
theorem xwF_k (W R : Nat → Int) (q w k : Nat) : xwF W R q w k k = W k := by unfold xwF; rw [if_neg (by omega)]
theorem xwF_s {W R : Nat → Int} {q w k : Nat} (h : w ≤ k) : un (xwF W R q w k) k (lxo (W k) (R (4 * q + k))) = xwF W R q w (k + 1) := by
  funext j
  by_cases g : j = k
  · subst g; rw [un_at]; unfold xwF; rw [if_pos (by omega)]
  · rw [un_ne g]
    unfold xwF
    by_cases g2 : w ≤ j ∧ j < k
    · rw [if_pos g2, if_pos (by omega)]
    · rw [if_neg g2, if_neg (by omega)]
theorem rs_word {Z Y S0 W S : Nat → Int} {n w p : Nat} (h : rsI Z Y S0 n w p W S) (hw : w < 4) (h0 : W w = 0 ∨ 64 * (w + 1) ≤ p) : ∃ p2, rsI Z Y S0 n (w + 1) p2 W S := by
  obtain ⟨h1, h2, h3, h4, h5⟩ := h
  by_cases g : 64 * (w + 1) ≤ p
  · exact ⟨p, h1, h2, h3, h4, g⟩
  · have hz : W w = 0 := by rcases h0 with h | h; exact h; exact absurd h g
    have hb : ∀ j, p ≤ j → j < 64 * (w + 1) → sb S j = false := fun j a b => by
      rw [← h2 j (by omega), show j / 64 = w by omega, hz, b64_0]
    refine ⟨64 * (w + 1), ?_, h2, fun q q1 q2 => ?_, h4, Nat.le_refl _⟩
    · rw [← rdF_to (by omega) (fun j a b _ => hb j a b)]; exact h1
    · by_cases g2 : q < p
      · exact h3 q g2 q2
      · exact hb q (by omega) q1
/-- the lowest that is set, where the word is not zero -/
theorem rs_low {Z Y S0 W S : Nat → Int} {n w p i : Nat} (h : rsI Z Y S0 n w p W S) (hw : w < 4) (hi : i < 64) (hb : b64 (W w) i = true) (hl : ∀ j, j < i → b64 (W w) j = false) :
    rsI Z Y S0 n w (64 * w + i) W S ∧ p ≤ 64 * w + i ∧ 64 * w + i < n ∧ sb S (64 * w + i) = true := by
  obtain ⟨h1, h2, h3, h4, h5⟩ := h
  have e : ∀ j, j < 64 → sb S (64 * w + j) = b64 (W w) j := fun j hj => by
    rw [← h2 _ (by omega), show (64 * w + j) / 64 = w by omega, show (64 * w + j) % 64 = j by omega]
  have hs : sb S (64 * w + i) = true := (e i hi).trans hb
  have hp : p ≤ 64 * w + i := by
    refine Nat.le_of_not_lt (fun g => ?_)
    rw [h3 _ g (by omega)] at hs
    exact Bool.false_ne_true hs
  have hn : 64 * w + i < n := by
    refine Nat.lt_of_not_le (fun g => ?_)
    rw [h4 _ (by omega) g] at hs
    exact Bool.false_ne_true hs
  have hz : ∀ j, p ≤ j → j < 64 * w + i → sb S j = false := fun j a b => by
    have := e (j - 64 * w) (by omega)
    rw [show 64 * w + (j - 64 * w) = j by omega] at this
    rw [this]
    exact hl _ (by omega)
  refine ⟨⟨?_, h2, fun q q1 q2 => ?_, h4, by omega⟩, hp, hn, hs⟩
  · rw [← rdF_to hp (fun j a b _ => hz j a b)]; exact h1
  · by_cases g : q < p
    · exact h3 q g q2
    · exact hz q (by omega) q1
/-- a base taken off -/
theorem rs_xor {Z Y S0 W S R K : Nat → Int} {n w q : Nat} (h : rsI Z Y S0 n w q W S) (hB : BsP R K n Z Y) (hw : w < 4) (hq : q < n) (hn : n ≤ 256) (hq1 : q < 64 * w + 64) (hs : sb S q = true) (hk : ¬ K q = 0) :
    rsI Z Y S0 n w (q + 1) (xwF W R q w 4) (xrS S Z q 8) := by
  obtain ⟨h1, h2, h3, h4, h5⟩ := h
  obtain ⟨b0, bb⟩ := hB q (by omega)
  have hy : ¬ Y q = 0 := fun g => hk (b0.mpr g)
  obtain ⟨b1, b2, b3, b4, b5⟩ := bb hy
  refine ⟨?_, fun j hj => ?_, fun j j1 j2 => ?_, fun j j1 j2 => ?_, by omega⟩
  · rw [← h1, show n - q = (n - (q + 1)) + 1 by omega, rdF_succ, if_pos (inS_1.mpr hs), if_neg hy]
  · rw [sb_xr hj]
    unfold xwF
    by_cases g : w ≤ j / 64 ∧ j / 64 < 4
    · rw [if_pos g, b64_xor, h2 j hj, b2 j hj]
    · rw [if_neg g, h2 j hj, b4 j (by omega), Bool.xor_false]
  · rw [sb_xr j2]
    by_cases g : j = q
    · subst g; rw [hs, b3]; rfl
    · rw [h3 j (by omega) j2, b4 j (by omega)]; rfl
  · rw [sb_xr j1, h4 j j1 j2, b5 j j1 j2]; rfl
end C40

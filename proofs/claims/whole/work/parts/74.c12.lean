section C12
variable {G : Gl} {d : Nat} {T : Sh} {I : Mi} {N : Nat → Int} {Q : Option AV → Sh → Mi → Prop}
def sb (S : Nat → Int) (q : Nat) : Bool := b32 (S (q / 32)) (q % 32)
theorem b32_one (k : Nat) : b32 1 k = decide (k = 0) := by
  rw [show (1 : Int) = ((1 : Nat) : Int) from rfl, b32_nat]
  by_cases h : k = 0
  · subst h; rfl
  · have h2 : Nat.testBit 1 k = false := by
      rw [show (1 : Nat) = 2 ^ 0 by decide]
      exact Nat.testBit_two_pow_of_ne (by omega)
    rw [h2]
    simp [h]
theorem b64_one (k : Nat) : b64 1 k = decide (k = 0) := by
  rw [show (1 : Int) = ((1 : Nat) : Int) from rfl, b64_nat]
  by_cases h : k = 0
  · subst h; rfl
  · have h2 : Nat.testBit 1 k = false := by
      rw [show (1 : Nat) = 2 ^ 0 by decide]
      exact Nat.testBit_two_pow_of_ne (by omega)
    rw [h2]
    simp [h]
theorem sb_adS {S : Nat → Int} {x q : Nat} : sb (adS S x) q = Bool.xor (sb S q) (decide (x = q)) := by
  unfold sb adS un
  by_cases h : q / 32 = x / 32
  · rw [if_pos h, b32_xor, b32_shl _ (by omega), b32_one, h]
    congr 1
    have h1 : q % 32 < 32 := by omega
    by_cases g : x = q
    · subst g
      simp [h1]
    · have g2 : ¬ (q % 32 = x % 32) := by omega
      by_cases g3 : q % 32 < x % 32
      · simp [g3, g]
      · have g4 : ¬ (q % 32 - x % 32 = 0) := by omega
        simp [g4, g]
  · rw [if_neg h]
    have g : ¬ x = q := by intro e; exact h (by rw [e])
    simp [g]
/-- whether one of the first m is q -/
def iRn (f : Nat → Nat) : Nat → Nat → Bool
  | 0, _ => false
  | m + 1, q => iRn f m q || decide (f m = q)
theorem iRn_succ (f : Nat → Nat) (m q : Nat) : iRn f (m + 1) q = (iRn f m q || decide (f m = q)) := rfl
theorem iRn_ex {f : Nat → Nat} {m q : Nat} : iRn f m q = true ↔ ∃ i, i < m ∧ f i = q := by
  induction m with
  | zero => exact ⟨fun h => absurd (show false = true from h) Bool.false_ne_true, fun ⟨i, hi, _⟩ => absurd hi (Nat.not_lt_zero i)⟩
  | succ m ih =>
    rw [iRn_succ]
    constructor
    · intro h
      rcases Bool.or_eq_true_iff.mp h with h | h
      · obtain ⟨i, h1, h2⟩ := ih.mp h
        exact ⟨i, by omega, h2⟩
      · exact ⟨m, by omega, of_decide_eq_true h⟩
    · rintro ⟨i, h1, h2⟩
      by_cases g : i = m
      · subst g; rw [decide_eq_true h2]; exact Bool.or_true _
      · rw [ih.mpr ⟨i, by omega, h2⟩]; rfl
theorem iRn_f {f : Nat → Nat} {m q : Nat} (h : ∀ i, i < m → ¬ f i = q) : iRn f m q = false := by
  cases e : iRn f m q with
  | false => rfl
  | true => obtain ⟨i, h1, h2⟩ := iRn_ex.mp e; exact absurd h2 (h i h1)
/-- a run whose places all differ: its set by adding -/
theorem sb_stO {N : Nat → Int} {p b : Nat} {S : Nat → Int} {q : Nat} : ∀ m, (∀ i j, i < m → j < m → oP N p (b + i) = oP N p (b + j) → i = j) → sb (stO N p b S m) q = Bool.xor (sb S q) (iRn (fun i => oP N p (b + i)) m q) := by
  intro m
  induction m with
  | zero => intro _; exact (Bool.xor_false _).symm
  | succ m ih =>
    intro h
    rw [stO_succ, sb_adS, ih (fun i j hi hj => h i j (by omega) (by omega)), iRn_succ]
    by_cases g : oP N p (b + m) = q
    · have e : iRn (fun i => oP N p (b + i)) m q = false := iRn_f (fun i hi e => by have := h i m (by omega) (by omega) (by rw [e, g]); omega)
      rw [e, decide_eq_true g]
      cases sb S q <;> rfl
    · rw [decide_eq_false g]
      cases sb S q <;> cases iRn (fun i => oP N p (b + i)) m q <;> rfl
theorem sb_z8 {S : Nat → Int} {q : Nat} (h : q < 256) : sb (z8 S 8) q = false := by
  unfold sb z8
  rw [if_pos (by omega)]
  have := b32_nat 0 (q % 32)
  rw [show ((0 : Nat) : Int) = 0 from rfl] at this
  rw [this]
  simp
/-- a set laid in longs by the places f 0 .. f (m - 1) -/
def wdS (f : Nat → Nat) (W : Nat → Int) : Nat → (Nat → Int)
  | 0 => W
  | m + 1 => un (wdS f W m) (f m / 64) (lro (wdS f W m (f m / 64)) (lsl 1 ((f m % 64 : Nat) : Int)))
theorem wdS_succ (f : Nat → Nat) (W : Nat → Int) (m : Nat) : wdS f W (m + 1) = un (wdS f W m) (f m / 64) (lro (wdS f W m (f m / 64)) (lsl 1 ((f m % 64 : Nat) : Int))) := rfl
theorem b64_bit (x q : Nat) : b64 (lsl 1 ((x % 64 : Nat) : Int)) (q % 64) = decide (x % 64 = q % 64) := by
  rw [b64_shl _ (by omega), b64_one]
  have h1 : q % 64 < 64 := by omega
  by_cases g : x % 64 = q % 64
  · have g2 : ¬ q % 64 < x % 64 := by omega
    have g3 : q % 64 - x % 64 = 0 := by omega
    simp [h1, g2, g3, g]
  · by_cases g2 : q % 64 < x % 64
    · simp [g2, g]
    · have g3 : ¬ q % 64 - x % 64 = 0 := by omega
      simp [g3, g]
theorem b64_wdS {f : Nat → Nat} {W : Nat → Int} {q : Nat} : ∀ m, b64 (wdS f W m (q / 64)) (q % 64) = (b64 (W (q / 64)) (q % 64) || iRn f m q) := by
  intro m
  induction m with
  | zero => exact (Bool.or_false _).symm
  | succ m ih =>
    rw [wdS_succ, iRn_succ]
    unfold un
    by_cases h : q / 64 = f m / 64
    · rw [if_pos h, b64_or, ← h, ih, b64_bit]
      have e : decide (f m % 64 = q % 64) = decide (f m = q) := by
        by_cases g : f m = q
        · rw [decide_eq_true g, decide_eq_true (by rw [g])]
        · rw [decide_eq_false g, decide_eq_false (by omega)]
      rw [e, Bool.or_assoc]
    · rw [if_neg h, ih]
      have e : decide (f m = q) = false := decide_eq_false (fun e => h (by rw [e]))
      rw [e, Bool.or_false]
theorem b64_0 (k : Nat) : b64 0 k = false := by
  have := b64_nat 0 k
  rw [show ((0 : Nat) : Int) = 0 from rfl] at this
  rw [this]
  simp
theorem isr_6 {x : Nat} (h : x < 256) : isr (x : Int) 6 = ((x / 64 : Nat) : Int) := by
  have := isr_nat (a := x) (s := 6) (by decide) (by omega)
  rw [show (2 : Nat) ^ 6 = 64 by decide] at this
  exact this
theorem ian_63 {x : Nat} (h : x < 256) : ian (x : Int) 63 = ((x % 64 : Nat) : Int) := by
  have := ian_mask (a := x) 6 (by omega)
  rw [show (2 : Nat) ^ 6 = 64 by decide] at this
  exact this
theorem sbR_eq {N : Nat → Int} {k q : Nat} : sbR N k q = sb (stF N (nN N) k (fun _ => 0)) q := rfl
end C12

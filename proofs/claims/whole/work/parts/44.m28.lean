section M28
variable {G : Gl} {d : Nat} {T : Sh} {I : Mi} {N : Nat → Int} {Q : Option AV → Sh → Mi → Prop}
def bA (B : Nat → Int) (tp k : Nat) : Int := if k < tp then ian (B k) 255 else -1
theorem btA_bA {I : Mi} {tp k : Nat} (h : I 274 1 = (tp : Int)) : btA I (k : Int) = bA (I 275) tp k := by
  unfold btA bA
  rw [h]
  by_cases g : k < tp
  · rw [if_pos g, if_pos (by omega)]; rfl
  · rw [if_neg g, if_neg (by omega)]
def skS (B : Nat → Int) (tp : Nat) : Nat → Nat → Nat
  | 0, a => a
  | u + 1, a => if bA B tp a = 32 then skS B tp u (a + 1) else a
theorem skS_succ (B : Nat → Int) (tp u a : Nat) : skS B tp (u + 1) a = if bA B tp a = 32 then skS B tp u (a + 1) else a := rfl
theorem bA_lt {B : Nat → Int} {tp a : Nat} (h : bA B tp a = 32) : a < tp := by
  unfold bA at h
  split at h
  · assumption
  · omega
theorem skS_le (B : Nat → Int) (tp : Nat) : ∀ u a, a ≤ tp → skS B tp u a ≤ tp := by
  intro u
  induction u with
  | zero => intro a h; exact h
  | succ u ih =>
    intro a h
    rw [skS_succ]
    split
    · rename_i g; exact ih (a + 1) (bA_lt g)
    · exact h
end M28

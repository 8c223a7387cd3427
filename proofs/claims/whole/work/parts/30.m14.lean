section M14
variable {G : Gl} {d : Nat} {T : Sh} {I : Mi} {N : Nat → Int} {Q : Option AV → Sh → Mi → Prop}
abbrev FM (I : Mi) (P W A H N : Nat → Int) : Mi := sr (sr (sr (sr (sr I 286 P) 285 W) 284 A) 274 H) 283 N
section FMs
variable {P W A H : Nat → Int}
theorem FM_r286 : (FM I P W A H N) 286 = P := by
  unfold FM
  rw [sr_ne (by decide), sr_ne (by decide), sr_ne (by decide), sr_ne (by decide), sr_row]
theorem FM_s286 {X : Nat → Int} : sr (FM I P W A H N) 286 X = FM I X W A H N := by
  funext c j
  unfold FM sr
  (repeat' split) <;> first | rfl | (exfalso; omega)
theorem FM_r285 : (FM I P W A H N) 285 = W := by
  unfold FM
  rw [sr_ne (by decide), sr_ne (by decide), sr_ne (by decide), sr_row]
theorem FM_s285 {X : Nat → Int} : sr (FM I P W A H N) 285 X = FM I P X A H N := by
  funext c j
  unfold FM sr
  (repeat' split) <;> first | rfl | (exfalso; omega)
theorem FM_r284 : (FM I P W A H N) 284 = A := by
  unfold FM
  rw [sr_ne (by decide), sr_ne (by decide), sr_row]
theorem FM_s284 {X : Nat → Int} : sr (FM I P W A H N) 284 X = FM I P W X H N := by
  funext c j
  unfold FM sr
  (repeat' split) <;> first | rfl | (exfalso; omega)
theorem FM_r274 : (FM I P W A H N) 274 = H := by
  unfold FM
  rw [sr_ne (by decide), sr_row]
theorem FM_s274 {X : Nat → Int} : sr (FM I P W A H N) 274 X = FM I P W A X N := by
  funext c j
  unfold FM sr
  (repeat' split) <;> first | rfl | (exfalso; omega)
theorem FM_r283 : (FM I P W A H N) 283 = N := by
  unfold FM
  rw [sr_row]
theorem FM_s283 {X : Nat → Int} : sr (FM I P W A H N) 283 X = FM I P W A H X := by
  funext c j
  unfold FM sr
  (repeat' split) <;> first | rfl | (exfalso; omega)
theorem FM_c285_285 {a b m : Nat} : cpM (FM I P W A H N) 285 285 a b m = FM I P (cpyR W a W b m) A H N := by
  unfold cpM
  rw [FM_r285, FM_s285]
theorem FM_c283_285 {a b m : Nat} : cpM (FM I P W A H N) 283 285 a b m = FM I P (cpyR N a W b m) A H N := by
  unfold cpM
  rw [FM_r283, FM_r285, FM_s285]
theorem FM_c285_283 {a b m : Nat} : cpM (FM I P W A H N) 285 283 a b m = FM I P W A H (cpyR W a N b m) := by
  unfold cpM
  rw [FM_r285, FM_r283, FM_s283]
theorem FM_c283_284 {a b m : Nat} : cpM (FM I P W A H N) 283 284 a b m = FM I P W (cpyR N a A b m) H N := by
  unfold cpM
  rw [FM_r283, FM_r284, FM_s284]
theorem FM_c284_283 {a b m : Nat} : cpM (FM I P W A H N) 284 283 a b m = FM I P W A H (cpyR A a N b m) := by
  unfold cpM
  rw [FM_r284, FM_r283, FM_s283]
theorem FM_c283_286 {a b m : Nat} : cpM (FM I P W A H N) 283 286 a b m = FM I (cpyR N a P b m) W A H N := by
  unfold cpM
  rw [FM_r283, FM_r286, FM_s286]
theorem FM_c286_283 {a b m : Nat} : cpM (FM I P W A H N) 286 283 a b m = FM I P W A H (cpyR P a N b m) := by
  unfold cpM
  rw [FM_r286, FM_r283, FM_s283]
end FMs
theorem cpyR_in {F W : Nat → Int} {a b m j : Nat} (h : b ≤ j ∧ j < b + m) : cpyR F a W b m j = F (a + (j - b)) := if_pos h
theorem cpyR_out {F W : Nat → Int} {a b m j : Nat} (h : ¬ (b ≤ j ∧ j < b + m)) : cpyR F a W b m j = W j := if_neg h
/-- the kept rows have tellings that fit -/
def wOk (W : Nat → Int) : Prop := ∀ k, k < 12 → 0 ≤ W (17510 * k + 3) ∧ W (17510 * k + 3) ≤ 13608
def shW (W : Nat → Int) : Nat → (Nat → Int)
  | 0 => W
  | k + 1 => cpyR (shW W k) (17510 * (k + 1)) (shW W k) (17510 * k) ((shW W k (17510 * (k + 1) + 3)).toNat + 3902)
theorem shW_succ (W : Nat → Int) (k : Nat) : shW W (k + 1) = cpyR (shW W k) (17510 * (k + 1)) (shW W k) (17510 * k) ((shW W k (17510 * (k + 1) + 3)).toNat + 3902) := rfl
theorem wOk_cp {W F : Nat → Int} {a b m : Nat} (hw : wOk W) (hb : b < 12) (hm : 3902 ≤ m) (hm2 : m ≤ 17510) (hF : 0 ≤ F (a + 3) ∧ F (a + 3) ≤ 13608) : wOk (cpyR F a W (17510 * b) m) := by
  intro k hk
  by_cases e : k = b
  · subst e
    rw [cpyR_in (by omega), show a + (17510 * k + 3 - 17510 * k) = a + 3 by omega]
    exact hF
  · rw [cpyR_out (by omega)]
    exact hw k hk
theorem shW_ok {W : Nat → Int} (hw : wOk W) : ∀ k, k ≤ 11 → wOk (shW W k) := by
  intro k
  induction k with
  | zero => intro _; exact hw
  | succ k ih =>
    intro hk
    have h := ih (by omega)
    have h1 := h (k + 1) (by omega)
    rw [shW_succ]
    exact wOk_cp h (by omega) (by omega) (by omega) h1
def kaW (W N : Nat → Int) (u : Nat) : Nat → Int := if u = 12 then cpyR N 0 (shW W 11) (17510 * 11) (tN N + 3902) else cpyR N 0 W (17510 * u) (tN N + 3902)
def kaU (u : Nat) : Nat := if u = 12 then 12 else u + 1
theorem kaU_le {u : Nat} (h : u ≤ 12) : kaU u ≤ 12 := by unfold kaU; split <;> omega
theorem kaW_ok {W N : Nat → Int} {u : Nat} (hw : wOk W) (hu : u ≤ 12) (hR : Rng N) : wOk (kaW W N u) := by
  have ht := ok_3.mp (hR 3)
  have ht2 := tN_rd hR
  unfold kaW
  split
  · exact wOk_cp (shW_ok hw 11 (by omega)) (by omega) (by omega) (by omega) ht
  · exact wOk_cp hw (by omega) (by omega) (by omega) ht
end M14

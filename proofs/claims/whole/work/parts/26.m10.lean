section M10
variable {G : Gl} {d : Nat} {T : Sh} {I : Mi} {N : Nat → Int} {Q : Option AV → Sh → Mi → Prop}
def mnS (B n q a : Nat) : Nat → (Nat → Int) → (Nat → Int)
  | 0, M => M
  | u + 1, M => match fdF M B n q a with
    | none => M
    | some t => mnS B n q a u (hvF M t.2.1 t.2.2 (lnB n (B * 2 ^ t.2.1) t.2.2))
theorem mnS_none {B n q a : Nat} {M : Nat → Int} (h : fdF M B n q a = none) : ∀ u, mnS B n q a u M = M
  | 0 => rfl
  | u + 1 => by unfold mnS; rw [h]
theorem mnS_some {B n q a u : Nat} {M : Nat → Int} {t : Nat × Nat × Nat} (h : fdF M B n q a = some t) : mnS B n q a (u + 1) M = mnS B n q a u (hvF M t.2.1 t.2.2 (lnB n (B * 2 ^ t.2.1) t.2.2)) := by
  rw [mnS, h]
def psT (B n q : Nat) (M : Nat → Int) (b : Nat) : Nat → Int := if ukO M q b (lnB n (B * 2 ^ q) b) = 1 then mnS B n q (b + lnB n (B * 2 ^ q) b) 256 (hvF (askF M q b (lnB n (B * 2 ^ q) b)) q b (lnB n (B * 2 ^ q) b)) else askF M q b (lnB n (B * 2 ^ q) b)
def psS (B n q : Nat) (M : Nat → Int) : Nat → (Nat → Int)
  | 0 => M
  | k + 1 => psT B n q (psS B n q M k) (k * (B * 2 ^ q))
theorem psS_succ (B n q : Nat) (M : Nat → Int) (k : Nat) : psS B n q M (k + 1) = psT B n q (psS B n q M k) (k * (B * 2 ^ q)) := rfl
/-- how a mending stands: c were asked for beyond those of the mends -/
def mInv (N0 M : Nat → Int) (n c : Nat) : Prop := Rng M ∧ sameM N0 M ∧ tN M + 8 * unl M n ≤ tN N0 + c + 8 * unl N0 n ∧ tN N0 ≤ tN M
def ordN (N : Nat → Int) (q n : Nat) : Prop := ∀ p, p ≤ q → ∀ k, k < n → oP N p k < n
theorem ordN_same {N M : Nat → Int} {q n : Nat} (hq : q < 6) (hn : n ≤ 256) (h : ordN N q n) (hs : sameM N M) : ordN M q n := fun p hp k hk => by rw [sameM_oP hs (by omega)]; exact h p hp k hk
theorem hvS_t (p : Nat) : ∀ (u : Nat) (M : Nat → Int) (b r : Nat), tN M ≤ tN (hvS p u M b r) := by
  have md : ∀ (M : Nat → Int) (x : Nat), tN (mdF M x) = tN M := fun M x => by unfold tN; rw [md_ne (by omega) (by omega)]
  intro u
  induction u with
  | zero => intro M b r; exact Nat.le_of_eq (md _ _).symm
  | succ u ih =>
    intro M b r
    rw [hvS_succ]
    split
    · exact Nat.le_of_eq (md _ _).symm
    · split
      · have := ih (askF M p b (r / 2)) b (r / 2); rw [askF_t] at this; omega
      · have := ih (askF M p b (r / 2)) (b + r / 2) (r - r / 2); rw [askF_t] at this; omega
theorem mInv_hv {N0 M : Nat → Int} {n c B q a : Nat} {t : Nat × Nat × Nat} (hq : q < 6) (hn : n ≤ 256) (hB : 0 < B) (ha : a ≤ n) (ho : ordN N0 q n) (h : mInv N0 M n c) (hb : tN N0 + c + 8 * unl N0 n + 8 ≤ 13608) (ht : fdF M B n q a = some t) :
    mInv N0 (hvF M t.2.1 t.2.2 (lnB n (B * 2 ^ t.2.1) t.2.2)) n c ∧ unl (hvF M t.2.1 t.2.2 (lnB n (B * 2 ^ t.2.1) t.2.2)) n + 1 = unl M n ∧ t.2.1 ≤ q ∧ t.2.2 < n ∧ t.2.2 + lnB n (B * 2 ^ t.2.1) t.2.2 ≤ n ∧ 0 < lnB n (B * 2 ^ t.2.1) t.2.2 := by
  obtain ⟨h1, h2, h3, h4⟩ := h
  obtain ⟨g1, g2, g3, g4, _⟩ := fdP_ok (N := M) (n := n) (q := q) (a := a) hB (q + 1) (Nat.le_refl _) t ht
  have g5 : t.2.2 < n := by unfold endO at g2; split at g2 <;> omega
  have hp : 0 < B * 2 ^ t.2.1 := Nat.mul_pos hB (Nat.two_pow_pos _)
  have hl : 0 < lnB n (B * 2 ^ t.2.1) t.2.2 ∧ t.2.2 + lnB n (B * 2 ^ t.2.1) t.2.2 ≤ n := by unfold lnB; omega
  rw [g3] at g4
  obtain ⟨k1, k2, k3, k4⟩ := hvF_ok (n := n) (by omega) hn h1 (ordN_same hq hn ho h2 t.2.1 g1) (by omega) hl.2 hl.1 g4
  have k5 : tN M ≤ tN (hvF M t.2.1 t.2.2 (lnB n (B * 2 ^ t.2.1) t.2.2)) := hvS_t _ _ _ _ _
  exact ⟨⟨k1, h2.trans k2, by omega, by omega⟩, k4, g1, g5, hl.2, hl.1⟩
theorem mnS_ok {N0 : Nat → Int} {n c B q a : Nat} (hq : q < 6) (hn : n ≤ 256) (hB : 0 < B) (ha : a ≤ n) (ho : ordN N0 q n) (hb : tN N0 + c + 8 * unl N0 n + 8 ≤ 13608) : ∀ (u : Nat) (M : Nat → Int), mInv N0 M n c → mInv N0 (mnS B n q a u M) n c := by
  intro u
  induction u with
  | zero => intro M h; exact h
  | succ u ih =>
    intro M h
    cases e : fdF M B n q a with
    | none => rw [mnS_none e]; exact h
    | some t => rw [mnS_some e]; exact ih _ (mInv_hv hq hn hB ha ho h hb e).1
theorem mInv_ask {N0 M : Nat → Int} {n c p b m : Nat} (hn : n ≤ 256) (h : mInv N0 M n c) (ht : tN M < 13608) : mInv N0 (askF M p b m) n (c + 1) := by
  obtain ⟨h1, h2, h3, h4⟩ := h
  exact ⟨Rng_ask h1 ht, h2.trans (sameM_ask M p b m), by rw [askF_t, unl_ask hn]; omega, by rw [askF_t]; omega⟩
theorem mInv_first {N0 M : Nat → Int} {n c q b l : Nat} (hq : q < 6) (hn : n ≤ 256) (ho : ordN N0 q n) (h : mInv N0 M n c) (hb : tN N0 + (c + 1) + 8 * unl N0 n + 8 ≤ 13608) (hl : 0 < l) (hbl : b + l ≤ n) (hu : ukO M q b l = 1) : mInv N0 (hvF (askF M q b l) q b l) n (c + 1) := by
  obtain ⟨h1, h2, h3, h4⟩ := mInv_ask (p := q) (b := b) (m := l) hn h (by have := h.2.2.1; omega)
  obtain ⟨k1, k2, k3, k4⟩ := hvF_ok (n := n) hq hn h1 (ordN_same hq hn ho h2 q (Nat.le_refl q)) (by omega) hbl hl (by rw [ukO_ask h.1 hq (by omega)]; exact hu)
  have k5 : tN (askF M q b l) ≤ tN (hvF (askF M q b l) q b l) := hvS_t _ _ _ _ _
  exact ⟨k1, h2.trans k2, by omega, by omega⟩
theorem psS_ok {N0 : Nat → Int} {n B q : Nat} (hq : q < 6) (hn : n ≤ 256) (hB : 0 < B) (ho : ordN N0 q n) (hR : Rng N0) (hb : tN N0 + nbk n (B * 2 ^ q) + 8 * unl N0 n + 8 ≤ 13608) : ∀ k, k ≤ nbk n (B * 2 ^ q) → mInv N0 (psS B n q N0 k) n k := by
  intro k
  induction k with
  | zero => intro _; exact ⟨hR, sameM.refl N0, Nat.le_refl _, Nat.le_refl _⟩
  | succ k ih =>
    intro hk
    have h := ih (by omega)
    have hp : 0 < B * 2 ^ q := Nat.mul_pos hB (Nat.two_pow_pos _)
    have hlt := (nbk_lt hp).mp (show k < nbk n (B * 2 ^ q) by omega)
    have hl : 0 < lnB n (B * 2 ^ q) (k * (B * 2 ^ q)) ∧ k * (B * 2 ^ q) + lnB n (B * 2 ^ q) (k * (B * 2 ^ q)) ≤ n := by unfold lnB; omega
    rw [psS_succ]
    unfold psT
    split
    · rename_i g
      exact mnS_ok hq hn hB hl.2 ho (by omega) 256 _ (mInv_first hq hn ho h (by omega) hl.1 hl.2 g)
    · exact mInv_ask hn h (by have := h.2.2.1; omega)
def psF (B : Nat) (N : Nat → Int) : Nat → Int := un (un (psS B (nN N) (N 2).toNat (shF N (N 2).toNat (nN N)) (nbk (nN N) (B * 2 ^ (N 2).toNat))) 2 (((N 2).toNat + 1 : Nat) : Int)) 0 3
theorem bst_some {N : Nat → Int} {B n q a : Nat} (h : bst (fdF N B n q a) ≤ 256) : ∃ t, fdF N B n q a = some t := by
  cases e : fdF N B n q a with
  | none => rw [e] at h; exact absurd h (by decide)
  | some t => exact ⟨t, rfl⟩
theorem bst_none {N : Nat → Int} {B n q a : Nat} (hB : 0 < B) (hn : n ≤ 256) (h : ¬ bst (fdF N B n q a) ≤ 256) : fdF N B n q a = none := by
  cases e : fdF N B n q a with
  | none => rfl
  | some t =>
    have := (fdP_ok (N := N) (n := n) (q := q) (a := a) hB (q + 1) (Nat.le_refl _) t e).2.2.1
    rw [e] at h
    exact absurd (show t.1 ≤ 256 by rw [this]; unfold lnB; omega) h
theorem ordN_sh {N : Nat → Int} {q n : Nat} (hq : q < 6) (hn : n ≤ 256) (hR : Rng N) (h : ∀ p, p < q → ∀ k, k < n → oP N p k < n) : ordN (shF N q n) q n := by
  obtain ⟨a, b, c⟩ := shF_ok (p := q) hR hq hn
  intro p hp k hk
  by_cases e : p = q
  · subst e; exact rowIn_oP c hk
  · have := h p (by omega) k hk
    unfold oP at this ⊢
    rw [b _ (by omega) (by omega)]
    exact this
end M10

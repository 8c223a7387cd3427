section M7
/-- the parity over a run is that of its halves -/
theorem ixo_bit {a b : Int} (ha : a = 0 ∨ a = 1) (hb : b = 0 ∨ b = 1) : ixo a b = (a + b) % 2 := by
  rcases ha with rfl | rfl <;> rcases hb with rfl | rfl <;> decide +kernel
theorem ixo_01 {a b : Int} (ha : a = 0 ∨ a = 1) (hb : b = 0 ∨ b = 1) : ixo a b = 0 ∨ ixo a b = 1 := by
  rw [ixo_bit ha hb]; omega
theorem parO_01 {N : Nat → Int} {y p b : Nat} (h : Rng N) (hy : y = 276 ∨ y = 532) (hp : p < 6) : ∀ m, b + m ≤ 256 → parO N y p b m = 0 ∨ parO N y p b m = 1 := by
  intro m
  induction m with
  | zero => intro _; exact Or.inl rfl
  | succ m ih =>
    intro hm
    have := oP_rd (p := p) (k := b + m) (Rng_O h) (by omega)
    rw [parO_succ]
    exact ixo_01 (ih (by omega)) (Rng_key h (by omega) (by omega))
theorem parO_add {N : Nat → Int} {y p b h : Nat} (hR : Rng N) (hy : y = 276 ∨ y = 532) (hp : p < 6) : ∀ m, b + h + m ≤ 256 → parO N y p b (h + m) = (parO N y p b h + parO N y p (b + h) m) % 2 := by
  intro m
  induction m with
  | zero =>
    intro hm
    have := parO_01 (b := b) hR hy hp h (by omega)
    show parO N y p b h = (parO N y p b h + 0) % 2
    omega
  | succ m ih =>
    intro hm
    have h1 := parO_01 (b := b) hR hy hp (h + m) (by omega)
    have h2 := parO_01 (b := b + h) hR hy hp m (by omega)
    have h0 := parO_01 (b := b) hR hy hp h (by omega)
    have := oP_rd (p := p) (k := b + h + m) (Rng_O hR) (by omega)
    have h3 := Rng_key (j := y + oP N p (b + h + m)) hR (by omega) (by omega)
    rw [show h + (m + 1) = (h + m) + 1 from rfl, parO_succ, parO_succ, show b + (h + m) = b + h + m by omega, ixo_bit h1 h3, ixo_bit h2 h3, ih (by omega)]
    omega
theorem ukO_half {N : Nat → Int} {p b h m : Nat} (hR : Rng N) (hp : p < 6) (hb : b + h + m ≤ 256) (h1 : ukO N p b (h + m) = 1) (h2 : ¬ ukO N p b h = 1) : ukO N p (b + h) m = 1 := by
  have g1 := bi_1 (p := ¬ parO N 276 p b (h + m) = parO N 532 p b (h + m)) (by rw [show bi _ = (1 : Int) from h1]; decide)
  have g2 : parO N 276 p b h = parO N 532 p b h := Decidable.of_not_not (fun g => h2 (bi_t g))
  rw [parO_add hR (Or.inl rfl) hp m hb, parO_add hR (Or.inr rfl) hp m hb, g2] at g1
  exact bi_t (fun g => g1 (by rw [g]))
theorem ukO_one {N : Nat → Int} {p b : Nat} (hR : Rng N) (hp : p < 6) (hb : b + 1 ≤ 256) (h1 : ukO N p b 1 = 1) : ¬ N (276 + oP N p b) = N (532 + oP N p b) := by
  have g1 := bi_1 (p := ¬ parO N 276 p b 1 = parO N 532 p b 1) (by rw [show bi _ = (1 : Int) from h1]; decide)
  intro e
  apply g1
  show ixo 0 (N (276 + oP N p (b + 0))) = ixo 0 (N (532 + oP N p (b + 0)))
  rw [Nat.add_zero, e]
theorem unl_ext {N M : Nat → Int} : ∀ n, (∀ k, k < n → N (k + 276) = M (k + 276) ∧ N (k + 532) = M (k + 532)) → unl N n = unl M n := by
  intro n
  induction n with
  | zero => intro _; rfl
  | succ n ih => intro h; rw [unl_succ, unl_succ, ih (fun k hk => h k (by omega)), (h n (by omega)).1, (h n (by omega)).2]
theorem md_ne {N : Nat → Int} {x j : Nat} (h : j ≠ x + 532) (h7 : j ≠ 7) : mdF N x j = N j := by unfold mdF; rw [un_ne h7, un_ne h]
theorem md_at {N : Nat → Int} {x : Nat} : mdF N x (x + 532) = 1 - N (x + 532) := by unfold mdF; rw [un_ne (by omega), un_at]
theorem unl_md {N : Nat → Int} {x : Nat} (hR : Rng N) (hx : ¬ N (x + 276) = N (x + 532)) (hxx : x < 256) : ∀ n, n ≤ 256 → x < n → unl (mdF N x) n + 1 = unl N n := by
  intro n
  induction n with
  | zero => intro _ h; omega
  | succ n ih =>
    intro hn h
    rw [unl_succ, unl_succ]
    by_cases e : x = n
    · subst e
      have h1 := Rng_key (j := x + 276) hR (by omega) (by omega)
      have h2 := Rng_key (j := x + 532) hR (by omega) (by omega)
      rw [md_at, md_ne (by omega) (by omega), if_pos (by omega), if_neg hx, unl_ext (N := mdF N x) (M := N) x (fun k hk => ⟨md_ne (by omega) (by omega), md_ne (by omega) (by omega)⟩)]
    · have := ih (by omega) (by omega)
      rw [md_ne (by omega) (by omega), md_ne (by omega) (by omega)]
      omega
/-- what a mending leaves as it is -/
def sameM (N M : Nat → Int) : Prop := ∀ j, j < 3902 → j ≠ 3 → j ≠ 7 → ¬ (532 ≤ j ∧ j < 788) → M j = N j
theorem sameM.refl (N : Nat → Int) : sameM N N := fun _ _ _ _ _ => rfl
theorem sameM.trans {N M K : Nat → Int} (h1 : sameM N M) (h2 : sameM M K) : sameM N K := fun j a b c e => (h2 j a b c e).trans (h1 j a b c e)
theorem sameM_ask (N : Nat → Int) (p b m : Nat) : sameM N (askF N p b m) := fun j a b c e => tl_ne b a
theorem sameM_md (N : Nat → Int) {x : Nat} (hx : x < 256) : sameM N (mdF N x) := fun j a b c e => md_ne (by omega) c
theorem sameM_oP {N M : Nat → Int} (h : sameM N M) {p k : Nat} (hk : 256 * p + k < 1536) : oP M p k = oP N p k := by unfold oP; rw [h _ (by omega) (by omega) (by omega) (by omega)]
theorem ukO_ask {N : Nat → Int} {p b m p2 b2 m2 : Nat} (hR : Rng N) (hp : p < 6) (hb : b + m ≤ 256) : ukO (askF N p2 b2 m2) p b m = ukO N p b m := by
  unfold ukO askF
  rw [tl_parO (Rng_O hR) (by decide) (by decide) hp m hb, tl_parO (Rng_O hR) (by decide) (by decide) hp m hb]
theorem unl_ask {N : Nat → Int} {p b m n : Nat} (hn : n ≤ 256) : unl (askF N p b m) n = unl N n := unl_ext n (fun k hk => ⟨tl_ne (by omega) (by omega), tl_ne (by omega) (by omega)⟩)
theorem hvS_ok {p n : Nat} (hp : p < 6) (hn : n ≤ 256) : ∀ (u : Nat) (N : Nat → Int) (b r : Nat), Rng N → (∀ k, k < n → oP N p k < n) → tN N + u ≤ 13608 → b + r ≤ n → 0 < r → r ≤ 2 ^ u → ukO N p b r = 1 →
    Rng (hvS p u N b r) ∧ sameM N (hvS p u N b r) ∧ tN (hvS p u N b r) ≤ tN N + u ∧ unl (hvS p u N b r) n + 1 = unl N n := by
  intro u
  have last : ∀ (u : Nat) (N : Nat → Int) (b r : Nat), Rng N → (∀ k, k < n → oP N p k < n) → tN N ≤ 13608 → b + r ≤ n → r = 1 → ukO N p b r = 1 →
      Rng (hvS p u N b r) ∧ sameM N (hvS p u N b r) ∧ tN (hvS p u N b r) ≤ tN N + u ∧ unl (hvS p u N b r) n + 1 = unl N n := by
    intro u N b r hR hO ht hb hr h1
    subst hr
    have hx := hO b (by omega)
    rw [hvS_end p u N b 1 (by omega)]
    have hu := ukO_one hR hp (by omega) h1
    refine ⟨Rng_md hR (by omega), sameM_md N (by omega), ?_, unl_md hR (by rw [Nat.add_comm 276, Nat.add_comm 532] at hu; exact hu) (by omega) n hn hx⟩
    unfold tN
    rw [md_ne (by omega) (by omega)]
    omega
  induction u with
  | zero =>
    intro N b r hR hO ht hb hr h2 h1
    exact last 0 N b r hR hO (by omega) hb (by simp at h2; omega) h1
  | succ u ih =>
    intro N b r hR hO ht hb hr h2 h1
    by_cases hr1 : r ≤ 1
    · exact last (u + 1) N b r hR hO (by omega) hb (by omega) h1
    · have h3 := p2_half h2 (by omega)
      have hRa := Rng_ask (p := p) (b := b) (m := r / 2) hR (by omega)
      have hOa : ∀ k, k < n → oP (askF N p b (r / 2)) p k < n := fun k hk => by rw [sameM_oP (sameM_ask N p b (r / 2)) (by omega)]; exact hO k hk
      have fin : ∀ b' r', Rng (hvS p u (askF N p b (r / 2)) b' r') ∧ sameM (askF N p b (r / 2)) (hvS p u (askF N p b (r / 2)) b' r') ∧ tN (hvS p u (askF N p b (r / 2)) b' r') ≤ tN (askF N p b (r / 2)) + u ∧ unl (hvS p u (askF N p b (r / 2)) b' r') n + 1 = unl (askF N p b (r / 2)) n →
          Rng (hvS p u (askF N p b (r / 2)) b' r') ∧ sameM N (hvS p u (askF N p b (r / 2)) b' r') ∧ tN (hvS p u (askF N p b (r / 2)) b' r') ≤ tN N + (u + 1) ∧ unl (hvS p u (askF N p b (r / 2)) b' r') n + 1 = unl N n := by
        intro b' r' ⟨a1, a2, a3, a4⟩
        rw [askF_t] at a3
        rw [unl_ask hn] at a4
        exact ⟨a1, (sameM_ask N p b (r / 2)).trans a2, by omega, a4⟩
      rw [hvS_succ, if_neg hr1]
      split
      · rename_i g
        exact fin _ _ (ih (askF N p b (r / 2)) b (r / 2) hRa hOa (by rw [askF_t]; omega) (by omega) (by omega) h3.1 (by rw [ukO_ask hR hp (by omega)]; exact g))
      · rename_i g
        refine fin _ _ (ih (askF N p b (r / 2)) (b + r / 2) (r - r / 2) hRa hOa (by rw [askF_t]; omega) (by omega) (by omega) h3.2 ?_)
        rw [ukO_ask hR hp (by omega)]
        exact ukO_half hR hp (by omega) (by rw [show r / 2 + (r - r / 2) = r by omega]; exact h1) g
theorem hvF_ok {N : Nat → Int} {p n b r : Nat} (hp : p < 6) (hn : n ≤ 256) (hR : Rng N) (hO : ∀ k, k < n → oP N p k < n) (ht : tN N + 8 ≤ 13608) (hb : b + r ≤ n) (hr : 0 < r) (h1 : ukO N p b r = 1) :
    Rng (hvF N p b r) ∧ sameM N (hvF N p b r) ∧ tN (hvF N p b r) ≤ tN N + 8 ∧ unl (hvF N p b r) n + 1 = unl N n :=
  hvS_ok hp hn 8 N b r hR hO ht hb hr (by omega) h1
end M7

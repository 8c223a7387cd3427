section C27
variable {G : Gl} {d : Nat} {T : Sh} {I : Mi} {N : Nat → Int} {Q : Option AV → Sh → Mi → Prop}
/-- no row was told of -/
def No2 (M : Nat → Int) : Prop := ∀ k, k < tN M → ¬ tkN M k = 2
theorem cdL_k (q a b c e : Int) : ian (cdL q a b c e) 3 = ian q 3 := by
  refine ext32 (ian_in _ _) (ian_in _ _) (fun k hk => ?_)
  have h3 : b32 3 k = decide (k < 2) := by
    rw [show (3 : Int) = ((2 ^ 2 - 1 : Nat) : Int) by decide, b32_nat, Nat.testBit_two_pow_sub_one]
    simp [hk]
  rw [b32_and, b32_and, h3]
  by_cases g : k < 2
  · unfold cdL
    have e1 : b32 (isl a 2) k = false := by rw [show (2 : Int) = ((2 : Nat) : Int) from rfl, b32_shl _ (by decide)]; simp [g]
    have e2 : b32 (isl b 6) k = false := by rw [show (6 : Int) = ((6 : Nat) : Int) from rfl, b32_shl _ (by decide)]; simp [show k < 6 by omega]
    have e3 : b32 (isl c 9) k = false := by rw [show (9 : Int) = ((9 : Nat) : Int) from rfl, b32_shl _ (by decide)]; simp [show k < 9 by omega]
    have e4 : b32 (isl e 18) k = false := by rw [show (18 : Int) = ((18 : Nat) : Int) from rfl, b32_shl _ (by decide)]; simp [show k < 18 by omega]
    rw [b32_or, b32_or, b32_or, b32_or, e1, e2, e3, e4]
    simp
  · simp [g]
theorem No2_tl {M : Nat → Int} {k a b c e : Int} (h : No2 M) (hk : ¬ ian k 3 = 2) : No2 (tlF M k a b c e) := by
  intro i hi
  rw [tl_t] at hi
  by_cases g : i < tN M
  · rw [tkN_ext (tl_cell g)]; exact h i g
  · have e0 : i = tN M := by omega
    subst e0
    unfold tkN cdN
    rw [Int.toNat_natCast, tl_new, cdL_k]
    exact hk
theorem No2_lo {M K : Nat → Int} (h : No2 M) (ht : tN K = tN M) (hc : ∀ k, k < tN M → K (k + 3902) = M (k + 3902)) : No2 K := fun i hi => by rw [ht] at hi; rw [tkN_ext (hc i hi)]; exact h i hi
theorem No2_ask {M : Nat → Int} {p b m : Nat} (h : No2 M) : No2 (askF M p b m) := No2_tl h (by decide +kernel)
theorem No2_md {M : Nat → Int} {x : Nat} (hx : x < 256) (h : No2 M) : No2 (mdF M x) := No2_lo h (md_t M x) (fun k _ => md_lo (by omega) (by omega))
theorem sbR_ext01 {N M : Nat → Int} {q n k : Nat} (hc : cdOk N q n k) (h2 : ¬ tkN N k = 2) (hq : q ≤ 6) (hn : nN N = n) (hn2 : n ≤ 256) (hM : nN M = n) (h : M (k + 3902) = N (k + 3902)) (ho : ∀ p i, p < q → i < n → oP M p i = oP N p i) (x : Nat) : sbR M k x = sbR N k x := by
  have e : stF M (nN M) k (fun _ => 0) = stF N (nN N) k (fun _ => 0) := by
    rw [hM, hn]
    unfold stF
    rw [tkN_ext h, tpN_ext h, tpN_ext h, tpN_ext h]
    rcases hc with ⟨a, p, b, m, h1, h2, h3, h4, h5⟩ | ⟨a, e, j, h1, h2, h3, h4⟩ | ⟨a, i, h1, h3, h4⟩
    · obtain ⟨e1, e2, e3, e4, e5⟩ := cd_0 h1 (by omega) (by omega) h5
      rw [if_pos e1, if_pos e1, e3, e4, e5, Int.toNat_natCast, Int.toNat_natCast, Int.toNat_natCast]
      exact stO_ext m (fun i hi => ho p _ h2 (by omega))
    · obtain ⟨e1, e2, e3, e4⟩ := cd_1 h1 (by omega) h3 h4
      have z0 : ¬ tkN N (k : Int) = 0 := by rw [e1]; decide
      rw [if_neg z0, if_pos e1, if_neg z0, if_pos e1]
    · obtain ⟨e1, _⟩ := cd_2 h1 h3 h4
      exact absurd e1 h2
  rw [sbR_eq, sbR_eq, e]
theorem kp_par {J : Mi} {x y : Nat} {M : Nat → Int} {z r i : Nat} : ∀ n, (∀ k, k < n → J x k = M (k + z) ∧ J y (i + k) = M (r + i + k)) → kpS J x y i n = parR M z r i n := by
  intro n
  induction n with
  | zero => intro _; rfl
  | succ n ih =>
    intro h
    rw [kpS_succ, parR_succ, ih (fun k hk => h k (by omega)), (h n (by omega)).1, (h n (by omega)).2, Nat.add_comm n z]
theorem parR_ext {N M : Nat → Int} {z r i : Nat} : ∀ n, (∀ k, k < n → M (z + k) = N (z + k) ∧ M (r + i + k) = N (r + i + k)) → parR M z r i n = parR N z r i n := by
  intro n
  induction n with
  | zero => intro _; rfl
  | succ n ih => intro h; rw [parR_succ, parR_succ, ih (fun k hk => h k (by omega)), (h n (by omega)).1, (h n (by omega)).2]
end C27

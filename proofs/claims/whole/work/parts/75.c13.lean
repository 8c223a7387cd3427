section C13
variable {G : Gl} {d : Nat} {T : Sh} {I : Mi} {N : Nat → Int} {Q : Option AV → Sh → Mi → Prop}
/-- the orders of the first e passes are orders of the n places -/
def PmO (M : Nat → Int) (e n : Nat) : Prop := Rng M ∧ M 1 = (n : Int) ∧ n ≤ 256 ∧ e ≤ 6 ∧ (∀ q, q < e → ∀ k, k < n → oP M q k < n) ∧ (∀ q, q < e → ∀ i j, i < n → j < n → oP M q i = oP M q j → i = j) ∧ ∀ q, q < e → ∀ x, x < n → ∃ i, i < n ∧ oP M q i = x
theorem PmO.nn {M : Nat → Int} {e n : Nat} (h : PmO M e n) : nN M = n := by unfold nN; rw [h.2.1]; omega
/-- a State while it is mended -/
def MwR (T : Sh) (I : Mi) (s p o t c : Nat) (M : Nat → Int) (e n : Nat) : Prop := ShS T s p o t c ∧ (I (s + 3) 0 = (n : Int) ∧ ∀ k, k < n → I (s + 4) k = M (k + 276) ∧ I (s + 5) k = M (k + 532)) ∧ (∀ q, q < e → ∀ k, k < n → I (s + 2) (256 * q + k) = M (256 * q + k + 1044)) ∧ LdR I s p o t M ∧ I s 8 = M 7 ∧ tN M ≤ c
theorem tpN_ext {N M : Nat → Int} {k : Nat} (h : M (k + 3902) = N (k + 3902)) (f b : Int) : tpN M k f b = tpN N k f b := by unfold tpN cdN; rw [Int.toNat_natCast, h]
theorem tkN_ext {N M : Nat → Int} {k : Nat} (h : M (k + 3902) = N (k + 3902)) : tkN M k = tkN N k := by unfold tkN cdN; rw [Int.toNat_natCast, h]
theorem stO_ext {N M : Nat → Int} {p b : Nat} {S : Nat → Int} : ∀ m, (∀ i, i < m → oP M p (b + i) = oP N p (b + i)) → stO M p b S m = stO N p b S m := by
  intro m
  induction m with
  | zero => intro _; rfl
  | succ m ih => intro h; rw [stO_succ, stO_succ, ih (fun i hi => h i (by omega)), h m (by omega)]
theorem lrS_ext {N M : Nat → Int} {r i : Nat} {S : Nat → Int} : ∀ n, (∀ k, k < n → M (r + i + k) = N (r + i + k)) → lrS M r i S n = lrS N r i S n := by
  intro n
  induction n with
  | zero => intro _; rfl
  | succ n ih => intro h; rw [lrS_succ, lrS_succ, ih (fun k hk => h k (by omega)), h n (by omega)]
theorem tp9_le {N : Nat → Int} {k f : Int} : (tpN N k f 9).toNat ≤ 511 := by obtain ⟨r, h1, h2⟩ := tpN_9 N k f; rw [h1]; omega
/-- the codes, the orders told of and the row told of are the same -/
theorem sbR_ext {N M : Nat → Int} {q n k : Nat} (hc : cdOk N q n k) (hq : q ≤ 6) (hn : nN N = n) (hn2 : n ≤ 256) (hM : nN M = n) (h : M (k + 3902) = N (k + 3902)) (ho : ∀ p i, p < q → i < n → oP M p i = oP N p i) (hr : ∀ j, 2580 ≤ j → j < 2870 → M j = N j) (x : Nat) : sbR M k x = sbR N k x := by
  have e : stF M (nN M) k (fun _ => 0) = stF N (nN N) k (fun _ => 0) := by
    rw [hM, hn]
    unfold stF
    rw [tkN_ext h, tpN_ext h, tpN_ext h, tpN_ext h]
    rcases hc with ⟨a, p, b, m, h1, h2, h3, h4, h5⟩ | ⟨a, e, j, h1, h2, h3, h4⟩ | ⟨a, i, h1, h2, h3⟩
    · obtain ⟨e1, e2, e3, e4, e5⟩ := cd_0 h1 (by omega) (by omega) h5
      rw [if_pos e1, if_pos e1, e3, e4, e5, Int.toNat_natCast, Int.toNat_natCast, Int.toNat_natCast]
      exact stO_ext m (fun i hi => ho p _ h2 (by omega))
    · obtain ⟨e1, e2, e3, e4⟩ := cd_1 h1 (by omega) h3 h4
      have z0 : ¬ tkN N (k : Int) = 0 := by rw [e1]; decide
      rw [if_neg z0, if_pos e1, if_neg z0, if_pos e1]
    · obtain ⟨e1, e2, e3⟩ := cd_2 h1 h2 h3
      have z0 : ¬ tkN N (k : Int) = 0 := by rw [e1]; decide
      have z1 : ¬ tkN N (k : Int) = 1 := by rw [e1]; decide
      rw [if_neg z0, if_neg z1, if_neg z0, if_neg z1, e3, Int.toNat_natCast]
      exact lrS_ext n (fun k hk => hr _ (by omega) (by omega))
  rw [sbR_eq, sbR_eq, e]
theorem LdE_ext {I : Mi} {p o t : Nat} {N M : Nat → Int} {q n k : Nat} (hI : LdE I p o t N k) (hc : cdOk N q n k) (hq : q ≤ 6) (hn : nN N = n) (hn2 : n ≤ 256) (hM : nN M = n) (h : M (k + 3902) = N (k + 3902)) (ho : ∀ p i, p < q → i < n → oP M p i = oP N p i) (hr : ∀ j, 2580 ≤ j → j < 2870 → M j = N j) : LdE I p o t M k := by
  obtain ⟨a, b, c⟩ := hI
  refine ⟨?_, ?_, fun x hx => ?_⟩
  · rw [tpN_ext h]; exact a
  · rw [tkN_ext h, tpN_ext h]; exact b
  · rw [sbR_ext hc hq hn hn2 hM h ho hr]; exact c x hx
/-- the arrays of a ledger at other names -/
theorem LdE_mv {I K : Mi} {p o t p2 o2 t2 : Nat} {N : Nat → Int} {k : Nat} (hI : LdE I p o t N k) (h1 : K p2 k = I p k) (h2 : K o2 k = I o k) (h3 : ∀ j, j < 4 → K t2 (4 * k + j) = I t (4 * k + j)) : LdE K p2 o2 t2 N k := by
  obtain ⟨a, b, c⟩ := hI
  exact ⟨h1.trans a, h2.trans b, fun x hx => by rw [h3 (x / 64) (by omega)]; exact c x hx⟩
theorem ak_t (M : Nat → Int) (p b m : Nat) : tN (askF M p b m) = tN M + 1 := askF_t M p b m
theorem ak_cell {M : Nat → Int} {p b m k : Nat} (hk : k < tN M) : askF M p b m (k + 3902) = M (k + 3902) := by unfold askF tlF; rw [un_ne (by omega), un_ne (by omega)]
theorem ak_new {M : Nat → Int} {p b m : Nat} : askF M p b m (tN M + 3902) = cdL 0 (parO M 276 p b m) p b m := by unfold askF tlF; rw [un_ne (by omega), un_at]
theorem ak_lo {M : Nat → Int} {p b m j : Nat} (h3 : j ≠ 3) (h : j < 3902) : askF M p b m j = M j := tl_ne h3 h
theorem PmO_ask {M : Nat → Int} {e n p b m : Nat} (h : PmO M e n) (ht : tN M < 13608) : PmO (askF M p b m) e n := by
  obtain ⟨a1, a2, a3, a4, a5, a6, a7⟩ := h
  have ho : ∀ q k, 256 * q + k < 1536 → oP (askF M p b m) q k = oP M q k := fun q k hq => by unfold oP; rw [ak_lo (by omega) (by omega)]
  refine ⟨Rng_ask a1 ht, by rw [ak_lo (by decide) (by decide)]; exact a2, a3, a4, fun q hq k hk => ?_, fun q hq i j hi hj hij => ?_, fun q hq x hx => ?_⟩
  · rw [ho q k (by omega)]; exact a5 q hq k hk
  · rw [ho q i (by omega), ho q j (by omega)] at hij; exact a6 q hq i j hi hj hij
  · obtain ⟨i, h1, h2⟩ := a7 q hq x hx
    exact ⟨i, h1, by rw [ho q i (by omega)]; exact h2⟩
theorem LdOk_ask {M : Nat → Int} {q n p b m : Nat} (h : LdOk M q n) (hR : Rng M) (hq : q ≤ 6) (hn : n ≤ 256) (hp : p < q) (hb : b + m ≤ n) (hm : 1 ≤ m) : LdOk (askF M p b m) q n := by
  intro k hk
  rw [ak_t] at hk
  by_cases g : k < tN M
  · have := h k g
    unfold cdOk at this ⊢
    rw [ak_cell g]
    exact this
  · have e : k = tN M := by omega
    subst e
    have h01 := parO_01 (N := M) (y := 276) (p := p) (b := b) hR (Or.inl rfl) (by omega) m (by omega)
    refine Or.inl ⟨(parO M 276 p b m).toNat, p, b, m, by omega, hp, hb, hm, ?_⟩
    rw [ak_new]
    congr 1
    omega
end C13

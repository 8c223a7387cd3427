section C22
variable {G : Gl} {d : Nat} {T : Sh} {I : Mi} {N : Nat → Int} {Q : Option AV → Sh → Mi → Prop}
theorem unl_pos_of {M1 M : Nat → Int} {n p b l : Nat} (hR : Rng M) (hp : p < 6) (hn : n ≤ 256) (hb : b + l ≤ n) (hu : ukO M p b l = 1) (ho : ordN M1 p n) (hs : sameM M1 M) : 1 ≤ unl M n := by
  refine Nat.pos_of_ne_zero (fun h0 => ?_)
  have hall : ∀ k, unl M k = 0 → ∀ x, x < k → M (x + 276) = M (x + 532) := by
    intro k
    induction k with
    | zero => intro _ x hx; exact absurd hx (Nat.not_lt_zero x)
    | succ k ih =>
      intro h x hx
      rw [unl_succ] at h
      by_cases g : M (k + 276) = M (k + 532)
      · by_cases e : x = k
        · subst e; exact g
        · exact ih (by omega) x (by omega)
      · rw [if_neg g] at h; omega
  have heq : ∀ m, b + m ≤ n → parO M 276 p b m = parO M 532 p b m := by
    intro m
    induction m with
    | zero => intro _; rfl
    | succ m ih =>
      intro hm
      have ho2 := ordN_same hp hn ho hs p (Nat.le_refl p) (b + m) (by omega)
      rw [parO_succ, parO_succ, ih (by omega), Nat.add_comm 276, Nat.add_comm 532, hall n h0 _ ho2]
  unfold ukO at hu
  rw [bi_f (fun h => h (heq l hb))] at hu
  exact absurd hu (by decide)
/-- while the unlike blocks of a pass are halved -/
def InI (B n q a : Nat) (G1 M1 M : Nat → Int) (cnt : Nat) (o : F3) (j : Nat) : Prop :=
  mInv M1 M n cnt ∧ (o = none → G1 = M) ∧ (∀ y i : Nat, ecF B o = ((128 * y + i : Nat) : Int) → i < 128 → y ≤ q ∧ i * (B * 2 ^ y) < n ∧ G1 = mnS B n q a (256 - j) (hvF M y (i * (B * 2 ^ y)) (lnB n (B * 2 ^ y) (i * (B * 2 ^ y)))) ∧ mInv M1 (hvF M y (i * (B * 2 ^ y)) (lnB n (B * 2 ^ y) (i * (B * 2 ^ y)))) n cnt ∧ unl (hvF M y (i * (B * 2 ^ y)) (lnB n (B * 2 ^ y) (i * (B * 2 ^ y)))) n + 1 = unl M n) ∧
  (¬ o = none → ∃ y i : Nat, ecF B o = ((128 * y + i : Nat) : Int) ∧ i < 128) ∧ unl M n + j ≤ 256
theorem ecF_none {B : Nat} {o : F3} : ecF B o = -1 ↔ o = none := by
  cases o with
  | none => exact ⟨fun _ => rfl, fun _ => rfl⟩
  | some t => exact ⟨fun h => absurd (show ((128 * t.2.1 + t.2.2 / (B * 2 ^ t.2.1) : Nat) : Int) = -1 from h) (by intro e; have h2 := Int.natCast_nonneg (128 * t.2.1 + t.2.2 / (B * 2 ^ t.2.1)); rw [e] at h2; exact absurd h2 (by decide)), fun h => nomatch h⟩
theorem blk128 {n B y i : Nat} (hn : n ≤ 256) (hB : 2 ≤ B) (h : i * (B * 2 ^ y) < n) : i < 128 := by
  have h2 : 2 * 1 ≤ B * 2 ^ y := Nat.mul_le_mul hB (Nat.two_pow_pos y)
  have := Nat.mul_le_mul (Nat.le_refl i) h2
  omega
theorem InI_some {B n q a : Nat} {G1 M1 M : Nat → Int} {cnt j : Nat} {t : Nat × Nat × Nat} (hn : n ≤ 256) (hB : 2 ≤ B) (h0 : mInv M1 M n cnt) (h1 : t.2.1 ≤ q) (h2 : t.2.2 < n) (h3 : ∃ i, t.2.2 = i * (B * 2 ^ t.2.1)) (h4 : G1 = mnS B n q a (256 - j) (hvF M t.2.1 t.2.2 (lnB n (B * 2 ^ t.2.1) t.2.2))) (h5 : mInv M1 (hvF M t.2.1 t.2.2 (lnB n (B * 2 ^ t.2.1) t.2.2)) n cnt) (h6 : unl (hvF M t.2.1 t.2.2 (lnB n (B * 2 ^ t.2.1) t.2.2)) n + 1 = unl M n) (h7 : unl M n + j ≤ 256) : InI B n q a G1 M1 M cnt (some t) j := by
  obtain ⟨i, hi⟩ := h3
  have hbs : 0 < B * 2 ^ t.2.1 := Nat.mul_pos (by omega) (Nat.two_pow_pos _)
  have hdv : t.2.2 / (B * 2 ^ t.2.1) = i := by rw [hi]; exact Nat.mul_div_cancel _ hbs
  have h128 := blk128 (i := i) hn hB (by rw [← hi]; exact h2)
  have hec : ecF B (some t) = ((128 * t.2.1 + i : Nat) : Int) := by show ((128 * t.2.1 + t.2.2 / (B * 2 ^ t.2.1) : Nat) : Int) = _; rw [hdv]
  refine ⟨h0, (fun h => nomatch h), fun y i2 he hi2 => ?_, fun _ => ⟨t.2.1, i, hec, h128⟩, h7⟩
  rw [hec] at he
  have e1 : y = t.2.1 := by omega
  have e2 : i2 = i := by omega
  subst e1
  subst e2
  rw [← hi]
  exact ⟨h1, h2, h4, h5, h6⟩
theorem InI_start {B n q b l k : Nat} {M1 M : Nat → Int} (hn : n ≤ 256) (hB : 2 ≤ B) (hq : q < 6) (ho : ordN M1 q n) (h : mInv M1 M n k) (hb : tN M1 + (k + 1) + 8 * unl M1 n + 8 ≤ 13608) (hl : l = lnB n (B * 2 ^ q) b) (hl0 : 0 < l) (hbl : b + l ≤ n) (hbk : b = k * (B * 2 ^ q)) : InI B n q (b + l) (psT B n q M b) M1 (askF M q b l) (k + 1) (if ukO M q b l = 1 then some (l, q, b) else none) 0 := by
  have ht : tN M < 13608 := by have := h.2.2.1; omega
  have h1 := mInv_ask (p := q) (b := b) (m := l) hn h ht
  have hu := unl_le (askF M q b l) n
  by_cases g : ukO M q b l = 1
  · rw [if_pos g]
    have h2 := mInv_first hq hn ho h hb hl0 hbl g
    have hua : ukO (askF M q b l) q b l = 1 := by rw [ukO_ask h.1 hq (by omega)]; exact g
    have hoM := ordN_same hq hn ho h.2.1
    have hta := ak_t M q b l
    have h3 := hvF_ok (N := askF M q b l) (n := n) hq hn h1.1 (fun x hx => by have := ordN_same hq hn ho h1.2.1 q (Nat.le_refl q) x hx; exact this) (by have := h1.2.2.1; have := unl_pos_of h1.1 hq hn hbl hua ho h1.2.1; omega) hbl hl0 hua
    refine InI_some (t := (l, q, b)) hn hB h1 (Nat.le_refl q) (show b < n by omega) ⟨k, hbk⟩ ?_ ?_ ?_ (by omega)
    · show psT B n q M b = mnS B n q (b + l) (256 - 0) (hvF (askF M q b l) q b (lnB n (B * 2 ^ q) b))
      unfold psT
      rw [← hl, if_pos g]
    · show mInv M1 (hvF (askF M q b l) q b (lnB n (B * 2 ^ q) b)) n (k + 1)
      rw [← hl]; exact h2
    · show unl (hvF (askF M q b l) q b (lnB n (B * 2 ^ q) b)) n + 1 = _
      rw [← hl]; exact h3.2.2.2
  · rw [if_neg g]
    refine ⟨h1, fun _ => ?_, fun y i he _ => ?_, fun hh => absurd rfl hh, by omega⟩
    · unfold psT
      rw [← hl, if_neg g]
    · exact absurd (show (-1 : Int) = _ from he) (by omega)
theorem InI_step {B n q a : Nat} {G1 M1 M : Nat → Int} {cnt j y i : Nat} {o : F3} (hn : n ≤ 256) (hB : 2 ≤ B) (hq : q < 6) (ha : a ≤ n) (ho : ordN M1 q n) (hb : tN M1 + cnt + 8 * unl M1 n + 8 ≤ 13608) (h : InI B n q a G1 M1 M cnt o j) (hj : j < 256) (he : ecF B o = ((128 * y + i : Nat) : Int)) (hi : i < 128) :
   InI B n q a G1 M1 (hvF M y (i * (B * 2 ^ y)) (lnB n (B * 2 ^ y) (i * (B * 2 ^ y)))) cnt (fdF (hvF M y (i * (B * 2 ^ y)) (lnB n (B * 2 ^ y) (i * (B * 2 ^ y)))) B n q a) (j + 1) := by
  obtain ⟨h1, h2, h3, h4, h5⟩ := h
  obtain ⟨g1, g2, g3, g4, g5⟩ := h3 y i he hi
  obtain ⟨M2, hM2⟩ : ∃ M2, M2 = hvF M y (i * (B * 2 ^ y)) (lnB n (B * 2 ^ y) (i * (B * 2 ^ y))) := ⟨_, rfl⟩
  rw [← hM2] at g3 g4 g5 ⊢
  obtain ⟨v, hv⟩ : ∃ v, 256 - j = v + 1 := ⟨255 - j, by omega⟩
  rw [hv] at g3
  cases hf : fdF M2 B n q a with
  | none =>
    rw [mnS_none hf] at g3
    exact ⟨g4, fun _ => g3, fun y i he _ => absurd (show (-1 : Int) = _ from he) (by omega), fun hh => absurd rfl hh, by omega⟩
  | some t =>
    rw [mnS_some hf] at g3
    have hx := mInv_hv hq hn (by omega) ha ho g4 hb hf
    have hk := (fdP_ok (N := M2) (n := n) (q := q) (a := a) (by omega : 0 < B) (q + 1) (Nat.le_refl _) t hf).2.2.2.2
    exact InI_some hn hB g4 hx.2.2.1 hx.2.2.2.1 hk (by rw [show 256 - (j + 1) = v by omega]; exact g3) hx.1 hx.2.1 (by omega)
end C22

section M39
variable {G : Gl} {d : Nat} {T : Sh} {I : Mi} {N : Nat → Int} {Q : Option AV → Sh → Mi → Prop}
/-- the most that passes and winnowings tell -/
def tlB (q w : Nat) : Nat := 2048 * q + (256 - 256 / 2 ^ q) + 128 * w
def pOK (N : Nat → Int) (q : Nat) : Prop := Rng N ∧ N 2 = (q : Int) ∧ q ≤ 6 ∧ (∀ p, p < q → ∀ k, k < nN N → oP N p k < nN N) ∧ tN N ≤ tlB q (N 12).toNat
theorem pw_fact : ∀ q : Nat, q < 6 → 256 / 2 ^ q = 2 * (128 / 2 ^ q) ∧ 256 / 2 ^ (q + 1) = 128 / 2 ^ q ∧ 128 / 2 ^ q * 2 ^ q = 128 ∧ 256 / 2 ^ q ≤ 256 := by decide
theorem nbk_le {n B q : Nat} (hn : n ≤ 256) (hB : 2 ≤ B) (hq : q < 6) : nbk n (B * 2 ^ q) ≤ 128 / 2 ^ q := by
  obtain ⟨a, b, c, e⟩ := pw_fact q hq
  have hs : 0 < B * 2 ^ q := Nat.mul_pos (by omega) (Nat.two_pow_pos _)
  refine Nat.le_of_not_lt (fun h => ?_)
  have h2 := (nbk_lt hs).mp h
  rw [Nat.mul_left_comm, c] at h2
  omega
theorem tlB_q {q w : Nat} (hq : q < 6) (hw : w ≤ 8) : tlB q w + 128 / 2 ^ q + 2048 = tlB (q + 1) w ∧ tlB q w + 128 / 2 ^ q + 8 * 256 + 8 ≤ 13608 := by
  obtain ⟨a, b, c, e⟩ := pw_fact q hq
  have h3 : 128 / 2 ^ q ≤ 128 := Nat.div_le_self _ _
  have h4 : 248 ≤ 256 - 128 / 2 ^ q ∨ q < 4 := by
    by_cases g : q < 4
    · exact Or.inr g
    · left
      have : q = 4 ∨ q = 5 := by omega
      rcases this with rfl | rfl <;> decide
  unfold tlB
  rw [a, b]
  constructor
  · omega
  · by_cases g : q = 5
    · subst g
      have : 128 / 2 ^ 5 = 4 := by decide
      omega
    · omega
theorem ps_ne {B q : Nat} {N : Nat → Int} (hB : 2 ≤ B) (h : pOK N q) (hq : q < 6) : pOK (psF B N) (q + 1) ∧ psF B N 0 = 3 ∧ ∀ j, j < 3902 → j ≠ 0 → j ≠ 2 → j ≠ 3 → j ≠ 7 → j ≠ 8 → ¬ (532 ≤ j ∧ j < 788) → ¬ (256 * q + 1044 ≤ j ∧ j < 256 * q + 1300) → psF B N j = N j := by
  obtain ⟨hR, h2, h6, ho, ht⟩ := h
  have hn := nN_le hR
  have hw := (ok_12.mp (hR 12))
  have hN2 : (N 2).toNat = q := by omega
  obtain ⟨s1, s2, s3⟩ := shF_ok (p := q) hR hq hn
  have ho2 := ordN_sh hq hn hR ho
  have hnb := nbk_le (n := nN N) hn hB hq
  obtain ⟨t1, t2⟩ := tlB_q (w := (N 12).toNat) hq (by omega)
  have hu := unl_le (shF N q (nN N)) (nN N)
  have htS : tN (shF N q (nN N)) = tN N := by unfold tN; rw [s2 3 (by decide) (by omega)]
  have hI := psS_ok (N0 := shF N q (nN N)) (n := nN N) (B := B) hq hn (by omega) ho2 s1 (by rw [htS]; omega) (nbk (nN N) (B * 2 ^ q)) (Nat.le_refl _)
  obtain ⟨i1, i2, i3, i4⟩ := hI
  have e : psF B N = un (un (psS B (nN N) q (shF N q (nN N)) (nbk (nN N) (B * 2 ^ q))) 2 ((q + 1 : Nat) : Int)) 0 3 := by unfold psF; rw [hN2]
  have hj : ∀ j, j < 3902 → j ≠ 0 → j ≠ 2 → j ≠ 3 → j ≠ 7 → j ≠ 8 → ¬ (532 ≤ j ∧ j < 788) → ¬ (256 * q + 1044 ≤ j ∧ j < 256 * q + 1300) → psF B N j = N j := by
    intro j a1 a2 a3 a4 a5 a6 a7 a8
    rw [e, un_ne a2, un_ne a3, i2 j a1 a4 a5 a7, s2 j a6 a8]
  have e3 : psF B N 3 = psS B (nN N) q (shF N q (nN N)) (nbk (nN N) (B * 2 ^ q)) 3 := by rw [e, un_ne (by decide), un_ne (by decide)]
  have e1 : psF B N 1 = N 1 := hj 1 (by decide) (by decide) (by decide) (by decide) (by decide) (by decide) (by omega) (by omega)
  have en : nN (psF B N) = nN N := by unfold nN; rw [e1]
  refine ⟨⟨?_, ?_, by omega, ?_, ?_⟩, by rw [e, un_at], hj⟩
  · rw [e]; exact Rng_un (Rng_un i1 (ok_2.mpr (by omega))) (ok_0.mpr (by omega))
  · rw [e, un_ne (by decide), un_at]
  · intro p hp k hk
    rw [en] at hk ⊢
    have hx := ordN_same hq hn ho2 i2 p (by omega) k hk
    unfold oP at hx ⊢
    rw [e, un_ne (by omega), un_ne (by omega)]
    exact hx
  · have e12 : psF B N 12 = N 12 := hj 12 (by decide) (by decide) (by decide) (by decide) (by decide) (by decide) (by omega) (by omega)
    have e4 : tN (psF B N) = tN (psS B (nN N) q (shF N q (nN N)) (nbk (nN N) (B * 2 ^ q))) := by unfold tN; rw [e3]
    rw [e4, e12, ← t1]
    omega
def pcI (B : Nat) (N : Nat → Int) : Nat → (Nat → Int)
  | 0 => N
  | k + 1 => psF B (pcI B N k)
theorem pcI_succ (B : Nat) (N : Nat → Int) (k : Nat) : pcI B N (k + 1) = psF B (pcI B N k) := rfl
theorem pc_ok {B q : Nat} {N : Nat → Int} (hB : 2 ≤ B) (h : pOK N q) : ∀ k, q + k ≤ 6 → pOK (pcI B N k) (q + k) ∧ nN (pcI B N k) = nN N ∧ (0 < k → pcI B N k 0 = 3) ∧ pcI B N k 4 = N 4 ∧ pcI B N k 5 = N 5 ∧ pcI B N k 6 = N 6 ∧ pcI B N k 12 = N 12 ∧ pcI B N k 9 = N 9 := by
  intro k
  induction k with
  | zero => intro _; exact ⟨h, rfl, fun g => absurd g (by decide), rfl, rfl, rfl, rfl, rfl⟩
  | succ k ih =>
    intro hk
    obtain ⟨a1, a2, a3, a4, a5, a6, a7, a8⟩ := ih (by omega)
    obtain ⟨b1, b2, b3⟩ := ps_ne hB a1 (by omega)
    rw [pcI_succ]
    refine ⟨b1, ?_, fun _ => b2, ?_, ?_, ?_, ?_, ?_⟩
    · have : psF B (pcI B N k) 1 = pcI B N k 1 := b3 1 (by decide) (by decide) (by decide) (by decide) (by decide) (by decide) (by omega) (by omega)
      unfold nN at a2 ⊢
      rw [this, a2]
    · rw [b3 4 (by decide) (by decide) (by decide) (by decide) (by decide) (by decide) (by omega) (by omega), a4]
    · rw [b3 5 (by decide) (by decide) (by decide) (by decide) (by decide) (by decide) (by omega) (by omega), a5]
    · rw [b3 6 (by decide) (by decide) (by decide) (by decide) (by decide) (by decide) (by omega) (by omega), a6]
    · rw [b3 12 (by decide) (by decide) (by decide) (by decide) (by decide) (by decide) (by omega) (by omega), a7]
    · rw [b3 9 (by decide) (by decide) (by decide) (by decide) (by decide) (by decide) (by omega) (by omega), a8]
/-- but for what was found -/
def kpF (H K : Nat → Int) : Prop := ∀ j, j ≠ 18 → j ≠ 19 → K j = H j
theorem kpF_id {H : Nat → Int} : kpF H H := fun _ _ _ => rfl
theorem kpF_trans {H K L : Nat → Int} (h1 : kpF H K) (h2 : kpF K L) : kpF H L := fun j a b => (h2 j a b).trans (h1 j a b)
theorem FMJ {I : Mi} {P W A : Nat → Int} {c : Nat} (h : c ≠ 284 ∧ c ≠ 285 ∧ c ≠ 286) : (sr (sr (sr I 286 P) 285 W) 284 A) c = I c := by rw [sr_ne h.1, sr_ne h.2.1, sr_ne h.2.2]
def blk (K L : Nat → Int) : Int := if K 17 < 0 then L 5 else K 17
theorem c_ps2 {B q : Nat} {P W A K L : Nat → Int} (hT : ShM T) (hd : 5 ≤ d) (h : pOK N q) (hq6 : q < 6) (hL : I 280 = L) (hB : blk K L = (B : Int)) (hB1 : 2 ≤ B) (hB2 : B ≤ 64) (hq : ∀ K2, kpF K K2 → Q none T (FM I P W A K2 (psF B N))) : EvE G mX12_passes d [aR 274] T (FM I P W A K N) Q := by
  obtain ⟨hR, h2, h6, ho, ht⟩ := h
  have hn := nN_le hR
  have hw := (ok_12.mp (hR 12))
  have hnb := nbk_le (n := nN N) hn hB1 hq6
  obtain ⟨t1, t2⟩ := tlB_q (w := (N 12).toNat) hq6 (by omega)
  refine c_passes (n := nN N) (B := B) (q := q) hT hd (nN_rd hR) hn ?_ (by omega) hB2 hR hq6 h2 ho (by omega) ?_
  · unfold bkH
    rw [show (sr (sr (sr I 286 P) 285 W) 284 A) 280 = L from (FMJ (by decide)).trans hL]
    exact hB
  · intro fp fb
    exact hq _ (fun j a b => (un_ne b).trans (un_ne a))
end M39

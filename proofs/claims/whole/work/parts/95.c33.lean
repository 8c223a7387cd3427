section C33
variable {G : Gl} {d : Nat} {T : Sh} {I : Mi} {N : Nat → Int} {Q : Option AV → Sh → Mi → Prop}
theorem St_mk {T U : Sh} {I K : Mi} {s p o t p2 o2 t2 c2 q q2 n : Nat} {L N M : Nat → Int} (hst : StR L I s p o t N) (hP0 : PmO N q n) (hN0 : ¬ N 0 = 0) (hN6 : N 6 = 0) (hLs : (sgV L N).toNat ≤ 256)
   (hW : MwR U K s p2 o2 t2 c2 M q2 n) (hPM : PmO M q2 n) (hM0 : ¬ M 0 = 0) (hM2 : M 2 = (q2 : Int)) (fI : ∀ k, k = 1 ∨ k = 6 ∨ k = 11 → K (s + k) = I (s + k))
   (hM : ∀ j, j < 1044 → j ≠ 0 → j ≠ 1 → j ≠ 2 → j ≠ 3 → j ≠ 7 → j ≠ 8 → j ≠ 12 → ¬ (532 ≤ j ∧ j < 788) → M j = N j) (f0 : K s 0 = M 0) (f1 : K s 1 = M 8) (f6 : K s 6 = M 2) (f7 : K s 7 = M 12) (fo : ∀ j, j = 2 ∨ j = 3 ∨ j = 4 ∨ j = 5 → K s j = I s j) : StR L K s p2 o2 t2 M := by
  obtain ⟨a1, a2, a3, a4, a5, a6⟩ := hW
  obtain ⟨hfl, hmk, hor, hky, hld, hfn⟩ := hst
  have hn2 := hP0.2.2.1
  have hnn := hP0.nn
  have hn1 := hPM.nn
  have hsg : sgV L M = sgV L N := by unfold sgV; rw [if_neg hM0, if_neg hN0]
  have hsi : ∀ i, i < 256 → M (i + 20) = N (i + 20) := fun i hi => hM _ (by omega) (by omega) (by omega) (by omega) (by omega) (by omega) (by omega) (by omega) (by omega)
  have m6 : M 6 = N 6 := hM 6 (by decide) (by decide) (by decide) (by decide) (by decide) (by decide) (by decide) (by decide) (by omega)
  refine ⟨⟨f0, f1, ?_, ?_, ?_, ?_, f6, f7, a5⟩, ?_, ?_, ⟨?_, ?_⟩, a4, ⟨?_, ?_, ?_, ?_, ?_, ?_⟩⟩
  · rw [fo 2 (by omega), hsg]; exact hfl.2.2.1
  · rw [fo 3 (by omega), hsg]
    exact hfl.2.2.2.1.trans (ssM_ext _ (fun i hi => hsi i (by omega))).symm
  · rw [fo 4 (by omega), hM 4 (by decide) (by decide) (by decide) (by decide) (by decide) (by decide) (by decide) (by decide) (by omega)]; exact hfl.2.2.2.2.1
  · rw [fo 5 (by omega), hM 5 (by decide) (by decide) (by decide) (by decide) (by decide) (by decide) (by decide) (by decide) (by omega)]; exact hfl.2.2.2.2.2.1
  · intro i hi
    rw [hsg] at hi
    rw [fI 1 (by omega), hmk i hi, hsi i (by omega)]
  · intro y hy k hk
    rw [hM2, Int.toNat_natCast] at hy
    rw [hn1] at hk
    exact a3 y hy k hk
  · rw [hPM.2.1]; exact a2.1
  · intro k hk
    rw [hn1] at hk
    refine ⟨(a2.2 k hk).1, (a2.2 k hk).2, ?_⟩
    rw [fI 6 (by omega), (hky.2 k (by omega)).2.2, spI_kn, spI_kn, hM (k + 788) (by omega) (by omega) (by omega) (by omega) (by omega) (by omega) (by omega) (by omega) (by omega)]
    have ho := Rng_of (j := k + 788) hP0.1 (by omega) (by omega)
    exact (knV_ext (hsi _ (by omega))).symm
  · rw [fI 11 (by omega), m6]; exact hfn.1
  · rw [fI 11 (by omega), hM 9 (by decide) (by decide) (by decide) (by decide) (by decide) (by decide) (by decide) (by decide) (by omega)]; exact hfn.2.1
  · rw [fI 11 (by omega), hM 10 (by decide) (by decide) (by decide) (by decide) (by decide) (by decide) (by decide) (by decide) (by omega)]; exact hfn.2.2.1
  · rw [fI 11 (by omega), hM 11 (by decide) (by decide) (by decide) (by decide) (by decide) (by decide) (by decide) (by decide) (by omega)]; exact hfn.2.2.2.1
  · intro i hi
    rw [m6, hN6] at hi
    exact absurd hi (Nat.not_lt_zero i)
  · intro hh
    rw [m6, hN6] at hh
    exact absurd hh (by decide)
/-- while the eights are winnowed -/
def WnI (T : Sh) (I : Mi) (s m p o t c : Nat) (E : WE) (M : Nat → Int) (n q : Nat) : Prop :=
  MwR E.1 E.2.1 s E.2.2.1 E.2.2.2.1 E.2.2.2.2.1 E.2.2.2.2.2 M q n ∧ (PmO M q n ∧ LdOk M q n) ∧ (Ext s T E.1 c E.2.2.2.2.2 ∧ (E.2.2.1 = p ∨ nx T ≤ E.2.2.1) ∧ (E.2.2.2.1 = o ∨ nx T ≤ E.2.2.2.1) ∧ (E.2.2.2.2.1 = t ∨ nx T ≤ E.2.2.2.2.1)) ∧
  (∀ b, b < nx T → b ≠ s → b ≠ s + 5 → b ≠ s + 7 → b ≠ p → b ≠ o → b ≠ t → b ≠ m + 3 → E.2.1 b = I b) ∧ ∀ j, j ≠ 8 → E.2.1 s j = I s j
theorem WnI_tell {T U : Sh} {I K : Mi} {s m p o t c p2 o2 t2 c2 n q : Nat} {E : WE} {M M2 : Nat → Int} (hS : ShS T s p o t c) (hm : m + 4 ≤ 291) (hdm : m + 4 ≤ s ∨ s + 15 ≤ m) (h : WnI T I s m p o t c E M n q)
   (hA : AsW E.1 U E.2.1 K s (m + 3) E.2.2.1 E.2.2.2.1 E.2.2.2.2.1 E.2.2.2.2.2 p2 o2 t2 c2 M2 q n ∧ PmO M2 q n ∧ LdOk M2 q n) : WnI T I s m p o t c (U, K, p2, o2, t2, c2) M2 n q := by
  obtain ⟨h1, h2, ⟨h6, h7⟩, h8, h9⟩ := h
  obtain ⟨⟨a1, a2, a3, a4⟩, hP, hL⟩ := hA
  have hx := h6.1
  have hnx := hS.1.2.1
  have hs0 := hS.1.1
  have kk : ∀ b, b < nx T → b ≠ s + 7 → b ≠ p → b ≠ o → b ≠ t → b ≠ m + 3 → K b = E.2.1 b := fun b hb b7 bp bo bt bm => by
    obtain ⟨f1, f2, f3⟩ := frm (U := U) (I := I) (K := K) (L := K) h7 hb bp bo bt
    exact a4 b (by omega) b7 f1 f2 f3 bm
  have ks : K s = E.2.1 s := by
    have q := ne_sk hS (k := 0) (by decide) (by decide) (by decide) (by decide)
    exact kk _ (by omega) (by omega) (Ne.symm q.1) (Ne.symm q.2.1) (Ne.symm q.2.2) (ne_ms (k := 0) hdm (by decide) (by decide))
  exact ⟨a1, ⟨hP, hL⟩, ⟨h6.tr a2, npt hx h7 a3⟩, fun b b0 bs b5 b7 bp bo bt b3 => (kk b b0 b7 bp bo bt b3).trans (h8 b b0 bs b5 b7 bp bo bt b3), fun j hj => (congrFun ks j).trans (h9 j hj)⟩
theorem WnI_md {T : Sh} {I : Mi} {s m p o t c n q x : Nat} {E : WE} {M : Nat → Int} (hS : ShS T s p o t c) (h : WnI T I s m p o t c E M n q) (hx : x < n) :
   WnI T I s m p o t c (E.1, sr (sr E.2.1 (s + 5) (un (E.2.1 (s + 5)) x (ixo (E.2.1 (s + 5) x) 1))) s (un (E.2.1 s) 8 (w32 (M 7 + 1))), E.2.2) (mdF M x) n q := by
  obtain ⟨⟨m1, m2, m3, m4, m5, m6⟩, ⟨h2, h3⟩, h6, h8, h9⟩ := h
  have hn2 := h2.2.2.1
  have he6 := h2.2.2.2.1
  obtain ⟨L, hLe⟩ : ∃ L, L = sr (sr E.2.1 (s + 5) (un (E.2.1 (s + 5)) x (ixo (E.2.1 (s + 5) x) 1))) s (un (E.2.1 s) 8 (w32 (M 7 + 1))) := ⟨_, rfl⟩
  rw [← hLe]
  have f0 : ∀ b, b ≠ s → b ≠ s + 5 → L b = E.2.1 b := fun b h1 h2 => by rw [hLe, sr_ne h1, sr_ne h2]
  have f5 : L (s + 5) = un (E.2.1 (s + 5)) x (ixo (E.2.1 (s + 5) x) 1) := by rw [hLe, sr_ne (show s + 5 ≠ s by omega), sr_row]
  have fs : L s = un (E.2.1 s) 8 (w32 (M 7 + 1)) := by rw [hLe, sr_row]
  have q0 := ne_sk m1 (k := 0) (by decide) (by decide) (by decide) (by decide)
  have q5 := ne_sk m1 (k := 5) (by decide) (by decide) (by decide) (by decide)
  have fl : L E.2.2.1 = E.2.1 E.2.2.1 ∧ L E.2.2.2.1 = E.2.1 E.2.2.2.1 ∧ L E.2.2.2.2.1 = E.2.1 E.2.2.2.2.1 := ⟨f0 _ q0.1 q5.1, f0 _ q0.2.1 q5.2.1, f0 _ q0.2.2 q5.2.2⟩
  clear q0 q5
  have hP2 := PmO_md h2 hx
  have ho : ∀ y k, y < q → k < n → oP (mdF M x) y k = oP M y k := fun y k hy hk => md_oP (by omega) (by omega)
  refine ⟨⟨m1, ⟨?_, fun k hk => ⟨?_, ?_⟩⟩, fun y hy k hk => ?_, ⟨?_, fun k hk => ?_⟩, ?_, by rw [md_t]; exact m6⟩, ⟨hP2, LdOk_md h3 (by omega)⟩, h6, fun b b0 bs b5 b7 bp bo bt b3 => (f0 b bs b5).trans (h8 b b0 bs b5 b7 bp bo bt b3), fun j hj => ?_⟩
  · show L (s + 3) 0 = _; rw [f0 _ (by omega) (by omega)]; exact m2.1
  · show L (s + 4) k = _; rw [f0 _ (by omega) (by omega), md_lo (by omega) (by omega)]; exact (m2.2 k hk).1
  · show L (s + 5) k = _
    rw [f5]
    by_cases g : k = x
    · subst g
      have h01 := Rng_key (j := k + 532) h2.1 (by omega) (by omega)
      rw [un_at, (m2.2 k hk).2, ixo_1 h01]
      unfold mdF
      rw [un_ne (by omega), un_at]
    · rw [un_ne g, md_lo (by omega) (by omega)]; exact (m2.2 k hk).2
  · show L (s + 2) _ = _; rw [f0 _ (by omega) (by omega), md_lo (by omega) (by omega)]; exact m3 y hy k hk
  · show L (s + 7) 0 = _; rw [f0 _ (by omega) (by omega), md_lo (by decide) (by omega)]; exact m4.1
  · rw [md_t] at hk
    have h1 := LdE_mv (K := L) (p2 := E.2.2.1) (o2 := E.2.2.2.1) (t2 := E.2.2.2.2.1) (m4.2 k hk) (by rw [fl.1]) (by rw [fl.2.1]) (fun j hj => by rw [fl.2.2])
    exact LdE_ext h1 (h3 k hk) he6 h2.nn hn2 hP2.nn (md_lo (by omega) (by omega)) (fun y i hy hi => ho y i hy hi) (fun j j1 j2 => md_lo (by omega) (by omega))
  · show L s 8 = _
    rw [fs, un_at]
    unfold mdF
    rw [un_at]
  · show L s j = _; rw [fs, un_ne hj]; exact h9 j hj
def bX (j : Nat) : Nat := [1, 2, 4, 8].getD j 0
theorem bX_E : ∀ j : Nat, j < 3 → bE (j + 1) = (bX j : Int) ∧ bX (j + 1) = 2 * bX j ∧ bX j < 8 := by decide
theorem nbV_add (M : Nat → Int) (e j : Nat) (hj : j < 3) : nbV M e (j + 1) = nbV M e j + (if u8 (nbM M e j) e ((j + 1 : Nat) : Int) = 0 then 0 else (bX j : Int)) ∧ 0 ≤ nbV M e j ∧ nbV M e j ≤ 7 := by
  have key : ∀ j : Nat, j < 3 → ∀ a : Nat, a < bX j → iro a 0 = (a : Int) ∧ iro a (isl 1 (j : Int)) = (a : Int) + (bX j : Int) := by decide +kernel
  have hr : ∃ a : Nat, nbV M e j = (a : Int) ∧ a < bX j := by
    have : j = 0 ∨ j = 1 ∨ j = 2 := by omega
    rcases this with rfl | rfl | rfl
    · exact ⟨0, rfl, by decide⟩
    · rcases nbV_1 M e with h | h
      · exact ⟨0, h, by decide⟩
      · exact ⟨1, h, by decide⟩
    · rcases nbV_2 M e with h | h | h | h
      · exact ⟨0, h, by decide⟩
      · exact ⟨1, h, by decide⟩
      · exact ⟨2, h, by decide⟩
      · exact ⟨3, h, by decide⟩
  obtain ⟨a, h1, h2⟩ := hr
  obtain ⟨k1, k2⟩ := key j hj a h2
  have hb := (bX_E j hj).2.2
  refine ⟨?_, by omega, by omega⟩
  rw [nbV_succ, h1]
  by_cases g : u8 (nbM M e j) e ((j + 1 : Nat) : Int) = 0
  · rw [if_pos g, if_pos g, k1]; omega
  · rw [if_neg g, if_neg g, k2]
theorem wn_7 {N : Nat → Int} : ∀ e, (wnS N e 7 - N 7 - (wnC N e : Int)) % 4294967296 = 0 := by
  intro e
  induction e with
  | zero => show (N 7 - N 7 - ((0 : Nat) : Int)) % 4294967296 = 0; omega
  | succ e ih =>
    rw [wnS_succ, wnC_succ]
    unfold wnT
    by_cases g : u8 (wnS N e) e 0 = 0
    · rw [if_pos g, if_pos g, show a8F (wnS N e) e 0 7 = wnS N e 7 from a8_ne (by decide) (by decide)]; exact ih
    · rw [if_neg g, if_neg g]
      have e7 : mdF (nbM (wnS N e) e 3) (8 * e + (nbV (wnS N e) e 3).toNat) 7 = w32 (wnS N e 7 + 1) := by
        unfold mdF
        rw [un_at]
        have h3 : ∀ j, nbM (wnS N e) e j 7 = wnS N e 7 := by
          intro j
          induction j with
          | zero => exact a8_ne (by decide) (by decide)
          | succ j ih => rw [nbM_succ, show a8F (nbM (wnS N e) e j) e ((j + 1 : Nat) : Int) 7 = nbM (wnS N e) e j 7 from a8_ne (by decide) (by decide)]; exact ih
        rw [h3 3]
      rw [e7]
      unfold w32
      omega
theorem wn_ret {N : Nat → Int} {e : Nat} (he : e ≤ 32) : w32 (wnS N e 7 - N 7) = (wnC N e : Int) := by
  have h1 := wn_7 (N := N) e
  have h2 := wnC_le N e
  unfold w32
  omega
end C33

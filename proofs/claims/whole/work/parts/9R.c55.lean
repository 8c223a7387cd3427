section C55
variable {G : Gl} {d : Nat} {T : Sh} {I : Mi} {N : Nat → Int} {Q : Option AV → Sh → Mi → Prop}
/-- KeyDesk's graph but for the States -/
def tabK : List (Nat × Nat × Nat) := [(0, 11, 0), (1, 20, 200), (2, 6, 0), (3, 20, 9), (4, 7, 0), (5, 6, 0), (6, 20, 9), (7, 20, 9), (24, 2, 0), (25, 24, 12), (206, 24, 2), (207, 20, 2), (208, 5, 0), (209, 20, 1536), (210, 20, 768), (211, 23, 4), (212, 0, 0), (213, 20, 512), (214, 23, 4), (215, 8, 0), (216, 23, 1024), (217, 20, 256), (218, 23, 4), (219, 10, 0), (235, 6, 0), (236, 20, 9), (237, 0, 0), (238, 20, 512), (239, 23, 4), (240, 5, 0), (241, 20, 1536), (242, 20, 768), (243, 23, 4)]
def refK : List (Nat × Nat × Nat) := [(0, 0, 1), (0, 2, 2), (0, 3, 4), (0, 4, 9), (0, 5, 24), (0, 6, 206), (0, 7, 207), (0, 8, 208), (0, 9, 212), (0, 10, 215), (0, 11, 219), (2, 0, 3), (4, 0, 5), (4, 1, 7), (5, 0, 6), (24, 0, 25), (208, 0, 209), (208, 1, 210), (208, 2, 211), (212, 0, 213), (212, 1, 214), (215, 0, 216), (215, 1, 217), (215, 2, 218), (219, 0, 220), (219, 1, 235), (219, 2, 237), (219, 3, 240), (235, 0, 236), (237, 0, 238), (237, 1, 239), (240, 0, 241), (240, 1, 242), (240, 2, 243)]
/-- where the States stand: 0 now, 1 .. 12 the ring, 13 the trials', 14 and 15 the images -/
def sN (i : Nat) : Nat := if i = 0 then 9 else if i ≤ 12 then 11 + 15 * i else if i = 13 then 220 else 34 + 15 * i
theorem sN_le {i : Nat} (h : i < 16) : 9 ≤ sN i ∧ sN i + 15 ≤ 274 := by
  unfold sN
  split
  · omega
  · split
    · omega
    · split <;> omega
theorem sN_dj {i j : Nat} (hi : i < 16) (hj : j < 16) (h : i ≠ j) : sN i + 15 ≤ sN j ∨ sN j + 15 ≤ sN i := by
  unfold sN
  by_cases a1 : i = 0
  · rw [if_pos a1]
    by_cases b1 : j = 0
    · omega
    · rw [if_neg b1]
      by_cases b2 : j ≤ 12
      · rw [if_pos b2]; omega
      · rw [if_neg b2]
        by_cases b3 : j = 13
        · rw [if_pos b3]; omega
        · rw [if_neg b3]; omega
  · rw [if_neg a1]
    by_cases a2 : i ≤ 12
    · rw [if_pos a2]
      by_cases b1 : j = 0
      · rw [if_pos b1]; omega
      · rw [if_neg b1]
        by_cases b2 : j ≤ 12
        · rw [if_pos b2]; omega
        · rw [if_neg b2]
          by_cases b3 : j = 13
          · rw [if_pos b3]; omega
          · rw [if_neg b3]; omega
    · rw [if_neg a2]
      by_cases a3 : i = 13
      · rw [if_pos a3]
        by_cases b1 : j = 0
        · rw [if_pos b1]; omega
        · rw [if_neg b1]
          by_cases b2 : j ≤ 12
          · rw [if_pos b2]; omega
          · rw [if_neg b2]
            by_cases b3 : j = 13
            · omega
            · rw [if_neg b3]; omega
      · rw [if_neg a3]
        by_cases b1 : j = 0
        · rw [if_pos b1]; omega
        · rw [if_neg b1]
          by_cases b2 : j ≤ 12
          · rw [if_pos b2]; omega
          · rw [if_neg b2]
            by_cases b3 : j = 13
            · rw [if_pos b3]; omega
            · rw [if_neg b3]; omega
/-- the fixed rows of KeyDesk are no State's -/
theorem sN_fx : ∀ i, i < 16 → ∀ q ∈ tabK, q.1 < sN i ∨ sN i + 15 ≤ q.1 := by decide +kernel
theorem tabK_lt : ∀ q ∈ tabK, q.1 < 274 := by decide +kernel
theorem refK_lt : ∀ q ∈ refK, q.1 < 274 := by decide +kernel
theorem refK_fx : ∀ i, i < 16 → ∀ q ∈ refK, ¬ q.1 = sN i + 7 := by decide +kernel
theorem refK_4 : ∀ q ∈ refK, ¬ (q.1 = 4 ∧ q.2.1 = 2) := by decide +kernel
/-- KeyDesk's graph -/
def FxS (T : Sh) : Prop := 291 ≤ nx T ∧ (∀ q ∈ tabK, kd T q.1 = q.2.1 ∧ ln T q.1 = q.2.2) ∧ (∀ q ∈ refK, rf T q.1 q.2.1 = some q.2.2) ∧ (∀ k, k < 12 → rf T 25 k = some (sN (k + 1))) ∧ ∀ k, k < 2 → rf T 206 k = some (sN (k + 14))
/-- the ledgers' names and room -/
abbrev AN := Nat → Nat × Nat × Nat × Nat
def upA (A : AN) (i : Nat) (a : Nat × Nat × Nat × Nat) : AN := fun j => if j = i then a else A j
def csum (A : AN) : Nat → Nat
  | 0 => 0
  | k + 1 => csum A k + (A k).2.2.2
theorem csum_lo {A : AN} {i : Nat} {a : Nat × Nat × Nat × Nat} : ∀ n, n ≤ i → csum (upA A i a) n = csum A n := by
  intro n
  induction n with
  | zero => intro _; rfl
  | succ n ih =>
    intro h
    show csum (upA A i a) n + (upA A i a n).2.2.2 = csum A n + (A n).2.2.2
    rw [ih (by omega)]
    unfold upA
    rw [if_neg (by omega)]
theorem csum_up {A : AN} {i : Nat} {a : Nat × Nat × Nat × Nat} : ∀ n, i < n → csum (upA A i a) n + (A i).2.2.2 = csum A n + a.2.2.2 := by
  intro n
  induction n with
  | zero => intro h; exact absurd h (Nat.not_lt_zero i)
  | succ n ih =>
    intro h
    show csum (upA A i a) n + (upA A i a n).2.2.2 + (A i).2.2.2 = csum A n + (A n).2.2.2 + a.2.2.2
    by_cases g : n = i
    · subst g
      rw [csum_lo n (Nat.le_refl n), show upA A n a n = a from if_pos rfl]
      omega
    · rw [show upA A i a n = A n from if_neg g]
      have := ih (by omega)
      omega
abbrev SSh (T : Sh) (A : AN) (i : Nat) : Prop := ShS T (sN i) (A i).1 (A i).2.1 (A i).2.2.1 (A i).2.2.2
abbrev apA (A : AN) (i j : Nat) : Prop := apL (A i).1 (A i).2.1 (A i).2.2.1 (A j).1 (A j).2.1 (A j).2.2.1
def KSh (T : Sh) (A : AN) : Prop := FxS T ∧ ShM T ∧ (∀ i, i < 16 → SSh T A i) ∧ (∀ i j, i < 16 → j < 16 → i ≠ j → apA A i j) ∧ sl T ≤ 500000 + 12 * csum A 16 ∧ 64 * nx T ≤ 64 * 291 + 3 * csum A 16
theorem ap_sym {p o t p1 o1 t1 : Nat} (h : apL p o t p1 o1 t1) : apL p1 o1 t1 p o t := by
  obtain ⟨⟨a1, a2, a3⟩, ⟨b1, b2, b3⟩, c1, c2, c3⟩ := h
  exact ⟨⟨Ne.symm a1, Ne.symm b1, Ne.symm c1⟩, ⟨Ne.symm a2, Ne.symm b2, Ne.symm c2⟩, Ne.symm a3, Ne.symm b3, Ne.symm c3⟩
theorem FxS_ext {T U : Sh} {i c e : Nat} (hi : i < 16) (h : FxS T) (hx : Ext (sN i) T U c e) : FxS U := by
  obtain ⟨a1, a2, a3, a4, a5⟩ := h
  obtain ⟨x1, x2, x3, _⟩ := hx
  have hs := sN_le hi
  have h25 : ¬ (25 = sN i + 7) := by unfold sN; split; omega; split; omega; split <;> omega
  have h206 : ¬ (206 = sN i + 7) := by unfold sN; split; omega; split; omega; split <;> omega
  refine ⟨by omega, fun q hq => ?_, fun q hq => ?_, fun k hk => ?_, fun k hk => ?_⟩
  · have := x2 q.1 (by have := tabK_lt q hq; omega)
    rw [this.1, this.2]; exact a2 q hq
  · rw [x3 q.1 q.2.1 (by have := refK_lt q hq; omega) (refK_fx i hi q hq)]; exact a3 q hq
  · rw [x3 25 k (by omega) h25]; exact a4 k hk
  · rw [x3 206 k (by omega) h206]; exact a5 k hk
theorem ShM_ext {T U : Sh} {i c e : Nat} (hi : i < 16) (h : ShM T) (hx : Ext (sN i) T U c e) : ShM U := by
  obtain ⟨a1, a2, a3, a4⟩ := h
  obtain ⟨x1, x2, x3, _⟩ := hx
  have hs := sN_le hi
  have ht : ∀ q ∈ tabM, q.1 < 291 := by decide
  refine ⟨by omega, ?_, fun q hq => ?_, fun q hq => ?_⟩
  · rw [(x2 274 (by omega)).1]; exact a2
  · have := x2 q.1 (by have := ht q hq; omega)
    rw [this.1, this.2]; exact a3 q hq
  · rw [x3 274 q.1 (by omega) (by omega)]; exact a4 q hq
/-- one State's ledger grew, or none -/
theorem KSh_ext {T U : Sh} {A : AN} {i p2 o2 t2 c2 : Nat} (hi : i < 16) (h : KSh T A) (hx : Ext (sN i) T U (A i).2.2.2 c2) (hS : ShS U (sN i) p2 o2 t2 c2) (hn : (p2 = (A i).1 ∨ nx T ≤ p2) ∧ (o2 = (A i).2.1 ∨ nx T ≤ o2) ∧ (t2 = (A i).2.2.1 ∨ nx T ≤ t2)) : KSh U (upA A i (p2, o2, t2, c2)) := by
  obtain ⟨h1, h2, h3, h4, h5, h6⟩ := h
  have hc := csum_up (A := A) (i := i) (a := (p2, o2, t2, c2)) 16 hi
  have e1 : upA A i (p2, o2, t2, c2) i = (p2, o2, t2, c2) := if_pos rfl
  have e2 : ∀ j, j ≠ i → upA A i (p2, o2, t2, c2) j = A j := fun j hj => if_neg hj
  refine ⟨FxS_ext hi h1 hx, ShM_ext hi h2 hx, fun j hj => ?_, fun j k hj hk hjk => ?_, ?_, ?_⟩
  · by_cases g : j = i
    · subst g
      show ShS U (sN j) (upA A j (p2, o2, t2, c2) j).1 _ _ _
      rw [e1]; exact hS
    · show ShS U (sN j) (upA A i (p2, o2, t2, c2) j).1 _ _ _
      rw [e2 j g]; exact ShS_ext (h3 j hj) hx (sN_dj hi hj (Ne.symm g))
  · show apL (upA A i (p2, o2, t2, c2) j).1 _ _ (upA A i (p2, o2, t2, c2) k).1 _ _
    by_cases g : j = i
    · subst g
      rw [e1, e2 k (Ne.symm hjk)]
      have hk3 := h3 k hk
      exact ap_tr (h4 j k hj hk hjk) ⟨ltp hk3, lto hk3, ltt hk3⟩ hn
    · rw [e2 j g]
      by_cases g2 : k = i
      · subst g2
        rw [e1]
        have hj3 := h3 j hj
        exact ap_sym (ap_tr (h4 k j hk hj (Ne.symm hjk)) ⟨ltp hj3, lto hj3, ltt hj3⟩ hn)
      · rw [e2 k g2]; exact h4 j k hj hk hjk
  · have := hx.2.2.2.2.1
    simp only at hc
    omega
  · have := hx.2.2.2.2.2
    simp only at hc
    omega
/-- the reader's text set -/
theorem KSh_rs {T : Sh} {A : AN} {x : Nat} (h : KSh T A) : KSh (rsT T 4 2 x) A := by
  obtain ⟨⟨a1, a2, a3, a4, a5⟩, ⟨m1, m2, m3, m4⟩, h3, h4, h5⟩ := h
  refine ⟨⟨a1, a2, fun q hq => ?_, fun k hk => ?_, fun k hk => ?_⟩, ⟨m1, m2, m3, fun q hq => ?_⟩, fun i hi => ?_, h4, h5⟩
  · rw [rs_ne (by have := refK_4 q hq; omega)]; exact a3 q hq
  · rw [rs_ne (by omega)]; exact a4 k hk
  · rw [rs_ne (by omega)]; exact a5 k hk
  · rw [rs_ne (by omega)]; exact m4 q hq
  · obtain ⟨⟨s1, s2, s3, s4, s5⟩, ⟨b1, b2, b3, b4⟩, c1⟩ := h3 i hi
    have hs := sN_le hi
    refine ⟨⟨s1, s2, s3, s4, fun q hq => ?_⟩, ⟨?_, ?_, ?_, b4⟩, c1⟩
    · rw [rs_ne (by omega)]; exact s5 q hq
    · rw [rs_ne (by omega)]; exact b1
    · rw [rs_ne (by omega)]; exact b2
    · rw [rs_ne (by omega)]; exact b3
theorem kK0 {T : Sh} {A : AN} (h : KSh T A) : kd T 0 = 11 := (h.1.2.1 (0, 11, 0) (List.mem_of_getElem? (i := 0) rfl)).1
theorem kK1 {T : Sh} {A : AN} (h : KSh T A) : kd T 1 = 20 := (h.1.2.1 (1, 20, 200) (List.mem_of_getElem? (i := 1) rfl)).1
theorem lK1 {T : Sh} {A : AN} (h : KSh T A) : ln T 1 = 200 := (h.1.2.1 (1, 20, 200) (List.mem_of_getElem? (i := 1) rfl)).2
theorem kK2 {T : Sh} {A : AN} (h : KSh T A) : kd T 2 = 6 := (h.1.2.1 (2, 6, 0) (List.mem_of_getElem? (i := 2) rfl)).1
theorem kK3 {T : Sh} {A : AN} (h : KSh T A) : kd T 3 = 20 := (h.1.2.1 (3, 20, 9) (List.mem_of_getElem? (i := 3) rfl)).1
theorem lK3 {T : Sh} {A : AN} (h : KSh T A) : ln T 3 = 9 := (h.1.2.1 (3, 20, 9) (List.mem_of_getElem? (i := 3) rfl)).2
theorem kK4 {T : Sh} {A : AN} (h : KSh T A) : kd T 4 = 7 := (h.1.2.1 (4, 7, 0) (List.mem_of_getElem? (i := 4) rfl)).1
theorem kK5 {T : Sh} {A : AN} (h : KSh T A) : kd T 5 = 6 := (h.1.2.1 (5, 6, 0) (List.mem_of_getElem? (i := 5) rfl)).1
theorem kK6 {T : Sh} {A : AN} (h : KSh T A) : kd T 6 = 20 := (h.1.2.1 (6, 20, 9) (List.mem_of_getElem? (i := 6) rfl)).1
theorem lK6 {T : Sh} {A : AN} (h : KSh T A) : ln T 6 = 9 := (h.1.2.1 (6, 20, 9) (List.mem_of_getElem? (i := 6) rfl)).2
theorem kK7 {T : Sh} {A : AN} (h : KSh T A) : kd T 7 = 20 := (h.1.2.1 (7, 20, 9) (List.mem_of_getElem? (i := 7) rfl)).1
theorem lK7 {T : Sh} {A : AN} (h : KSh T A) : ln T 7 = 9 := (h.1.2.1 (7, 20, 9) (List.mem_of_getElem? (i := 7) rfl)).2
theorem kK24 {T : Sh} {A : AN} (h : KSh T A) : kd T 24 = 2 := (h.1.2.1 (24, 2, 0) (List.mem_of_getElem? (i := 8) rfl)).1
theorem kK25 {T : Sh} {A : AN} (h : KSh T A) : kd T 25 = 24 := (h.1.2.1 (25, 24, 12) (List.mem_of_getElem? (i := 9) rfl)).1
theorem lK25 {T : Sh} {A : AN} (h : KSh T A) : ln T 25 = 12 := (h.1.2.1 (25, 24, 12) (List.mem_of_getElem? (i := 9) rfl)).2
theorem kK206 {T : Sh} {A : AN} (h : KSh T A) : kd T 206 = 24 := (h.1.2.1 (206, 24, 2) (List.mem_of_getElem? (i := 10) rfl)).1
theorem lK206 {T : Sh} {A : AN} (h : KSh T A) : ln T 206 = 2 := (h.1.2.1 (206, 24, 2) (List.mem_of_getElem? (i := 10) rfl)).2
theorem kK207 {T : Sh} {A : AN} (h : KSh T A) : kd T 207 = 20 := (h.1.2.1 (207, 20, 2) (List.mem_of_getElem? (i := 11) rfl)).1
theorem lK207 {T : Sh} {A : AN} (h : KSh T A) : ln T 207 = 2 := (h.1.2.1 (207, 20, 2) (List.mem_of_getElem? (i := 11) rfl)).2
theorem kK208 {T : Sh} {A : AN} (h : KSh T A) : kd T 208 = 5 := (h.1.2.1 (208, 5, 0) (List.mem_of_getElem? (i := 12) rfl)).1
theorem kK209 {T : Sh} {A : AN} (h : KSh T A) : kd T 209 = 20 := (h.1.2.1 (209, 20, 1536) (List.mem_of_getElem? (i := 13) rfl)).1
theorem lK209 {T : Sh} {A : AN} (h : KSh T A) : ln T 209 = 1536 := (h.1.2.1 (209, 20, 1536) (List.mem_of_getElem? (i := 13) rfl)).2
theorem kK210 {T : Sh} {A : AN} (h : KSh T A) : kd T 210 = 20 := (h.1.2.1 (210, 20, 768) (List.mem_of_getElem? (i := 14) rfl)).1
theorem lK210 {T : Sh} {A : AN} (h : KSh T A) : ln T 210 = 768 := (h.1.2.1 (210, 20, 768) (List.mem_of_getElem? (i := 14) rfl)).2
theorem kK211 {T : Sh} {A : AN} (h : KSh T A) : kd T 211 = 23 := (h.1.2.1 (211, 23, 4) (List.mem_of_getElem? (i := 15) rfl)).1
theorem lK211 {T : Sh} {A : AN} (h : KSh T A) : ln T 211 = 4 := (h.1.2.1 (211, 23, 4) (List.mem_of_getElem? (i := 15) rfl)).2
theorem kK212 {T : Sh} {A : AN} (h : KSh T A) : kd T 212 = 0 := (h.1.2.1 (212, 0, 0) (List.mem_of_getElem? (i := 16) rfl)).1
theorem kK213 {T : Sh} {A : AN} (h : KSh T A) : kd T 213 = 20 := (h.1.2.1 (213, 20, 512) (List.mem_of_getElem? (i := 17) rfl)).1
theorem lK213 {T : Sh} {A : AN} (h : KSh T A) : ln T 213 = 512 := (h.1.2.1 (213, 20, 512) (List.mem_of_getElem? (i := 17) rfl)).2
theorem kK214 {T : Sh} {A : AN} (h : KSh T A) : kd T 214 = 23 := (h.1.2.1 (214, 23, 4) (List.mem_of_getElem? (i := 18) rfl)).1
theorem lK214 {T : Sh} {A : AN} (h : KSh T A) : ln T 214 = 4 := (h.1.2.1 (214, 23, 4) (List.mem_of_getElem? (i := 18) rfl)).2
theorem kK215 {T : Sh} {A : AN} (h : KSh T A) : kd T 215 = 8 := (h.1.2.1 (215, 8, 0) (List.mem_of_getElem? (i := 19) rfl)).1
theorem kK216 {T : Sh} {A : AN} (h : KSh T A) : kd T 216 = 23 := (h.1.2.1 (216, 23, 1024) (List.mem_of_getElem? (i := 20) rfl)).1
theorem lK216 {T : Sh} {A : AN} (h : KSh T A) : ln T 216 = 1024 := (h.1.2.1 (216, 23, 1024) (List.mem_of_getElem? (i := 20) rfl)).2
theorem kK217 {T : Sh} {A : AN} (h : KSh T A) : kd T 217 = 20 := (h.1.2.1 (217, 20, 256) (List.mem_of_getElem? (i := 21) rfl)).1
theorem lK217 {T : Sh} {A : AN} (h : KSh T A) : ln T 217 = 256 := (h.1.2.1 (217, 20, 256) (List.mem_of_getElem? (i := 21) rfl)).2
theorem kK218 {T : Sh} {A : AN} (h : KSh T A) : kd T 218 = 23 := (h.1.2.1 (218, 23, 4) (List.mem_of_getElem? (i := 22) rfl)).1
theorem lK218 {T : Sh} {A : AN} (h : KSh T A) : ln T 218 = 4 := (h.1.2.1 (218, 23, 4) (List.mem_of_getElem? (i := 22) rfl)).2
theorem kK219 {T : Sh} {A : AN} (h : KSh T A) : kd T 219 = 10 := (h.1.2.1 (219, 10, 0) (List.mem_of_getElem? (i := 23) rfl)).1
theorem kK235 {T : Sh} {A : AN} (h : KSh T A) : kd T 235 = 6 := (h.1.2.1 (235, 6, 0) (List.mem_of_getElem? (i := 24) rfl)).1
theorem kK236 {T : Sh} {A : AN} (h : KSh T A) : kd T 236 = 20 := (h.1.2.1 (236, 20, 9) (List.mem_of_getElem? (i := 25) rfl)).1
theorem lK236 {T : Sh} {A : AN} (h : KSh T A) : ln T 236 = 9 := (h.1.2.1 (236, 20, 9) (List.mem_of_getElem? (i := 25) rfl)).2
theorem kK237 {T : Sh} {A : AN} (h : KSh T A) : kd T 237 = 0 := (h.1.2.1 (237, 0, 0) (List.mem_of_getElem? (i := 26) rfl)).1
theorem kK238 {T : Sh} {A : AN} (h : KSh T A) : kd T 238 = 20 := (h.1.2.1 (238, 20, 512) (List.mem_of_getElem? (i := 27) rfl)).1
theorem lK238 {T : Sh} {A : AN} (h : KSh T A) : ln T 238 = 512 := (h.1.2.1 (238, 20, 512) (List.mem_of_getElem? (i := 27) rfl)).2
theorem kK239 {T : Sh} {A : AN} (h : KSh T A) : kd T 239 = 23 := (h.1.2.1 (239, 23, 4) (List.mem_of_getElem? (i := 28) rfl)).1
theorem lK239 {T : Sh} {A : AN} (h : KSh T A) : ln T 239 = 4 := (h.1.2.1 (239, 23, 4) (List.mem_of_getElem? (i := 28) rfl)).2
theorem kK240 {T : Sh} {A : AN} (h : KSh T A) : kd T 240 = 5 := (h.1.2.1 (240, 5, 0) (List.mem_of_getElem? (i := 29) rfl)).1
theorem kK241 {T : Sh} {A : AN} (h : KSh T A) : kd T 241 = 20 := (h.1.2.1 (241, 20, 1536) (List.mem_of_getElem? (i := 30) rfl)).1
theorem lK241 {T : Sh} {A : AN} (h : KSh T A) : ln T 241 = 1536 := (h.1.2.1 (241, 20, 1536) (List.mem_of_getElem? (i := 30) rfl)).2
theorem kK242 {T : Sh} {A : AN} (h : KSh T A) : kd T 242 = 20 := (h.1.2.1 (242, 20, 768) (List.mem_of_getElem? (i := 31) rfl)).1
theorem lK242 {T : Sh} {A : AN} (h : KSh T A) : ln T 242 = 768 := (h.1.2.1 (242, 20, 768) (List.mem_of_getElem? (i := 31) rfl)).2
theorem kK243 {T : Sh} {A : AN} (h : KSh T A) : kd T 243 = 23 := (h.1.2.1 (243, 23, 4) (List.mem_of_getElem? (i := 32) rfl)).1
theorem lK243 {T : Sh} {A : AN} (h : KSh T A) : ln T 243 = 4 := (h.1.2.1 (243, 23, 4) (List.mem_of_getElem? (i := 32) rfl)).2
theorem rK0_0 {T : Sh} {A : AN} (h : KSh T A) : rf T 0 0 = some 1 := h.1.2.2.1 (0, 0, 1) (List.mem_of_getElem? (i := 0) rfl)
theorem rK0_2 {T : Sh} {A : AN} (h : KSh T A) : rf T 0 2 = some 2 := h.1.2.2.1 (0, 2, 2) (List.mem_of_getElem? (i := 1) rfl)
theorem rK0_3 {T : Sh} {A : AN} (h : KSh T A) : rf T 0 3 = some 4 := h.1.2.2.1 (0, 3, 4) (List.mem_of_getElem? (i := 2) rfl)
theorem rK0_4 {T : Sh} {A : AN} (h : KSh T A) : rf T 0 4 = some 9 := h.1.2.2.1 (0, 4, 9) (List.mem_of_getElem? (i := 3) rfl)
theorem rK0_5 {T : Sh} {A : AN} (h : KSh T A) : rf T 0 5 = some 24 := h.1.2.2.1 (0, 5, 24) (List.mem_of_getElem? (i := 4) rfl)
theorem rK0_6 {T : Sh} {A : AN} (h : KSh T A) : rf T 0 6 = some 206 := h.1.2.2.1 (0, 6, 206) (List.mem_of_getElem? (i := 5) rfl)
theorem rK0_7 {T : Sh} {A : AN} (h : KSh T A) : rf T 0 7 = some 207 := h.1.2.2.1 (0, 7, 207) (List.mem_of_getElem? (i := 6) rfl)
theorem rK0_8 {T : Sh} {A : AN} (h : KSh T A) : rf T 0 8 = some 208 := h.1.2.2.1 (0, 8, 208) (List.mem_of_getElem? (i := 7) rfl)
theorem rK0_9 {T : Sh} {A : AN} (h : KSh T A) : rf T 0 9 = some 212 := h.1.2.2.1 (0, 9, 212) (List.mem_of_getElem? (i := 8) rfl)
theorem rK0_10 {T : Sh} {A : AN} (h : KSh T A) : rf T 0 10 = some 215 := h.1.2.2.1 (0, 10, 215) (List.mem_of_getElem? (i := 9) rfl)
theorem rK0_11 {T : Sh} {A : AN} (h : KSh T A) : rf T 0 11 = some 219 := h.1.2.2.1 (0, 11, 219) (List.mem_of_getElem? (i := 10) rfl)
theorem rK2_0 {T : Sh} {A : AN} (h : KSh T A) : rf T 2 0 = some 3 := h.1.2.2.1 (2, 0, 3) (List.mem_of_getElem? (i := 11) rfl)
theorem rK4_0 {T : Sh} {A : AN} (h : KSh T A) : rf T 4 0 = some 5 := h.1.2.2.1 (4, 0, 5) (List.mem_of_getElem? (i := 12) rfl)
theorem rK4_1 {T : Sh} {A : AN} (h : KSh T A) : rf T 4 1 = some 7 := h.1.2.2.1 (4, 1, 7) (List.mem_of_getElem? (i := 13) rfl)
theorem rK5_0 {T : Sh} {A : AN} (h : KSh T A) : rf T 5 0 = some 6 := h.1.2.2.1 (5, 0, 6) (List.mem_of_getElem? (i := 14) rfl)
theorem rK24_0 {T : Sh} {A : AN} (h : KSh T A) : rf T 24 0 = some 25 := h.1.2.2.1 (24, 0, 25) (List.mem_of_getElem? (i := 15) rfl)
theorem rK208_0 {T : Sh} {A : AN} (h : KSh T A) : rf T 208 0 = some 209 := h.1.2.2.1 (208, 0, 209) (List.mem_of_getElem? (i := 16) rfl)
theorem rK208_1 {T : Sh} {A : AN} (h : KSh T A) : rf T 208 1 = some 210 := h.1.2.2.1 (208, 1, 210) (List.mem_of_getElem? (i := 17) rfl)
theorem rK208_2 {T : Sh} {A : AN} (h : KSh T A) : rf T 208 2 = some 211 := h.1.2.2.1 (208, 2, 211) (List.mem_of_getElem? (i := 18) rfl)
theorem rK212_0 {T : Sh} {A : AN} (h : KSh T A) : rf T 212 0 = some 213 := h.1.2.2.1 (212, 0, 213) (List.mem_of_getElem? (i := 19) rfl)
theorem rK212_1 {T : Sh} {A : AN} (h : KSh T A) : rf T 212 1 = some 214 := h.1.2.2.1 (212, 1, 214) (List.mem_of_getElem? (i := 20) rfl)
theorem rK215_0 {T : Sh} {A : AN} (h : KSh T A) : rf T 215 0 = some 216 := h.1.2.2.1 (215, 0, 216) (List.mem_of_getElem? (i := 21) rfl)
theorem rK215_1 {T : Sh} {A : AN} (h : KSh T A) : rf T 215 1 = some 217 := h.1.2.2.1 (215, 1, 217) (List.mem_of_getElem? (i := 22) rfl)
theorem rK215_2 {T : Sh} {A : AN} (h : KSh T A) : rf T 215 2 = some 218 := h.1.2.2.1 (215, 2, 218) (List.mem_of_getElem? (i := 23) rfl)
theorem rK219_0 {T : Sh} {A : AN} (h : KSh T A) : rf T 219 0 = some 220 := h.1.2.2.1 (219, 0, 220) (List.mem_of_getElem? (i := 24) rfl)
theorem rK219_1 {T : Sh} {A : AN} (h : KSh T A) : rf T 219 1 = some 235 := h.1.2.2.1 (219, 1, 235) (List.mem_of_getElem? (i := 25) rfl)
theorem rK219_2 {T : Sh} {A : AN} (h : KSh T A) : rf T 219 2 = some 237 := h.1.2.2.1 (219, 2, 237) (List.mem_of_getElem? (i := 26) rfl)
theorem rK219_3 {T : Sh} {A : AN} (h : KSh T A) : rf T 219 3 = some 240 := h.1.2.2.1 (219, 3, 240) (List.mem_of_getElem? (i := 27) rfl)
theorem rK235_0 {T : Sh} {A : AN} (h : KSh T A) : rf T 235 0 = some 236 := h.1.2.2.1 (235, 0, 236) (List.mem_of_getElem? (i := 28) rfl)
theorem rK237_0 {T : Sh} {A : AN} (h : KSh T A) : rf T 237 0 = some 238 := h.1.2.2.1 (237, 0, 238) (List.mem_of_getElem? (i := 29) rfl)
theorem rK237_1 {T : Sh} {A : AN} (h : KSh T A) : rf T 237 1 = some 239 := h.1.2.2.1 (237, 1, 239) (List.mem_of_getElem? (i := 30) rfl)
theorem rK240_0 {T : Sh} {A : AN} (h : KSh T A) : rf T 240 0 = some 241 := h.1.2.2.1 (240, 0, 241) (List.mem_of_getElem? (i := 31) rfl)
theorem rK240_1 {T : Sh} {A : AN} (h : KSh T A) : rf T 240 1 = some 242 := h.1.2.2.1 (240, 1, 242) (List.mem_of_getElem? (i := 32) rfl)
theorem rK240_2 {T : Sh} {A : AN} (h : KSh T A) : rf T 240 2 = some 243 := h.1.2.2.1 (240, 2, 243) (List.mem_of_getElem? (i := 33) rfl)
theorem ltK {T : Sh} {A : AN} (h : KSh T A) {b : Nat} (hb : b < 291) : b < nx T := Nat.lt_of_lt_of_le hb h.1.1
theorem pK2 {T : Sh} {A : AN} (h : KSh T A) : ShP T 2 := ⟨⟨by decide, h.1.1⟩, kK2 h, ⟨kK3 h, lK3 h⟩, rK2_0 h⟩
theorem dK208 {T : Sh} {A : AN} (h : KSh T A) : ShD T 208 := ⟨⟨by decide, h.1.1⟩, kK208 h, ⟨⟨kK209 h, lK209 h⟩, ⟨kK210 h, lK210 h⟩, kK211 h, lK211 h⟩, rK208_0 h, rK208_1 h, rK208_2 h⟩
theorem aK212 {T : Sh} {A : AN} (h : KSh T A) : ShA T 212 := ⟨⟨by decide, h.1.1⟩, kK212 h, ⟨⟨kK213 h, lK213 h⟩, kK214 h, lK214 h⟩, rK212_0 h, rK212_1 h⟩
theorem zK215 {T : Sh} {A : AN} (h : KSh T A) : ShZ T 215 := ⟨⟨by decide, h.1.1⟩, kK215 h, ⟨⟨kK216 h, lK216 h⟩, ⟨kK217 h, lK217 h⟩, kK218 h, lK218 h⟩, rK215_0 h, rK215_1 h, rK215_2 h⟩
theorem tK219 {T : Sh} {A : AN} (h : KSh T A) : TrO T 219 220 235 237 240 := ⟨⟨kK219 h, ltK h (by decide), rK219_0 h, rK219_1 h, rK219_2 h, rK219_3 h⟩, ⟨⟨⟨by decide, h.1.1⟩, kK235 h, ⟨kK236 h, lK236 h⟩, rK235_0 h⟩, ⟨⟨by decide, h.1.1⟩, kK237 h, ⟨⟨kK238 h, lK238 h⟩, kK239 h, lK239 h⟩, rK237_0 h, rK237_1 h⟩, ⟨⟨by decide, h.1.1⟩, kK240 h, ⟨⟨kK241 h, lK241 h⟩, ⟨kK242 h, lK242 h⟩, kK243 h, lK243 h⟩, rK240_0 h, rK240_1 h, rK240_2 h⟩⟩, by decide⟩
theorem qK4 {T : Sh} {A : AN} (h : KSh T A) : ShQ T 4 := ⟨⟨by decide, h.1.1⟩, kK4 h, ⟨kK7 h, lK7 h⟩, ⟨rK4_0 h, rK4_1 h⟩, ⟨⟨by decide, h.1.1⟩, kK5 h, ⟨kK6 h, lK6 h⟩, rK5_0 h⟩⟩
theorem sK0 {T : Sh} {A : AN} (h : KSh T A) : ShS T 9 (A 0).1 (A 0).2.1 (A 0).2.2.1 (A 0).2.2.2 := h.2.2.1 0 (by decide)
theorem sK13 {T : Sh} {A : AN} (h : KSh T A) : ShS T 220 (A 13).1 (A 13).2.1 (A 13).2.2.1 (A 13).2.2.2 := h.2.2.1 13 (by decide)
end C55

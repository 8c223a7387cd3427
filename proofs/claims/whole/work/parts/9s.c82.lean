section C82
variable {G : Gl} {d : Nat} {T : Sh} {I : Mi} {N : Nat → Int} {Q : Option AV → Sh → Mi → Prop}
theorem NL.inst {own : String} {idx ci : Nat} (h : NL own idx ci) : ∀ q, vwCl[ci]? = some q → Cond.instantiable q.1 q.2.2 ∈ goodW := by
  intro q hq
  obtain ⟨_, q2, h2, _, h3, _⟩ := h
  cases h2.symm.trans hq
  exact h3
theorem inst_all : ∀ k, k < 13 → ∀ q, vwCl[k]? = some q → Cond.instantiable q.1 q.2.2 ∈ goodW := by
  intro k hk
  have h : k = 0 ∨ k = 1 ∨ k = 2 ∨ k = 3 ∨ k = 4 ∨ k = 5 ∨ k = 6 ∨ k = 7 ∨ k = 8 ∨ k = 9 ∨ k = 10 ∨ k = 11 ∨ k = 12 := by omega
  rcases h with rfl | rfl | rfl | rfl | rfl | rfl | rfl | rfl | rfl | rfl | rfl | rfl | rfl
  · exact nl_X10_25.inst
  · exact nl_X9_60.inst
  · exact nl_X11_38.inst
  · exact nl_X9_46.inst
  · exact nl_X9_53.inst
  · exact nl_X10_32.inst
  · exact nl_X10_18.inst
  · exact nl_X11_24.inst
  · exact nl_X11_66.inst
  · exact nl_X10_9.inst
  · exact nl_X11_73.inst
  · exact nl_L_7.inst
  · exact nl_L_10.inst
theorem nest_on {w : Cond} (h : isNest w = true) : w.onTables = true := by
  cases w <;> first | rfl | (exact absurd h (by decide)) | (simp [isNest] at h)
/-- a static row of nine numbers -/
theorem st_row {args : Array Value} {s : State} {t : Term} {xs : Nat → Int32} (harr : (Cond.arrayOf t .int).before args s = true) (hlen : (Cond.eq (.length t) (.int 9)).before args s = true) (hel : ∀ j : Nat, j < 9 → (Cond.eq (.elem t (.int (Int32.ofNat j))) (.int (xs j))).before args s = true) : ∃ a : Nat, t.eval args s none [] s = some (.ref a) ∧ va_X a 9 xs s s.heap ∧ a < s.heap.size := by
  have hA : ∀ a : Nat, a < s.heap.size → ¬ s.heap.size ≤ a := fun a ha => Nat.not_le.mpr ha
  have hl := va_eqt hlen
  obtain ⟨a, ht, cell, h1, h2, h3, h4, h5, h6, h7⟩ := va_Tof (N := 9) (f := fun j => .int (xs j)) (A := fun q => s.heap.size ≤ q) (by decide) harr hl (fun j hj => va_eqt (hel j hj)) hA
  obtain ⟨b, cell2, hb, hat, -⟩ := Term.length_spec hl
  cases ht.symm.trans hb
  have hc := (State.arrayAt?_spec hat).1
  cases h1.symm.trans hc
  have hsz : cell.slots.size < 2 ^ 31 := by
    simp only [Term.eval, ht, hat, Option.bind_eq_bind, Option.bind_some] at hl
    by_cases hlt : cell.slots.size < 2147483648
    · exact hlt
    · simp [hlt] at hl
  have h9 : cell.slots.size = 9 := by
    have e := congrArg Int32.toInt h5
    rw [show cell.slots.size.toInt32 = Int32.ofNat cell.slots.size from rfl, Int32.toInt_ofNat_small hsz, Int32.toInt_ofNat_small (by decide)] at e
    omega
  exact ⟨a, ht, ⟨cell, h1, h2, h3, h9, h6⟩, (Array.getElem?_eq_some_iff.mp h1).1⟩
abbrev nwT_ : Jvm.Cond := Jvm.Cond.and given_1 narrow_1
def stT (n : String) : Term := .static "KeyDesk" n "[I"
def sgT (i : Nat) : Term := .string RX7 (94 + 2 * i)
theorem nw_ar3 : ∀ n ∈ ["LEAST", "MOST", "USUAL"], Cond.arrayOf (stT n) .int ∈ flatC nwT_ ∧ Cond.eq (.length (stT n)) (.int 9) ∈ flatC nwT_ ∧ Cond.exactly (stT n) "[I" ∈ flatC nwT_ := by decide +kernel
theorem nw_el1 : ∀ j, j < 9 → Cond.eq (.elem (stT "LEAST") (.int (Int32.ofNat j))) (.int (oI (eLeast j))) ∈ flatC nwT_ := by decide +kernel
theorem nw_el2 : ∀ j, j < 9 → Cond.eq (.elem (stT "MOST") (.int (Int32.ofNat j))) (.int (oI (eMost j))) ∈ flatC nwT_ := by decide +kernel
theorem nw_el3 : ∀ j, j < 9 → Cond.eq (.elem (stT "USUAL") (.int (Int32.ofNat j))) (.int (oI (eUsual j))) ∈ flatC nwT_ := by decide +kernel
theorem nw_ex : ∀ i, i < 9 → Cond.exactly (sgT i) "java/lang/String" ∈ flatC nwT_ ∧ Cond.eq (.field (sgT i) "java/lang/String" "coder" "B") (.int 0) ∈ flatC nwT_ ∧ Cond.arrayOf (.field (sgT i) "java/lang/String" "value" "[B") .byte ∈ flatC nwT_ ∧ Cond.eq (.length (.field (sgT i) "java/lang/String" "value" "[B")) (.int (Int32.ofNat (sLen.getD i 0))) ∈ flatC nwT_ := by decide +kernel
theorem nw_sl : ∀ i, i < 9 → ∀ j, j < sLen.getD i 0 → Cond.eq (.elem (.field (sgT i) "java/lang/String" "value" "[B") (.int (Int32.ofNat j))) (.int ((sByt.getD i []).getD j 0)) ∈ flatC nwT_ := by decide +kernel
theorem nw_ne : ∀ i, i < 9 → ∀ j, j < 9 → i ≠ j → Cond.not (Cond.eq (sgT i) (sgT j)) ∈ flatC nwT_ ∨ Cond.not (Cond.eq (sgT j) (sgT i)) ∈ flatC nwT_ := by decide +kernel
theorem nw_co : Cond.eq (.static "java/lang/String" "COMPACT_STRINGS" "Z") (.int 1) ∈ flatC nwT_ ∧ Cond.isRef (.static "jdk/internal/util/Preconditions" "SIOOBE_FORMATTER" "Ljava/util/function/BiFunction;") ∈ flatC nwT_ := by decide +kernel
end C82

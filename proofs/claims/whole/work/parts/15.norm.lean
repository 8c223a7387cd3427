/-! rows in plain form; loops; rows of the memory as functions -/
def un (f : Nat → Int) (k : Nat) (x : Int) : Nat → Int := fun j => if j = k then x else f j
def sr (I : Mi) (a : Nat) (f : Nat → Int) : Mi := fun b j => if b = a then f j else I b j
theorem sr_at (I : Mi) (a : Nat) (f : Nat → Int) (j : Nat) : sr I a f a j = f j := if_pos rfl
theorem sr_row (I : Mi) (a : Nat) (f : Nat → Int) : sr I a f a = f := funext fun j => if_pos rfl
theorem sr_ne {I : Mi} {a b : Nat} {f : Nat → Int} (h : b ≠ a) : sr I a f b = I b := funext fun j => if_neg h
theorem un_at {f : Nat → Int} {k : Nat} {x : Int} : un f k x k = x := if_pos rfl
theorem un_ne {f : Nat → Int} {k j : Nat} {x : Int} (h : j ≠ k) : un f k x j = f j := if_neg h
theorem up2_row (I : Mi) (a k : Nat) (x : Int) : up2 I a k x = sr I a (un (I a) k x) := by
  funext b j
  unfold up2 sr un
  by_cases h : b = a
  · subst h
    by_cases g : j = k
    · rw [if_pos ⟨rfl, g⟩, if_pos rfl, if_pos g]
    · rw [if_neg (fun z => g z.2), if_pos rfl, if_neg g]
  · rw [if_neg (fun z => h z.1), if_neg h]
theorem sr_sr (I : Mi) (a : Nat) (f g : Nat → Int) : sr (sr I a f) a g = sr I a g := by
  funext b j
  unfold sr
  by_cases h : b = a
  · rw [if_pos h, if_pos h]
  · rw [if_neg h, if_neg h, if_neg h]
theorem sr_comm {I : Mi} {a b : Nat} {f g : Nat → Int} (h : a ≠ b) : sr (sr I a f) b g = sr (sr I b g) a f := by
  funext c j
  unfold sr
  by_cases h1 : c = b
  · rw [if_pos h1, if_neg (by omega), if_pos h1]
  · rw [if_neg h1]
    by_cases h2 : c = a
    · rw [if_pos h2, if_pos h2]
    · rw [if_neg h2, if_neg h2, if_neg h1]
theorem sr_id (I : Mi) (a : Nat) : sr I a (I a) = I := by
  funext b j
  unfold sr
  by_cases h : b = a
  · rw [if_pos h, h]
  · rw [if_neg h]
theorem up2_sr (I : Mi) (a : Nat) (f : Nat → Int) (k : Nat) (x : Int) : up2 (sr I a f) a k x = sr I a (un f k x) := by rw [up2_row, sr_row, sr_sr]
theorem up2_sr_ne {I : Mi} {a b : Nat} {f : Nat → Int} {k : Nat} {x : Int} (h : b ≠ a) : up2 (sr I a f) b k x = sr (up2 I b k x) a f := by rw [up2_row, sr_ne h, sr_comm (Ne.symm h), ← up2_row]
section NormRows
variable {G : Gl} {y : Mth} {d pc : Nat} {lv lv' : List (Option AV)} {st : List AV} {T : Sh} {I : Mi} {Q : Option AV → Sh → Mi → Prop}
theorem r_top {a b : Int} (h : a = b) (k : Ev G y d pc lv (aI b :: st) T I Q) : Ev G y d pc lv (aI a :: st) T I Q := h ▸ k
theorem r_topL {a b : Int} (h : a = b) (k : Ev G y d pc lv (aL b :: st) T I Q) : Ev G y d pc lv (aL a :: st) T I Q := h ▸ k
theorem r_mem {I2 : Mi} (h : I = I2) (k : Ev G y d pc lv st T I2 Q) : Ev G y d pc lv st T I Q := h ▸ k
theorem Ev.re {lv2 : List (Option AV)} {I2 : Mi} (h : lv = lv2) (h2 : I = I2) (k : Ev G y d pc lv2 st T I2 Q) : Ev G y d pc lv st T I Q := by subst h; subst h2; exact k
theorem r_ild {a : Nat} {i : Int} (j : Nat) (hd : decode y.2.1 pc = .ok (.iaload, 1)) (hk : kd T a = 20) (ha : a < nx T) (hj : i = (j : Int)) (hlt : j < ln T a) (kk : Ev G y d (pc + 1) lv (aI (I a j) :: st) T I Q) : Ev G y d pc lv (aI i :: aR a :: st) T I Q := by
  subst hj
  exact r_iaload hd hk ha (by omega) (by omega) kk
theorem r_bld {a : Nat} {i : Int} (j : Nat) (hd : decode y.2.1 pc = .ok (.baload, 1)) (hk : kd T a = 21 ∨ kd T a = 22) (ha : a < nx T) (hj : i = (j : Int)) (hlt : j < ln T a) (kk : Ev G y d (pc + 1) lv (aI (I a j) :: st) T I Q) : Ev G y d pc lv (aI i :: aR a :: st) T I Q := by
  subst hj
  exact r_baload hd hk ha (by omega) (by omega) kk
theorem r_lld {a : Nat} {i : Int} (j : Nat) (hd : decode y.2.1 pc = .ok (.laload, 1)) (hk : kd T a = 23) (ha : a < nx T) (hj : i = (j : Int)) (hlt : j < ln T a) (kk : Ev G y d (pc + 1) lv (aL (I a j) :: st) T I Q) : Ev G y d pc lv (aI i :: aR a :: st) T I Q := by
  subst hj
  exact r_laload hd hk ha (by omega) (by omega) kk
theorem r_ist {a : Nat} {i x : Int} (j : Nat) (hd : decode y.2.1 pc = .ok (.iastore, 1)) (hk : kd T a = 20) (ha : a < nx T) (hj : i = (j : Int)) (hlt : j < ln T a) (kk : Ev G y d (pc + 1) lv st T (up2 I a j x) Q) : Ev G y d pc lv (aI x :: aI i :: aR a :: st) T I Q := by
  subst hj
  exact r_iastore hd hk ha (by omega) (by omega) kk
theorem r_lst {a : Nat} {i x : Int} (j : Nat) (hd : decode y.2.1 pc = .ok (.lastore, 1)) (hk : kd T a = 23) (ha : a < nx T) (hj : i = (j : Int)) (hlt : j < ln T a) (kk : Ev G y d (pc + 1) lv st T (up2 I a j x) Q) : Ev G y d pc lv (aL x :: aI i :: aR a :: st) T I Q := by
  subst hj
  exact r_lastore hd hk ha (by omega) (by omega) kk
theorem r_bst {a : Nat} {i x : Int} (j : Nat) (b : Bool) (hd : decode y.2.1 pc = .ok (.bastore, 1)) (hk : kd T a = if b then 22 else 21) (ha : a < nx T) (hj : i = (j : Int)) (hlt : j < ln T a) (kk : Ev G y d (pc + 1) lv st T (up2 I a j (ibw b x)) Q) : Ev G y d pc lv (aI x :: aI i :: aR a :: st) T I Q := by
  subst hj
  exact r_bastore hd b hk ha (by omega) (by omega) kk
theorem EvE.mk {As : List AV} {lv0 : List (Option AV)} (h1 : (entA As).length ≤ y.2.2.1) (h2 : plainName y.1.cls = true) (hl : ent As y.2.2.1 = lv0) (k : Ev G y d 0 lv0 [] T I Q) : EvE G y d As T I Q := ⟨h1, h2, hl ▸ k⟩
theorem r_callSk {y2 : Mth} {idx n : Nat} {inS : List AV} (d2 : Nat) (As : List AV) (hd : decode y.2.1 pc = .ok (.invokestatic idx, 3)) (hl : CS y.1.cls idx y2 n) (hn : As.length = n) (hs : inS = As.reverse ++ st) (hdd : d2 < d) (hm : y2.2.2.1 ≤ 17) (h8 : (st.map catA).sum ≤ 8) (hc : EvE G y2 d2 As T I (fun v T' I' => nx T ≤ nx T' → Ev G y d (pc + 3) lv (v.toList ++ st) T' I' Q)) : Ev G y d pc lv inS T I Q :=
  r_callS hc hd hl hn hs hdd hm h8 (fun _ _ _ h hn => h hn)
theorem r_callVk {y2 : Mth} {idx n a : Nat} {inS : List AV} (d2 : Nat) (As : List AV) (hd : decode y.2.1 pc = .ok (.invokevirtual idx, 3)) (hl : CV y.1.cls idx y2 n) (hrc : RC y2.1.cls T a) (hn : As.length = n) (hs : inS = As.reverse ++ aR a :: st) (hdd : d2 < d) (hm : y2.2.2.1 ≤ 17) (h8 : (st.map catA).sum ≤ 8) (hc : EvE G y2 d2 (aR a :: As) T I (fun v T' I' => nx T ≤ nx T' → Ev G y d (pc + 3) lv (v.toList ++ st) T' I' Q)) : Ev G y d pc lv inS T I Q :=
  r_callV hc hd hl hrc hn hs hdd hm h8 (fun _ _ _ h hn => h hn)
theorem r_callIk {y2 : Mth} {idx n a : Nat} {inS : List AV} (d2 : Nat) (As : List AV) (hd : decode y.2.1 pc = .ok (.invokespecial idx, 3)) (hl : CI y.1.cls idx y2 n) (hn : As.length = n) (hs : inS = As.reverse ++ aR a :: st) (hdd : d2 < d) (hm : y2.2.2.1 ≤ 17) (h8 : (st.map catA).sum ≤ 8) (hc : EvE G y2 d2 (aR a :: As) T I (fun v T' I' => nx T ≤ nx T' → Ev G y d (pc + 3) lv (v.toList ++ st) T' I' Q)) : Ev G y d pc lv inS T I Q :=
  r_callI hc hd hl hn hs hdd hm h8 (fun _ _ _ h hn => h hn)
theorem in32_of {n : Int} (h : (decide (-2147483648 ≤ n) && decide (n < 2147483648)) = true) : in32 n := by
  simp only [Bool.and_eq_true, decide_eq_true_eq] at h
  exact h
theorem in64_of {n : Int} (h : (decide (-9223372036854775808 ≤ n) && decide (n < 9223372036854775808)) = true) : in64 n := by
  simp only [Bool.and_eq_true, decide_eq_true_eq] at h
  exact h
theorem r_iaddN {a b c : Int} (hd : decode y.2.1 pc = .ok (.iadd, 1)) (h : w32 (a + b) = c) (k : Ev G y d (pc + 1) lv (aI c :: st) T I Q) : Ev G y d pc lv (aI b :: aI a :: st) T I Q := r_iadd hd (h ▸ k)
theorem r_isubN {a b c : Int} (hd : decode y.2.1 pc = .ok (.isub, 1)) (h : w32 (a - b) = c) (k : Ev G y d (pc + 1) lv (aI c :: st) T I Q) : Ev G y d pc lv (aI b :: aI a :: st) T I Q := r_isub hd (h ▸ k)
theorem r_imulN {a b c : Int} (hd : decode y.2.1 pc = .ok (.imul, 1)) (h : w32 (a * b) = c) (k : Ev G y d (pc + 1) lv (aI c :: st) T I Q) : Ev G y d pc lv (aI b :: aI a :: st) T I Q := r_imul hd (h ▸ k)
theorem r_iincN {i : Nat} {n x c : Int} (hd : decode y.2.1 pc = .ok (.iinc i n, 3)) (hl : lv[i]? = some (some (aI x))) (hn : i < y.2.2.1) (h : w32 (x + n) = c) (e : stL lv i (aI c) = lv') (k : Ev G y d (pc + 3) lv' st T I Q) : Ev G y d pc lv st T I Q := by
  subst h
  exact r_iinc hd hl hn e k
theorem r_callS0 {y2 : Mth} {idx n : Nat} {inS : List AV} (d2 : Nat) (As : List AV) (hd : decode y.2.1 pc = .ok (.invokestatic idx, 3)) (hl : CS y.1.cls idx y2 n) (hn : As.length = n) (hs : inS = As.reverse ++ st) (hdd : d2 < d) (hm : y2.2.2.1 ≤ 17) (h8 : (st.map catA).sum ≤ 8) (hc : EvE G y2 d2 As T I (fun v T' I' => v = none ∧ (nx T ≤ nx T' → Ev G y d (pc + 3) lv st T' I' Q))) : Ev G y d pc lv inS T I Q :=
  r_callS hc hd hl hn hs hdd hm h8 (fun v _ _ h hn2 => by obtain ⟨rfl, h⟩ := h; exact h hn2)
theorem r_callS1 {y2 : Mth} {idx n : Nat} {inS : List AV} (d2 : Nat) (As : List AV) (hd : decode y.2.1 pc = .ok (.invokestatic idx, 3)) (hl : CS y.1.cls idx y2 n) (hn : As.length = n) (hs : inS = As.reverse ++ st) (hdd : d2 < d) (hm : y2.2.2.1 ≤ 17) (h8 : (st.map catA).sum ≤ 8) (hc : EvE G y2 d2 As T I (fun v T' I' => ∃ w, v = some w ∧ (nx T ≤ nx T' → Ev G y d (pc + 3) lv (w :: st) T' I' Q))) : Ev G y d pc lv inS T I Q :=
  r_callS hc hd hl hn hs hdd hm h8 (fun v _ _ h hn2 => by obtain ⟨w, rfl, h⟩ := h; exact h hn2)
theorem r_callV0 {y2 : Mth} {idx n a : Nat} {inS : List AV} (d2 : Nat) (As : List AV) (hd : decode y.2.1 pc = .ok (.invokevirtual idx, 3)) (hl : CV y.1.cls idx y2 n) (hrc : RC y2.1.cls T a) (hn : As.length = n) (hs : inS = As.reverse ++ aR a :: st) (hdd : d2 < d) (hm : y2.2.2.1 ≤ 17) (h8 : (st.map catA).sum ≤ 8) (hc : EvE G y2 d2 (aR a :: As) T I (fun v T' I' => v = none ∧ (nx T ≤ nx T' → Ev G y d (pc + 3) lv st T' I' Q))) : Ev G y d pc lv inS T I Q :=
  r_callV hc hd hl hrc hn hs hdd hm h8 (fun v _ _ h hn2 => by obtain ⟨rfl, h⟩ := h; exact h hn2)
theorem r_callV1 {y2 : Mth} {idx n a : Nat} {inS : List AV} (d2 : Nat) (As : List AV) (hd : decode y.2.1 pc = .ok (.invokevirtual idx, 3)) (hl : CV y.1.cls idx y2 n) (hrc : RC y2.1.cls T a) (hn : As.length = n) (hs : inS = As.reverse ++ aR a :: st) (hdd : d2 < d) (hm : y2.2.2.1 ≤ 17) (h8 : (st.map catA).sum ≤ 8) (hc : EvE G y2 d2 (aR a :: As) T I (fun v T' I' => ∃ w, v = some w ∧ (nx T ≤ nx T' → Ev G y d (pc + 3) lv (w :: st) T' I' Q))) : Ev G y d pc lv inS T I Q :=
  r_callV hc hd hl hrc hn hs hdd hm h8 (fun v _ _ h hn2 => by obtain ⟨w, rfl, h⟩ := h; exact h hn2)
theorem r_callI0 {y2 : Mth} {idx n a : Nat} {inS : List AV} (d2 : Nat) (As : List AV) (hd : decode y.2.1 pc = .ok (.invokespecial idx, 3)) (hl : CI y.1.cls idx y2 n) (hn : As.length = n) (hs : inS = As.reverse ++ aR a :: st) (hdd : d2 < d) (hm : y2.2.2.1 ≤ 17) (h8 : (st.map catA).sum ≤ 8) (hc : EvE G y2 d2 (aR a :: As) T I (fun v T' I' => v = none ∧ (nx T ≤ nx T' → Ev G y d (pc + 3) lv st T' I' Q))) : Ev G y d pc lv inS T I Q :=
  r_callI hc hd hl hn hs hdd hm h8 (fun v _ _ h hn2 => by obtain ⟨rfl, h⟩ := h; exact h hn2)
theorem RC.of {T : Sh} {a ci : Nat} {q : vw_C} (ha : a < nx T) (hk : kd T a = ci) (hci : ci < 13) (hq : vwCl[ci]? = some q) : RC q.1 T a := ⟨ha, by omega, q, by rw [hk]; exact hq, rfl⟩
end NormRows
section Loops
variable {G : Gl} {y : Mth} {d pc : Nat} {Q : Option AV → Sh → Mi → Prop}
theorem loop1 {A1 : Type} (P : A1 → Prop) (μ : A1 → Nat) (L : A1 → List (Option AV)) (Tf : A1 → Sh) (If : A1 → Mi) (hs : ∀ a1, P a1 → (∀ b1, P b1 → μ b1 < μ a1 → Ev G y d pc (L b1) [] (Tf b1) (If b1) Q) → Ev G y d pc (L a1) [] (Tf a1) (If a1) Q) : ∀ a1, P a1 → Ev G y d pc (L a1) [] (Tf a1) (If a1) Q := by
  have key : ∀ n a1, μ a1 < n → P a1 → Ev G y d pc (L a1) [] (Tf a1) (If a1) Q := by
    intro n
    induction n with
    | zero => intro a1 h; omega
    | succ n ih => intro a1 h hp; exact hs a1 hp (fun b1 hb hm => ih b1 (by omega) hb)
  intro a1 hp
  exact key (μ a1 + 1) a1 (by omega) hp
theorem loop2 {A1 A2 : Type} (P : A1 → A2 → Prop) (μ : A1 → A2 → Nat) (L : A1 → A2 → List (Option AV)) (Tf : A1 → A2 → Sh) (If : A1 → A2 → Mi) (hs : ∀ a1 a2, P a1 a2 → (∀ b1 b2, P b1 b2 → μ b1 b2 < μ a1 a2 → Ev G y d pc (L b1 b2) [] (Tf b1 b2) (If b1 b2) Q) → Ev G y d pc (L a1 a2) [] (Tf a1 a2) (If a1 a2) Q) : ∀ a1 a2, P a1 a2 → Ev G y d pc (L a1 a2) [] (Tf a1 a2) (If a1 a2) Q := fun a1 a2 h =>
  loop1 (fun x : A1 × A2 => P x.1 x.2) (fun x => μ x.1 x.2) (fun x => L x.1 x.2) (fun x => Tf x.1 x.2) (fun x => If x.1 x.2) (fun x hp ih => hs x.1 x.2 hp (fun b1 b2 hb hm => ih (b1, b2) hb hm)) (a1, a2) h
theorem loop3 {A1 A2 A3 : Type} (P : A1 → A2 → A3 → Prop) (μ : A1 → A2 → A3 → Nat) (L : A1 → A2 → A3 → List (Option AV)) (Tf : A1 → A2 → A3 → Sh) (If : A1 → A2 → A3 → Mi) (hs : ∀ a1 a2 a3, P a1 a2 a3 → (∀ b1 b2 b3, P b1 b2 b3 → μ b1 b2 b3 < μ a1 a2 a3 → Ev G y d pc (L b1 b2 b3) [] (Tf b1 b2 b3) (If b1 b2 b3) Q) → Ev G y d pc (L a1 a2 a3) [] (Tf a1 a2 a3) (If a1 a2 a3) Q) : ∀ a1 a2 a3, P a1 a2 a3 → Ev G y d pc (L a1 a2 a3) [] (Tf a1 a2 a3) (If a1 a2 a3) Q := fun a1 a2 a3 h =>
  loop1 (fun x : A1 × A2 × A3 => P x.1 x.2.1 x.2.2) (fun x => μ x.1 x.2.1 x.2.2) (fun x => L x.1 x.2.1 x.2.2) (fun x => Tf x.1 x.2.1 x.2.2) (fun x => If x.1 x.2.1 x.2.2) (fun x hp ih => hs x.1 x.2.1 x.2.2 hp (fun b1 b2 b3 hb hm => ih (b1, b2, b3) hb hm)) (a1, a2, a3) h
theorem loop4 {A1 A2 A3 A4 : Type} (P : A1 → A2 → A3 → A4 → Prop) (μ : A1 → A2 → A3 → A4 → Nat) (L : A1 → A2 → A3 → A4 → List (Option AV)) (Tf : A1 → A2 → A3 → A4 → Sh) (If : A1 → A2 → A3 → A4 → Mi) (hs : ∀ a1 a2 a3 a4, P a1 a2 a3 a4 → (∀ b1 b2 b3 b4, P b1 b2 b3 b4 → μ b1 b2 b3 b4 < μ a1 a2 a3 a4 → Ev G y d pc (L b1 b2 b3 b4) [] (Tf b1 b2 b3 b4) (If b1 b2 b3 b4) Q) → Ev G y d pc (L a1 a2 a3 a4) [] (Tf a1 a2 a3 a4) (If a1 a2 a3 a4) Q) : ∀ a1 a2 a3 a4, P a1 a2 a3 a4 → Ev G y d pc (L a1 a2 a3 a4) [] (Tf a1 a2 a3 a4) (If a1 a2 a3 a4) Q := fun a1 a2 a3 a4 h =>
  loop1 (fun x : A1 × A2 × A3 × A4 => P x.1 x.2.1 x.2.2.1 x.2.2.2) (fun x => μ x.1 x.2.1 x.2.2.1 x.2.2.2) (fun x => L x.1 x.2.1 x.2.2.1 x.2.2.2) (fun x => Tf x.1 x.2.1 x.2.2.1 x.2.2.2) (fun x => If x.1 x.2.1 x.2.2.1 x.2.2.2) (fun x hp ih => hs x.1 x.2.1 x.2.2.1 x.2.2.2 hp (fun b1 b2 b3 b4 hb hm => ih (b1, b2, b3, b4) hb hm)) (a1, a2, a3, a4) h
end Loops

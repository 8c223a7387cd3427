section C69
variable {G : Gl} {d : Nat} {T : Sh} {I : Mi} {N : Nat → Int} {Q : Option AV → Sh → Mi → Prop}
/-- a cell as it is made: kind, length, numbers, references (counted from the first cell made) -/
abbrev En := Nat × Nat × (Nat → Int) × (Nat → Option Nat)
def z0 : Nat → Int := fun _ => 0
def rN : Nat → Option Nat := fun _ => none
def urf (r : Nat → Option Nat) (k b : Nat) : Nat → Option Nat := fun j => if j = k then some b else r j
def upL : List En → Nat → (En → En) → List En
  | [], _, _ => []
  | x :: l, 0, g => g x :: l
  | x :: l, i + 1, g => x :: upL l i g
theorem upL_len (g : En → En) : ∀ (l : List En) (i : Nat), (upL l i g).length = l.length := by
  intro l
  induction l with
  | nil => intro i; rfl
  | cons x l ih =>
    intro i
    cases i with
    | zero => rfl
    | succ i => show (upL l i g).length + 1 = l.length + 1; rw [ih]
theorem upL_get (g : En → En) : ∀ (l : List En) (i k : Nat), (upL l i g)[k]? = if k = i then (l[k]?).map g else l[k]? := by
  intro l
  induction l with
  | nil => intro i k; show ([] : List En)[k]? = _; simp
  | cons x l ih =>
    intro i k
    cases i with
    | zero =>
      cases k with
      | zero => rfl
      | succ k => rw [if_neg (by omega)]; rfl
    | succ i =>
      cases k with
      | zero => rw [if_neg (by omega)]; rfl
      | succ k =>
        show (upL l i g)[k]? = _
        rw [ih i k]
        by_cases h : k = i
        · subst h; rw [if_pos rfl, if_pos rfl]; rfl
        · rw [if_neg h, if_neg (by omega)]; rfl
def shL (s : Nat) (l : List En) : List En := l.map (fun e => (e.1, e.2.1, e.2.2.1, fun j => (e.2.2.2 j).map (s + ·)))
/-- what was made from cell a on -/
def At (T0 : Sh) (I0 : Mi) (U : Sh) (K : Mi) (a : Nat) (l : List En) (m : Nat) : Prop :=
  nx U = a + l.length ∧ sl U = sl T0 + m ∧ (∀ b, b < a → kd U b = kd T0 b ∧ ln U b = ln T0 b ∧ (∀ j, rf U b j = rf T0 b j) ∧ K b = I0 b) ∧
  ∀ i e, l[i]? = some e → kd U (a + i) = e.1 ∧ ln U (a + i) = e.2.1 ∧ K (a + i) = e.2.2.1 ∧ ∀ j, rf U (a + i) j = (e.2.2.2 j).map (a + ·)
theorem get_lt {α : Type} {l : List α} {i : Nat} {e : α} (h : l[i]? = some e) : i < l.length := (List.getElem?_eq_some_iff.mp h).1
theorem At.nw {T0 U : Sh} {I0 K : Mi} {a m : Nat} {l : List En} (h : At T0 I0 U K a l m) (k n s : Nat) (r : Nat → Int) : At T0 I0 (nwT U k n s) (fun b j => if b = nx U then r j else K b j) a (l ++ [(k, n, r, rN)]) (m + s) := by
  obtain ⟨h1, h2, h3, h4⟩ := h
  refine ⟨?_, ?_, fun b hb => ?_, fun i e he => ?_⟩
  · show nx U + 1 = _
    rw [List.length_append, h1]; rfl
  · show sl U + s = _
    omega
  · have e1 := (nw_kd (T := U) (k := k) (n := n) (m := s) (b := b)).2 (by omega)
    obtain ⟨g1, g2, g3, g4⟩ := h3 b hb
    refine ⟨e1.1.trans g1, e1.2.trans g2, fun j => ?_, ?_⟩
    · rw [← g3 j]; exact if_neg (by omega)
    · rw [← g4]; funext j; exact if_neg (by omega)
  · have hi := get_lt he
    rw [List.length_append] at hi
    by_cases g : i < l.length
    · rw [List.getElem?_append_left g] at he
      have e1 := (nw_kd (T := U) (k := k) (n := n) (m := s) (b := a + i)).2 (by omega)
      obtain ⟨g1, g2, g3, g4⟩ := h4 i e he
      refine ⟨e1.1.trans g1, e1.2.trans g2, ?_, fun j => ?_⟩
      · rw [← g3]; funext j; exact if_neg (by omega)
      · rw [← g4 j]; exact if_neg (by omega)
    · have hi2 : i = l.length := by have : [((k, n, r, rN) : En)].length = 1 := rfl; omega
      subst hi2
      rw [List.getElem?_append_right (Nat.le_refl _), Nat.sub_self] at he
      have he2 : e = (k, n, r, rN) := (Option.some.inj he).symm
      subst he2
      have e1 := (nw_kd (T := U) (k := k) (n := n) (m := s) (b := a + l.length)).1 h1.symm
      refine ⟨e1.1, e1.2, ?_, fun j => ?_⟩
      · funext j; exact if_pos h1.symm
      · exact if_pos h1.symm
theorem At.rs {T0 U : Sh} {I0 K : Mi} {a m : Nat} {l : List En} (h : At T0 I0 U K a l m) (i k b : Nat) : At T0 I0 (rsT U (a + i) k (a + b)) K a (upL l i (fun e => (e.1, e.2.1, e.2.2.1, urf e.2.2.2 k b))) m := by
  obtain ⟨h1, h2, h3, h4⟩ := h
  refine ⟨by rw [upL_len]; exact h1, h2, fun c hc => ?_, fun q e he => ?_⟩
  · obtain ⟨g1, g2, g3, g4⟩ := h3 c hc
    exact ⟨g1, g2, fun j => by rw [rs_ne (by omega)]; exact g3 j, g4⟩
  · rw [upL_get] at he
    by_cases g : q = i
    · subst g
      rw [if_pos rfl] at he
      obtain ⟨e0, he0, he1⟩ := Option.map_eq_some_iff.mp he
      subst he1
      obtain ⟨g1, g2, g3, g4⟩ := h4 q e0 he0
      refine ⟨g1, g2, g3, fun j => ?_⟩
      show rf (rsT U (a + q) k (a + b)) (a + q) j = (urf e0.2.2.2 k b j).map (a + ·)
      unfold urf
      by_cases gj : j = k
      · subst gj; rw [rs_at, if_pos rfl]; rfl
      · rw [rs_ne (by omega), if_neg gj]; exact g4 j
    · rw [if_neg g] at he
      obtain ⟨g1, g2, g3, g4⟩ := h4 q e he
      exact ⟨g1, g2, g3, fun j => by rw [rs_ne (by omega)]; exact g4 j⟩
theorem At.up {T0 U : Sh} {I0 K : Mi} {a m : Nat} {l : List En} (h : At T0 I0 U K a l m) (i k : Nat) (x : Int) : At T0 I0 U (up2 K (a + i) k x) a (upL l i (fun e => (e.1, e.2.1, un e.2.2.1 k x, e.2.2.2))) m := by
  obtain ⟨h1, h2, h3, h4⟩ := h
  have hrow : ∀ c, c ≠ a + i → up2 K (a + i) k x c = K c := fun c hc => funext fun j => if_neg (by omega)
  refine ⟨by rw [upL_len]; exact h1, h2, fun c hc => ?_, fun q e he => ?_⟩
  · obtain ⟨g1, g2, g3, g4⟩ := h3 c hc
    exact ⟨g1, g2, g3, (hrow c (by omega)).trans g4⟩
  · rw [upL_get] at he
    by_cases g : q = i
    · subst g
      rw [if_pos rfl] at he
      obtain ⟨e0, he0, he1⟩ := Option.map_eq_some_iff.mp he
      subst he1
      obtain ⟨g1, g2, g3, g4⟩ := h4 q e0 he0
      refine ⟨g1, g2, ?_, g4⟩
      funext j
      show up2 K (a + q) k x (a + q) j = un e0.2.2.1 k x j
      unfold up2 un
      rw [← g3]
      by_cases gj : j = k
      · subst gj; rw [if_pos ⟨rfl, rfl⟩, if_pos rfl]
      · rw [if_neg (by omega), if_neg gj]
    · rw [if_neg g] at he
      obtain ⟨g1, g2, g3, g4⟩ := h4 q e he
      exact ⟨g1, g2, (hrow _ (by omega)).trans g3, g4⟩
theorem At.sub {T0 U V : Sh} {I0 K J : Mi} {a n m m2 : Nat} {l l2 : List En} {c : En} (h : At T0 I0 U K a (l ++ [c]) m) (hn : l.length = n) (h2 : At U K V J (a + n) l2 m2) : At T0 I0 V J a (l ++ shL n l2) (m + m2) := by
  subst hn
  obtain ⟨h1, h1b, h3, h4⟩ := h
  obtain ⟨k1, k1b, k3, k4⟩ := h2
  refine ⟨?_, by omega, fun b hb => ?_, fun i e he => ?_⟩
  · rw [k1, List.length_append]; unfold shL; rw [List.length_map]; omega
  · obtain ⟨g1, g2, g3, g4⟩ := h3 b hb
    obtain ⟨f1, f2, f3, f4⟩ := k3 b (by omega)
    exact ⟨f1.trans g1, f2.trans g2, fun j => (f3 j).trans (g3 j), f4.trans g4⟩
  · by_cases g : i < l.length
    · rw [List.getElem?_append_left g] at he
      obtain ⟨g1, g2, g3, g4⟩ := h4 i e (by rw [List.getElem?_append_left g]; exact he)
      obtain ⟨f1, f2, f3, f4⟩ := k3 (a + i) (by omega)
      exact ⟨f1.trans g1, f2.trans g2, f4.trans g3, fun j => (f3 j).trans (g4 j)⟩
    · rw [List.getElem?_append_right (by omega)] at he
      unfold shL at he
      rw [List.getElem?_map] at he
      obtain ⟨e0, he0, he1⟩ := Option.map_eq_some_iff.mp he
      subst he1
      obtain ⟨g1, g2, g3, g4⟩ := k4 _ e0 he0
      rw [show a + l.length + (i - l.length) = a + i by omega] at g1 g2 g3 g4
      refine ⟨g1, g2, g3, fun j => ?_⟩
      rw [g4 j]
      show (e0.2.2.2 j).map (a + l.length + ·) = ((e0.2.2.2 j).map (l.length + ·)).map (a + ·)
      cases e0.2.2.2 j with
      | none => rfl
      | some x => show some (a + l.length + x) = some (a + (l.length + x)); rw [Nat.add_assoc]
/-- a cell was made, its constructor begins -/
theorem At.one {T0 U : Sh} {I0 K : Mi} {a n m : Nat} {l : List En} {c : En} (h : At T0 I0 U K a (l ++ [c]) m) (hn : l.length = n) (hr : c.2.2.2 = rN) : At U K U K (a + n) [c] 0 := by
  subst hn
  obtain ⟨h1, h1b, h3, h4⟩ := h
  rw [List.length_append] at h1
  refine ⟨by rw [h1]; rfl, by omega, fun b _ => ⟨rfl, rfl, fun _ => rfl, rfl⟩, fun i e he => ?_⟩
  have hi := get_lt he
  have hi0 : i = 0 := by have : [c].length = 1 := rfl; omega
  subst hi0
  have e2 : e = c := (Option.some.inj he).symm
  subst e2
  obtain ⟨g1, g2, g3, g4⟩ := h4 l.length e (by rw [List.getElem?_append_right (Nat.le_refl _), Nat.sub_self]; rfl)
  refine ⟨g1, g2, g3, fun j => ?_⟩
  rw [Nat.add_zero, g4 j, hr]; rfl
theorem At.one_of {T0 U : Sh} {I0 K : Mi} {a m : Nat} {l : List En} (h : At T0 I0 U K a l m) {i : Nat} {e : En} (he : l[i]? = some e) : kd U (a + i) = e.1 ∧ ln U (a + i) = e.2.1 ∧ a + i < nx U := by
  obtain ⟨g1, g2, _⟩ := h.2.2.2 i e he
  have := get_lt he
  exact ⟨g1, g2, by rw [h.1]; omega⟩
def kl (e : En) : Nat × Nat := (e.1, e.2.1)
def sn (c : En) (l : List En) : List En := l ++ [c]
def sR (i k b : Nat) (l : List En) : List En := upL l i (fun e => (e.1, e.2.1, e.2.2.1, urf e.2.2.2 k b))
def sI (i k : Nat) (x : Int) (l : List En) : List En := upL l i (fun e => (e.1, e.2.1, un e.2.2.1 k x, e.2.2.2))
def sB (n : Nat) (l2 l : List En) : List En := l ++ shL n l2
theorem At.look {T0 U : Sh} {I0 K : Mi} {a m : Nat} {l : List En} (h : At T0 I0 U K a l m) {i ci s : Nat} (he : (l[i]?).map kl = some (ci, s)) : kd U (a + i) = ci ∧ ln U (a + i) = s ∧ a + i < nx U := by
  obtain ⟨e, h1, h2⟩ := Option.map_eq_some_iff.mp he
  have h3 := h.one_of h1
  have h4 : e.1 = ci := congrArg Prod.fst h2
  have h5 : e.2.1 = s := congrArg Prod.snd h2
  exact ⟨h3.1.trans h4, h3.2.1.trans h5, h3.2.2⟩
section AtRows
variable {G : Gl} {y : Mth} {d pc : Nat} {lv : List (Option AV)} {st : List AV} {T0 U : Sh} {I0 K : Mi} {Q : Option AV → Sh → Mi → Prop} {a n m m2 : Nat} {l : List En}
theorem q_new {idx ci : Nat} (hd : decode y.2.1 pc = .ok (.new idx, 3)) (hl : NL y.1.cls idx ci) (h : At T0 I0 U K a l m) (hn : l.length = n) (hm : m + nF ci = m2) (k : ∀ U2 K2, At T0 I0 U2 K2 a (sn (ci, 0, z0, rN) l) m2 → Ev G y d (pc + 3) lv (aR (a + n) :: st) U2 K2 Q) : Ev G y d pc lv st U K Q := by
  subst hm
  have h2 := k _ _ (h.nw ci 0 (nF ci) z0)
  rw [← hn, ← h.1] at h2
  exact r_new cks hd hl h2
theorem q_int {s : Nat} (hd : decode y.2.1 pc = .ok (.newarray .int, 2)) (h : At T0 I0 U K a l m) (hn : l.length = n) (hs : s ≤ 1000000) (hm : m + s = m2) (k : ∀ U2 K2, At T0 I0 U2 K2 a (sn (20, s, z0, rN) l) m2 → Ev G y d (pc + 2) lv (aR (a + n) :: st) U2 K2 Q) : Ev G y d pc lv (aI ((s : Nat) : Int) :: st) U K Q := by
  subst hm
  have h2 := k _ _ (h.nw 20 s s z0)
  rw [← hn, ← h.1] at h2
  exact r_newint hd aw_int (by omega) (by omega) (by rw [Int.toNat_natCast]; exact h2)
theorem q_long {s : Nat} (hd : decode y.2.1 pc = .ok (.newarray .long, 2)) (h : At T0 I0 U K a l m) (hn : l.length = n) (hs : s ≤ 1000000) (hm : m + s = m2) (k : ∀ U2 K2, At T0 I0 U2 K2 a (sn (23, s, z0, rN) l) m2 → Ev G y d (pc + 2) lv (aR (a + n) :: st) U2 K2 Q) : Ev G y d pc lv (aI ((s : Nat) : Int) :: st) U K Q := by
  subst hm
  have h2 := k _ _ (h.nw 23 s s z0)
  rw [← hn, ← h.1] at h2
  exact r_newlong hd aw_long (by omega) (by omega) (by rw [Int.toNat_natCast]; exact h2)
theorem q_byte {s : Nat} (hd : decode y.2.1 pc = .ok (.newarray .byte, 2)) (h : At T0 I0 U K a l m) (hn : l.length = n) (hs : s ≤ 1000000) (hm : m + s = m2) (k : ∀ U2 K2, At T0 I0 U2 K2 a (sn (21, s, z0, rN) l) m2 → Ev G y d (pc + 2) lv (aR (a + n) :: st) U2 K2 Q) : Ev G y d pc lv (aI ((s : Nat) : Int) :: st) U K Q := by
  subst hm
  have h2 := k _ _ (h.nw 21 s s z0)
  rw [← hn, ← h.1] at h2
  exact r_newbyte hd aw_byte (by omega) (by omega) (by rw [Int.toNat_natCast]; exact h2)
theorem q_bool {s : Nat} (hd : decode y.2.1 pc = .ok (.newarray .boolean, 2)) (h : At T0 I0 U K a l m) (hn : l.length = n) (hs : s ≤ 1000000) (hm : m + s = m2) (k : ∀ U2 K2, At T0 I0 U2 K2 a (sn (22, s, z0, rN) l) m2 → Ev G y d (pc + 2) lv (aR (a + n) :: st) U2 K2 Q) : Ev G y d pc lv (aI ((s : Nat) : Int) :: st) U K Q := by
  subst hm
  have h2 := k _ _ (h.nw 22 s s z0)
  rw [← hn, ← h.1] at h2
  exact r_newbool hd aw_boolean (by omega) (by omega) (by rw [Int.toNat_natCast]; exact h2)
theorem q_anew {s idx : Nat} (hd : decode y.2.1 pc = .ok (.anewarray idx, 3)) (hcl : Cond.classLink y.1.cls idx RX9 ∈ goodW) (h : At T0 I0 U K a l m) (hn : l.length = n) (hs : s ≤ 1000000) (hm : m + s = m2) (k : ∀ U2 K2, At T0 I0 U2 K2 a (sn (24, s, z0, rN) l) m2 → Ev G y d (pc + 3) lv (aR (a + n) :: st) U2 K2 Q) : Ev G y d pc lv (aI ((s : Nat) : Int) :: st) U K Q := by
  subst hm
  have h2 := k _ _ (h.nw 24 s s z0)
  rw [← hn, ← h.1] at h2
  exact r_anew hd hcl (by omega) (by omega) (by rw [Int.toNat_natCast]; exact h2)
theorem q_clone {idx : Nat} (hd : decode y.2.1 pc = .ok (.invokevirtual idx, 3)) (hd1 : 1 ≤ d) (hl : KL y.1.cls idx) (hc8 : (st.map catA).sum ≤ 8) (h : At T0 I0 U K a l m) (hn : l.length = n) (hm : m + 9 = m2) (k : ∀ U2 K2, At T0 I0 U2 K2 a (sn (20, 9, eUsual, rN) l) m2 → Ev G y d (pc + 3) lv (aR (a + n) :: st) U2 K2 Q) : Ev G y d pc lv (aE 3 :: st) U K Q := by
  subst hm
  have h2 := k _ _ (h.nw 20 9 9 eUsual)
  rw [← hn, ← h.1] at h2
  exact r_clone hd hd1 hl hc8 h2
theorem q_cast {idx i s : Nat} (hd : decode y.2.1 pc = .ok (.checkcast idx, 3)) (hl : Cond.classLink y.1.cls idx "[I" ∈ goodW) (h : At T0 I0 U K a l m) (he : (l[i]?).map kl = some (20, s)) (k : Ev G y d (pc + 3) lv (aR (a + i) :: st) U K Q) : Ev G y d pc lv (aR (a + i) :: st) U K Q := r_castI hd hl (h.look he).1 (h.look he).2.2 k
theorem q_putr {idx ci k i b s : Nat} (hd : decode y.2.1 pc = .ok (.putfield idx, 3)) (hl : FL y.1.cls idx ci k) (hf : PF y idx ci k) (hr : rfF ci k = true) (h : At T0 I0 U K a l m) (he : (l[i]?).map kl = some (ci, s)) (kk : ∀ U2 K2, At T0 I0 U2 K2 a (sR i k b l) m → Ev G y d (pc + 3) lv st U2 K2 Q) : Ev G y d pc lv (aR (a + b) :: aR (a + i) :: st) U K Q :=
  r_putfr cks hd hl hf hr (h.look he).1 (h.look he).2.2 (kk _ _ (h.rs i k b))
theorem q_puti {idx ci k i s : Nat} {x : Int} (hd : decode y.2.1 pc = .ok (.putfield idx, 3)) (hl : FL y.1.cls idx ci k) (hf : PF y idx ci k) (hr : rfF ci k = false) (h : At T0 I0 U K a l m) (he : (l[i]?).map kl = some (ci, s)) (kk : ∀ U2 K2, At T0 I0 U2 K2 a (sI i k x l) m → Ev G y d (pc + 3) lv st U2 K2 Q) : Ev G y d pc lv (aI x :: aR (a + i) :: st) U K Q :=
  r_putfi cks hd hl hf hr (h.look he).1 (h.look he).2.2 (kk _ _ (h.up i k x))
theorem q_ist {i j s : Nat} {x : Int} (hd : decode y.2.1 pc = .ok (.iastore, 1)) (h : At T0 I0 U K a l m) (he : (l[i]?).map kl = some (20, s)) (hj : j < s) (kk : ∀ U2 K2, At T0 I0 U2 K2 a (sI i j x l) m → Ev G y d (pc + 1) lv st U2 K2 Q) : Ev G y d pc lv (aI x :: aI ((j : Nat) : Int) :: aR (a + i) :: st) U K Q :=
  r_ist j hd (h.look he).1 (h.look he).2.2 rfl (by rw [(h.look he).2.1]; exact hj) (kk _ _ (h.up i j x))
theorem q_bst {i j s : Nat} {x : Int} (hd : decode y.2.1 pc = .ok (.bastore, 1)) (h : At T0 I0 U K a l m) (he : (l[i]?).map kl = some (21, s)) (hj : j < s) (kk : ∀ U2 K2, At T0 I0 U2 K2 a (sI i j (ibw false x) l) m → Ev G y d (pc + 1) lv st U2 K2 Q) : Ev G y d pc lv (aI x :: aI ((j : Nat) : Int) :: aR (a + i) :: st) U K Q :=
  r_bst j false hd (h.look he).1 (h.look he).2.2 rfl (by rw [(h.look he).2.1]; exact hj) (kk _ _ (h.up i j (ibw false x)))
theorem q_ast {i j b s s2 : Nat} (hd : decode y.2.1 pc = .ok (.aastore, 1)) (h : At T0 I0 U K a l m) (he : (l[i]?).map kl = some (24, s)) (hf : (l[b]?).map kl = some (9, s2)) (hj : j < s) (kk : ∀ U2 K2, At T0 I0 U2 K2 a (sR i j b l) m → Ev G y d (pc + 1) lv st U2 K2 Q) : Ev G y d pc lv (aR (a + b) :: aI ((j : Nat) : Int) :: aR (a + i) :: st) U K Q :=
  r_aastore cks hd (h.look he).1 (h.look he).2.2 (h.look hf).1 (h.look hf).2.2 (by omega) (by rw [(h.look he).2.1]; omega) (by rw [Int.toNat_natCast]; exact kk _ _ (h.rs i j b))
/-- a reference is read -/
theorem q_getr {idx ci k i b s : Nat} (hd : decode y.2.1 pc = .ok (.getfield idx, 3)) (hl : FL y.1.cls idx ci k) (hr : rfF ci k = true) (h : At T0 I0 U K a l m) (he : (l[i]?).map kl = some (ci, s)) (hb : (l[i]?).bind (fun e => e.2.2.2 k) = some b) (kk : Ev G y d (pc + 3) lv (aR (a + b) :: st) U K Q) : Ev G y d pc lv (aR (a + i) :: st) U K Q := by
  obtain ⟨e, h1, h2⟩ := Option.bind_eq_some_iff.mp hb
  have h3 := (h.2.2.2 i e h1).2.2.2 k
  rw [h2] at h3
  exact r_getfr cks hd hl hr (h.look he).1 (h.look he).2.2 h3 kk
/-- a constructor is called on the last cell -/
theorem q_call {y2 : Mth} {idx m3 : Nat} {l2 : List En} {c : En} (hd : decode y.2.1 pc = .ok (.invokespecial idx, 3)) (hl : CI y.1.cls idx y2 0) (hdd : 1 ≤ d) (hm : y2.2.2.1 ≤ 17) (h8 : (st.map catA).sum ≤ 8) (h : At T0 I0 U K a (sn c l) m) (hn : l.length = n) (hr : c.2.2.2 = rN)
    (hc : ∀ Q2 : Option AV → Sh → Mi → Prop, At U K U K (a + n) [c] 0 → (∀ V J, At U K V J (a + n) l2 m3 → Q2 none V J) → EvE G y2 (d - 1) [aR (a + n)] U K Q2) (hm2 : m + m3 = m2)
    (kk : ∀ U2 K2, At T0 I0 U2 K2 a (sB n l2 l) m2 → Ev G y d (pc + 3) lv st U2 K2 Q) : Ev G y d pc lv (aR (a + n) :: st) U K Q := by
  subst hm2
  exact r_callI (As := []) (hc (fun v V J => v = none ∧ At T0 I0 V J a (l ++ shL n l2) (m + m3)) (At.one h hn hr) (fun V J hV => ⟨rfl, At.sub h hn hV⟩)) hd hl rfl rfl (by omega) hm h8 (fun v V J hv _ => by obtain ⟨rfl, h3⟩ := hv; exact kk V J h3)
end AtRows
end C69

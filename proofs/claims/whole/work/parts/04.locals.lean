/-! locals: writing; branches; switches -/
def stL (lv : List (Option AV)) (i : Nat) (v : AV) : List (Option AV) := match lv, i with
  | [], _ => []
  | _ :: r, 0 => some v :: r
  | some (.inr (.inl _)) :: r, 1 => none :: stL r 0 v
  | o :: r, i + 1 => o :: stL r i v
theorem stL_len : ∀ (lv : List (Option AV)) (i : Nat) (v : AV), (stL lv i v).length = lv.length
  | [], i, v => by unfold stL; rfl
  | o :: r, 0, v => by unfold stL; rfl
  | none :: r, 1, v => by unfold stL; simp [stL_len r 0 v]
  | some (.inl _) :: r, 1, v => by unfold stL; simp [stL_len r 0 v]
  | some (.inr (.inl _)) :: r, 1, v => by unfold stL; simp [stL_len r 0 v]
  | some (.inr (.inr _)) :: r, 1, v => by unfold stL; simp [stL_len r 0 v]
  | o :: r, i + 2, v => by
    have e : stL (o :: r) (i + 2) v = o :: stL r (i + 1) v := by rcases o with _ | (x | x | x) <;> rfl
    rw [e]; simp [stL_len r (i + 1) v]
/-- what stands in the locals behind a store of one slot: at i the value; elsewhere what stood there, no long just ahead of i -/
theorem stL_get : ∀ (lv : List (Option AV)) (i : Nat) (v : AV) (j : Nat) (w : AV), (stL lv i v)[j]? = some (some w) → (j = i ∧ w = v) ∨ (j ≠ i ∧ lv[j]? = some (some w) ∧ ¬ (j + 1 = i ∧ catA w = 2))
  | [], i, v, j, w, h => by simp [stL] at h
  | o :: r, 0, v, j, w, h => by
    cases j with
    | zero => simp [stL] at h; exact Or.inl ⟨rfl, h.symm⟩
    | succ j => simp [stL] at h; exact Or.inr ⟨by omega, by simpa using h, by omega⟩
  | o :: r, 1, v, j, w, h => by
    cases j with
    | zero =>
      rcases o with _ | (x | x | x)
      · simp [stL] at h
      · simp [stL] at h; subst h; exact Or.inr ⟨by omega, rfl, fun z => by simp [catA] at z⟩
      · simp [stL] at h
      · simp [stL] at h; subst h; exact Or.inr ⟨by omega, rfl, fun z => by rcases x with x | x <;> simp [catA] at z⟩
    | succ j =>
      have h' : (stL r 0 v)[j]? = some (some w) := by rcases o with _ | (x | x | x) <;> simpa [stL] using h
      rcases stL_get r 0 v j w h' with ⟨h1, h2⟩ | ⟨h1, h2, h3⟩
      · exact Or.inl ⟨by omega, h2⟩
      · exact Or.inr ⟨by omega, by simpa using h2, fun z => h3 ⟨by omega, z.2⟩⟩
  | o :: r, i + 2, v, j, w, h => by
    have e : stL (o :: r) (i + 2) v = o :: stL r (i + 1) v := by rcases o with _ | (x | x | x) <;> rfl
    rw [e] at h
    cases j with
    | zero => simp at h; subst h; exact Or.inr ⟨by omega, rfl, fun z => by omega⟩
    | succ j =>
      have h' : (stL r (i + 1) v)[j]? = some (some w) := by simpa using h
      rcases stL_get r (i + 1) v j w h' with ⟨h1, h2⟩ | ⟨h1, h2, h3⟩
      · exact Or.inl ⟨by omega, h2⟩
      · exact Or.inr ⟨by omega, by simpa using h2, fun z => h3 ⟨by omega, z.2⟩⟩
/-- a long: its second half is taken too -/
def stL2 (lv : List (Option AV)) (i : Nat) (v : AV) : List (Option AV) := (stL lv i v).set (i + 1) none
theorem stL2_len (lv : List (Option AV)) (i : Nat) (v : AV) : (stL2 lv i v).length = lv.length := by simp [stL2, stL_len]
theorem stL2_get (lv : List (Option AV)) (i : Nat) (v : AV) (j : Nat) (w : AV) (h : (stL2 lv i v)[j]? = some (some w)) : (j = i ∧ w = v) ∨ (j ≠ i ∧ j ≠ i + 1 ∧ lv[j]? = some (some w) ∧ ¬ (j + 1 = i ∧ catA w = 2)) := by
  unfold stL2 at h
  by_cases hj : j = i + 1
  · subst hj
    by_cases hl : i + 1 < (stL lv i v).length
    · rw [List.getElem?_set_self hl] at h; cases h
    · rw [List.getElem?_eq_none (by simp; omega)] at h; cases h
  · rw [List.getElem?_set_ne (fun z => hj z.symm)] at h
    rcases stL_get lv i v j w h with h1 | ⟨h1, h2, h3⟩
    · exact Or.inl h1
    · exact Or.inr ⟨h1, hj, h2, h3⟩
/-- the listed form of the kit, of just the entries that are asked -/
def cvL (G : Gl) (lv : List (Option AV)) : List (Nat × Value) := (List.range lv.length).filterMap (fun i => match lv[i]? with
  | some (some v) => some (i, cv G v)
  | _ => none)
theorem cvL_mem {G : Gl} {lv : List (Option AV)} {q : Nat × Value} : q ∈ cvL G lv ↔ ∃ v, lv[q.1]? = some (some v) ∧ q.2 = cv G v := by
  unfold cvL
  rw [List.mem_filterMap]
  constructor
  · rintro ⟨i, hi, h⟩
    split at h
    · next v hv => cases h; exact ⟨v, hv, rfl⟩
    · cases h
  · rintro ⟨v, hv, e⟩
    refine ⟨q.1, List.mem_range.mpr (List.getElem?_eq_some_iff.mp hv).1, ?_⟩
    rw [hv]
    simp [← e]
theorem LvH.has {G : Gl} {ls : Array Slot} {n : Nat} {lv : List (Option AV)} (h : LvH G ls n lv) : lv_has ls n (cvL G lv) := ⟨h.1, h.2.1, fun q hq => by
  obtain ⟨v, h1, h2⟩ := cvL_mem.mp hq
  rw [h2]; exact h.2.2 _ _ h1⟩
theorem LvH.store {G : Gl} {ls' : Array Slot} {n i : Nat} {lv lv' : List (Option AV)} {v : AV} (e : stL lv i v = lv') (h : lv_has ls' n ((i, cv G v) :: (cvL G lv).filter (fun q => !(q.1 == i) && !(q.1 + 1 == i && q.2.category == 2)))) : LvH G ls' n lv' := by
  subst e
  refine ⟨h.1, h.2.1, fun j w hj => ?_⟩
  rcases stL_get lv i v j w hj with ⟨h1, h2⟩ | ⟨h1, h2, h3⟩
  · subst h1; subst h2; exact h.2.2 (j, cv G w) List.mem_cons_self
  · refine h.2.2 (j, cv G w) (List.mem_cons_of_mem _ (List.mem_filter.mpr ⟨cvL_mem.mpr ⟨w, h2, rfl⟩, ?_⟩))
    simp only [Bool.and_eq_true, Bool.not_eq_true', beq_eq_false_iff_ne, ne_eq, Bool.and_eq_false_iff, cv_cat]
    refine ⟨h1, ?_⟩
    by_cases z : j + 1 = i
    · exact Or.inr (fun z2 => h3 ⟨z, z2⟩)
    · exact Or.inl z
theorem LvH.store2 {G : Gl} {ls' : Array Slot} {n i : Nat} {lv lv' : List (Option AV)} {v : AV} (e : stL2 lv i v = lv') (h : lv_has ls' n ((i, cv G v) :: (cvL G lv).filter (fun q => !(q.1 == i) && (!(q.1 == i + 1) && !(q.1 + 1 == i && q.2.category == 2))))) : LvH G ls' n lv' := by
  subst e
  refine ⟨h.1, h.2.1, fun j w hj => ?_⟩
  rcases stL2_get lv i v j w hj with ⟨h1, h2⟩ | ⟨h1, h1', h2, h3⟩
  · subst h1; subst h2; exact h.2.2 (j, cv G w) List.mem_cons_self
  · refine h.2.2 (j, cv G w) (List.mem_cons_of_mem _ (List.mem_filter.mpr ⟨cvL_mem.mpr ⟨w, h2, rfl⟩, ?_⟩))
    simp only [Bool.and_eq_true, Bool.not_eq_true', beq_eq_false_iff_ne, ne_eq, Bool.and_eq_false_iff, cv_cat]
    refine ⟨h1, h1', ?_⟩
    by_cases z : j + 1 = i
    · exact Or.inr (fun z2 => h3 ⟨z, z2⟩)
    · exact Or.inl z
theorem FW.sto {lv lv' : List (Option AV)} {i : Nat} {v : AV} {st st' : List AV} (e : stL lv i v = lv') (h : FW lv st) (hv : inR v) (hs : ∀ w ∈ st', inR w) : FW lv' st' := by
  subst e
  refine ⟨fun w hw => ?_, hs⟩
  obtain ⟨j, hj⟩ := List.getElem?_of_mem hw
  rcases stL_get lv i v j w hj with ⟨h1, h2⟩ | ⟨h1, h2, h3⟩
  · rw [h2]; exact hv
  · exact h.loc h2
theorem FW.sto2 {lv lv' : List (Option AV)} {i : Nat} {v : AV} {st st' : List AV} (e : stL2 lv i v = lv') (h : FW lv st) (hv : inR v) (hs : ∀ w ∈ st', inR w) : FW lv' st' := by
  subst e
  refine ⟨fun w hw => ?_, hs⟩
  obtain ⟨j, hj⟩ := List.getElem?_of_mem hw
  rcases stL2_get lv i v j w hj with ⟨h1, h2⟩ | ⟨h1, h1', h2, h3⟩
  · rw [h2]; exact hv
  · exact h.loc h2
section LocRows
variable {G : Gl} {y : Mth} {d pc : Nat} {lv lv' : List (Option AV)} {st : List AV} {T : Sh} {I : Mi} {Q : Option AV → Sh → Mi → Prop}
theorem r_istore_n {j : Fin 4} {i : Nat} {x : Int} (hd : decode y.2.1 pc = .ok (.istore_n j, 1)) (hj : (j : Nat) = i) (hn : i < y.2.2.1) (e : stL lv i (aI x) = lv') (k : Ev G y d (pc + 1) lv' st T I Q) : Ev G y d pc lv (aI x :: st) T I Q :=
  Ev.step (fun h => h.sto e h.hd h.tl.2) (fun _ _ _ _ _ _ _ _ _ _ _ C _ _ _ _ _ _ _ _ hL kk => lv_istore_n C.1 C.2.1 hd hj hL.has hn rfl (fun ls' h => kk ls' (LvH.store (v := aI x) e h))) k
theorem r_istore {i : Nat} {x : Int} (hd : decode y.2.1 pc = .ok (.istore i, 2)) (hn : i < y.2.2.1) (e : stL lv i (aI x) = lv') (k : Ev G y d (pc + 2) lv' st T I Q) : Ev G y d pc lv (aI x :: st) T I Q :=
  Ev.step (fun h => h.sto e h.hd h.tl.2) (fun _ _ _ _ _ _ _ _ _ _ _ C _ _ _ _ _ _ _ _ hL kk => lv_istore C.1 C.2.1 hd hL.has hn rfl (fun ls' h => kk ls' (LvH.store (v := aI x) e h))) k
theorem r_astore_n {j : Fin 4} {i : Nat} {x : Nat} (hd : decode y.2.1 pc = .ok (.astore_n j, 1)) (hj : (j : Nat) = i) (hn : i < y.2.2.1) (e : stL lv i (aR x) = lv') (k : Ev G y d (pc + 1) lv' st T I Q) : Ev G y d pc lv (aR x :: st) T I Q :=
  Ev.step (fun h => h.sto e h.hd h.tl.2) (fun _ _ _ _ _ _ _ _ _ _ _ C _ _ _ _ _ _ _ _ hL kk => lv_astore_n C.1 C.2.1 hd hj hL.has hn rfl (fun ls' h => kk ls' (LvH.store (v := aR x) e h))) k
theorem r_lstore_n {j : Fin 4} {i : Nat} {x : Int} (hd : decode y.2.1 pc = .ok (.lstore_n j, 1)) (hj : (j : Nat) = i) (hn : i + 1 < y.2.2.1) (e : stL2 lv i (aL x) = lv') (k : Ev G y d (pc + 1) lv' st T I Q) : Ev G y d pc lv (aL x :: st) T I Q :=
  Ev.step (fun h => h.sto2 e h.hd h.tl.2) (fun _ _ _ _ _ _ _ _ _ _ _ C _ _ _ _ _ _ _ _ hL kk => lv_lstore_n C.1 C.2.1 hd hj hL.has hn rfl (fun ls' h => kk ls' (LvH.store2 (v := aL x) e h))) k
theorem r_iinc {i : Nat} {n x : Int} (hd : decode y.2.1 pc = .ok (.iinc i n, 3)) (hl : lv[i]? = some (some (aI x))) (hn : i < y.2.2.1) (e : stL lv i (aI (w32 (x + n))) = lv') (k : Ev G y d (pc + 3) lv' st T I Q) : Ev G y d pc lv st T I Q :=
  Ev.step (fun h => h.sto e (w32_in _) h.2) (fun _ _ _ _ _ _ _ _ _ _ _ C _ _ _ _ _ _ _ _ hL kk => by
    have hm : (i, Value.int (oI x)) ∈ cvL G lv := cvL_mem.mpr ⟨aI x, hl, rfl⟩
    obtain ⟨k0, hk0⟩ := List.getElem?_of_mem hm
    exact lv_iinc C.1 C.2.1 hd hL.has hk0 (o_add x n).symm hn rfl (fun ls' h => kk ls' (LvH.store (v := aI (w32 (x + n))) e h))) k
/-- a branch: both ways, the one that isn't gone falls away by its condition -/
theorem Ev.br {c : Prop} {pc1 pc2 : Nat} {st1 : List AV} (hF : FW lv st → FW lv st1) (hk1 : c → Ev G y d pc1 lv st1 T I Q) (hk2 : ¬ c → Ev G y d pc2 lv st1 T I Q)
    (hW : FW lv st → ∀ (p : Program) (l : Launch) (e : Env) (R : Room) (s : State) (m : MethodId) (args : Array Value) (below : List Frame) (meth : Method) (c0 : Code), p.tables.exec = Jvm.exec → c0.code = y.2.1 →
      ∀ (H : Heap) (locs : List Loc) (cells slots : Nat) (ls : Array Slot) (Qf : State → Prop),
      (c → W p l e R s m args below meth c0 H locs cells slots Qf (F0 m pc1 ls (st1.map (cv G)))) → (¬ c → W p l e R s m args below meth c0 H locs cells slots Qf (F0 m pc2 ls (st1.map (cv G)))) →
      W p l e R s m args below meth c0 H locs cells slots Qf (F0 m pc ls (st.map (cv G)))) : Ev G y d pc lv st T I Q := by
  by_cases hc : c
  · exact Ev.stk hF (fun h p l e R s m args below meth c0 hx hb H locs cells slots ls Qf _ kk => hW h p l e R s m args below meth c0 hx hb H locs cells slots ls Qf (fun _ => kk) (fun z => absurd hc z)) (hk1 hc)
  · exact Ev.stk hF (fun h p l e R s m args below meth c0 hx hb H locs cells slots ls Qf _ kk => hW h p l e R s m args below meth c0 hx hb H locs cells slots ls Qf (fun z => absurd z hc) (fun _ => kk)) (hk2 hc)
theorem r_goto {off : Int} {tgt : Nat} (hd : decode y.2.1 pc = .ok (.goto off, 3)) (ht : (pc : Int) + off = (tgt : Int)) (k : Ev G y d tgt lv st T I Q) : Ev G y d pc lv st T I Q :=
  Ev.stk (fun h => h) (fun _ _ _ _ _ _ _ _ _ _ _ hx hb _ _ _ _ _ _ _ kk => lv_goto hx hb hd ht kk) k
theorem r_icmp_eq {a b off : Int} {tgt : Nat} (hd : decode y.2.1 pc = .ok (.if_icmp .eq off, 3)) (ht : (pc : Int) + off = (tgt : Int)) (kt : a = b → Ev G y d tgt lv st T I Q) (kf : ¬ (a = b) → Ev G y d (pc + 3) lv st T I Q) : Ev G y d pc lv (aI b :: aI a :: st) T I Q :=
  Ev.br (fun h => h.tl.tl) kt kf (fun h _ _ _ _ _ _ _ _ _ _ hx hb _ _ _ _ _ _ k1 k2 => lv_icmp_eq hx hb hd ht (fun z => k1 ((o_eq h.tl.hdI h.hdI).mp z)) (fun z => k2 (fun z2 => z ((o_eq h.tl.hdI h.hdI).mpr z2))))
theorem r_icmp_ne {a b off : Int} {tgt : Nat} (hd : decode y.2.1 pc = .ok (.if_icmp .ne off, 3)) (ht : (pc : Int) + off = (tgt : Int)) (kt : ¬ a = b → Ev G y d tgt lv st T I Q) (kf : ¬ (¬ a = b) → Ev G y d (pc + 3) lv st T I Q) : Ev G y d pc lv (aI b :: aI a :: st) T I Q :=
  Ev.br (fun h => h.tl.tl) kt kf (fun h _ _ _ _ _ _ _ _ _ _ hx hb _ _ _ _ _ _ k1 k2 => lv_icmp_ne hx hb hd ht (fun z => k1 ((not_congr (o_eq h.tl.hdI h.hdI)).mp z)) (fun z => k2 (fun z2 => z2 ((o_eq h.tl.hdI h.hdI).mp z))))
theorem r_icmp_lt {a b off : Int} {tgt : Nat} (hd : decode y.2.1 pc = .ok (.if_icmp .lt off, 3)) (ht : (pc : Int) + off = (tgt : Int)) (kt : a < b → Ev G y d tgt lv st T I Q) (kf : ¬ (a < b) → Ev G y d (pc + 3) lv st T I Q) : Ev G y d pc lv (aI b :: aI a :: st) T I Q :=
  Ev.br (fun h => h.tl.tl) kt kf (fun h _ _ _ _ _ _ _ _ _ _ hx hb _ _ _ _ _ _ k1 k2 => lv_icmp_lt hx hb hd ht (fun z => k1 ((o_lt h.tl.hdI h.hdI).mp z)) (fun z => k2 (fun z2 => z ((o_lt h.tl.hdI h.hdI).mpr z2))))
theorem r_icmp_ge {a b off : Int} {tgt : Nat} (hd : decode y.2.1 pc = .ok (.if_icmp .ge off, 3)) (ht : (pc : Int) + off = (tgt : Int)) (kt : b ≤ a → Ev G y d tgt lv st T I Q) (kf : ¬ (b ≤ a) → Ev G y d (pc + 3) lv st T I Q) : Ev G y d pc lv (aI b :: aI a :: st) T I Q :=
  Ev.br (fun h => h.tl.tl) kt kf (fun h _ _ _ _ _ _ _ _ _ _ hx hb _ _ _ _ _ _ k1 k2 => lv_icmp_ge hx hb hd ht (fun z => k1 ((o_le h.hdI h.tl.hdI).mp z)) (fun z => k2 (fun z2 => z ((o_le h.hdI h.tl.hdI).mpr z2))))
theorem r_icmp_gt {a b off : Int} {tgt : Nat} (hd : decode y.2.1 pc = .ok (.if_icmp .gt off, 3)) (ht : (pc : Int) + off = (tgt : Int)) (kt : b < a → Ev G y d tgt lv st T I Q) (kf : ¬ (b < a) → Ev G y d (pc + 3) lv st T I Q) : Ev G y d pc lv (aI b :: aI a :: st) T I Q :=
  Ev.br (fun h => h.tl.tl) kt kf (fun h _ _ _ _ _ _ _ _ _ _ hx hb _ _ _ _ _ _ k1 k2 => lv_icmp_gt hx hb hd ht (fun z => k1 ((o_lt h.hdI h.tl.hdI).mp z)) (fun z => k2 (fun z2 => z ((o_lt h.hdI h.tl.hdI).mpr z2))))
theorem r_icmp_le {a b off : Int} {tgt : Nat} (hd : decode y.2.1 pc = .ok (.if_icmp .le off, 3)) (ht : (pc : Int) + off = (tgt : Int)) (kt : a ≤ b → Ev G y d tgt lv st T I Q) (kf : ¬ (a ≤ b) → Ev G y d (pc + 3) lv st T I Q) : Ev G y d pc lv (aI b :: aI a :: st) T I Q :=
  Ev.br (fun h => h.tl.tl) kt kf (fun h _ _ _ _ _ _ _ _ _ _ hx hb _ _ _ _ _ _ k1 k2 => lv_icmp_le hx hb hd ht (fun z => k1 ((o_le h.tl.hdI h.hdI).mp z)) (fun z => k2 (fun z2 => z ((o_le h.tl.hdI h.hdI).mpr z2))))
theorem r_if_eq {a off : Int} {tgt : Nat} (hd : decode y.2.1 pc = .ok (.ifCond .eq off, 3)) (ht : (pc : Int) + off = (tgt : Int)) (kt : a = 0 → Ev G y d tgt lv st T I Q) (kf : ¬ (a = 0) → Ev G y d (pc + 3) lv st T I Q) : Ev G y d pc lv (aI a :: st) T I Q :=
  Ev.br (fun h => h.tl) kt kf (fun h _ _ _ _ _ _ _ _ _ _ hx hb _ _ _ _ _ _ k1 k2 => lv_if_eq hx hb hd ht (fun z => k1 ((o_eq h.hdI in32_0).mp z)) (fun z => k2 (fun z2 => z ((o_eq h.hdI in32_0).mpr z2))))
theorem r_if_ne {a off : Int} {tgt : Nat} (hd : decode y.2.1 pc = .ok (.ifCond .ne off, 3)) (ht : (pc : Int) + off = (tgt : Int)) (kt : ¬ a = 0 → Ev G y d tgt lv st T I Q) (kf : ¬ (¬ a = 0) → Ev G y d (pc + 3) lv st T I Q) : Ev G y d pc lv (aI a :: st) T I Q :=
  Ev.br (fun h => h.tl) kt kf (fun h _ _ _ _ _ _ _ _ _ _ hx hb _ _ _ _ _ _ k1 k2 => lv_if_ne hx hb hd ht (fun z => k1 ((not_congr (o_eq h.hdI in32_0)).mp z)) (fun z => k2 (fun z2 => z2 ((o_eq h.hdI in32_0).mp z))))
theorem r_if_lt {a off : Int} {tgt : Nat} (hd : decode y.2.1 pc = .ok (.ifCond .lt off, 3)) (ht : (pc : Int) + off = (tgt : Int)) (kt : a < 0 → Ev G y d tgt lv st T I Q) (kf : ¬ (a < 0) → Ev G y d (pc + 3) lv st T I Q) : Ev G y d pc lv (aI a :: st) T I Q :=
  Ev.br (fun h => h.tl) kt kf (fun h _ _ _ _ _ _ _ _ _ _ hx hb _ _ _ _ _ _ k1 k2 => lv_if_lt hx hb hd ht (fun z => k1 ((o_lt h.hdI in32_0).mp z)) (fun z => k2 (fun z2 => z ((o_lt h.hdI in32_0).mpr z2))))
theorem r_if_ge {a off : Int} {tgt : Nat} (hd : decode y.2.1 pc = .ok (.ifCond .ge off, 3)) (ht : (pc : Int) + off = (tgt : Int)) (kt : 0 ≤ a → Ev G y d tgt lv st T I Q) (kf : ¬ (0 ≤ a) → Ev G y d (pc + 3) lv st T I Q) : Ev G y d pc lv (aI a :: st) T I Q :=
  Ev.br (fun h => h.tl) kt kf (fun h _ _ _ _ _ _ _ _ _ _ hx hb _ _ _ _ _ _ k1 k2 => lv_if_ge hx hb hd ht (fun z => k1 ((o_le in32_0 h.hdI).mp z)) (fun z => k2 (fun z2 => z ((o_le in32_0 h.hdI).mpr z2))))
theorem r_if_gt {a off : Int} {tgt : Nat} (hd : decode y.2.1 pc = .ok (.ifCond .gt off, 3)) (ht : (pc : Int) + off = (tgt : Int)) (kt : 0 < a → Ev G y d tgt lv st T I Q) (kf : ¬ (0 < a) → Ev G y d (pc + 3) lv st T I Q) : Ev G y d pc lv (aI a :: st) T I Q :=
  Ev.br (fun h => h.tl) kt kf (fun h _ _ _ _ _ _ _ _ _ _ hx hb _ _ _ _ _ _ k1 k2 => lv_if_gt hx hb hd ht (fun z => k1 ((o_lt in32_0 h.hdI).mp z)) (fun z => k2 (fun z2 => z ((o_lt in32_0 h.hdI).mpr z2))))
theorem r_if_le {a off : Int} {tgt : Nat} (hd : decode y.2.1 pc = .ok (.ifCond .le off, 3)) (ht : (pc : Int) + off = (tgt : Int)) (kt : a ≤ 0 → Ev G y d tgt lv st T I Q) (kf : ¬ (a ≤ 0) → Ev G y d (pc + 3) lv st T I Q) : Ev G y d pc lv (aI a :: st) T I Q :=
  Ev.br (fun h => h.tl) kt kf (fun h _ _ _ _ _ _ _ _ _ _ hx hb _ _ _ _ _ _ k1 k2 => lv_if_le hx hb hd ht (fun z => k1 ((o_le h.hdI in32_0).mp z)) (fun z => k2 (fun z2 => z ((o_le h.hdI in32_0).mpr z2))))
theorem r_tsw_in {dflt lo hi off x : Int} {offs : Array Int} {len tgt : Nat} (hd : decode y.2.1 pc = .ok (.tableswitch dflt lo hi offs, len)) (h1 : lo ≤ x) (h2 : x ≤ hi) (ho : offs[(x - lo).toNat]? = some off) (ht : (pc : Int) + off = (tgt : Int)) (k : Ev G y d tgt lv st T I Q) : Ev G y d pc lv (aI x :: st) T I Q :=
  Ev.stk (fun h => h.tl) (fun h _ _ _ _ _ _ _ _ _ _ hx hb _ _ _ _ _ _ _ kk => lv_tableIn hx hb hd (by rw [toI_in h.hdI]; omega) (by rw [toI_in h.hdI]; omega) (by rw [toI_in h.hdI]; exact ho) ht kk) k
theorem r_tsw_out {dflt lo hi x : Int} {offs : Array Int} {len tgt : Nat} (hd : decode y.2.1 pc = .ok (.tableswitch dflt lo hi offs, len)) (h1 : x < lo ∨ hi < x) (ht : (pc : Int) + dflt = (tgt : Int)) (k : Ev G y d tgt lv st T I Q) : Ev G y d pc lv (aI x :: st) T I Q :=
  Ev.stk (fun h => h.tl) (fun h _ _ _ _ _ _ _ _ _ _ hx hb _ _ _ _ _ _ _ kk => lv_tableOut hx hb hd (by rw [toI_in h.hdI]; exact h1) ht kk) k
theorem r_lsw {dflt off x : Int} {ps : Array (Int × Int)} {len tgt : Nat} (hd : decode y.2.1 pc = .ok (.lookupswitch dflt ps, len)) (hp : (ps.toList.zip (ps.toList.drop 1)).all (fun (a, next) => a.1 < next.1) = true) (ho : Op.lookupswitch.offset ps.toList dflt x = off) (ht : (pc : Int) + off = (tgt : Int)) (k : Ev G y d tgt lv st T I Q) : Ev G y d pc lv (aI x :: st) T I Q :=
  Ev.stk (fun h => h.tl) (fun h _ _ _ _ _ _ _ _ _ _ hx hb _ _ _ _ _ _ _ kk => lv_lookup hx hb hd hp (by rw [toI_in h.hdI]; exact ho) ht kk) k
end LocRows

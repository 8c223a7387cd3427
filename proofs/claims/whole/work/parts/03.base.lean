/-! THE PLAIN MACHINE: what a run of a method does, said over plain numbers and a plain memory: names (0, 1, ..) for the cells that were made since the law began -/
/-- values: an int, a long, a reference to an own cell (or null), a reference to one of the cells that were there before -/
abbrev AV : Type := Int ⊕ Int ⊕ Option Nat ⊕ Nat
abbrev aI (x : Int) : AV := .inl x
abbrev aL (x : Int) : AV := .inr (.inl x)
abbrev aR (k : Nat) : AV := .inr (.inr (.inl (some k)))
abbrev aN : AV := .inr (.inr (.inl none))
abbrev aE (k : Nat) : AV := .inr (.inr (.inr k))
/-- the globals: the heap's size at the law's entry, the addresses of the cells from before, the classes' ids and slots, the array classes, the script -/
abbrev Gl : Type := Nat × (Nat → Nat) × va_G × (Nat → ClassId) × Nat × (Nat → Int32) × Bool
abbrev gh (G : Gl) : Nat := G.1
abbrev gx (G : Gl) : Nat → Nat := G.2.1
abbrev gD (G : Gl) : va_G := G.2.2.1
abbrev gc (G : Gl) : Nat → ClassId := G.2.2.2.1
abbrev gL (G : Gl) : Nat := G.2.2.2.2.1
abbrev gs (G : Gl) : Nat → Int32 := G.2.2.2.2.2.1
abbrev gF (G : Gl) : AV := if G.2.2.2.2.2.2 then aN else aE 22
def gA (G : Gl) : Nat → Prop := fun q => gh G ≤ q
def cv (G : Gl) : AV → Value
  | .inl x => .int (oI x)
  | .inr (.inl x) => .long (oL x)
  | .inr (.inr (.inl none)) => .null
  | .inr (.inr (.inl (some k))) => .ref (gh G + k)
  | .inr (.inr (.inr k)) => .ref (gx G k)
def inR : AV → Prop
  | .inl x => in32 x
  | .inr (.inl x) => in64 x
  | _ => True
def catA : AV → Nat
  | .inr (.inl _) => 2
  | _ => 1
theorem cv_cat (G : Gl) (v : AV) : (cv G v).category = catA v := by
  rcases v with x | x | (_ | k) | k <;> rfl
/-- the shape of the memory: a cell's kind (0 .. 12 an object of that class, 20 ints, 21 bytes, 22 booleans, 23 longs, 24 references), an array's length, references in fields and arrays, how many cells, how many slots -/
abbrev Sh : Type := (Nat → Nat) × (Nat → Nat) × (Nat → Nat → Option Nat) × Nat × Nat
abbrev kd (T : Sh) : Nat → Nat := T.1
abbrev ln (T : Sh) : Nat → Nat := T.2.1
abbrev rf (T : Sh) : Nat → Nat → Option Nat := T.2.2.1
abbrev nx (T : Sh) : Nat := T.2.2.2.1
abbrev sl (T : Sh) : Nat := T.2.2.2.2
/-- the numbers in the memory -/
abbrev Mi : Type := Nat → Nat → Int
def up2 (I : Mi) (a k : Nat) (x : Int) : Mi := fun b j => if b = a ∧ j = k then x else I b j
def upr (r : Nat → Nat → Option Nat) (a k : Nat) (x : Option Nat) : Nat → Nat → Option Nat := fun b j => if b = a ∧ j = k then x else r b j
/-- which fields of the classes are references -/
def rfF (ci k : Nat) : Bool := ((vwCl[ci]?.map fun q => (q.2.1 k).2.2.1).getD "I") != "I"
def nF (ci : Nat) : Nat := (vwCl[ci]?.map fun q => q.2.2).getD 0
def fldV (G : Gl) (T : Sh) (I : Mi) (a ci k : Nat) : Value := if rfF ci k = true then va_rf ((rf T a k).map (fun b => gh G + b)) else .int (oI (I a k))
def elV (G : Gl) (T : Sh) (I : Mi) (a j : Nat) : Value := if kd T a = 23 then .long (oL (I a j)) else if kd T a = 24 then va_rf ((rf T a j).map (fun b => gh G + b)) else .int (oI (I a j))
def cellAt (G : Gl) (T : Sh) (I : Mi) (a : Nat) (H : Heap) : Prop :=
  if kd T a < 13 then t_OB (gh G + a) ((gD G).1 (kd T a)) (nF (kd T a)) ((gD G).2 (kd T a)) H (fldV G T I a (kd T a))
  else H[gh G + a]? = some (arrV (gc G (kd T a)) (ln T a) (elV G T I a))
def Rl (G : Gl) (T : Sh) (I : Mi) (H : Heap) : Prop := H.size = gh G + nx T ∧ ∀ a, a < nx T → cellAt G T I a H
/-- all numbers in range; all kinds known; arrays not too long -/
def WFI (T : Sh) (I : Mi) : Prop := ∀ a, a < nx T → (∀ j, if kd T a = 23 then in64 (I a j) else in32 (I a j)) ∧ (kd T a < 13 ∨ (20 ≤ kd T a ∧ kd T a < 25)) ∧ ln T a < 2147483648
def FW (lv : List (Option AV)) (st : List AV) : Prop := (∀ v, some v ∈ lv → inR v) ∧ (∀ v ∈ st, inR v)
def LvH (G : Gl) (ls : Array Slot) (n : Nat) (lv : List (Option AV)) : Prop := ls.size = n ∧ lv_wf ls ∧ ∀ (i : Nat) (v : AV), lv[i]? = some (some v) → ls[i]? = some (.val (cv G v))
abbrev Mth : Type := MethodName × ByteArray × Nat × Option FieldType
def goodW : List Cond := lw_tbl.filter goodWord
def isNest : Cond → Bool
  | .fieldLinkNest .. => true
  | .methodLinkNest .. => true
  | .castable .. => true
  | _ => false
def nestW : List Cond := tables_1.filter isNest
def eLeast (j : Nat) : Int := [2, 0, 0, 0, 0, 2, 1, 1, 0].getD j 0
def eMost (j : Nat) : Int := [256, 99999, 500, 100, 128, 64, 6, 30, 50].getD j 0
def eUsual (j : Nat) : Int := [64, 1, 30, 0, 8, 8, 4, 16, 10].getD j 0
def sLen : List Nat := [7, 4, 5, 3, 6, 5, 6, 4, 4]
def sByt : List (List Int32) := [[115, 105, 103, 110, 97, 108, 115], [115, 101, 101, 100], [110, 111, 105, 115, 101], [115, 112, 121], [115, 97, 109, 112, 108, 101], [98, 108, 111, 99, 107], [112, 97, 115, 115, 101, 115], [104, 97, 115, 104], [115, 97, 102, 101]]
def sTxt : List String := ["signals", "seed", "noise", "spy", "sample", "block", "passes", "hash", "safe"]
/-- the rows from before: 0 the script, 1 LEAST, 2 MOST, 3 USUAL -/
def eSt (e j : Nat) : Int := if e = 1 then eLeast j else if e = 2 then eMost j else eUsual j
def xl (G : Gl) (e : Nat) : Nat := if e = 0 then gL G else 9
def xc (G : Gl) (e : Nat) (j : Nat) : Int32 := if e = 0 then gs G j else oI (eSt e j)
/-- what holds of the cells from before: the script, the static rows, the words' Strings -/
def ExtF (G : Gl) (U : State) (H : Heap) : Prop :=
  gh G ≤ H.size ∧ (∀ e, e < 4 → va_X (gx G e) (xl G e) (xc G e) U H ∧ gx G e < gh G) ∧ (∃ scr : Cell, H[gx G 3]? = some scr ∧ scr.cls = gc G 20) ∧
  (∀ e, e < 3 → va_Z "KeyDesk" (["LEAST", "MOST", "USUAL"].getD e "") "[I" (.ref (gx G (e + 1))) (gA G) U H) ∧
  va_Z "java/lang/String" "COMPACT_STRINGS" "Z" (.int 1) (gA G) U H ∧
  va_Z "jdk/internal/util/Preconditions" "SIOOBE_FORMATTER" "Ljava/util/function/BiFunction;" (cv G (gF G)) (gA G) U H ∧
  vk_S 9 sLen sByt (fun i => gx G (4 + i)) (fun i => gx G (13 + i)) (gA G) U H
def tysG (G : Gl) : List (ClassId × FieldType) := [(gc G 20, .int), (gc G 21, .byte), (gc G 22, .boolean), (gc G 23, .long), (gc G 24, .object RX9)]
def StF (G : Gl) (s : State) : Prop := va_K (gD G) vwCl (tysG G) s ∧ (∀ w ∈ nestW, va_Nw w s) ∧ ExtF G s s.heap ∧ (∀ i, i < 9 → vk_R RX7 (94 + 2 * i) (sTxt.getD i "") (gx G (4 + i)) s) ∧ va_AO RX9 s
def Ctx (G : Gl) (y : Mth) (d : Nat) (p : Program) (R : Room) (s : State) (m : MethodId) (args : Array Value) (meth : Method) (c : Code) : Prop :=
  p.tables.exec = Jvm.exec ∧ c.code = y.2.1 ∧ c.maxLocals = y.2.2.1 ∧ s.vm.findClass y.1.cls = some m.cls ∧ (∀ w ∈ goodW, w.before args s = true) ∧ StF G s ∧ d ≤ R.frames ∧ 36 * d ≤ R.locals ∧ (y.1.name = "<init>" → meth.name = "<init>")
def RetAt (cc : ByteArray) (pc : Nat) : Option AV → Prop
  | none => decode cc pc = .ok (.return_, 1)
  | some (.inl _) => decode cc pc = .ok (.ireturn, 1)
  | some (.inr (.inl _)) => decode cc pc = .ok (.lreturn, 1)
  | some (.inr (.inr _)) => decode cc pc = .ok (.areturn, 1)
/-- the answer fits the method's type -/
def ROK : Option FieldType → Option AV → Prop
  | none, none => True
  | some .int, some (.inl _) => True
  | some .boolean, some (.inl x) => x = 0 ∨ x = 1
  | some .byte, some (.inl x) => -128 ≤ x ∧ x < 128
  | some .char, some (.inl x) => 0 ≤ x ∧ x < 65536
  | some .long, some (.inr (.inl _)) => True
  | some (.object _), some (.inr (.inr _)) => True
  | some (.array _), some (.inr (.inr _)) => True
  | _, _ => False
def inRo : Option AV → Prop
  | none => True
  | some v => inR v
/-- from here the run comes to its method's end with v, and the memory is T', I' then -/
def Rn (G : Gl) (y : Mth) (d pc : Nat) (lv : List (Option AV)) (st : List AV) (T : Sh) (I : Mi) (v : Option AV) (T' : Sh) (I' : Mi) : Prop :=
  nx T ≤ nx T' ∧ sl T ≤ sl T' ∧ inRo v ∧ WFI T' I' ∧ ROK y.2.2.2 v ∧
  ∀ (p : Program) (l : Launch) (e : Env) (R : Room) (s : State) (m : MethodId) (args : Array Value) (below : List Frame) (meth : Method) (c : Code), Ctx G y d p R s m args meth c →
  ∀ (H : Heap) (locs : List Loc) (cells slots : Nat) (ls : Array Slot) (Qf : State → Prop), Rl G T I H → va_S (gA G) s.heap H locs → cells + (nx T' - nx T) ≤ R.cells → slots + (sl T' - sl T) ≤ R.slots → LvH G ls y.2.2.1 lv →
  (∀ (H' : Heap) (locs' : List Loc) (ls' : Array Slot) (pc' : Nat), RetAt y.2.1 pc' v → Rl G T' I' H' → va_S (gA G) s.heap H' locs' → W p l e R s m args below meth c H' locs' (cells + (nx T' - nx T)) (slots + (sl T' - sl T)) Qf (F0 m pc' ls' (v.toList.map (cv G)))) →
  W p l e R s m args below meth c H locs cells slots Qf (F0 m pc ls (st.map (cv G)))
def Ev (G : Gl) (y : Mth) (d pc : Nat) (lv : List (Option AV)) (st : List AV) (T : Sh) (I : Mi) (Q : Option AV → Sh → Mi → Prop) : Prop :=
  FW lv st → WFI T I → ∃ v T' I', Q v T' I' ∧ Rn G y d pc lv st T I v T' I'
theorem W_i {p : Program} {l : Launch} {e : Env} {R : Room} {s : State} {m : MethodId} {args : Array Value} {below : List Frame} {meth : Method} {c : Code} {H : Heap} {locs : List Loc} {cells slots : Nat} {Q : State → Prop} {pc : Nat} {ls : Array Slot} {rest : List Value} {x y : Int32} (h : x = y) (k : W p l e R s m args below meth c H locs cells slots Q (F0 m pc ls (.int x :: rest))) : W p l e R s m args below meth c H locs cells slots Q (F0 m pc ls (.int y :: rest)) := h ▸ k
theorem W_l {p : Program} {l : Launch} {e : Env} {R : Room} {s : State} {m : MethodId} {args : Array Value} {below : List Frame} {meth : Method} {c : Code} {H : Heap} {locs : List Loc} {cells slots : Nat} {Q : State → Prop} {pc : Nat} {ls : Array Slot} {rest : List Value} {x y : Int64} (h : x = y) (k : W p l e R s m args below meth c H locs cells slots Q (F0 m pc ls (.long x :: rest))) : W p l e R s m args below meth c H locs cells slots Q (F0 m pc ls (.long y :: rest)) := h ▸ k
section BaseRows
variable {G : Gl} {y : Mth} {d pc : Nat} {lv : List (Option AV)} {st : List AV} {T : Sh} {I : Mi} {Q : Option AV → Sh → Mi → Prop}
theorem Ev.mono {Q2 : Option AV → Sh → Mi → Prop} (h : Ev G y d pc lv st T I Q2) (hq : ∀ v T' I', Q2 v T' I' → Q v T' I') : Ev G y d pc lv st T I Q := fun h1 h2 => by
  obtain ⟨v, T', I', a, b⟩ := h h1 h2
  exact ⟨v, T', I', hq _ _ _ a, b⟩
/-- what is known of the numbers at hand -/
theorem Ev.fw (h : FW lv st → WFI T I → Ev G y d pc lv st T I Q) : Ev G y d pc lv st T I Q := fun h1 h2 => h h1 h2 h1 h2
theorem FW.loc {k : Nat} {v : AV} (h : FW lv st) (hk : lv[k]? = some (some v)) : inR v := h.1 v (List.mem_of_getElem? hk)
/-- a step that leaves the memory alone -/
theorem Ev.step {pc' : Nat} {lv' : List (Option AV)} {st' : List AV} (hF : FW lv st → FW lv' st')
    (hW : FW lv st → ∀ (p : Program) (l : Launch) (e : Env) (R : Room) (s : State) (m : MethodId) (args : Array Value) (below : List Frame) (meth : Method) (c : Code), Ctx G y d p R s m args meth c →
      ∀ (H : Heap) (locs : List Loc) (cells slots : Nat) (ls : Array Slot) (Qf : State → Prop), Rl G T I H → va_S (gA G) s.heap H locs → LvH G ls y.2.2.1 lv →
      (∀ ls' : Array Slot, LvH G ls' y.2.2.1 lv' → W p l e R s m args below meth c H locs cells slots Qf (F0 m pc' ls' (st'.map (cv G)))) →
      W p l e R s m args below meth c H locs cells slots Qf (F0 m pc ls (st.map (cv G))))
    (k : Ev G y d pc' lv' st' T I Q) : Ev G y d pc lv st T I Q := by
  intro h1 h2
  obtain ⟨v, T', I', hQ, n1, n2, n3, n4, n5, n6⟩ := k (hF h1) h2
  exact ⟨v, T', I', hQ, n1, n2, n3, n4, n5, fun p l e R s m args below meth c C H locs cells slots ls Qf hR hS hc hs hl hret => hW h1 p l e R s m args below meth c C H locs cells slots ls Qf hR hS hl (fun ls' hl' => n6 p l e R s m args below meth c C H locs cells slots ls' Qf hR hS hc hs hl' hret)⟩
theorem FW.tl {v : AV} (h : FW lv (v :: st)) : FW lv st := ⟨h.1, fun w hw => h.2 w (List.mem_cons_of_mem _ hw)⟩
theorem FW.hd {v : AV} (h : FW lv (v :: st)) : inR v := h.2 v List.mem_cons_self
theorem FW.ps {v : AV} (h : FW lv st) (hv : inR v) : FW lv (v :: st) := ⟨h.1, fun w hw => by
  rcases List.mem_cons.mp hw with rfl | hw
  · exact hv
  · exact h.2 w hw⟩


theorem FW.psI {x : Int} (h : FW lv st) (hx : in32 x) : FW lv (aI x :: st) := h.ps (v := aI x) hx
theorem FW.psL {x : Int} (h : FW lv st) (hx : in64 x) : FW lv (aL x :: st) := h.ps (v := aL x) hx
theorem FW.hdI {x : Int} (h : FW lv (aI x :: st)) : in32 x := h.hd
theorem FW.hdL {x : Int} (h : FW lv (aL x :: st)) : in64 x := h.hd
/-- a step over the stack alone -/
theorem Ev.stk {pc' : Nat} {st' : List AV} (hF : FW lv st → FW lv st')
    (hW : FW lv st → ∀ (p : Program) (l : Launch) (e : Env) (R : Room) (s : State) (m : MethodId) (args : Array Value) (below : List Frame) (meth : Method) (c : Code), p.tables.exec = Jvm.exec → c.code = y.2.1 →
      ∀ (H : Heap) (locs : List Loc) (cells slots : Nat) (ls : Array Slot) (Qf : State → Prop), LvH G ls y.2.2.1 lv →
      W p l e R s m args below meth c H locs cells slots Qf (F0 m pc' ls (st'.map (cv G))) →
      W p l e R s m args below meth c H locs cells slots Qf (F0 m pc ls (st.map (cv G))))
    (k : Ev G y d pc' lv st' T I Q) : Ev G y d pc lv st T I Q :=
  Ev.step hF (fun h p l e R s m args below meth c C H locs cells slots ls Qf _ _ hl kk => hW h p l e R s m args below meth c C.1 C.2.1 H locs cells slots ls Qf hl (kk ls hl)) k
-- constants
theorem r_iconst {n : Int} (hd : decode y.2.1 pc = .ok (.iconst n, 1)) (hn : in32 n) (k : Ev G y d (pc + 1) lv (aI n :: st) T I Q) : Ev G y d pc lv (st) T I Q :=
  Ev.stk (fun h => h.psI hn) (fun _ _ _ _ _ _ _ _ _ _ _ hx hb _ _ _ _ _ _ _ kk => lv_iconst hx hb hd rfl kk) k
theorem r_bipush {n : Int} (hd : decode y.2.1 pc = .ok (.bipush n, 2)) (hv : (Int8.ofInt n).toInt32 = oI n) (hn : in32 n) (k : Ev G y d (pc + 2) lv (aI n :: st) T I Q) : Ev G y d pc lv (st) T I Q :=
  Ev.stk (fun h => h.psI hn) (fun _ _ _ _ _ _ _ _ _ _ _ hx hb _ _ _ _ _ _ _ kk => lv_bipush hx hb hd hv kk) k
theorem r_sipush {n : Int} (hd : decode y.2.1 pc = .ok (.sipush n, 3)) (hv : (Int16.ofInt n).toInt32 = oI n) (hn : in32 n) (k : Ev G y d (pc + 3) lv (aI n :: st) T I Q) : Ev G y d pc lv (st) T I Q :=
  Ev.stk (fun h => h.psI hn) (fun _ _ _ _ _ _ _ _ _ _ _ hx hb _ _ _ _ _ _ _ kk => lv_sipush hx hb hd hv kk) k
theorem r_lconst {n : Fin 2} {z : Int} (hd : decode y.2.1 pc = .ok (.lconst n, 1)) (hv : Int64.ofNat (n : Nat) = oL z) (hn : in64 z) (k : Ev G y d (pc + 1) lv (aL z :: st) T I Q) : Ev G y d pc lv (st) T I Q :=
  Ev.stk (fun h => h.psL hn) (fun _ _ _ _ _ _ _ _ _ _ _ hx hb _ _ _ _ _ _ _ kk => lv_lconst hx hb hd hv kk) k
-- arithmetic
theorem r_iadd {a b : Int} (hd : decode y.2.1 pc = .ok (.iadd, 1)) (k : Ev G y d (pc + 1) lv (aI (w32 (a + b)) :: st) T I Q) : Ev G y d pc lv (aI b :: aI a :: st) T I Q :=
  Ev.stk (fun h => h.tl.tl.psI (w32_in _)) (fun _ _ _ _ _ _ _ _ _ _ _ hx hb _ _ _ _ _ _ _ kk => lv_iadd hx hb hd (by rw [← o_add]; exact kk)) k
theorem r_isub {a b : Int} (hd : decode y.2.1 pc = .ok (.isub, 1)) (k : Ev G y d (pc + 1) lv (aI (w32 (a - b)) :: st) T I Q) : Ev G y d pc lv (aI b :: aI a :: st) T I Q :=
  Ev.stk (fun h => h.tl.tl.psI (w32_in _)) (fun _ _ _ _ _ _ _ _ _ _ _ hx hb _ _ _ _ _ _ _ kk => lv_isub hx hb hd (by rw [← o_sub]; exact kk)) k
theorem r_imul {a b : Int} (hd : decode y.2.1 pc = .ok (.imul, 1)) (k : Ev G y d (pc + 1) lv (aI (w32 (a * b)) :: st) T I Q) : Ev G y d pc lv (aI b :: aI a :: st) T I Q :=
  Ev.stk (fun h => h.tl.tl.psI (w32_in _)) (fun _ _ _ _ _ _ _ _ _ _ _ hx hb _ _ _ _ _ _ _ kk => lv_imul hx hb hd (by rw [← o_mul]; exact kk)) k
theorem r_iand {a b : Int} (hd : decode y.2.1 pc = .ok (.iand, 1)) (k : Ev G y d (pc + 1) lv (aI (ian a b) :: st) T I Q) : Ev G y d pc lv (aI b :: aI a :: st) T I Q :=
  Ev.stk (fun h => h.tl.tl.psI (ian_in a b)) (fun _ _ _ _ _ _ _ _ _ _ _ hx hb _ _ _ _ _ _ _ kk => lv_iand hx hb hd (W_i (o_toI _) kk)) k
theorem r_ior {a b : Int} (hd : decode y.2.1 pc = .ok (.ior, 1)) (k : Ev G y d (pc + 1) lv (aI (iro a b) :: st) T I Q) : Ev G y d pc lv (aI b :: aI a :: st) T I Q :=
  Ev.stk (fun h => h.tl.tl.psI (iro_in a b)) (fun _ _ _ _ _ _ _ _ _ _ _ hx hb _ _ _ _ _ _ _ kk => lv_ior hx hb hd (W_i (o_toI _) kk)) k
theorem r_ixor {a b : Int} (hd : decode y.2.1 pc = .ok (.ixor, 1)) (k : Ev G y d (pc + 1) lv (aI (ixo a b) :: st) T I Q) : Ev G y d pc lv (aI b :: aI a :: st) T I Q :=
  Ev.stk (fun h => h.tl.tl.psI (ixo_in a b)) (fun _ _ _ _ _ _ _ _ _ _ _ hx hb _ _ _ _ _ _ _ kk => lv_ixor hx hb hd (W_i (o_toI _) kk)) k
theorem r_ishl {a b : Int} (hd : decode y.2.1 pc = .ok (.ishl, 1)) (k : Ev G y d (pc + 1) lv (aI (isl a b) :: st) T I Q) : Ev G y d pc lv (aI b :: aI a :: st) T I Q :=
  Ev.stk (fun h => h.tl.tl.psI (isl_in a b)) (fun _ _ _ _ _ _ _ _ _ _ _ hx hb _ _ _ _ _ _ _ kk => lv_ishl hx hb hd (W_i (o_toI _) kk)) k
theorem r_ishr {a b : Int} (hd : decode y.2.1 pc = .ok (.ishr, 1)) (k : Ev G y d (pc + 1) lv (aI (isr a b) :: st) T I Q) : Ev G y d pc lv (aI b :: aI a :: st) T I Q :=
  Ev.stk (fun h => h.tl.tl.psI (isr_in a b)) (fun _ _ _ _ _ _ _ _ _ _ _ hx hb _ _ _ _ _ _ _ kk => lv_ishr hx hb hd (W_i (o_toI _) kk)) k
theorem r_idiv {a b : Int} (hd : decode y.2.1 pc = .ok (.idiv, 1)) (h0 : b ≠ 0) (k : Ev G y d (pc + 1) lv (aI (idv a b) :: st) T I Q) : Ev G y d pc lv (aI b :: aI a :: st) T I Q :=
  Ev.stk (fun h => h.tl.tl.psI (idv_in a b)) (fun h _ _ _ _ _ _ _ _ _ _ hx hb _ _ _ _ _ _ _ kk => lv_idiv hx hb hd (fun z => h0 ((o_eq h.hdI in32_0).mp z)) (W_i (o_toI _) kk)) k
theorem r_irem {a b : Int} (hd : decode y.2.1 pc = .ok (.irem, 1)) (h0 : b ≠ 0) (k : Ev G y d (pc + 1) lv (aI (irm a b) :: st) T I Q) : Ev G y d pc lv (aI b :: aI a :: st) T I Q :=
  Ev.stk (fun h => h.tl.tl.psI (irm_in a b)) (fun h _ _ _ _ _ _ _ _ _ _ hx hb _ _ _ _ _ _ _ kk => lv_irem hx hb hd (fun z => h0 ((o_eq h.hdI in32_0).mp z)) (W_i (o_toI _) kk)) k
theorem r_ineg {a : Int} (hd : decode y.2.1 pc = .ok (.ineg, 1)) (k : Ev G y d (pc + 1) lv (aI (w32 (-a)) :: st) T I Q) : Ev G y d pc lv (aI a :: st) T I Q :=
  Ev.stk (fun h => h.tl.psI (w32_in _)) (fun _ _ _ _ _ _ _ _ _ _ _ hx hb _ _ _ _ _ _ _ kk => lv_ineg hx hb hd (by rw [← o_neg]; exact kk)) k
theorem r_iushr {a b : Int} (hd : decode y.2.1 pc = .ok (.iushr, 1)) (k : Ev G y d (pc + 1) lv (aI (ius a b) :: st) T I Q) : Ev G y d pc lv (aI b :: aI a :: st) T I Q :=
  Ev.stk (fun h => h.tl.tl.psI (ius_in a b)) (fun _ _ _ _ _ _ _ _ _ _ _ hx hb _ _ _ _ _ _ _ kk => lv_iushr hx hb hd (o_toI _).symm kk) k
theorem r_ladd {a b : Int} (hd : decode y.2.1 pc = .ok (.ladd, 1)) (k : Ev G y d (pc + 1) lv (aL (w64 (a + b)) :: st) T I Q) : Ev G y d pc lv (aL b :: aL a :: st) T I Q :=
  Ev.stk (fun h => h.tl.tl.psL (w64_in _)) (fun _ _ _ _ _ _ _ _ _ _ _ hx hb _ _ _ _ _ _ _ kk => lv_ladd hx hb hd (by rw [← oL_add]; exact kk)) k
theorem r_lsub {a b : Int} (hd : decode y.2.1 pc = .ok (.lsub, 1)) (k : Ev G y d (pc + 1) lv (aL (w64 (a - b)) :: st) T I Q) : Ev G y d pc lv (aL b :: aL a :: st) T I Q :=
  Ev.stk (fun h => h.tl.tl.psL (w64_in _)) (fun _ _ _ _ _ _ _ _ _ _ _ hx hb _ _ _ _ _ _ _ kk => lv_lsub hx hb hd (by rw [← oL_sub]; exact kk)) k
theorem r_lmul {a b : Int} (hd : decode y.2.1 pc = .ok (.lmul, 1)) (k : Ev G y d (pc + 1) lv (aL (w64 (a * b)) :: st) T I Q) : Ev G y d pc lv (aL b :: aL a :: st) T I Q :=
  Ev.stk (fun h => h.tl.tl.psL (w64_in _)) (fun _ _ _ _ _ _ _ _ _ _ _ hx hb _ _ _ _ _ _ _ kk => lv_lmul hx hb hd (by rw [← oL_mul]; exact kk)) k
theorem r_land {a b : Int} (hd : decode y.2.1 pc = .ok (.land, 1)) (k : Ev G y d (pc + 1) lv (aL (lan a b) :: st) T I Q) : Ev G y d pc lv (aL b :: aL a :: st) T I Q :=
  Ev.stk (fun h => h.tl.tl.psL (lan_in a b)) (fun _ _ _ _ _ _ _ _ _ _ _ hx hb _ _ _ _ _ _ _ kk => lv_land hx hb hd (W_l (o_toL _) kk)) k
theorem r_lor {a b : Int} (hd : decode y.2.1 pc = .ok (.lor, 1)) (k : Ev G y d (pc + 1) lv (aL (lro a b) :: st) T I Q) : Ev G y d pc lv (aL b :: aL a :: st) T I Q :=
  Ev.stk (fun h => h.tl.tl.psL (lro_in a b)) (fun _ _ _ _ _ _ _ _ _ _ _ hx hb _ _ _ _ _ _ _ kk => lv_lor hx hb hd (W_l (o_toL _) kk)) k
theorem r_lxor {a b : Int} (hd : decode y.2.1 pc = .ok (.lxor, 1)) (k : Ev G y d (pc + 1) lv (aL (lxo a b) :: st) T I Q) : Ev G y d pc lv (aL b :: aL a :: st) T I Q :=
  Ev.stk (fun h => h.tl.tl.psL (lxo_in a b)) (fun _ _ _ _ _ _ _ _ _ _ _ hx hb _ _ _ _ _ _ _ kk => lv_lxor hx hb hd (W_l (o_toL _) kk)) k
theorem r_ldiv {a b : Int} (hd : decode y.2.1 pc = .ok (.ldiv, 1)) (h0 : b ≠ 0) (k : Ev G y d (pc + 1) lv (aL (ldv a b) :: st) T I Q) : Ev G y d pc lv (aL b :: aL a :: st) T I Q :=
  Ev.stk (fun h => h.tl.tl.psL (ldv_in a b)) (fun h _ _ _ _ _ _ _ _ _ _ hx hb _ _ _ _ _ _ _ kk => lv_ldiv hx hb hd (fun z => h0 ((oL_eq h.hdL in64_0).mp z)) (W_l (o_toL _) kk)) k
theorem r_lrem {a b : Int} (hd : decode y.2.1 pc = .ok (.lrem, 1)) (h0 : b ≠ 0) (k : Ev G y d (pc + 1) lv (aL (lrm a b) :: st) T I Q) : Ev G y d pc lv (aL b :: aL a :: st) T I Q :=
  Ev.stk (fun h => h.tl.tl.psL (lrm_in a b)) (fun h _ _ _ _ _ _ _ _ _ _ hx hb _ _ _ _ _ _ _ kk => lv_lrem hx hb hd (fun z => h0 ((oL_eq h.hdL in64_0).mp z)) (W_l (o_toL _) kk)) k
theorem r_lneg {a : Int} (hd : decode y.2.1 pc = .ok (.lneg, 1)) (k : Ev G y d (pc + 1) lv (aL (w64 (-a)) :: st) T I Q) : Ev G y d pc lv (aL a :: st) T I Q :=
  Ev.stk (fun h => h.tl.psL (w64_in _)) (fun _ _ _ _ _ _ _ _ _ _ _ hx hb _ _ _ _ _ _ _ kk => lv_lneg hx hb hd (by rw [← oL_neg]; exact kk)) k
theorem r_lshl {a b : Int} (hd : decode y.2.1 pc = .ok (.lshl, 1)) (k : Ev G y d (pc + 1) lv (aL (lsl a b) :: st) T I Q) : Ev G y d pc lv (aI b :: aL a :: st) T I Q :=
  Ev.stk (fun h => h.tl.tl.psL (lsl_in a b)) (fun _ _ _ _ _ _ _ _ _ _ _ hx hb _ _ _ _ _ _ _ kk => lv_lshl hx hb hd (o_toL _).symm kk) k
theorem r_lushr {a b : Int} (hd : decode y.2.1 pc = .ok (.lushr, 1)) (k : Ev G y d (pc + 1) lv (aL (lus a b) :: st) T I Q) : Ev G y d pc lv (aI b :: aL a :: st) T I Q :=
  Ev.stk (fun h => h.tl.tl.psL (lus_in a b)) (fun _ _ _ _ _ _ _ _ _ _ _ hx hb _ _ _ _ _ _ _ kk => lv_lushr hx hb hd (o_toL _).symm kk) k
theorem r_i2l {a : Int} (hd : decode y.2.1 pc = .ok (.i2l, 1)) (k : Ev G y d (pc + 1) lv (aL a :: st) T I Q) : Ev G y d pc lv (aI a :: st) T I Q :=
  Ev.stk (fun h => h.tl.psL (in32_in64 h.hdI)) (fun h _ _ _ _ _ _ _ _ _ _ hx hb _ _ _ _ _ _ _ kk => lv_i2l hx hb hd (i2l_o h.hdI).symm kk) k
theorem r_l2i {a : Int} (hd : decode y.2.1 pc = .ok (.l2i, 1)) (k : Ev G y d (pc + 1) lv (aI (w32 a) :: st) T I Q) : Ev G y d pc lv (aL a :: st) T I Q :=
  Ev.stk (fun h => h.tl.psI (w32_in _)) (fun _ _ _ _ _ _ _ _ _ _ _ hx hb _ _ _ _ _ _ _ kk => lv_l2i hx hb hd (l2i_o a).symm kk) k
theorem r_i2b {a : Int} (hd : decode y.2.1 pc = .ok (.i2b, 1)) (k : Ev G y d (pc + 1) lv (aI (ib8 a) :: st) T I Q) : Ev G y d pc lv (aI a :: st) T I Q :=
  Ev.stk (fun h => h.tl.psI (ib8_in _)) (fun _ _ _ _ _ _ _ _ _ _ _ hx hb _ _ _ _ _ _ _ kk => lv_i2b hx hb hd (o_toI _).symm kk) k
theorem r_i2c {a : Int} (hd : decode y.2.1 pc = .ok (.i2c, 1)) (k : Ev G y d (pc + 1) lv (aI (ic16 a) :: st) T I Q) : Ev G y d pc lv (aI a :: st) T I Q :=
  Ev.stk (fun h => h.tl.psI (ic16_in _)) (fun _ _ _ _ _ _ _ _ _ _ _ hx hb _ _ _ _ _ _ _ kk => lv_i2c hx hb hd (o_toI _).symm kk) k
theorem r_lcmp {a b : Int} (hd : decode y.2.1 pc = .ok (.lcmp, 1)) (k : Ev G y d (pc + 1) lv (aI (lcp a b) :: st) T I Q) : Ev G y d pc lv (aL b :: aL a :: st) T I Q :=
  Ev.stk (fun h => h.tl.tl.psI (lcp_in a b)) (fun h _ _ _ _ _ _ _ _ _ _ hx hb _ _ _ _ _ _ _ kk => W.lcmp hx hb hd (W_i (lcp_o h.tl.hdL h.hdL) kk)) k
-- the stack
theorem r_dup {v : AV} (hd : decode y.2.1 pc = .ok (.dup, 1)) (hc : catA v = 1) (k : Ev G y d (pc + 1) lv (v :: v :: st) T I Q) : Ev G y d pc lv (v :: st) T I Q :=
  Ev.stk (fun h => h.ps h.hd) (fun _ _ _ _ _ _ _ _ _ _ _ hx hb _ _ _ _ _ _ _ kk => lv_dup hx hb hd ((cv_cat _ _).trans hc) kk) k
theorem r_pop {v : AV} (hd : decode y.2.1 pc = .ok (.pop, 1)) (hc : catA v = 1) (k : Ev G y d (pc + 1) lv (st) T I Q) : Ev G y d pc lv (v :: st) T I Q :=
  Ev.stk (fun h => h.tl) (fun _ _ _ _ _ _ _ _ _ _ _ hx hb _ _ _ _ _ _ _ kk => lv_pop hx hb hd ((cv_cat _ _).trans hc) kk) k
theorem r_dup2 {v w : AV} (hd : decode y.2.1 pc = .ok (.dup2, 1)) (hc : catA v = 1) (hc2 : catA w = 1) (k : Ev G y d (pc + 1) lv (v :: w :: v :: w :: st) T I Q) : Ev G y d pc lv (v :: w :: st) T I Q :=
  Ev.stk (fun h => (h.ps h.tl.hd).ps h.hd) (fun _ _ _ _ _ _ _ _ _ _ _ hx hb _ _ _ _ _ _ _ kk => lv_dup2_11 hx hb hd ((cv_cat _ _).trans hc) ((cv_cat _ _).trans hc2) kk) k
theorem r_dup2L {x : Int} (hd : decode y.2.1 pc = .ok (.dup2, 1)) (k : Ev G y d (pc + 1) lv (aL x :: aL x :: st) T I Q) : Ev G y d pc lv (aL x :: st) T I Q :=
  Ev.stk (fun h => h.ps h.hd) (fun _ _ _ _ _ _ _ _ _ _ _ hx hb _ _ _ _ _ _ _ kk => lv_dup2_2 hx hb hd rfl kk) k
-- locals: reading
theorem r_iload_n {i : Nat} {x : Int} {j : Fin 4} (hd : decode y.2.1 pc = .ok (.iload_n j, 1)) (hl : lv[i]? = some (some (aI x))) (hj : (j : Nat) = i) (k : Ev G y d (pc + 1) lv (aI x :: st) T I Q) : Ev G y d pc lv st T I Q :=
  Ev.stk (fun h => h.ps (h.loc hl)) (fun _ _ _ _ _ _ _ _ _ _ _ hx hb _ _ _ _ _ _ hL kk => lv_iload_n hx hb hd hj (hL.2.2 i _ hl) kk) k
theorem r_iload {i : Nat} {x : Int} (hd : decode y.2.1 pc = .ok (.iload i, 2)) (hl : lv[i]? = some (some (aI x))) (k : Ev G y d (pc + 2) lv (aI x :: st) T I Q) : Ev G y d pc lv st T I Q :=
  Ev.stk (fun h => h.ps (h.loc hl)) (fun _ _ _ _ _ _ _ _ _ _ _ hx hb _ _ _ _ _ _ hL kk => lv_iload hx hb hd (hL.2.2 i _ hl) kk) k
theorem r_lload_n {i : Nat} {x : Int} {j : Fin 4} (hd : decode y.2.1 pc = .ok (.lload_n j, 1)) (hl : lv[i]? = some (some (aL x))) (hj : (j : Nat) = i) (k : Ev G y d (pc + 1) lv (aL x :: st) T I Q) : Ev G y d pc lv st T I Q :=
  Ev.stk (fun h => h.ps (h.loc hl)) (fun _ _ _ _ _ _ _ _ _ _ _ hx hb _ _ _ _ _ _ hL kk => lv_lload_n hx hb hd hj (hL.2.2 i _ hl) kk) k
theorem r_lload {i : Nat} {x : Int} (hd : decode y.2.1 pc = .ok (.lload i, 2)) (hl : lv[i]? = some (some (aL x))) (k : Ev G y d (pc + 2) lv (aL x :: st) T I Q) : Ev G y d pc lv st T I Q :=
  Ev.stk (fun h => h.ps (h.loc hl)) (fun _ _ _ _ _ _ _ _ _ _ _ hx hb _ _ _ _ _ _ hL kk => lv_lload hx hb hd (hL.2.2 i _ hl) kk) k
theorem r_aload_n {i : Nat} {x : Nat} {j : Fin 4} (hd : decode y.2.1 pc = .ok (.aload_n j, 1)) (hl : lv[i]? = some (some (aR x))) (hj : (j : Nat) = i) (k : Ev G y d (pc + 1) lv (aR x :: st) T I Q) : Ev G y d pc lv st T I Q :=
  Ev.stk (fun h => h.ps (h.loc hl)) (fun _ _ _ _ _ _ _ _ _ _ _ hx hb _ _ _ _ _ _ hL kk => lv_aload_n hx hb hd hj (hL.2.2 i _ hl) kk) k
theorem r_aload {i : Nat} {x : Nat} (hd : decode y.2.1 pc = .ok (.aload i, 2)) (hl : lv[i]? = some (some (aR x))) (k : Ev G y d (pc + 2) lv (aR x :: st) T I Q) : Ev G y d pc lv st T I Q :=
  Ev.stk (fun h => h.ps (h.loc hl)) (fun _ _ _ _ _ _ _ _ _ _ _ hx hb _ _ _ _ _ _ hL kk => lv_aload hx hb hd (hL.2.2 i _ hl) kk) k
theorem r_aload_nE {i : Nat} {x : Nat} {j : Fin 4} (hd : decode y.2.1 pc = .ok (.aload_n j, 1)) (hl : lv[i]? = some (some (aE x))) (hj : (j : Nat) = i) (k : Ev G y d (pc + 1) lv (aE x :: st) T I Q) : Ev G y d pc lv st T I Q :=
  Ev.stk (fun h => h.ps (h.loc hl)) (fun _ _ _ _ _ _ _ _ _ _ _ hx hb _ _ _ _ _ _ hL kk => lv_aload_n hx hb hd hj (hL.2.2 i _ hl) kk) k
theorem r_aloadE {i : Nat} {x : Nat} (hd : decode y.2.1 pc = .ok (.aload i, 2)) (hl : lv[i]? = some (some (aE x))) (k : Ev G y d (pc + 2) lv (aE x :: st) T I Q) : Ev G y d pc lv st T I Q :=
  Ev.stk (fun h => h.ps (h.loc hl)) (fun _ _ _ _ _ _ _ _ _ _ _ hx hb _ _ _ _ _ _ hL kk => lv_aload hx hb hd (hL.2.2 i _ hl) kk) k
end BaseRows

/-! constants, statics, the cells from before, Strings, clones -/
section MoreRows
variable {G : Gl} {y : Mth} {d pc : Nat} {lv lv' : List (Option AV)} {st : List AV} {T : Sh} {I : Mi} {Q : Option AV → Sh → Mi → Prop}
theorem r_ldc {idx : Nat} {n : Int} (hd : decode y.2.1 pc = .ok (.ldc idx, 2)) (hl : Cond.constant y.1.cls idx (oI n) ∈ goodW) (hn : in32 n) (k : Ev G y d (pc + 2) lv (aI n :: st) T I Q) : Ev G y d pc lv st T I Q :=
  Ev.step (fun h => h.psI hn) (fun _ _ _ _ _ _ _ _ _ _ _ C _ _ _ _ _ _ _ _ hL kk => lv_ldc C.1 C.2.1 C.2.2.2.1 (C.2.2.2.2.1 _ hl) hd (kk _ hL)) k
theorem r_ldc2 {idx : Nat} {n : Int} (hd : decode y.2.1 pc = .ok (.ldc2_w idx, 3)) (hl : Cond.constantLong y.1.cls idx (oL n) ∈ goodW) (hn : in64 n) (k : Ev G y d (pc + 3) lv (aL n :: st) T I Q) : Ev G y d pc lv st T I Q :=
  Ev.step (fun h => h.psL hn) (fun _ _ _ _ _ _ _ _ _ _ _ C _ _ _ _ _ _ _ _ hL kk => lv_ldc2 C.1 C.2.1 C.2.2.2.1 (C.2.2.2.2.1 _ hl) hd (kk _ hL)) k
theorem FWe {e : Nat} (h : FW lv st) : FW lv (aE e :: st) := h.ps (v := aE e) trivial
/-- one of the nine words' Strings -/
theorem r_ldcS {i : Nat} (hi : i < 9) (hc : y.1.cls = RX7) (hd : decode y.2.1 pc = .ok (.ldc (94 + 2 * i), 2)) (k : Ev G y d (pc + 2) lv (aE (4 + i) :: st) T I Q) : Ev G y d pc lv st T I Q :=
  Ev.step (fun h => FWe h) (fun _ _ _ _ _ _ _ _ _ _ _ C _ _ _ _ _ _ _ _ hL kk => va_ldcS C.1 C.2.1 C.2.2.2.1 (by rw [hc]; exact C.2.2.2.2.2.1.2.2.2.1 i hi) hd (kk _ hL)) k
/-- a static's link -/
def SL (own : String) (idx : Nat) (C n ds : String) : Prop := Cond.fieldLink own idx C n ds ∈ goodW ∨ ∃ host, Cond.fieldLinkNest own idx C n ds host ∈ nestW
theorem gets_core {p : Program} {l : Launch} {e : Env} {R : Room} {s : State} {m : MethodId} {args : Array Value} {below : List Frame} {meth : Method} {c : Code} (C : Ctx G y d p R s m args meth c) {H : Heap} {locs : List Loc} {cells slots : Nat} {ls : Array Slot} {Qf : State → Prop} {rest : List Value} {idx : Nat} {cl n ds : String} {v : Value} (hd : decode y.2.1 pc = .ok (.getstatic idx, 3)) (hl : SL y.1.cls idx cl n ds) (hZ : va_Z cl n ds v (gA G) s s.heap) (hS : va_S (gA G) s.heap H locs)
    (kk : W p l e R s m args below meth c H locs cells slots Qf (F0 m (pc + 3) ls (v :: rest))) : W p l e R s m args below meth c H locs cells slots Qf (F0 m pc ls rest) := by
  rcases hl with hl | ⟨host, hl⟩
  · exact va_gets C.1 C.2.1 hZ hS C.2.2.2.1 (C.2.2.2.2.1 _ hl) (fun _ h => h) hd kk
  · exact va_getsN C.1 C.2.1 hZ hS C.2.2.2.1 (nest_use rfl C.2.2.2.2.2.1 hl) (fun _ h => h) hd kk
theorem r_getsA {idx e : Nat} (he : e < 3) (hd : decode y.2.1 pc = .ok (.getstatic idx, 3)) (hl : SL y.1.cls idx "KeyDesk" (["LEAST", "MOST", "USUAL"].getD e "") "[I") (k : Ev G y d (pc + 3) lv (aE (e + 1) :: st) T I Q) : Ev G y d pc lv st T I Q :=
  Ev.step (fun h => FWe h) (fun _ _ _ _ _ _ _ _ _ _ _ C _ _ _ _ _ _ _ hS hL kk => gets_core C hd hl (C.2.2.2.2.2.1.2.2.1.2.2.2.1 e he) hS (kk _ hL)) k
theorem r_getsC {idx : Nat} (hd : decode y.2.1 pc = .ok (.getstatic idx, 3)) (hl : SL y.1.cls idx "java/lang/String" "COMPACT_STRINGS" "Z") (k : Ev G y d (pc + 3) lv (aI 1 :: st) T I Q) : Ev G y d pc lv st T I Q :=
  Ev.step (fun h => h.psI (by unfold in32; omega)) (fun _ _ _ _ _ _ _ _ _ _ _ C _ _ _ _ _ _ _ hS hL kk => gets_core C hd hl C.2.2.2.2.2.1.2.2.1.2.2.2.2.1 hS (kk _ hL)) k
theorem r_getsF {idx : Nat} (hd : decode y.2.1 pc = .ok (.getstatic idx, 3)) (hl : SL y.1.cls idx "jdk/internal/util/Preconditions" "SIOOBE_FORMATTER" "Ljava/util/function/BiFunction;") (k : Ev G y d (pc + 3) lv (gF G :: st) T I Q) : Ev G y d pc lv st T I Q :=
  Ev.step (fun h => h.ps (by unfold gF; split <;> trivial)) (fun _ _ _ _ _ _ _ _ _ _ _ C _ _ _ _ _ _ _ hS hL kk => gets_core C hd hl C.2.2.2.2.2.1.2.2.1.2.2.2.2.2.1 hS (kk _ hL)) k
/-- the rows from before -/
theorem r_xload {e : Nat} {i x : Int} (he : e < 4) (hd : decode y.2.1 pc = .ok (.iaload, 1)) (h0 : 0 ≤ i) (h1 : i < (xl G e : Int)) (hx : oI x = xc G e i.toNat) (hin : in32 x) (k : Ev G y d (pc + 1) lv (aI x :: st) T I Q) : Ev G y d pc lv (aI i :: aE e :: st) T I Q :=
  Ev.step (fun h => h.tl.tl.psI hin) (fun hh p l en R s m args below meth c C H locs cells slots ls Qf hR hS hL kk => by
    obtain ⟨g1, g2⟩ := C.2.2.2.2.2.1.2.2.1.2.1 e he
    have hi := hh.hdI
    have hz : gh G ≤ s.heap.size := C.2.2.2.2.2.1.2.2.1.1
    refine va_sld C.1 C.2.1 g1 (by omega) (by unfold gA; omega) hS (vp_in_o hi h0 h1) hd ?_
    rw [clampI hi h0, ← hx]
    exact kk _ hL) k
theorem r_xlen {e : Nat} (he : e < 4) (hd : decode y.2.1 pc = .ok (.arraylength, 1)) (hn : xl G e < 2147483648) (k : Ev G y d (pc + 1) lv (aI (xl G e : Int) :: st) T I Q) : Ev G y d pc lv (aE e :: st) T I Q :=
  Ev.step (fun h => h.tl.psI (by unfold in32; omega)) (fun hh p l en R s m args below meth c C H locs cells slots ls Qf hR hS hL kk => by
    obtain ⟨g1, g2⟩ := C.2.2.2.2.2.1.2.2.1.2.1 e he
    have hz : gh G ≤ s.heap.size := C.2.2.2.2.2.1.2.2.1.1
    refine va_slen C.1 C.2.1 g1 (by omega) (by unfold gA; omega) hS hd ?_
    have := kk _ hL
    rw [List.map_cons, show cv G (aI (xl G e : Int)) = .int (Int32.ofNat (xl G e)) by show Value.int (oI _) = _; rw [show oI (xl G e : Int) = Int32.ofNat (xl G e) from Int32.ofInt_eq_ofNat]] at this
    exact this) k
/-- System.arraycopy out of USUAL -/
theorem r_xcopy {idx a e : Nat} {sp dp n : Int} (he : e < 4) (he0 : e ≠ 0) (hd : decode y.2.1 pc = .ok (.invokestatic idx, 3)) (hd1 : 1 ≤ d) (hl : AC y.1.cls idx) (hc8 : (st.map catA).sum ≤ 8) (hk : kd T a = 20) (ha : a < nx T) (h1 : 0 ≤ sp) (h2 : 0 ≤ dp) (h3 : 0 ≤ n) (h4 : sp + n ≤ 9) (h5 : dp + n ≤ (ln T a : Int)) (k : Ev G y d (pc + 3) lv st T (cpy I a (eSt e) sp.toNat dp.toNat n.toNat) Q) : Ev G y d pc lv (aI n :: aI dp :: aR a :: aI sp :: aE e :: st) T I Q := by
  have hsm : ∀ j, in32 (eSt e j) := by
    intro j
    have g : ∀ j, in32 (eLeast j) ∧ in32 (eMost j) ∧ in32 (eUsual j) := by
      intro j
      unfold eLeast eMost eUsual
      by_cases hj : j < 9
      · have : j = 0 ∨ j = 1 ∨ j = 2 ∨ j = 3 ∨ j = 4 ∨ j = 5 ∨ j = 6 ∨ j = 7 ∨ j = 8 := by omega
        rcases this with rfl | rfl | rfl | rfl | rfl | rfl | rfl | rfl | rfl <;> (refine ⟨?_, ?_, ?_⟩ <;> unfold in32 <;> decide)
      · have e1 : ∀ l : List Int, l.length = 9 → l.getD j 0 = 0 := fun l hl => by rw [List.getD_eq_getElem?_getD, List.getElem?_eq_none (by omega)]; rfl
        rw [e1 _ rfl, e1 _ rfl, e1 _ rfl]
        exact ⟨in32_0, in32_0, in32_0⟩
    unfold eSt
    split
    · exact (g j).1
    · split
      · exact (g j).2.1
      · exact (g j).2.2
  refine Ev.wr (Nat.le_refl _) (Nat.le_refl _) (fun g1 g2 => ⟨g1.tl.tl.tl.tl.tl, WFI.cpyI g2 (fun j _ => by rw [if_neg (by omega)]; exact hsm j)⟩) (fun g1 g2 p l en R s m args below meth c C H locs cells slots ls Qf hR hS hL hc hs kk2 => ?_) k
  rw [Nat.sub_self, Nat.sub_self, Nat.add_zero, Nat.add_zero] at kk2
  obtain ⟨⟨scr, x1, x2, x3, x4, x5⟩, x6⟩ := C.2.2.2.2.2.1.2.2.1.2.1 e he
  have hz : gh G ≤ s.heap.size := C.2.2.2.2.2.1.2.2.1.1
  have hxl : xl G e = 9 := if_neg he0
  rw [hxl] at x4 x5
  refine copy_core (ty := .int) (mk := fun x => .int (oI x)) C hd1 hd hl (by rw [cat_sum]; exact hc8) hL.1 hR hS g2 ha (Or.inl ⟨hk, rfl, rfl⟩) (b0 := gx G e) (n0 := 9) (src := eSt e) (by rw [hS.2.1 _ (by omega) (by unfold gA; omega)]; exact x1) x2 x3 (by omega) (fun j hj => by rw [x5 j hj]; unfold xc; rw [if_neg he0]) h1 h2 h3 g1.tl.tl.tl.hdI g1.tl.hdI g1.hdI (by omega) h5 kk2
/-- the words of '"[I".clone()' -/
def KL (own : String) (idx : Nat) : Prop := Cond.methodLink own idx ⟨"[I", "clone", "()Ljava/lang/Object;"⟩ ∈ goodW ∧ Cond.sameMethod "[I" "java/lang/Object" "clone" "()Ljava/lang/Object;" ∈ goodW ∧ Cond.native ⟨"java/lang/Object", "clone", "()Ljava/lang/Object;"⟩ ∈ goodW ∧ Cond.instanceMethod ⟨"java/lang/Object", "clone", "()Ljava/lang/Object;"⟩ ∈ goodW ∧ Cond.selects "[I" ⟨"[I", "clone", "()Ljava/lang/Object;"⟩ ⟨"java/lang/Object", "clone", "()Ljava/lang/Object;"⟩ ∈ goodW ∧ Cond.castable "[I" "java/lang/Cloneable" ∈ nestW
theorem r_clone {idx : Nat} (hd : decode y.2.1 pc = .ok (.invokevirtual idx, 3)) (hd1 : 1 ≤ d) (hl : KL y.1.cls idx) (hc8 : (st.map catA).sum ≤ 8) (k : Ev G y d (pc + 3) lv (aR (nx T) :: st) (nwT T 20 9 9) (fun b j => if b = nx T then eUsual j else I b j) Q) : Ev G y d pc lv (aE 3 :: st) T I Q := by
  have hsm : ∀ j, in32 (eUsual j) := by
    intro j
    unfold eUsual
    by_cases hj : j < 9
    · have : j = 0 ∨ j = 1 ∨ j = 2 ∨ j = 3 ∨ j = 4 ∨ j = 5 ∨ j = 6 ∨ j = 7 ∨ j = 8 := by omega
      rcases this with rfl | rfl | rfl | rfl | rfl | rfl | rfl | rfl | rfl <;> (unfold in32; decide)
    · rw [List.getD_eq_getElem?_getD, List.getElem?_eq_none (by simp; omega)]; exact in32_0
  refine Ev.wr (T2 := nwT T 20 9 9) (Nat.le_succ _) (Nat.le_add_right _ _) (fun g1 g2 => ⟨FWr g1.tl _, fun b hb => ?_⟩) (fun g1 g2 p l en R s m args below meth c C H locs cells slots ls Qf hR hS hL hc hs kk2 => ?_) k
  · have hb' : b < nx T + 1 := hb
    by_cases e : b = nx T
    · obtain ⟨e1, e2⟩ := (nw_kd (T := T) (k := 20) (n := 9) (m := 9) (b := b)).1 e
      rw [e1, e2]
      refine ⟨fun j => ?_, Or.inr ⟨by omega, by omega⟩, by omega⟩
      rw [if_neg (by omega), if_pos e]; exact hsm j
    · obtain ⟨e1, e2⟩ := (nw_kd (T := T) (k := 20) (n := 9) (m := 9) (b := b)).2 e
      rw [e1, e2]
      refine ⟨fun j => ?_, (g2 b (by omega)).2⟩
      rw [if_neg e]; exact (g2 b (by omega)).1 j
  rw [show nx (nwT T 20 9 9) - nx T = 1 by show nx T + 1 - nx T = 1; omega] at hc kk2
  rw [show sl (nwT T 20 9 9) - sl T = 9 by show sl T + 9 - sl T = 9; omega] at hs kk2
  obtain ⟨hx, hb, hml, hown, hts, hst, hfr, hlo, -⟩ := C
  obtain ⟨⟨scr, x1, x2, x3, x4, x5⟩, x6⟩ := hst.2.2.1.2.1 3 (by omega)
  obtain ⟨scr', y1, y2⟩ := hst.2.2.1.2.2.1
  cases x1.symm.trans y1
  have hz : gh G ≤ s.heap.size := hst.2.2.1.1
  have hxl : xl G 3 = 9 := rfl
  rw [hxl] at x4 x5
  have hnm : s.vm.findClass "[I" = some (gc G 20) := (tyOf (G := G) (k := 0) rfl hst).2
  obtain ⟨c0, t0', f1, f2, f3⟩ := Cond.castable_spec (va_Nw.use (A := args) rfl (hst.2.1 _ hl.2.2.2.2.2))
  cases hnm.symm.trans f1
  have hH : H[gx G 3]? = some scr := by rw [hS.2.1 _ (by omega) (by unfold gA; omega)]; exact x1
  intro U hU X
  obtain ⟨z1, kS, hkS, compS, hkindS⟩ := x2
  obtain ⟨kA, hkA, hkk⟩ := X.warmed.alike.2.2 _ _ hkS
  obtain ⟨vm', X', stp⟩ := X.cloneArray hx hown (hts _ hl.1) (hts _ hl.2.1) (hts _ hl.2.2.1) (hts _ hl.2.2.2.1) (hts _ hl.2.2.2.2.1) (a := gx G 3) (cell := scr) (by rw [hU]; exact hH) z1 x3 (by rw [y2]; exact hnm) f2 (by rw [y2]; exact f3)
    (fun i v hv => by
      have hi : i < 9 := by rw [← x4]; exact (Array.getElem?_eq_some_iff.mp hv).1
      rw [x5 i hi] at hv
      cases hv
      have hq := State.isArrayOf_alike X.warmed.alike (⟨z1, kS, hkS, compS, hkindS⟩ : s.isArrayOf scr .int)
      obtain ⟨-, kU, hkU, cU, hkindU⟩ := hq
      simp [State.fitsSlot, State.slotType?, hkU, hkindU, fits])
    (g := F0 m pc ls (.ref (gx G 3) :: st.map (cv G))) rfl (by rw [hml]; exact hL.1) rfl (by rw [hb]; exact hd) (by omega) (by show 2 * 0 + _ + 14 ≤ _; rw [cat_sum]; omega) hc (by rw [x4]; exact hs) (hloader := Vm.clonesLoader_of_array hkS hkindS)
  rw [x4] at X'
  generalize hcell : ({ cls := scr.cls, slots := scr.slots } : Cell) = cell at X' stp
  have hce : cell = arrV (gc G 20) 9 (fun j => .int (oI (eUsual j))) := by
    rw [← hcell, y2]
    unfold arrV
    congr 1
    apply Array.ext
    · simp [x4]
    · intro i h1 h2
      have h3 := x5 i (by rw [← x4]; exact h1)
      rw [Array.getElem?_eq_getElem h1] at h3
      simp only [Array.getElem_ofFn]
      exact Option.some.inj h3
  generalize hH1 : H.push cell = H1
  have zz : H1.size = H.size + 1 := by rw [← hH1, Array.size_push]
  have e1 : H1[H.size]? = some cell := by rw [← hH1, Array.getElem?_push_size]
  have o1 : ∀ q : Nat, q < H.size → H1[q]? = H[q]? := fun q hq => by rw [← hH1, Array.getElem?_push, if_neg (Nat.ne_of_lt hq)]
  have hR' : Rl G (nwT T 20 9 9) (fun b j => if b = nx T then eUsual j else I b j) H1 := by
    refine ⟨by rw [zz, hR.1]; rfl, fun b hb => ?_⟩
    have hb' : b < nx T + 1 := hb
    by_cases e : b = nx T
    · subst e
      rw [hR.1] at e1
      unfold cellAt
      rw [show kd (nwT T 20 9 9) (nx T) = 20 from if_pos rfl, if_neg (by omega), e1, hce, show ln (nwT T 20 9 9) (nx T) = 9 from if_pos rfl]
      congr 2
      funext j
      rw [elI (by rw [show kd (nwT T 20 9 9) (nx T) = 20 from if_pos rfl]; omega) (by rw [show kd (nwT T 20 9 9) (nx T) = 20 from if_pos rfl]; omega), if_pos rfl]
    · exact (hR.2 b (by omega)).kept (if_neg e) (if_neg e) (fun j => if_neg e) (fun j => if_neg e) (o1 _ (by rw [hR.1]; omega))
  obtain ⟨t, b1, b2⟩ := kk2 H1 locs hR' (hS_new hS zz o1) ((U.setVm vm').pushCell cell) (by rw [← hH1, ← hU]; rfl) X'
  refine ⟨t, stp t ?_, b2⟩
  rw [hU, hR.1]
  exact b1
theorem r_castI {idx a : Nat} (hd : decode y.2.1 pc = .ok (.checkcast idx, 3)) (hl : Cond.classLink y.1.cls idx "[I" ∈ goodW) (hk : kd T a = 20) (ha : a < nx T) (k : Ev G y d (pc + 3) lv (aR a :: st) T I Q) : Ev G y d pc lv (aR a :: st) T I Q :=
  Ev.step (fun h => h) (fun hh p l en R s m args below meth c C H locs cells slots ls Qf hR hS hL kk => by
    have hc := (hR.cell ha).arr hk (by omega)
    have hP : va_P (gD G) vwCl [(gh G + a, .inl (gc G 20, ln T a, .inl (fun j => oI (I a j))))] H := by
      intro j q hj
      have : j = 0 := by have := (List.getElem?_eq_some_iff.mp hj).1; simp at this; exact this
      subst this
      cases hj
      show H[gh G + a]? = some (vp_cell (gc G 20) (ln T a, .inl (fun j => oI (I a j))))
      rw [vp_cell_i, hc]
      congr 2
      funext j
      exact elI (by omega) (by omega) j
    exact va_castA C.1 C.2.1 C.2.2.2.1 (C.2.2.2.2.1 _ hl) hP 0 rfl (tyOf (G := G) (k := 0) rfl C.2.2.2.2.2.1).2 hd (kk _ hL)) k
/-- Object's constructor -/
theorem r_objInit {idx a : Nat} (hd : decode y.2.1 pc = .ok (.invokespecial idx, 3)) (hd1 : 1 ≤ d) (hl : Cond.methodLink y.1.cls idx Lib.objectInit ∈ goodW ∧ Cond.instanceMethod Lib.objectInit ∈ goodW ∧ Cond.code Lib.objectInit ⟨#[0xb1]⟩ 1 none ∈ goodW) (h8 : (st.map catA).sum ≤ 8) (k : Ev G y d (pc + 3) lv st T I Q) : Ev G y d pc lv (aR a :: st) T I Q :=
  Ev.step (fun h => h.tl) (fun hh p l en R s m args below meth c C H locs cells slots ls Qf hR hS hL kk => by
    obtain ⟨hx, hb, hml, hown, hts, hst, hfr, hlo, -⟩ := C
    exact W.objInit hx hb hown (hts _ hl.1) (hts _ hl.2.1) (hts _ hl.2.2) rfl (by rw [hml]; exact hL.1) rfl hd (by omega) (by show 2 * 0 + _ + 12 ≤ _; rw [cat_sum]; omega) (W.eq (g2 := F0 m (pc + 3) ls (st.map (cv G))) rfl (kk _ hL))) k
/-- Strings: their fields, their bytes -/
theorem r_sval {idx i : Nat} (hi : i < 9) (hd : decode y.2.1 pc = .ok (.getfield idx, 3)) (hl : Cond.fieldLink y.1.cls idx "java/lang/String" "value" "[B" ∈ goodW) (k : Ev G y d (pc + 3) lv (aE (13 + i) :: st) T I Q) : Ev G y d pc lv (aE (4 + i) :: st) T I Q :=
  Ev.step (fun h => FWe h.tl) (fun hh p l en R s m args below meth c C H locs cells slots ls Qf hR hS hL kk => by
    obtain ⟨-, -, g3, -⟩ := C.2.2.2.2.2.1.2.2.1.2.2.2.2.2.2.1 i hi
    obtain ⟨cf, kf, fi, f, cell, h1, h2, h3, h4, h5, h6⟩ := g3.kept hS.2.1
    exact W.getf C.1 C.2.1 C.2.2.2.1 (C.2.2.2.2.1 _ hl) h1 h2 h3 h4 h5 rfl rfl hd (kk _ hL)) k
theorem r_scod {idx i : Nat} (hi : i < 9) (hd : decode y.2.1 pc = .ok (.getfield idx, 3)) (hl : Cond.fieldLink y.1.cls idx "java/lang/String" "coder" "B" ∈ goodW) (k : Ev G y d (pc + 3) lv (aI 0 :: st) T I Q) : Ev G y d pc lv (aE (4 + i) :: st) T I Q :=
  Ev.step (fun h => h.tl.psI in32_0) (fun hh p l en R s m args below meth c C H locs cells slots ls Qf hR hS hL kk => by
    obtain ⟨-, g3, -⟩ := C.2.2.2.2.2.1.2.2.1.2.2.2.2.2.2.1 i hi
    obtain ⟨cf, kf, fi, f, cell, h1, h2, h3, h4, h5, h6⟩ := g3.kept hS.2.1
    exact W.getf C.1 C.2.1 C.2.2.2.1 (C.2.2.2.2.1 _ hl) h1 h2 h3 h4 h5 rfl rfl hd (kk _ hL)) k
theorem r_slen {i : Nat} (hi : i < 9) (hd : decode y.2.1 pc = .ok (.arraylength, 1)) (k : Ev G y d (pc + 1) lv (aI (sLen.getD i 0 : Nat) :: st) T I Q) : Ev G y d pc lv (aE (13 + i) :: st) T I Q :=
  Ev.step (fun h => h.tl.psI (by
    have : i = 0 ∨ i = 1 ∨ i = 2 ∨ i = 3 ∨ i = 4 ∨ i = 5 ∨ i = 6 ∨ i = 7 ∨ i = 8 := by omega
    rcases this with rfl | rfl | rfl | rfl | rfl | rfl | rfl | rfl | rfl <;> (unfold in32; decide))) (fun hh p l en R s m args below meth c C H locs cells slots ls Qf hR hS hL kk => by
    obtain ⟨-, -, -, g4⟩ := C.2.2.2.2.2.1.2.2.1.2.2.2.2.2.2.1 i hi
    exact va_tlen C.1 C.2.1 g4 hS (v := oI (sLen.getD i 0 : Nat)) (Int32.ofInt_eq_ofNat).symm hd (kk _ hL)) k
theorem r_sbyt {i : Nat} {j : Int} (hi : i < 9) (hd : decode y.2.1 pc = .ok (.baload, 1)) (h0 : 0 ≤ j) (h1 : j < (sLen.getD i 0 : Nat)) (k : Ev G y d (pc + 1) lv (aI ((sByt.getD i []).getD j.toNat 0).toInt :: st) T I Q) : Ev G y d pc lv (aI j :: aE (13 + i) :: st) T I Q :=
  Ev.step (fun h => h.tl.tl.psI (in32_toI _)) (fun hh p l en R s m args below meth c C H locs cells slots ls Qf hR hS hL kk => by
    obtain ⟨-, -, -, g4⟩ := C.2.2.2.2.2.1.2.2.1.2.2.2.2.2.2.1 i hi
    have hj := hh.hdI
    have := kk _ hL
    rw [List.map_cons, show cv G (aI ((sByt.getD i []).getD j.toNat 0).toInt) = .int ((sByt.getD i []).getD j.toNat 0) by show Value.int (oI _) = _; rw [o_toI]] at this
    exact va_tb C.1 C.2.1 g4 hS (vp_in_o hj h0 h1) (v := .int ((sByt.getD i []).getD j.toNat 0)) (by rw [clampI hj h0]) hd this) k
/-- a call upon one of the nine Strings -/
theorem r_callX {y2 : Mth} {d2 idx n i : Nat} (hi : i < 9) {As inS : List AV} {Q2 : Option AV → Sh → Mi → Prop} (hc : EvE G y2 d2 (aE (4 + i) :: As) T I Q2) (hd : decode y.2.1 pc = .ok (.invokevirtual idx, 3)) (hl : CV y.1.cls idx y2 n) (hrc : y2.1.cls = "java/lang/String") (hn : As.length = n) (hs : inS = As.reverse ++ aE (4 + i) :: st) (hdd : d2 < d) (hm : y2.2.2.1 ≤ 17) (h8 : (st.map catA).sum ≤ 8) (k : ∀ (v : Option AV) (T' : Sh) (I' : Mi), Q2 v T' I' → nx T ≤ nx T' → Ev G y d (pc + 3) lv (v.toList ++ st) T' I' Q) : Ev G y d pc lv inS T I Q := by
  refine Ev.call (As := aE (4 + i) :: As) (fun w hw => by
    rw [hs]
    rcases List.mem_cons.mp hw with rfl | hw
    · exact List.mem_append_right _ List.mem_cons_self
    · exact List.mem_append_left _ (List.mem_reverse.mpr hw)) (fun w hw => by rw [hs]; exact List.mem_append_right _ (List.mem_cons_of_mem _ hw)) hc (fun v T' I' p l e R s m args below meth c C hM H locs cells slots ls hR hS hls hcl hsl => ?_) k
  obtain ⟨hx, hb, hml, hown, hts, hst, hfr, hlo, -⟩ := C
  obtain ⟨hcb, hinst, hsel⟩ := hl
  obtain ⟨hd0, hini, hcode, hlink⟩ := id hcb
  obtain ⟨⟨cell, c1, c2, c3, c4⟩, -⟩ := hst.2.2.1.2.2.2.2.2.2.1 i hi
  have hPre : PreV s H y2.1.cls (gx G (4 + i)) (va_Pc ((aE (4 + i) :: As).map (cv G)) (fun U => Rl G T I U.heap ∧ StF G U)) (As.map (cv G)) := ⟨blind G T I _, ⟨cell, by rw [hS.2.1 _ (Array.getElem?_eq_some_iff.mp c1).1 c4]; exact c1, c2, by rw [hrc]; exact c3⟩, fun U hU hW => ⟨rfl, by rw [hU]; exact hR, hst.next hW hU hS⟩⟩
  have hstk : inS.map (cv G) = (As.map (cv G)).reverse ++ .ref (gx G (4 + i)) :: st.map (cv G) := by rw [hs, List.map_append, List.map_reverse]; rfl
  rcases hlink with hlink | ⟨host, hlink⟩
  · exact va_runV (As := As.map (cv G)) (rest := st.map (cv G)) ⟨hx, hb, hml, hown, hts⟩ hM ⟨callB_of n hts hcb.code rfl rfl rfl (hts _ hini) (hts _ hlink) hd0 ⟨by show d2 + 1 ≤ _; omega, by show 8 + (y2.2.2.1 + 11) + 36 * d2 ≤ _; omega⟩, hts _ hinst, hts _ hsel⟩ hPre rfl (by rw [List.length_map]; exact hn) hls hstk (lv_roomA h8) hd ⟨hcl, hsl⟩
  · exact va_runVN (As := As.map (cv G)) (rest := st.map (cv G)) ⟨hx, hb, hml, hown, hts⟩ hM ⟨va_cnB n hts hcb.code rfl rfl rfl (hst.2.1 _ hlink) (hts _ hini) hd0 ⟨by show d2 + 1 ≤ _; omega, by show 8 + (y2.2.2.1 + 11) + 36 * d2 ≤ _; omega⟩, hts _ hinst, hts _ hsel⟩ hPre rfl (by rw [List.length_map]; exact hn) hls hstk (lv_roomA h8) hd ⟨hcl, hsl⟩
/-- Math.min -/
def ML (own : String) (idx : Nat) : Prop := Cond.methodLink own idx Lib.Math.min.name ∈ goodW ∧ Cond.static Lib.Math.min.name ∈ goodW ∧ Cond.initialized "java/lang/Math" ∈ goodW ∧ Cond.code Lib.Math.min.name Lib.Math.min.code 2 (some .int) ∈ goodW
theorem r_min {idx : Nat} {a b : Int} (hd : decode y.2.1 pc = .ok (.invokestatic idx, 3)) (hd1 : 1 ≤ d) (hl : ML y.1.cls idx) (h8 : (st.map catA).sum ≤ 8) (k : Ev G y d (pc + 3) lv (aI (if b < a then b else a) :: st) T I Q) : Ev G y d pc lv (aI b :: aI a :: st) T I Q :=
  Ev.wr (T2 := T) (I2 := I) (Nat.le_refl _) (Nat.le_refl _) (fun h h2 => ⟨h.tl.tl.psI (by split; exact h.hdI; exact h.tl.hdI), h2⟩) (fun hh g2 p l en R s m args below meth c C H locs cells slots ls Qf hR hS hL hc hs kk => by
    rw [Nat.sub_self, Nat.add_zero] at hc hs
    rw [Nat.sub_self, Nat.sub_self, Nat.add_zero, Nat.add_zero] at kk
    obtain ⟨hx, hb, hml, hown, hts, hst, hfr, hlo, -⟩ := C
    refine va_mmin hx hb (by rw [hml]; exact hL.1.symm) hown (hts _ hl.1) (hts _ hl.2.1) (hts _ hl.2.2.1) (hts _ hl.2.2.2) (by omega) (by rw [cat_sum]; omega) hc hs hd ?_
    have := kk H locs hR hS
    have e : cv G (aI (if b < a then b else a)) = .int (if oI b < oI a then oI b else oI a) := by
      show Value.int (oI _) = _
      congr 1
      by_cases h : b < a
      · rw [if_pos h, if_pos ((o_lt hh.hdI hh.tl.hdI).mpr h)]
      · rw [if_neg h, if_neg (fun z => h ((o_lt hh.hdI hh.tl.hdI).mp z))]
    rw [List.map_cons, e] at this
    exact this) k
end MoreRows
theorem plain_ok : (["KeyDesk", RX0, RX1, RX2, RX3, RX4, RX5, RX6, RX7, RX8, RX9, RX10, RX12, "java/lang/String", "java/lang/StringLatin1", "jdk/internal/util/Preconditions", "java/util/Arrays", "java/lang/Long"].all plainName) = true := by decide +kernel

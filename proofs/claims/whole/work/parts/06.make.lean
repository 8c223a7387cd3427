/-! making cells; copying rows; constants; statics -/
def nwT (T : Sh) (k n m : Nat) : Sh := (fun b => if b = nx T then k else kd T b, fun b => if b = nx T then n else ln T b, fun b j => if b = nx T then none else rf T b j, nx T + 1, sl T + m)
def clr (I : Mi) (a : Nat) : Mi := fun b j => if b = a then 0 else I b j
theorem nw_kd {T : Sh} {k n m b : Nat} : (b = nx T → kd (nwT T k n m) b = k ∧ ln (nwT T k n m) b = n) ∧ (b ≠ nx T → kd (nwT T k n m) b = kd T b ∧ ln (nwT T k n m) b = ln T b) := ⟨fun e => ⟨if_pos e, if_pos e⟩, fun e => ⟨if_neg e, if_neg e⟩⟩
theorem clr_at {I : Mi} {a b : Nat} : (b = a → ∀ j, clr I a b j = 0) ∧ (b ≠ a → ∀ j, clr I a b j = I b j) := ⟨fun e j => if_pos e, fun e j => if_neg e⟩
theorem WFI.nw {T : Sh} {I : Mi} (h : WFI T I) {k n m : Nat} (hk : k < 13 ∨ (20 ≤ k ∧ k < 25)) (hn : n < 2147483648) : WFI (nwT T k n m) (clr I (nx T)) := by
  intro b hb
  have hb' : b < nx T + 1 := hb
  by_cases e : b = nx T
  · obtain ⟨e1, e2⟩ := (nw_kd (T := T) (k := k) (n := n) (m := m) (b := b)).1 e
    rw [e1, e2]
    refine ⟨fun j => ?_, hk, hn⟩
    rw [clr_at.1 e j]
    split
    · exact in64_0
    · exact in32_0
  · obtain ⟨e1, e2⟩ := (nw_kd (T := T) (k := k) (n := n) (m := m) (b := b)).2 e
    rw [e1, e2]
    refine ⟨fun j => ?_, (h b (by omega)).2⟩
    rw [clr_at.2 e j]
    exact (h b (by omega)).1 j
theorem Rl.nw {G : Gl} {T : Sh} {I : Mi} {H H' : Heap} (h : Rl G T I H) {k n m : Nat} (hsz : H'.size = H.size + 1) (ok : ∀ q, q < H.size → H'[q]? = H[q]?) (hc : cellAt G (nwT T k n m) (clr I (nx T)) (nx T) H') : Rl G (nwT T k n m) (clr I (nx T)) H' := by
  refine ⟨by rw [hsz, h.1]; rfl, fun b hb => ?_⟩
  by_cases e : b = nx T
  · subst e; exact hc
  · have hb' : b < nx T := by have : b < nx T + 1 := hb; omega
    refine (h.2 b hb').kept (if_neg e) (if_neg e) (fun j => if_neg e) (fun j => if_neg e) (ok _ (by rw [h.1]; omega))
theorem nw_arr {G : Gl} {T : Sh} {I : Mi} {H' : Heap} {k n m : Nat} (hk : 13 ≤ k) {v : Value} (hv : v = if k = 23 then .long 0 else if k = 24 then .null else .int 0) (e : H'[gh G + nx T]? = some (arrV (gc G k) n (fun _ => v))) : cellAt G (nwT T k n m) (clr I (nx T)) (nx T) H' := by
  unfold cellAt
  rw [show kd (nwT T k n m) (nx T) = k from if_pos rfl, if_neg (by omega), e, show ln (nwT T k n m) (nx T) = n from if_pos rfl]
  congr 2
  funext j
  unfold elV
  rw [show kd (nwT T k n m) (nx T) = k from if_pos rfl, show rf (nwT T k n m) (nx T) j = none from if_pos rfl, show clr I (nx T) (nx T) j = 0 from if_pos rfl, hv]
  rfl
/-- 'new' of a class -/
def NL (own : String) (idx ci : Nat) : Prop := ci < 13 ∧ ∃ q : vw_C, vwCl[ci]? = some q ∧ Cond.classLink own idx q.1 ∈ goodW ∧ Cond.instantiable q.1 q.2.2 ∈ goodW ∧ Cond.initialized q.1 ∈ goodW
section MakeRows
variable {G : Gl} {y : Mth} {d pc : Nat} {lv lv' : List (Option AV)} {st : List AV} {T : Sh} {I : Mi} {Q : Option AV → Sh → Mi → Prop}
theorem hS_new {A : Nat → Prop} {H0 H H' : Heap} {locs : List Loc} (hS : va_S A H0 H locs) (hsz : H'.size = H.size + 1) (ok : ∀ q, q < H.size → H'[q]? = H[q]?) : va_S A H0 H' locs := ⟨Nat.le_trans hS.1 (by omega), fun x h1 h2 => (ok x (Nat.lt_of_lt_of_le h1 hS.1)).trans (hS.2.1 x h1 h2), hS.2.2⟩
theorem r_new (cks : ∀ ci, ci < 13 → CK ci) {idx ci : Nat} (hd : decode y.2.1 pc = .ok (.new idx, 3)) (hl : NL y.1.cls idx ci) (k : Ev G y d (pc + 3) lv (aR (nx T) :: st) (nwT T ci 0 (nF ci)) (clr I (nx T)) Q) : Ev G y d pc lv st T I Q := by
  obtain ⟨hci, q, hq, hcl, hins, hini⟩ := hl
  obtain ⟨q', hq', hin, ⟨ty0, hty0, htyr⟩, hnm⟩ := cks ci hci
  cases hq.symm.trans hq'
  have hnF : nF ci = q.2.2 := by unfold nF; rw [hq]; rfl
  refine Ev.wr (T2 := nwT T ci 0 (nF ci)) (I2 := clr I (nx T)) (Nat.le_succ _) (Nat.le_add_right _ _) (fun h1 h2 => ⟨FWr h1 _, h2.nw (Or.inl hci) (by omega)⟩) (fun h1 h2 p l e R s m args below meth c C H locs cells slots ls Qf hR hS hL hc hs kk2 => ?_) k
  rw [show nx (nwT T ci 0 (nF ci)) - nx T = 1 by show nx T + 1 - nx T = 1; omega] at hc kk2
  rw [show sl (nwT T ci 0 (nF ci)) - sl T = nF ci by show sl T + nF ci - sl T = nF ci; omega] at hs kk2
  obtain ⟨hx, hb, hml, hown, hts, hst, -⟩ := C
  have hKn := hst.1.1 ci _ hq
  refine W.newcK hx hb hown (hts _ hcl) (hts _ hins) (hts _ hini) rfl hd hc (by rw [← hnF]; exact hs) hKn.2.1 hR.1 (fun H1 kC hkC e1 z1 o1 => ?_)
  rw [← hnF]
  have hz : H1.size = H.size + 1 := by rw [z1, hR.1]
  have ho : ∀ q, q < H.size → H1[q]? = H[q]? := fun q hq => o1 q (by rw [← hR.1]; exact hq)
  refine kk2 H1 locs (hR.nw hz ho ?_) (hS_new hS hz ho)
  unfold cellAt
  rw [show kd (nwT T ci 0 (nF ci)) (nx T) = ci from if_pos rfl, if_pos hci, hnF]
  refine (u_born ty0 hts hin hKn hkC e1 hty0).to (fun j hj => ?_)
  have ht := htyr j hj
  unfold fldV
  rw [show rf (nwT T ci 0 q.2.2) (nx T) j = none from if_pos rfl, show clr I (nx T) (nx T) j = 0 from if_pos rfl]
  by_cases hr : rfF ci j = true
  · rw [if_pos hr] at ht ⊢
    rcases ht with ⟨n, e⟩ | ⟨n, e⟩ <;> rw [e] <;> rfl
  · rw [if_neg hr] at ht ⊢
    rw [ht]; rfl
theorem newarr_core (k0 : Nat) {at0 : ArrayType} (ht : (tysG G)[k0]? = some (gc G (20 + k0), newarray.typeOf at0)) (hra : ∀ s : State, va_RA s (gc G (20 + k0)) (newarray.typeOf at0) → s.vm.findClass ("[" ++ (newarray.typeOf at0).toString) = some (gc G (20 + k0))) (hcb : componentBytes (newarray.typeOf at0) ≤ 8) (hdv : defaultValue (newarray.typeOf at0) = if 20 + k0 = 23 then .long 0 else if 20 + k0 = 24 then .null else .int 0) (hk : 20 + k0 < 25)
    {n : Int} (hd : decode y.2.1 pc = .ok (.newarray at0, 2)) (hw : Cond.arrayClass (newarray.typeOf at0) ∈ goodW) (h0 : 0 ≤ n) (h1 : n ≤ 1000000) (k : Ev G y d (pc + 2) lv (aR (nx T) :: st) (nwT T (20 + k0) n.toNat n.toNat) (clr I (nx T)) Q) : Ev G y d pc lv (aI n :: st) T I Q := by
  refine Ev.wr (T2 := nwT T (20 + k0) n.toNat n.toNat) (I2 := clr I (nx T)) (Nat.le_succ _) (Nat.le_add_right _ _) (fun g1 g2 => ⟨FWr g1.tl _, g2.nw (Or.inr ⟨by omega, hk⟩) (by omega)⟩) (fun g1 g2 p l e R s m args below meth c C H locs cells slots ls Qf hR hS hL hc hs kk2 => ?_) k
  rw [show nx (nwT T (20 + k0) n.toNat n.toNat) - nx T = 1 by show nx T + 1 - nx T = 1; omega] at hc kk2
  rw [show sl (nwT T (20 + k0) n.toNat n.toNat) - sl T = n.toNat by show sl T + n.toNat - sl T = n.toNat; omega] at hs kk2
  obtain ⟨hx, hb, hml, hown, hts, hst, -⟩ := C
  have hin := g1.hdI
  have hb8 : n.toNat * componentBytes (newarray.typeOf at0) ≤ 536870912 := Nat.le_trans (Nat.mul_le_mul (show n.toNat ≤ 1000000 by omega) hcb) (by omega)
  refine va_newaK hx hb (atype := at0) (hts _ hw) rfl hd rfl (o_not_neg hin h0) (clampI hin h0) hb8 hc hs hR.1 (fun H1 cA e1 z1 o1 hAr hNm => ?_)
  have hcA : cA = gc G (20 + k0) := Option.some.inj (hNm.symm.trans (hra s (tyOf ht hst).2))
  subst hcA
  have hz : H1.size = H.size + 1 := by rw [z1, hR.1]
  have ho : ∀ q, q < H.size → H1[q]? = H[q]? := fun q hq => o1 q (by rw [← hR.1]; exact hq)
  exact kk2 H1 locs (hR.nw hz ho (nw_arr (by omega) hdv e1)) (hS_new hS hz ho)
theorem r_newint {n : Int} (hd : decode y.2.1 pc = .ok (.newarray .int, 2)) (hw : Cond.arrayClass .int ∈ goodW) (h0 : 0 ≤ n) (h1 : n ≤ 1000000) (k : Ev G y d (pc + 2) lv (aR (nx T) :: st) (nwT T 20 n.toNat n.toNat) (clr I (nx T)) Q) : Ev G y d pc lv (aI n :: st) T I Q :=
  newarr_core 0 (at0 := .int) rfl (fun _ h => h) (by decide) rfl (by omega) hd hw h0 h1 k
theorem r_newbyte {n : Int} (hd : decode y.2.1 pc = .ok (.newarray .byte, 2)) (hw : Cond.arrayClass .byte ∈ goodW) (h0 : 0 ≤ n) (h1 : n ≤ 1000000) (k : Ev G y d (pc + 2) lv (aR (nx T) :: st) (nwT T 21 n.toNat n.toNat) (clr I (nx T)) Q) : Ev G y d pc lv (aI n :: st) T I Q :=
  newarr_core 1 (at0 := .byte) rfl (fun _ h => h) (by decide) rfl (by omega) hd hw h0 h1 k
theorem r_newbool {n : Int} (hd : decode y.2.1 pc = .ok (.newarray .boolean, 2)) (hw : Cond.arrayClass .boolean ∈ goodW) (h0 : 0 ≤ n) (h1 : n ≤ 1000000) (k : Ev G y d (pc + 2) lv (aR (nx T) :: st) (nwT T 22 n.toNat n.toNat) (clr I (nx T)) Q) : Ev G y d pc lv (aI n :: st) T I Q :=
  newarr_core 2 (at0 := .boolean) rfl (fun _ h => h) (by decide) rfl (by omega) hd hw h0 h1 k
theorem r_newlong {n : Int} (hd : decode y.2.1 pc = .ok (.newarray .long, 2)) (hw : Cond.arrayClass .long ∈ goodW) (h0 : 0 ≤ n) (h1 : n ≤ 1000000) (k : Ev G y d (pc + 2) lv (aR (nx T) :: st) (nwT T 23 n.toNat n.toNat) (clr I (nx T)) Q) : Ev G y d pc lv (aI n :: st) T I Q :=
  newarr_core 3 (at0 := .long) rfl (fun _ h => h) (by decide) rfl (by omega) hd hw h0 h1 k
theorem r_anew {n : Int} {idx : Nat} (hd : decode y.2.1 pc = .ok (.anewarray idx, 3)) (hcl : Cond.classLink y.1.cls idx RX9 ∈ goodW) (h0 : 0 ≤ n) (h1 : n ≤ 1000000) (k : Ev G y d (pc + 3) lv (aR (nx T) :: st) (nwT T 24 n.toNat n.toNat) (clr I (nx T)) Q) : Ev G y d pc lv (aI n :: st) T I Q := by
  refine Ev.wr (T2 := nwT T 24 n.toNat n.toNat) (I2 := clr I (nx T)) (Nat.le_succ _) (Nat.le_add_right _ _) (fun g1 g2 => ⟨FWr g1.tl _, g2.nw (Or.inr ⟨by omega, by omega⟩) (by omega)⟩) (fun g1 g2 p l e R s m args below meth c C H locs cells slots ls Qf hR hS hL hc hs kk2 => ?_) k
  rw [show nx (nwT T 24 n.toNat n.toNat) - nx T = 1 by show nx T + 1 - nx T = 1; omega] at hc kk2
  rw [show sl (nwT T 24 n.toNat n.toNat) - sl T = n.toNat by show sl T + n.toNat - sl T = n.toNat; omega] at hs kk2
  obtain ⟨hx, hb, hml, hown, hts, hst, -⟩ := C
  have hin := g1.hdI
  have hcn := clampI hin h0
  refine W.anew hx hb hown (hts _ hcl) (va_AO.use (show va_AO RX9 s from hst.2.2.2.2)) rfl hd rfl (o_not_neg hin h0) (by rw [hcn]; omega) hc (by rw [hcn]; exact hs) (fun cA kA comp f1 f2 f3 f4 => ?_)
  obtain ⟨kA', comp', g3, g4, g5, g6⟩ := (tyOf (G := G) (k := 4) rfl hst).2
  have hcA : cA = gc G 24 := Option.some.inj (f1.symm.trans g6)
  subst hcA
  rw [hcn]
  generalize hH1 : H.push ({ cls := gc G 24, slots := Array.replicate n.toNat .null, vm := .none } : Cell) = H1
  have z1 : H1.size = H.size + 1 := by rw [← hH1, Array.size_push]
  have e1 : H1[H.size]? = some (arrV (gc G 24) n.toNat (fun _ => .null)) := by rw [← hH1, Array.getElem?_push_size, ← arrV_new]
  have o1 : ∀ q : Nat, q < H.size → H1[q]? = H[q]? := fun q hq => by rw [← hH1, Array.getElem?_push, if_neg (Nat.ne_of_lt hq)]
  rw [hR.1] at e1 ⊢
  exact kk2 H1 locs (hR.nw z1 o1 (nw_arr (by omega) rfl e1)) (hS_new hS z1 o1)
/-- System.arraycopy into an own row of ints or longs -/
def cpy (I : Mi) (a : Nat) (src : Nat → Int) (sp dp n : Nat) : Mi := fun b j => if b = a ∧ dp ≤ j ∧ j < dp + n then src (sp + (j - dp)) else I b j
/-- the words of a call of System.arraycopy -/
def AC (own : String) (idx : Nat) : Prop := Cond.methodLink own idx arraycopyName ∈ goodW ∧ Cond.native arraycopyName ∈ goodW ∧ Cond.static arraycopyName ∈ goodW ∧ Cond.initialized "java/lang/System" ∈ goodW
theorem copy_core {p : Program} {l : Launch} {e : Env} {R : Room} {s : State} {m : MethodId} {args : Array Value} {below : List Frame} {meth : Method} {c : Code} (C : Ctx G y d p R s m args meth c) (hd1 : 1 ≤ d) {H : Heap} {locs : List Loc} {cells slots : Nat} {ls : Array Slot} {Qf : State → Prop} {rest : List Value} {idx a : Nat} {sp dp n : Int} (hd : decode y.2.1 pc = .ok (.invokestatic idx, 3)) (hl : AC y.1.cls idx) (hlen : (rest.map fun v => v.category).sum ≤ 8) (hls : ls.size = y.2.2.1) (hR : Rl G T I H) (hS : va_S (gA G) s.heap H locs) (hwf : WFI T I)
    (ha : a < nx T) {ty : FieldType} {mk : Int → Value} (hk : (kd T a = 20 ∧ ty = .int ∧ mk = fun x => .int (oI x)) ∨ (kd T a = 23 ∧ ty = .long ∧ mk = fun x => .long (oL x))) {b0 n0 : Nat} {scr : Cell} {src : Nat → Int} (hs0 : H[b0]? = some scr) (hs1 : s.isArrayOf scr ty) (hs2 : scr.vm ≠ .unknown) (hs3 : n0 ≤ scr.slots.size) (hs4 : ∀ j, j < n0 → scr.slots[j]? = some (mk (src j)))
    (h1 : 0 ≤ sp) (h2 : 0 ≤ dp) (h3 : 0 ≤ n) (i1 : in32 sp) (i2 : in32 dp) (i3 : in32 n) (h4 : sp + n ≤ n0) (h5 : dp + n ≤ (ln T a : Int))
    (kk : ∀ (H' : Heap) (locs' : List Loc), Rl G T (cpy I a src sp.toNat dp.toNat n.toNat) H' → va_S (gA G) s.heap H' locs' → W p l e R s m args below meth c H' locs' cells slots Qf (F0 m (pc + 3) ls rest)) : W p l e R s m args below meth c H locs cells slots Qf (F0 m pc ls (.int (oI n) :: .int (oI dp) :: .ref (gh G + a) :: .int (oI sp) :: .ref b0 :: rest)) := by
  obtain ⟨hx, hb, hml, hown, hts, hst, hfr, hlo, -⟩ := C
  obtain ⟨l1, l2, l3, l4⟩ := hl
  intro U hU X
  have hel : ∀ j, elV G T I a j = mk (I a j) := by
    intro j
    rcases hk with ⟨g1, -, g3⟩ | ⟨g1, -, g3⟩
    · rw [elI (by omega) (by omega), g3]
    · rw [elL g1, g3]
  have hka : 13 ≤ kd T a := by omega
  have hc1 := (hR.cell ha).arr rfl hka
  have hela : elV G T I a = fun j => mk (I a j) := funext hel
  rw [hela] at hc1
  have hty : ArrOfT s (gc G (kd T a)) ty := by
    rcases hk with ⟨g1, g2, -⟩ | ⟨g1, g2, -⟩
    · rw [g1, g2]; exact (tyOf (k := 0) rfl hst).1
    · rw [g1, g2]; exact (tyOf (k := 3) rfl hst).1
  have hprim : refKind ty = false := by rcases hk with ⟨-, g2, -⟩ | ⟨-, g2, -⟩ <;> rw [g2] <;> rfl
  have hfit : ∀ x, fits ty (mk x) = true := by intro x; rcases hk with ⟨-, g2, g3⟩ | ⟨-, g2, g3⟩ <;> rw [g2, g3] <;> rfl
  have htk : ∀ (V : State) (cm : ClassId) (x : Int), V.takes cm (mk x) := by intro V cm x; rcases hk with ⟨-, g2, g3⟩ | ⟨-, g2, g3⟩ <;> rw [g3] <;> exact trivial
  obtain ⟨k1, k0, hk0, cm0, hkk0⟩ := hs1
  obtain ⟨-, k1', hk1, cm1, hkk1⟩ := hty (ln T a) (fun j => mk (I a j))
  have c1 := clampI i1 h1
  have c2 := clampI i2 h2
  have c3 := clampI i3 h3
  obtain ⟨vm', X', step⟩ := X.arraycopy hx hown (hts _ l1) (hts _ l2) (hts _ l3) (hts _ l4) (src := b0) (dst := gh G + a) (cs := scr) (cd := arrV (gc G (kd T a)) (ln T a) (fun j => mk (I a j))) (srcPos := oI sp) (destPos := oI dp) (n := oI n) (by rw [hU]; exact hs0) (by rw [hU]; exact hc1)
    k1 (fun _ h => by cases h) hs2 (fun h => by cases h) hk0 hk1 hkk0 hkk1 (by simp [hprim]) (o_not_neg i1 h1) (o_not_neg i2 h2) (o_not_neg i3 h3)
    (by rw [toI_in i1, toI_in i3]; omega)
    (by rw [toI_in i2, toI_in i3, arrV_size]; omega)
    (fun vm₁ _ i hi => by
      rw [c3] at hi
      have e : scr.slots.getD ((oI sp).toNatClampNeg + i) .null = mk (src (sp.toNat + i)) := by
        rw [c1, Array.getD_eq_getD_getElem?, hs4 _ (by omega)]
        rfl
      rw [e]
      exact ⟨hfit _, htk _ _ _⟩)
    (g := F0 m pc ls (.int (oI n) :: .int (oI dp) :: .ref (gh G + a) :: .int (oI sp) :: .ref b0 :: rest)) rfl (by rw [hml]; exact hls) (rest := rest) rfl (by rw [hb]; exact hd) (by omega) (by show 2 * 0 + _ + (nativeFrameWords "java/lang/System" "arraycopy" 5 + 11) ≤ _; rw [show nativeFrameWords "java/lang/System" "arraycopy" 5 = 7 from by decide]; omega)
  have e1 : copied scr (arrV (gc G (kd T a)) (ln T a) (fun j => mk (I a j))) (oI sp) (oI dp) (oI n) = arrV (gc G (kd T a)) (ln T a) (fun j => mk (va_cpy src (I a) (oI sp).toNatClampNeg (oI dp).toNatClampNeg (oI n).toNatClampNeg j)) := va_copiedX mk scr _ src (I a) hs4 (by rw [c1, c3]; omega)
  rw [e1, c1, c2, c3] at X' step
  generalize hcell : arrV (gc G (kd T a)) (ln T a) (fun j => mk (va_cpy src (I a) sp.toNat dp.toNat n.toNat j)) = cell at X' step
  have hlt : gh G + a < H.size := by rw [hR.1]; omega
  have hheap : ((U.setVm vm').setCell (gh G + a) cell).heap = H.setIfInBounds (gh G + a) cell := by rw [← hU]; rfl
  have oq : ∀ q : Nat, q ≠ gh G + a → (H.setIfInBounds (gh G + a) cell)[q]? = H[q]? := fun q hq => by simp [Array.getElem?_setIfInBounds, Ne.symm hq]
  have es : (H.setIfInBounds (gh G + a) cell)[gh G + a]? = some cell := by simp [Array.getElem?_setIfInBounds, hlt]
  have hR' : Rl G T (cpy I a src sp.toNat dp.toNat n.toNat) (H.setIfInBounds (gh G + a) cell) := by
    refine hR.put (a := a) rfl (by simp) oq (fun b hb => ⟨rfl, rfl, fun _ => rfl, fun j => ?_⟩) (fun _ => ?_)
    · unfold cpy; rw [if_neg (fun z => hb z.1)]
    · unfold cellAt
      rw [if_neg (by omega), es, ← hcell]
      congr 2
      funext j
      have hel2 : elV G T (cpy I a src sp.toNat dp.toNat n.toNat) a j = mk (cpy I a src sp.toNat dp.toNat n.toNat a j) := by
        rcases hk with ⟨g1, -, g3⟩ | ⟨g1, -, g3⟩
        · rw [elI (by omega) (by omega), g3]
        · rw [elL g1, g3]
      rw [hel2]
      unfold cpy va_cpy
      by_cases hz : dp.toNat ≤ j ∧ j < dp.toNat + n.toNat
      · rw [if_pos hz, if_pos ⟨rfl, hz⟩]
      · rw [if_neg hz, if_neg (fun q => hz q.2)]
  obtain ⟨t, a1, b1⟩ := kk _ _ hR' ⟨by simp; exact hS.1, fun q g1 g2 => by
      rw [oq q (fun e => g2 (by rw [e]; exact Nat.le_add_right _ _))]
      exact hS.2.1 q g1 g2, fun q hq => by
      rcases List.mem_append.mp hq with h | h
      · exact hS.2.2 q h
      · obtain ⟨z, -, hz⟩ := List.mem_map.mp h
        rw [← hz]
        exact Nat.le_add_right _ _⟩ _ hheap X'
  exact ⟨t, step t a1, b1⟩
theorem cat_sum (G : Gl) (st : List AV) : ((st.map (cv G)).map fun v => v.category).sum = (st.map catA).sum := by
  induction st with
  | nil => rfl
  | cons v r ih => simp only [List.map_cons, List.sum_cons, cv_cat, ih]
theorem WFI.cpyI {a sp dp n : Nat} {src : Nat → Int} (h : WFI T I) (hs : ∀ j, j < sp + n → if kd T a = 23 then in64 (src j) else in32 (src j)) : WFI T (cpy I a src sp dp n) := fun b hb => ⟨fun j => by
  unfold cpy
  by_cases c : b = a ∧ dp ≤ j ∧ j < dp + n
  · rw [if_pos c, c.1]; exact hs _ (by omega)
  · rw [if_neg c]; exact (h b hb).1 j, (h b hb).2⟩
/-- between own rows of one kind -/
theorem r_copy {idx a a0 : Nat} {sp dp n : Int} (hd : decode y.2.1 pc = .ok (.invokestatic idx, 3)) (hd1 : 1 ≤ d) (hl : AC y.1.cls idx) (hc8 : (st.map catA).sum ≤ 8) (hk : kd T a = 20 ∨ kd T a = 23) (hk0 : kd T a0 = kd T a) (ha : a < nx T) (ha0 : a0 < nx T) (h1 : 0 ≤ sp) (h2 : 0 ≤ dp) (h3 : 0 ≤ n) (h4 : sp + n ≤ (ln T a0 : Int)) (h5 : dp + n ≤ (ln T a : Int)) (k : Ev G y d (pc + 3) lv st T (cpy I a (I a0) sp.toNat dp.toNat n.toNat) Q) : Ev G y d pc lv (aI n :: aI dp :: aR a :: aI sp :: aR a0 :: st) T I Q := by
  refine Ev.wr (Nat.le_refl _) (Nat.le_refl _) (fun g1 g2 => ⟨g1.tl.tl.tl.tl.tl, WFI.cpyI g2 (fun j _ => by rw [← hk0]; exact (g2 a0 ha0).1 j)⟩) (fun g1 g2 p l e R s m args below meth c C H locs cells slots ls Qf hR hS hL hc hs kk2 => ?_) k
  rw [Nat.sub_self, Nat.sub_self, Nat.add_zero, Nat.add_zero] at kk2
  have hst := C.2.2.2.2.2.1
  have hcell := (hR.cell ha0).arr hk0 (by omega)
  rcases hk with hk | hk
  · rw [hk] at hcell hk0
    refine copy_core (ty := .int) (mk := fun x => .int (oI x)) C hd1 hd hl (by rw [cat_sum]; exact hc8) hL.1 hR hS g2 ha (Or.inl ⟨hk, rfl, rfl⟩) (n0 := ln T a0) (src := I a0) hcell ((tyOf (k := 0) rfl hst).1 _ _) (fun q => by cases q) (by rw [arrV_size]; exact Nat.le_refl _) (fun j hj => by rw [arrV_read _ _ hj, elI (by omega) (by omega)]) h1 h2 h3 g1.tl.tl.tl.hdI g1.tl.hdI g1.hdI h4 h5 kk2
  · rw [hk] at hcell hk0
    refine copy_core (ty := .long) (mk := fun x => .long (oL x)) C hd1 hd hl (by rw [cat_sum]; exact hc8) hL.1 hR hS g2 ha (Or.inr ⟨hk, rfl, rfl⟩) (n0 := ln T a0) (src := I a0) hcell ((tyOf (k := 3) rfl hst).1 _ _) (fun q => by cases q) (by rw [arrV_size]; exact Nat.le_refl _) (fun j hj => by rw [arrV_read _ _ hj, elL hk0]) h1 h2 h3 g1.tl.tl.tl.hdI g1.tl.hdI g1.hdI h4 h5 kk2
end MakeRows

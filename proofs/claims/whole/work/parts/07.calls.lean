/-! calls and returns -/
def entA : List AV → List (Option AV)
  | [] => []
  | .inr (.inl x) :: r => some (aL x) :: none :: entA r
  | v :: r => some v :: entA r
def ent (As : List AV) (n : Nat) : List (Option AV) := entA As ++ List.replicate (n - (entA As).length) none
theorem entA_at (G : Gl) : ∀ (As : List AV) (k i : Nat) (v : AV), (entA As)[i]? = some (some v) → (k + i, cv G v) ∈ lv_args k (As.map (cv G))
  | [], k, i, v, h => by simp [entA] at h
  | .inr (.inl x) :: r, k, i, v, h => by
    rw [List.map_cons, lv_args, if_pos (show (cv G (aL x)).category = 2 from rfl)]
    match i, h with
    | 0, h => simp [entA] at h; subst h; exact List.mem_cons_self
    | 1, h => simp [entA] at h
    | i + 2, h =>
      have h' : (entA r)[i]? = some (some v) := by simpa [entA] using h
      have := entA_at G r (k + 2) i v h'
      rw [show k + (i + 2) = k + 2 + i by omega]
      exact List.mem_cons_of_mem _ this
  | .inl x :: r, k, i, v, h => by
    rw [List.map_cons, lv_args, if_neg (show ¬ (cv G (aI x)).category = 2 by rw [cv_cat]; simp [catA])]
    match i, h with
    | 0, h => simp [entA] at h; subst h; exact List.mem_cons_self
    | i + 1, h =>
      have h' : (entA r)[i]? = some (some v) := by simpa [entA] using h
      have := entA_at G r (k + 1) i v h'
      rw [show k + (i + 1) = k + 1 + i by omega]
      exact List.mem_cons_of_mem _ this
  | .inr (.inr x) :: r, k, i, v, h => by
    rw [List.map_cons, lv_args, if_neg (show ¬ (cv G (.inr (.inr x))).category = 2 by rw [cv_cat]; simp [catA])]
    match i, h with
    | 0, h => simp [entA] at h; subst h; exact List.mem_cons_self
    | i + 1, h =>
      have h' : (entA r)[i]? = some (some v) := by simpa [entA] using h
      have := entA_at G r (k + 1) i v h'
      rw [show k + (i + 1) = k + 1 + i by omega]
      exact List.mem_cons_of_mem _ this
theorem entA_len (G : Gl) : ∀ (As : List AV), (entA As).length = (lg_sl (As.map (cv G))).length
  | [] => rfl
  | .inr (.inl x) :: r => by
    have e : lg_sl (List.map (cv G) (.inr (.inl x) :: r)) = .val (cv G (aL x)) :: .second :: lg_sl (r.map (cv G)) := by
      have hc : (cv G (aL x)).category = 2 := rfl
      simp [lg_sl, hc]
    rw [e]
    simp [entA, entA_len G r]
  | .inl x :: r => by
    have e : lg_sl (List.map (cv G) (.inl x :: r)) = .val (cv G (aI x)) :: lg_sl (r.map (cv G)) := by
      have hc : (cv G (aI x)).category = 1 := rfl
      simp [lg_sl, hc]
    rw [e]
    simp [entA, entA_len G r]
  | .inr (.inr x) :: r => by
    have hc : (cv G (.inr (.inr x))).category = 1 := by rw [cv_cat]; rfl
    have e : lg_sl (List.map (cv G) (.inr (.inr x) :: r)) = .val (cv G (.inr (.inr x))) :: lg_sl (r.map (cv G)) := by simp [lg_sl, hc]
    rw [e]
    simp [entA, entA_len G r]
theorem LvH.entry (G : Gl) (As : List AV) {n : Nat} (h : (entA As).length ≤ n) : LvH G ((lg_sl (As.map (cv G)) ++ List.replicate (n - (lg_sl (As.map (cv G))).length) Slot.unset).toArray) n (ent As n) := by
  have h1 := lv_entry (As.map (cv G)) (n := n) (by rw [← entA_len]; exact h)
  refine ⟨h1.1, h1.2.1, fun i v hi => ?_⟩
  unfold ent at hi
  by_cases hl : i < (entA As).length
  · rw [List.getElem?_append_left hl] at hi
    have := entA_at G As 0 i v hi
    rw [Nat.zero_add] at this
    exact h1.2.2 _ this
  · rw [List.getElem?_append_right (by omega)] at hi
    have := List.mem_of_getElem? hi
    have := List.eq_of_mem_replicate this
    cases this
theorem ent_mem {As : List AV} {n : Nat} {v : AV} (h : some v ∈ ent As n) : v ∈ As := by
  have key : ∀ (l : List AV), some v ∈ entA l → v ∈ l := by
    intro l
    induction l with
    | nil => intro h; simp [entA] at h
    | cons a r ih =>
      intro h
      rcases a with x | x | x
      · simp [entA] at h; rcases h with rfl | h
        · exact List.mem_cons_self
        · exact List.mem_cons_of_mem _ (ih h)
      · simp [entA] at h; rcases h with rfl | h
        · exact List.mem_cons_self
        · exact List.mem_cons_of_mem _ (ih h)
      · simp [entA] at h; rcases h with rfl | h
        · exact List.mem_cons_self
        · exact List.mem_cons_of_mem _ (ih h)
  unfold ent at h
  rcases List.mem_append.mp h with h | h
  · exact key As h
  · have := List.eq_of_mem_replicate h
    cases this
def wsM (y : Mth) : List Cond := .code y.1 y.2.1 y.2.2.1 y.2.2.2 :: goodW
theorem goodW_good : GoodIn goodW goodW := fun w hw => ⟨hw, good_of_word (List.mem_filter.mp hw).2⟩
theorem ExtF.kept {G : Gl} {U : State} {H H1 : Heap} (h : ExtF G U H) (hs : H.size ≤ H1.size) (hq : ∀ a : Nat, a < H.size → ¬ gA G a → H1[a]? = H[a]?) : ExtF G U H1 := by
  obtain ⟨h1, h2, h3, h4, h5, h6, h7⟩ := h
  refine ⟨Nat.le_trans h1 hs, fun e he => ⟨(h2 e he).1.kept (hq _ (by have := (h2 e he).2; omega) (by have := (h2 e he).2; unfold gA; omega)), (h2 e he).2⟩, ?_, fun e he => (h4 e he).kept hq, h5.kept hq, h6.kept hq, h7.kept hq⟩
  obtain ⟨scr, g1, g2⟩ := h3
  have := (h2 3 (by omega)).2
  exact ⟨scr, by rw [hq _ (by omega) (by unfold gA; omega)]; exact g1, g2⟩
theorem ExtF.moved {G : Gl} {u U : State} {H : Heap} (hvm : u.vm.Alike U.vm) (h : ExtF G u H) : ExtF G U H := by
  obtain ⟨h1, h2, h3, h4, h5, h6, h7⟩ := h
  exact ⟨h1, fun e he => ⟨(h2 e he).1.moved hvm, (h2 e he).2⟩, h3, fun e he => (h4 e he).moved hvm, h5.moved hvm, h6.moved hvm, h7.moved hvm⟩
/-- the nest mates' links and the casts stay true -/
theorem nest_kinds : ∀ w ∈ nestW, isNest w = true := fun w hw => (List.mem_filter.mp hw).2
theorem nest_warm {s U : State} (hW : s.WarmedH U.vm) {w : Cond} (hw : w ∈ nestW) (h : va_Nw w s) : va_Nw w U := by
  have h1 := nest_kinds w hw
  cases w <;> first | (simp [isNest] at h1; done) | exact va_Nw.warmF hW h | exact va_Nw.warmM hW h | exact va_Nw.warmC hW h
theorem StF.next {G : Gl} {s U : State} {H : Heap} {locs : List Loc} (h : StF G s) (hW : s.WarmedH U.vm) (hU : U.heap = H) (hS : va_S (gA G) s.heap H locs) : StF G U := by
  obtain ⟨h1, h2, h3, h4, h9⟩ := h
  have hA := hW.alike
  refine ⟨va_K.moved hA h1, fun w hw => nest_warm hW hw (h2 w hw), ?_, fun i hi => (h4 i hi).warm hW, h9.moved hA⟩
  rw [hU]
  exact (h3.kept hS.1 hS.2.1).moved hA
theorem StF.calling {G : Gl} {U : State} (h : StF G U) (g : JFrame) (mk : MethodId) (a : Array Value) : StF G (U.calling g mk a) := by
  obtain ⟨h1, h2, h3, h4, h9⟩ := h
  have hA : U.vm.Alike (U.calling g mk a).vm := Vm.Alike.refl U.vm
  refine ⟨va_K.moved (u := U) (U := U.calling g mk a) hA h1, fun w hw => ?_, ExtF.moved (u := U) (U := U.calling g mk a) hA h3, fun i hi => vk_R.same (u := U) (U := U.calling g mk a) rfl (h4 i hi), va_AO.moved (u := U) (U := U.calling g mk a) hA h9⟩
  have h5 := nest_kinds w hw
  have h6 := h2 w hw
  cases w <;> first | (simp [isNest] at h5; done) | exact va_Nw.same rfl rfl h6
/-- a method's contract of the kit, out of a run -/
theorem met_of {G : Gl} {y : Mth} {d : Nat} {As : List AV} {T T' : Sh} {I I' : Mi} {v : Option AV} (l : Launch) (hy : plainName y.1.cls = true) (h : Rn G y d 0 (ent As y.2.2.1) [] T I v T' I') (hlen : (entA As).length ≤ y.2.2.1) :
    Met l y.1 (wsM y) ({ frames := d, cells := nx T' - nx T, slots := sl T' - sl T, locals := 36 * d }) (va_Pc (As.map (cv G)) (fun U => Rl G T I U.heap ∧ StF G U)) (fun _ st oc t => oc = .returned (v.map (cv G)) ∧ Rl G T' I' t.heap ∧ va_F (gA G) st t) (nx T' - nx T) (sl T' - sl T) (gA G) := by
  refine Met.ofW (cc := y.2.1) (maxL := y.2.2.1) (ret := y.2.2.2) hy rfl ?_
  intro p e s m args below meth c s₁ B hml hv
  obtain ⟨rfl, hR, hSt⟩ := hv
  have hx := B.exec
  have hb := B.bytes
  have hr := B.returns
  have hts := atoms_spec (ws := wsM y) B.pre
  have hown : s.vm.findClass y.1.cls = some m.cls := findClass_of_methodNamed B.named
  have hlocks := B.notSynchronized
  have hname := (name_of_methodNamed B.named B.method).1
  obtain ⟨h1, h2, h3, h4, h5, h6⟩ := h
  rw [lg_entry_eq]
  refine h6 p l e _ s m _ below meth c ⟨hx, hb, hml, hown, fun w hw => hts w (List.mem_cons_of_mem _ hw), hSt, Nat.le_refl d, Nat.le_refl _, fun hi => by rw [hname]; exact hi⟩ s.heap [] 0 0 _ _ hR va_S.rf (Nat.le_of_eq (Nat.zero_add _)) (Nat.le_of_eq (Nat.zero_add _)) (LvH.entry G As hlen) (fun H' locs' ls' pc' hret hR' hS' => ?_)
  rw [Nat.zero_add, Nat.zero_add]
  have fin : ∀ t : State, t.heap = H' → s.WarmedH t.vm → (Outcome.returned (v.map (cv G)) = .returned (v.map (cv G)) ∧ Rl G T' I' t.heap ∧ va_F (gA G) s t) := fun t ht _ => ⟨rfl, by rw [ht]; exact hR', hS'.F ht⟩
  rcases v with _ | (x | x | x)
  · have : y.2.2.2 = none := by
      cases hq : y.2.2.2 with
      | none => rfl
      | some t => rw [hq] at h5; cases t <;> exact h5.elim
    rw [this] at hr
    exact W.vret hx hb hr fin hS'.2.2 hret
  · cases hq : y.2.2.2 with
    | none => rw [hq] at h5; exact h5.elim
    | some t =>
      rw [hq] at h5 hr
      have hn : narrow t (.int (oI x)) = .int (oI x) := by
        cases t with
        | int => rfl
        | boolean =>
          have h5 : x = 0 ∨ x = 1 := h5
          rcases h5 with rfl | rfl <;> rfl
        | byte =>
          have h5 : -128 ≤ x ∧ x < 128 := h5
          show Value.int (oI x).toInt8.toInt32 = _
          congr 1
          apply Int32.toInt_inj.mp
          rw [Int8.toInt_toInt32, Int32.toInt_toInt8, toI_o]
          unfold w32 Int.bmod
          simp only []
          omega
        | char =>
          have h5 : 0 ≤ x ∧ x < 65536 := h5
          have := (pk_charN (q := x.toNat) (by omega)).1
          have e : nI x.toNat = oI x := by
            apply Int32.toInt_inj.mp
            rw [nI_toInt (by omega), toI_in (by unfold in32; omega)]
            omega
          rw [e] at this
          exact this
        | _ => exact h5.elim
      exact W.zret hx hb hr hn fin hS'.2.2 hret
  · have : y.2.2.2 = some .long := by
      cases hq : y.2.2.2 with
      | none => rw [hq] at h5; exact h5.elim
      | some t => rw [hq] at h5; cases t <;> first | rfl | exact h5.elim
    rw [this] at hr
    exact W.lret hx hb hr fin hS'.2.2 hret
  · cases hq : y.2.2.2 with
    | none => rw [hq] at h5; exact h5.elim
    | some t =>
      rw [hq] at h5 hr
      have hrt : (∃ n, t = .object n) ∨ ∃ t', t = .array t' := by
        cases t with
        | object n => exact Or.inl ⟨n, rfl⟩
        | array n => exact Or.inr ⟨n, rfl⟩
        | _ => exact h5.elim
      refine W.aret (rt := t) hx hb hr hrt ?_ fin hS'.2.2 hret
      rcases x with (_ | k) | k
      · exact Or.inl rfl
      · exact Or.inr ⟨_, rfl⟩
      · exact Or.inr ⟨_, rfl⟩
/-- a run of a method from its entry -/
def EvE (G : Gl) (y : Mth) (d : Nat) (As : List AV) (T : Sh) (I : Mi) (Q : Option AV → Sh → Mi → Prop) : Prop := (entA As).length ≤ y.2.2.1 ∧ plainName y.1.cls = true ∧ Ev G y d 0 (ent As y.2.2.1) [] T I Q
/-- the words of a call: of y2, through entry idx of the class own; n arguments (without the receiver) -/
def CB (own : String) (idx : Nat) (y2 : Mth) (n : Nat) : Prop := (y2.1.cls ≠ "java/lang/invoke/MethodHandle" ∧ y2.1.cls ≠ "java/lang/invoke/VarHandle" ∧ (parseMethodDescriptor y2.1.desc).map (fun d => d.parameters.length) = some n) ∧ Cond.initialized y2.1.cls ∈ goodW ∧ Cond.code y2.1 y2.2.1 y2.2.2.1 y2.2.2.2 ∈ goodW ∧ (Cond.methodLink own idx y2.1 ∈ goodW ∨ ∃ host, Cond.methodLinkNest own idx y2.1 host ∈ nestW)
def CS (own : String) (idx : Nat) (y2 : Mth) (n : Nat) : Prop := CB own idx y2 n ∧ Cond.static y2.1 ∈ goodW
def CV (own : String) (idx : Nat) (y2 : Mth) (n : Nat) : Prop := CB own idx y2 n ∧ Cond.instanceMethod y2.1 ∈ goodW ∧ Cond.selects y2.1.cls y2.1 y2.1 ∈ goodW
def CI (own : String) (idx : Nat) (y2 : Mth) (n : Nat) : Prop := CB own idx y2 n ∧ Cond.instanceMethod y2.1 ∈ goodW ∧ y2.1.name = "<init>" ∧ y2.2.2.2 = none
section CallRows
variable {G : Gl} {y : Mth} {d pc : Nat} {lv lv' : List (Option AV)} {st : List AV} {T : Sh} {I : Mi} {Q : Option AV → Sh → Mi → Prop}
/-- behind a call: what the callee's run says, and the caller goes on -/
theorem Ev.call {y2 : Mth} {d2 : Nat} {As inS : List AV} {Q2 : Option AV → Sh → Mi → Prop} (hin : ∀ w ∈ As, w ∈ inS) (hst : ∀ w ∈ st, w ∈ inS) (hc : EvE G y2 d2 As T I Q2)
    (hW : ∀ (v : Option AV) (T' : Sh) (I' : Mi) (p : Program) (l : Launch) (e : Env) (R : Room) (s : State) (m : MethodId) (args : Array Value) (below : List Frame) (meth : Method) (c : Code), Ctx G y d p R s m args meth c → Met l y2.1 (wsM y2) ({ frames := d2, cells := nx T' - nx T, slots := sl T' - sl T, locals := 36 * d2 }) (va_Pc (As.map (cv G)) (fun U => Rl G T I U.heap ∧ StF G U)) (fun _ st oc t => oc = .returned (v.map (cv G)) ∧ Rl G T' I' t.heap ∧ va_F (gA G) st t) (nx T' - nx T) (sl T' - sl T) (gA G) →
      ∀ (H : Heap) (locs : List Loc) (cells slots : Nat) (ls : Array Slot), Rl G T I H → va_S (gA G) s.heap H locs → ls.size = y.2.2.1 → cells + (nx T' - nx T) ≤ R.cells → slots + (sl T' - sl T) ≤ R.slots →
      va_Run p l e R s m args below meth c H locs cells slots (nx T' - nx T) (sl T' - sl T) (F0 m pc ls (inS.map (cv G))) (st.map (cv G)) (fun st oc t => oc = .returned (v.map (cv G)) ∧ Rl G T' I' t.heap ∧ va_F (gA G) st t) (gA G))
    (k : ∀ (v : Option AV) (T' : Sh) (I' : Mi), Q2 v T' I' → nx T ≤ nx T' → Ev G y d (pc + 3) lv (v.toList ++ st) T' I' Q) : Ev G y d pc lv inS T I Q := by
  intro h1 h2
  obtain ⟨hlen, hpl, hc⟩ := hc
  obtain ⟨v, T', I', hQ2, hRn⟩ := hc ⟨fun w hw => h1.2 w (hin w (ent_mem hw)), fun w hw => by cases hw⟩ h2
  obtain ⟨n1, n2, n3, n4, n5, -⟩ := id hRn
  obtain ⟨v2, T2, I2, hQ, m1, m2, m3, m4, m5, m6⟩ := k v T' I' hQ2 n1 ⟨h1.1, fun w hw => by
    rcases List.mem_append.mp hw with hw | hw
    · cases v with
      | none => cases hw
      | some x => rw [List.mem_singleton.mp hw]; exact n3
    · exact h1.2 w (hst w hw)⟩ n4
  refine ⟨v2, T2, I2, hQ, Nat.le_trans n1 m1, Nat.le_trans n2 m2, m3, m4, m5, fun p l e R s m args below meth c C H locs cells slots ls Qf hR hS hcl hsl hl hret => ?_⟩
  have hr := hW v T' I' p l e R s m args below meth c C (met_of l hpl hRn hlen) H locs cells slots ls hR hS hl.1 (by omega) (by omega)
  intro U hU X
  obtain ⟨w, st₀, t, U', L, a0, X', hL, e1, e2, ⟨hv, hR', hF⟩, stp⟩ := hr U hU X
  have hw : w = v.map (cv G) := Outcome.returned.inj hv
  subst hw
  unfold va_F at hF
  rw [a0] at hF
  have hS' : va_S (gA G) s.heap U'.heap (locs ++ L) := ⟨Nat.le_trans hS.1 (by rw [e1]; exact hF.1), fun q g1 g2 => by rw [e1, hF.2 q (Nat.lt_of_lt_of_le g1 hS.1) g2]; exact hS.2.1 q g1 g2, fun q hq => by
    rcases List.mem_append.mp hq with h | h
    · exact hS.2.2 q h
    · exact hL q h⟩
  have e3 : (v.map (cv G)).toList ++ st.map (cv G) = (v.toList ++ st).map (cv G) := by cases v <;> simp
  have K := m6 p l e R s m args below meth c C U'.heap (locs ++ L) (cells + (nx T' - nx T)) (slots + (sl T' - sl T)) ls Qf (by rw [e1]; exact hR') hS' (by omega) (by omega) hl (fun H3 locs3 ls3 pc3 b1 b2 b3 => by
    have e4 : cells + (nx T' - nx T) + (nx T2 - nx T') = cells + (nx T2 - nx T) := by omega
    have e5 : slots + (sl T' - sl T) + (sl T2 - sl T') = slots + (sl T2 - sl T) := by omega
    rw [e4, e5]
    exact hret H3 locs3 ls3 pc3 b1 b2 b3)
  rw [← e3] at K
  obtain ⟨t2, c1, c2⟩ := K U' rfl X'
  exact ⟨t2, stp t2 c1, c2⟩
theorem blind (G : Gl) (T : Sh) (I : Mi) (As : List Value) : FrameBlind (va_Pc As (fun U => Rl G T I U.heap ∧ StF G U)) := fun a U g mk h => ⟨h.1, h.2.1, h.2.2.calling g mk a⟩
theorem CB.code {own : String} {idx : Nat} {y2 : Mth} {n : Nat} (h : CB own idx y2 n) : GoodIn goodW (wsM y2) := fun w hw => by
  rcases List.mem_cons.mp hw with rfl | hw
  · exact goodW_good _ h.2.2.1
  · exact goodW_good _ hw
theorem lv_roomA {m : MethodId} {ls : Array Slot} {st0 : List Value} (h : (st.map catA).sum ≤ 8) : 2 * (F0 m pc ls st0).monitorRoom + ((st.map (cv G)).map fun v => v.category).sum ≤ 8 := by
  rw [cat_sum]; exact (by show 2 * 0 + _ ≤ 8; omega)
theorem r_callS {y2 : Mth} {d2 idx n : Nat} {As inS : List AV} {Q2 : Option AV → Sh → Mi → Prop} (hc : EvE G y2 d2 As T I Q2) (hd : decode y.2.1 pc = .ok (.invokestatic idx, 3)) (hl : CS y.1.cls idx y2 n) (hn : As.length = n) (hs : inS = As.reverse ++ st) (hdd : d2 < d) (hm : y2.2.2.1 ≤ 17) (h8 : (st.map catA).sum ≤ 8) (k : ∀ (v : Option AV) (T' : Sh) (I' : Mi), Q2 v T' I' → nx T ≤ nx T' → Ev G y d (pc + 3) lv (v.toList ++ st) T' I' Q) : Ev G y d pc lv inS T I Q := by
  refine Ev.call (As := As) (fun w hw => by rw [hs]; exact List.mem_append_left _ (List.mem_reverse.mpr hw)) (fun w hw => by rw [hs]; exact List.mem_append_right _ hw) hc (fun v T' I' p l e R s m args below meth c C hM H locs cells slots ls hR hS hls hcl hsl => ?_) k
  obtain ⟨hx, hb, hml, hown, hts, hst, hfr, hlo, -⟩ := C
  obtain ⟨hcb, hstat⟩ := hl
  obtain ⟨hd0, hini, hcode, hlink⟩ := id hcb
  have hPre : PreS s H (va_Pc (As.map (cv G)) (fun U => Rl G T I U.heap ∧ StF G U)) (As.map (cv G)) := ⟨blind G T I _, fun U hU hW => ⟨rfl, by rw [hU]; exact hR, hst.next hW hU hS⟩⟩
  have hstk : inS.map (cv G) = (As.map (cv G)).reverse ++ st.map (cv G) := by rw [hs, List.map_append, List.map_reverse]
  rcases hlink with hlink | ⟨host, hlink⟩
  · exact va_runS (As := As.map (cv G)) (rest := st.map (cv G)) ⟨hx, hb, hml, hown, hts⟩ hM ⟨callB_of n hts hcb.code rfl rfl rfl (hts _ hini) (hts _ hlink) hd0 ⟨by show d2 + 1 ≤ _; omega, by show 8 + (y2.2.2.1 + 11) + 36 * d2 ≤ _; omega⟩, hts _ hstat⟩ hPre rfl (by rw [List.length_map]; exact hn) hls hstk (lv_roomA h8) hd ⟨hcl, hsl⟩
  · exact va_runSN (As := As.map (cv G)) (rest := st.map (cv G)) ⟨hx, hb, hml, hown, hts⟩ hM ⟨va_cnB n hts hcb.code rfl rfl rfl (hst.2.1 _ hlink) (hts _ hini) hd0 ⟨by show d2 + 1 ≤ _; omega, by show 8 + (y2.2.2.1 + 11) + 36 * d2 ≤ _; omega⟩, hts _ hstat, trivial⟩ hPre rfl (by rw [List.length_map]; exact hn) hls hstk (lv_roomA h8) hd ⟨hcl, hsl⟩
/-- the receiver's class -/
def RC (cls : String) (T : Sh) (a : Nat) : Prop := a < nx T ∧ kd T a < 13 ∧ ∃ q : vw_C, vwCl[kd T a]? = some q ∧ q.1 = cls
theorem RC.cell {cls : String} {a : Nat} (h : RC cls T a) {s : State} {H : Heap} (hR : Rl G T I H) (hst : StF G s) : ∃ cellB : Cell, H[gh G + a]? = some cellB ∧ cellB.vm.isStatics = false ∧ s.vm.findClass cls = some cellB.cls := by
  obtain ⟨ha, hk, q, hq, rfl⟩ := h
  obtain ⟨cell, q1, q2, q3, -⟩ := (hR.cell ha).obj rfl hk
  exact ⟨cell, q1, by rw [q3]; rfl, by rw [q2]; exact (hst.1.1 _ _ hq).2.1⟩
theorem r_callV {y2 : Mth} {d2 idx n a : Nat} {As inS : List AV} {Q2 : Option AV → Sh → Mi → Prop} (hc : EvE G y2 d2 (aR a :: As) T I Q2) (hd : decode y.2.1 pc = .ok (.invokevirtual idx, 3)) (hl : CV y.1.cls idx y2 n) (hrc : RC y2.1.cls T a) (hn : As.length = n) (hs : inS = As.reverse ++ aR a :: st) (hdd : d2 < d) (hm : y2.2.2.1 ≤ 17) (h8 : (st.map catA).sum ≤ 8) (k : ∀ (v : Option AV) (T' : Sh) (I' : Mi), Q2 v T' I' → nx T ≤ nx T' → Ev G y d (pc + 3) lv (v.toList ++ st) T' I' Q) : Ev G y d pc lv inS T I Q := by
  refine Ev.call (As := aR a :: As) (fun w hw => by
    rw [hs]
    rcases List.mem_cons.mp hw with rfl | hw
    · exact List.mem_append_right _ List.mem_cons_self
    · exact List.mem_append_left _ (List.mem_reverse.mpr hw)) (fun w hw => by rw [hs]; exact List.mem_append_right _ (List.mem_cons_of_mem _ hw)) hc (fun v T' I' p l e R s m args below meth c C hM H locs cells slots ls hR hS hls hcl hsl => ?_) k
  obtain ⟨hx, hb, hml, hown, hts, hst, hfr, hlo, -⟩ := C
  obtain ⟨hcb, hinst, hsel⟩ := hl
  obtain ⟨hd0, hini, hcode, hlink⟩ := id hcb
  have hPre : PreV s H y2.1.cls (gh G + a) (va_Pc ((aR a :: As).map (cv G)) (fun U => Rl G T I U.heap ∧ StF G U)) (As.map (cv G)) := ⟨blind G T I _, hrc.cell hR hst, fun U hU hW => ⟨rfl, by rw [hU]; exact hR, hst.next hW hU hS⟩⟩
  have hstk : inS.map (cv G) = (As.map (cv G)).reverse ++ .ref (gh G + a) :: st.map (cv G) := by rw [hs, List.map_append, List.map_reverse]; rfl
  rcases hlink with hlink | ⟨host, hlink⟩
  · exact va_runV (As := As.map (cv G)) (rest := st.map (cv G)) ⟨hx, hb, hml, hown, hts⟩ hM ⟨callB_of n hts hcb.code rfl rfl rfl (hts _ hini) (hts _ hlink) hd0 ⟨by show d2 + 1 ≤ _; omega, by show 8 + (y2.2.2.1 + 11) + 36 * d2 ≤ _; omega⟩, hts _ hinst, hts _ hsel⟩ hPre rfl (by rw [List.length_map]; exact hn) hls hstk (lv_roomA h8) hd ⟨hcl, hsl⟩
  · exact va_runVN (As := As.map (cv G)) (rest := st.map (cv G)) ⟨hx, hb, hml, hown, hts⟩ hM ⟨va_cnB n hts hcb.code rfl rfl rfl (hst.2.1 _ hlink) (hts _ hini) hd0 ⟨by show d2 + 1 ≤ _; omega, by show 8 + (y2.2.2.1 + 11) + 36 * d2 ≤ _; omega⟩, hts _ hinst, hts _ hsel⟩ hPre rfl (by rw [List.length_map]; exact hn) hls hstk (lv_roomA h8) hd ⟨hcl, hsl⟩
theorem r_callI {y2 : Mth} {d2 idx n a : Nat} {As inS : List AV} {Q2 : Option AV → Sh → Mi → Prop} (hc : EvE G y2 d2 (aR a :: As) T I Q2) (hd : decode y.2.1 pc = .ok (.invokespecial idx, 3)) (hl : CI y.1.cls idx y2 n) (hn : As.length = n) (hs : inS = As.reverse ++ aR a :: st) (hdd : d2 < d) (hm : y2.2.2.1 ≤ 17) (h8 : (st.map catA).sum ≤ 8) (k : ∀ (v : Option AV) (T' : Sh) (I' : Mi), Q2 v T' I' → nx T ≤ nx T' → Ev G y d (pc + 3) lv (v.toList ++ st) T' I' Q) : Ev G y d pc lv inS T I Q := by
  refine Ev.call (As := aR a :: As) (fun w hw => by
    rw [hs]
    rcases List.mem_cons.mp hw with rfl | hw
    · exact List.mem_append_right _ List.mem_cons_self
    · exact List.mem_append_left _ (List.mem_reverse.mpr hw)) (fun w hw => by rw [hs]; exact List.mem_append_right _ (List.mem_cons_of_mem _ hw)) hc (fun v T' I' p l e R s m args below meth c C hM H locs cells slots ls hR hS hls hcl hsl => ?_) k
  obtain ⟨hx, hb, hml, hown, hts, hst, hfr, hlo, -⟩ := C
  obtain ⟨hcb, hinst, hname, hvoid⟩ := hl
  obtain ⟨hd0, hini, hcode, hlink⟩ := id hcb
  have hPre : PreS s H (va_Pc ((aR a :: As).map (cv G)) (fun U => Rl G T I U.heap ∧ StF G U)) (.ref (gh G + a) :: As.map (cv G)) := ⟨blind G T I _, fun U hU hW => ⟨rfl, by rw [hU]; exact hR, hst.next hW hU hS⟩⟩
  have hstk : inS.map (cv G) = (As.map (cv G)).reverse ++ .ref (gh G + a) :: st.map (cv G) := by rw [hs, List.map_append, List.map_reverse]; rfl
  have hw0 : wsM y2 = Cond.code y2.1 y2.2.1 y2.2.2.1 none :: goodW := by unfold wsM; rw [hvoid]
  rcases hlink with hlink | ⟨host, hlink⟩
  · exact va_runI (As := As.map (cv G)) (rest := st.map (cv G)) ⟨hx, hb, hml, hown, hts⟩ hM ⟨callB_of n hts hcb.code hw0 rfl rfl (hts _ hini) (hts _ hlink) hd0 ⟨by show d2 + 1 ≤ _; omega, by show 8 + (y2.2.2.1 + 11) + 36 * d2 ≤ _; omega⟩, hname, hts _ hinst⟩ hPre rfl (by rw [List.length_map]; exact hn) hls hstk (lv_roomA h8) hd ⟨hcl, hsl⟩
  · exact va_runIN (As := As.map (cv G)) (rest := st.map (cv G)) ⟨hx, hb, hml, hown, hts⟩ hM ⟨va_cnB n hts hcb.code hw0 rfl rfl (hst.2.1 _ hlink) (hts _ hini) hd0 ⟨by show d2 + 1 ≤ _; omega, by show 8 + (y2.2.2.1 + 11) + 36 * d2 ≤ _; omega⟩, hname, hts _ hinst⟩ hPre rfl (by rw [List.length_map]; exact hn) hls hstk (lv_roomA h8) hd ⟨hcl, hsl⟩
-- the ends
theorem Ev.ret {v : Option AV} (hd : RetAt y.2.1 pc v) (hs : st = v.toList) (ho : ROK y.2.2.2 v) (hq : Q v T I) : Ev G y d pc lv st T I Q := by
  intro h1 h2
  subst hs
  refine ⟨v, T, I, hq, Nat.le_refl _, Nat.le_refl _, ?_, h2, ho, fun p l e R s m args below meth c C H locs cells slots ls Qf hR hS hcl hsl hl hret => ?_⟩
  · cases v with
    | none => trivial
    | some x => exact h1.2 x List.mem_cons_self
  · have := hret H locs ls pc hd hR hS
    rw [Nat.sub_self, Nat.sub_self, Nat.add_zero, Nat.add_zero] at this
    exact this
theorem r_iret {x : Int} (hd : decode y.2.1 pc = .ok (.ireturn, 1)) (ho : ROK y.2.2.2 (some (aI x))) (hq : Q (some (aI x)) T I) : Ev G y d pc lv [aI x] T I Q := Ev.ret (v := some (aI x)) hd rfl ho hq
theorem r_vret (hd : decode y.2.1 pc = .ok (.return_, 1)) (ho : ROK y.2.2.2 none) (hq : Q none T I) : Ev G y d pc lv [] T I Q := Ev.ret (v := none) hd rfl ho hq
theorem r_aret {x : Option Nat ⊕ Nat} (hd : decode y.2.1 pc = .ok (.areturn, 1)) (ho : ROK y.2.2.2 (some (.inr (.inr x)))) (hq : Q (some (.inr (.inr x))) T I) : Ev G y d pc lv [.inr (.inr x)] T I Q := Ev.ret (v := some (.inr (.inr x))) hd rfl ho hq
end CallRows

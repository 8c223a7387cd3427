/-! the memory: fields and arrays -/
theorem Rl.cell {G : Gl} {T : Sh} {I : Mi} {H : Heap} (h : Rl G T I H) {a : Nat} (ha : a < nx T) : cellAt G T I a H := h.2 a ha
theorem cellAt.obj {G : Gl} {T : Sh} {I : Mi} {a : Nat} {H : Heap} (h : cellAt G T I a H) {ci : Nat} (hk : kd T a = ci) (hc : ci < 13) : t_OB (gh G + a) ((gD G).1 ci) (nF ci) ((gD G).2 ci) H (fldV G T I a ci) := by
  subst hk
  unfold cellAt at h
  rw [if_pos hc] at h
  exact h
theorem cellAt.arr {G : Gl} {T : Sh} {I : Mi} {a : Nat} {H : Heap} (h : cellAt G T I a H) {ci : Nat} (hk : kd T a = ci) (hc : 13 ≤ ci) : H[gh G + a]? = some (arrV (gc G ci) (ln T a) (elV G T I a)) := by
  subst hk
  unfold cellAt at h
  rw [if_neg (by omega)] at h
  exact h
theorem cellAt.kept {G : Gl} {T T' : Sh} {I I' : Mi} {a : Nat} {H H' : Heap} (h : cellAt G T I a H) (hk : kd T' a = kd T a) (hl : ln T' a = ln T a) (hr : ∀ j, rf T' a j = rf T a j) (hi : ∀ j, I' a j = I a j) (hq : H'[gh G + a]? = H[gh G + a]?) : cellAt G T' I' a H' := by
  unfold cellAt at h ⊢
  have e1 : fldV G T' I' a (kd T' a) = fldV G T I a (kd T a) := by funext j; unfold fldV; rw [hk, hr, hi]
  have e2 : elV G T' I' a = elV G T I a := by funext j; unfold elV; rw [hk, hr, hi]
  rw [e1, e2, hk, hl]
  split
  · next c => rw [if_pos c] at h; exact h.kept hq
  · next c => rw [if_neg c] at h; rw [hq]; exact h
/-- a cell is written: the others stay -/
theorem Rl.put {G : Gl} {T T' : Sh} {I I' : Mi} {H H' : Heap} (h : Rl G T I H) {a : Nat} (hn : nx T' = nx T) (hsz : H'.size = H.size) (oq : ∀ q, q ≠ gh G + a → H'[q]? = H[q]?)
    (hk : ∀ b, b ≠ a → kd T' b = kd T b ∧ ln T' b = ln T b ∧ (∀ j, rf T' b j = rf T b j) ∧ ∀ j, I' b j = I b j) (hc : a < nx T → cellAt G T' I' a H') : Rl G T' I' H' := by
  refine ⟨by rw [hsz, h.1, hn], fun b hb => ?_⟩
  rw [hn] at hb
  by_cases e : b = a
  · subst e; exact hc hb
  · obtain ⟨k1, k2, k3, k4⟩ := hk b e
    exact (h.2 b hb).kept k1 k2 k3 k4 (oq _ (by omega))
/-- what the tables say of a class -/
def CK (ci : Nat) : Prop := ∃ q : vw_C, vwCl[ci]? = some q ∧ (∀ w ∈ u_ws q.1 q.2.1 q.2.2, w ∈ goodW) ∧ (∃ ty : Nat → FieldType, (∀ k, k < q.2.2 → parseFieldDescriptor (q.2.1 k).2.2.1 = some (ty k)) ∧ ∀ k, k < q.2.2 → (if rfF ci k = true then (∃ n, ty k = .object n) ∨ ∃ t, ty k = .array t else ty k = .int)) ∧ (∀ a, a < q.2.2 → ∀ b, b < q.2.2 → a ≠ b → (q.2.1 a).2.1 ≠ (q.2.1 b).2.1)
/-- a field link: of the class 'own', its pool's entry idx, is field k of class ci -/
def FL (own : String) (idx ci k : Nat) : Prop := k < nF ci ∧ ci < 13 ∧ ∃ q : vw_C, vwCl[ci]? = some q ∧ (Cond.fieldLink own idx (q.2.1 k).1 (q.2.1 k).2.1 (q.2.1 k).2.2.1 ∈ goodW ∨ ∃ host, Cond.fieldLinkNest own idx (q.2.1 k).1 (q.2.1 k).2.1 (q.2.1 k).2.2.1 host ∈ nestW)
section MemRows
variable {G : Gl} {y : Mth} {d pc : Nat} {lv lv' : List (Option AV)} {st : List AV} {T : Sh} {I : Mi} {Q : Option AV → Sh → Mi → Prop}
theorem nest_use {w : Cond} (hw : w.onTables = true) {s : State} {args : Array Value} (h : StF G s) (hm : w ∈ nestW) : w.before args s = true := (h.2.1 w hm).use hw
theorem getf_core (cks : ∀ ci, ci < 13 → CK ci) {p : Program} {l : Launch} {e : Env} {R : Room} {s : State} {m : MethodId} {args : Array Value} {below : List Frame} {meth : Method} {c : Code} (C : Ctx G y d p R s m args meth c) {H : Heap} {locs : List Loc} {cells slots : Nat} {ls : Array Slot} {Qf : State → Prop} {rest : List Value} {idx ci k a : Nat} (hd : decode y.2.1 pc = .ok (.getfield idx, 3)) (hl : FL y.1.cls idx ci k) (hk : kd T a = ci) (ha : a < nx T) (hR : Rl G T I H)
    (kk : W p l e R s m args below meth c H locs cells slots Qf (F0 m (pc + 3) ls (fldV G T I a ci k :: rest))) : W p l e R s m args below meth c H locs cells slots Qf (F0 m pc ls (.ref (gh G + a) :: rest)) := by
  obtain ⟨hkn, hci, q, hq, hlink⟩ := hl
  obtain ⟨q', hq', hin, -, -⟩ := cks ci hci
  cases hq.symm.trans hq'
  obtain ⟨hx, hb, hml, hown, hts, hst, -⟩ := C
  obtain ⟨hSl, hfc, kC, hkC, hkind⟩ := hst.1.1 ci _ hq
  have hnF : nF ci = q.2.2 := by unfold nF; rw [hq]; rfl
  rw [hnF] at hkn
  obtain ⟨cell, q1, q2, q3, q4⟩ := (hR.cell ha).obj hk hci
  rw [hnF] at q4
  obtain ⟨cf, kf, fi, f, hi, hsl⟩ := hSl k hkn
  have hs0 : f.isStatic = false := (u_facts hfc hkC (u_lays hts hin hkn) hi).1
  have hv : cell.slots[f.slot]? = some (fldV G T I a ci k) := by rw [hsl]; exact q4 k hkn
  rcases hlink with hlink | ⟨host, hlink⟩
  · exact W.getf hx hb hown (hts _ hlink) hi hs0 q1 (by rw [q3]; exact fun h => by cases h) hv rfl rfl hd kk
  · exact va_Wgetf hx hb hown (nest_use rfl hst hlink) hi hs0 q1 (by rw [q3]; exact fun h => by cases h) hv rfl rfl hd kk

theorem FWr (h : FW lv st) (a : Nat) : FW lv (aR a :: st) := h.ps (v := aR a) trivial
theorem r_getfi (cks : ∀ ci, ci < 13 → CK ci) {idx ci k a : Nat} (hd : decode y.2.1 pc = .ok (.getfield idx, 3)) (hl : FL y.1.cls idx ci k) (hr : rfF ci k = false) (hk : kd T a = ci) (ha : a < nx T) (kk : Ev G y d (pc + 3) lv (aI (I a k) :: st) T I Q) : Ev G y d pc lv (aR a :: st) T I Q := by
  intro h1 h2
  have hci : ci < 13 := hl.2.1
  have hin : in32 (I a k) := by
    have h3 := (h2 a ha).1 k
    rw [if_neg (by omega)] at h3
    exact h3
  refine Ev.step (fun h => h.tl.psI hin) (fun _ p l e R s m args below meth c C H locs cells slots ls Qf hR hS hL kk2 => ?_) kk h1 h2
  refine getf_core cks C hd hl hk ha hR ?_
  have e : fldV G T I a ci k = .int (oI (I a k)) := by unfold fldV; rw [hr]; rfl
  rw [e]
  exact kk2 ls hL
theorem r_getfr (cks : ∀ ci, ci < 13 → CK ci) {idx ci k a b : Nat} (hd : decode y.2.1 pc = .ok (.getfield idx, 3)) (hl : FL y.1.cls idx ci k) (hr : rfF ci k = true) (hk : kd T a = ci) (ha : a < nx T) (hb : rf T a k = some b) (kk : Ev G y d (pc + 3) lv (aR b :: st) T I Q) : Ev G y d pc lv (aR a :: st) T I Q := by
  refine Ev.step (fun h => FWr h.tl b) (fun _ p l e R s m args below meth c C H locs cells slots ls Qf hR hS hL kk2 => ?_) kk
  refine getf_core cks C hd hl hk ha hR ?_
  have e : fldV G T I a ci k = .ref (gh G + b) := by unfold fldV; rw [hr, hb]; rfl
  rw [e]
  exact kk2 ls hL
/-- a step that writes -/
theorem Ev.wr {pc' : Nat} {st' : List AV} {T2 : Sh} {I2 : Mi} (hn : nx T ≤ nx T2) (hsl : sl T ≤ sl T2) (hF : FW lv st → WFI T I → FW lv st' ∧ WFI T2 I2)
    (hW : FW lv st → WFI T I → ∀ (p : Program) (l : Launch) (e : Env) (R : Room) (s : State) (m : MethodId) (args : Array Value) (below : List Frame) (meth : Method) (c : Code), Ctx G y d p R s m args meth c →
      ∀ (H : Heap) (locs : List Loc) (cells slots : Nat) (ls : Array Slot) (Qf : State → Prop), Rl G T I H → va_S (gA G) s.heap H locs → LvH G ls y.2.2.1 lv → cells + (nx T2 - nx T) ≤ R.cells → slots + (sl T2 - sl T) ≤ R.slots →
      (∀ (H' : Heap) (locs' : List Loc), Rl G T2 I2 H' → va_S (gA G) s.heap H' locs' → W p l e R s m args below meth c H' locs' (cells + (nx T2 - nx T)) (slots + (sl T2 - sl T)) Qf (F0 m pc' ls (st'.map (cv G)))) →
      W p l e R s m args below meth c H locs cells slots Qf (F0 m pc ls (st.map (cv G))))
    (k : Ev G y d pc' lv st' T2 I2 Q) : Ev G y d pc lv st T I Q := by
  intro h1 h2
  obtain ⟨f1, f2⟩ := hF h1 h2
  obtain ⟨v, T', I', hQ, n1, n2, n3, n4, n5, n6⟩ := k f1 f2
  refine ⟨v, T', I', hQ, Nat.le_trans hn n1, Nat.le_trans hsl n2, n3, n4, n5, fun p l e R s m args below meth c C H locs cells slots ls Qf hR hS hc hs hl hret => ?_⟩
  refine hW h1 h2 p l e R s m args below meth c C H locs cells slots ls Qf hR hS hl (by omega) (by omega) (fun H' locs' hR' hS' => ?_)
  refine n6 p l e R s m args below meth c C H' locs' _ _ ls Qf hR' hS' (by omega) (by omega) hl (fun H3 locs3 ls3 pc3 a1 a2 a3 => ?_)
  have e1 : cells + (nx T2 - nx T) + (nx T' - nx T2) = cells + (nx T' - nx T) := by omega
  have e2 : slots + (sl T2 - sl T) + (sl T' - sl T2) = slots + (sl T' - sl T) := by omega
  rw [e1, e2]
  exact hret H3 locs3 ls3 pc3 a1 a2 a3
theorem putf_core (cks : ∀ ci, ci < 13 → CK ci) {p : Program} {l : Launch} {e : Env} {R : Room} {s : State} {m : MethodId} {args : Array Value} {below : List Frame} {meth : Method} {c : Code} (C : Ctx G y d p R s m args meth c) {H : Heap} {locs : List Loc} {cells slots : Nat} {ls : Array Slot} {Qf : State → Prop} {rest : List Value} {idx ci k a : Nat} {v : AV} (hd : decode y.2.1 pc = .ok (.putfield idx, 3)) (hl : FL y.1.cls idx ci k) (hfin : ∀ q, vwCl[ci]? = some q → (q.2.1 k).2.2.2 = false ∨ (y.1.name = "<init>" ∧ (q.2.1 k).1 = y.1.cls ∧ Cond.fieldLink y.1.cls idx (q.2.1 k).1 (q.2.1 k).2.1 (q.2.1 k).2.2.1 ∈ goodW))
    (hty : if rfF ci k = true then ∃ b, v = aR b else ∃ x, v = aI x) (hk : kd T a = ci) (ha : a < nx T) (hR : Rl G T I H) (hS0 : va_S (gA G) s.heap H locs)
    {T2 : Sh} {I2 : Mi} (h2k : kd T2 a = kd T a) (h2v : ∀ j, fldV G T2 I2 a ci j = if j = k then cv G v else fldV G T I a ci j) (h2o : ∀ b, b ≠ a → kd T2 b = kd T b ∧ ln T2 b = ln T b ∧ (∀ j, rf T2 b j = rf T b j) ∧ ∀ j, I2 b j = I b j) (h2n : nx T2 = nx T)
    (kk : ∀ (H' : Heap) (locs' : List Loc), Rl G T2 I2 H' → va_S (gA G) s.heap H' locs' → W p l e R s m args below meth c H' locs' cells slots Qf (F0 m (pc + 3) ls rest)) : W p l e R s m args below meth c H locs cells slots Qf (F0 m pc ls (cv G v :: .ref (gh G + a) :: rest)) := by
  obtain ⟨hkn, hci, q, hq, hlink⟩ := hl
  obtain ⟨q', hq', hin, ⟨ty0, hty0, htyr⟩, hnm⟩ := cks ci hci
  cases hq.symm.trans hq'
  obtain ⟨hx, hb, hml, hown, hts, hst, hfr, hlo, hini⟩ := C
  have hnF : nF ci = q.2.2 := by unfold nF; rw [hq]; rfl
  rw [hnF] at hkn
  have hap := va_apart (own := y.1.cls) hts hin ty0 hty0 hnm hst.1 hq
  obtain ⟨cell, q1, q2, q3, q4⟩ := (hR.cell ha).obj hk hci
  rw [hnF] at q4
  obtain ⟨hSl, hfc, kC, hkC, hkind⟩ := hst.1.1 ci _ hq
  obtain ⟨cf, kf, fi, f, hi, hsl⟩ := hSl k hkn
  have hs0 := (u_facts hfc hkC (u_lays hts hin hkn) hi).1
  have htk := htyr k hkn
  have hn : narrow (ty0 k) (cv G v) = cv G v := by
    by_cases hr : rfF ci k = true
    · rw [if_pos hr] at hty htk
      obtain ⟨b, rfl⟩ := hty
      rcases htk with ⟨n, e⟩ | ⟨n, e⟩ <;> rw [e] <;> rfl
    · rw [if_neg hr] at hty htk
      obtain ⟨x, rfl⟩ := hty
      rw [htk]; rfl
  have hfit : fits (ty0 k) (cv G v) = true := by
    by_cases hr : rfF ci k = true
    · rw [if_pos hr] at hty htk
      obtain ⟨b, rfl⟩ := hty
      rcases htk with ⟨n, e⟩ | ⟨n, e⟩ <;> rw [e] <;> rfl
    · rw [if_neg hr] at hty htk
      obtain ⟨x, rfl⟩ := hty
      rw [htk]; rfl
  have hlay := hts _ (hin _ (u_in_lay hkn))
  have fin : ∀ (H' : Heap) (locs' : List Loc), locs' = locs ++ [⟨gh G + a, f.slot⟩] → H'[gh G + a]? = some (cell.setSlot f.slot (cv G v)) → H'.size = H.size → (∀ q, q ≠ gh G + a → H'[q]? = H[q]?) → W p l e R s m args below meth c H' locs' cells slots Qf (F0 m (pc + 3) ls rest) := by
    intro H' locs' el e1 e2 e3
    subst el
    rw [hsl] at e1
    refine kk H' _ (hR.put (a := a) h2n e2 e3 h2o (fun _ => ?_)) (hS0.put e2 e3 (show gh G ≤ gh G + a by omega))
    unfold cellAt
    rw [h2k, hk, if_pos hci]
    refine t_OB.to (V := updV (fldV G T I a ci) k (cv G v)) ⟨_, e1, q2, q3, ?_⟩ (fun j _ => ?_)
    · rw [hnF]; exact t_set q4 hap hkn (cv G v)
    · rw [h2v j]; rfl
  by_cases hf : (q.2.1 k).2.2.2 = false
  · unfold u_lay at hlay
    rw [if_neg (by rw [hf]; decide)] at hlay
    have h6 := u_store hfc hkC hkind hlay hi (hty0 k hkn) hn hfit
    rcases hlink with hlink | ⟨host, hlink⟩
    · exact W.putK hx hb (f := f) ⟨hown, hts _ hlink, ⟨_, _, _, hi⟩, hs0⟩ (by rw [q2]; exact h6) q1 q3 (by rw [hsl]; exact k2_hasslot (q4 k hkn)) rfl rfl hd (fun H' e1 e2 e3 => fin H' _ rfl e1 e2 e3)
    · exact va_WputK hx hb (f := f) hown (nest_use rfl hst hlink) hi hs0 (by rw [q2]; exact h6) q1 q3 (by rw [hsl]; exact k2_hasslot (q4 k hkn)) rfl rfl hd (fun H' e1 e2 e3 => fin H' _ rfl e1 e2 e3)
  · rcases hfin q hq with h9 | ⟨h91, h92, h93⟩
    · exact absurd h9 hf
    have hft : (q.2.1 k).2.2.2 = true := by cases h : (q.2.1 k).2.2.2 <;> simp_all
    unfold u_lay at hlay
    rw [if_pos hft] at hlay
    have hcf : m.cls = cf := by
      obtain ⟨_, _, c', _, _, _, -, -, hf', -, -, -, hown2, -⟩ := Cond.laysFinal_spec hlay
      have e1 : c' = cf := by have := hi.symm.trans hf'; simp at this; exact this.1.symm
      rw [h92] at hown2
      rw [← e1]; exact Option.some.inj (hown.symm.trans hown2)
    have h6 := u_fits hfc hkC hkind (Or.inr hlay) hi (hty0 k hkn) hn hfit
    exact W.putFinK hx hb hown (hts _ h93) hi hs0 hcf (hini h91) (by rw [q2]; exact h6) q1 q3 (by rw [hsl]; exact k2_hasslot (q4 k hkn)) rfl rfl hd (fun H' e1 e2 e3 => fin H' _ rfl e1 e2 e3)
/-- which fields may be put where: not final, or in the class's own constructor -/
def PF (y : Mth) (idx ci k : Nat) : Prop := ∀ q, vwCl[ci]? = some q → (q.2.1 k).2.2.2 = false ∨ (y.1.name = "<init>" ∧ (q.2.1 k).1 = y.1.cls ∧ Cond.fieldLink y.1.cls idx (q.2.1 k).1 (q.2.1 k).2.1 (q.2.1 k).2.2.1 ∈ goodW)
theorem WFI.upI {a k : Nat} {x : Int} (h : WFI T I) (hk : kd T a ≠ 23) (hx : in32 x) : WFI T (up2 I a k x) := fun b hb => ⟨fun j => by
  unfold up2
  by_cases c : b = a ∧ j = k
  · rw [if_pos c, c.1, if_neg hk]; exact hx
  · rw [if_neg c]; exact (h b hb).1 j, (h b hb).2⟩
theorem WFI.upL {a k : Nat} {x : Int} (h : WFI T I) (hk : kd T a = 23) (hx : in64 x) : WFI T (up2 I a k x) := fun b hb => ⟨fun j => by
  unfold up2
  by_cases c : b = a ∧ j = k
  · rw [if_pos c, c.1, if_pos hk]; exact hx
  · rw [if_neg c]; exact (h b hb).1 j, (h b hb).2⟩
theorem r_putfi (cks : ∀ ci, ci < 13 → CK ci) {idx ci k a : Nat} {x : Int} (hd : decode y.2.1 pc = .ok (.putfield idx, 3)) (hl : FL y.1.cls idx ci k) (hf : PF y idx ci k) (hr : rfF ci k = false) (hk : kd T a = ci) (ha : a < nx T) (kk : Ev G y d (pc + 3) lv st T (up2 I a k x) Q) : Ev G y d pc lv (aI x :: aR a :: st) T I Q := by
  refine Ev.wr (Nat.le_refl _) (Nat.le_refl _) (fun h1 h2 => ⟨h1.tl.tl, h2.upI (by have := hl.2.1; omega) h1.hdI⟩) (fun h1 h2 p l e R s m args below meth c C H locs cells slots ls Qf hR hS hL hc hs kk2 => ?_) kk
  rw [Nat.sub_self, Nat.sub_self, Nat.add_zero, Nat.add_zero] at kk2
  refine putf_core (v := aI x) (T2 := T) (I2 := up2 I a k x) cks C hd hl hf (by rw [if_neg (by rw [hr]; decide)]; exact ⟨x, rfl⟩) hk ha hR hS rfl (fun j => ?_) (fun b hb => ⟨rfl, rfl, fun _ => rfl, fun j => ?_⟩) rfl kk2
  · unfold fldV up2
    by_cases e : j = k
    · subst e; rw [hr]; simp [cv]
    · simp [e]
  · unfold up2; rw [if_neg (fun z => hb z.1)]
theorem r_putfr (cks : ∀ ci, ci < 13 → CK ci) {idx ci k a b : Nat} (hd : decode y.2.1 pc = .ok (.putfield idx, 3)) (hl : FL y.1.cls idx ci k) (hf : PF y idx ci k) (hr : rfF ci k = true) (hk : kd T a = ci) (ha : a < nx T) (kk : Ev G y d (pc + 3) lv st (kd T, ln T, upr (rf T) a k (some b), nx T, sl T) I Q) : Ev G y d pc lv (aR b :: aR a :: st) T I Q := by
  refine Ev.wr (T2 := (kd T, ln T, upr (rf T) a k (some b), nx T, sl T)) (Nat.le_refl _) (Nat.le_refl _) (fun h1 h2 => ⟨h1.tl.tl, h2⟩) (fun h1 h2 p l e R s m args below meth c C H locs cells slots ls Qf hR hS hL hc hs kk2 => ?_) kk
  rw [show nx (kd T, ln T, upr (rf T) a k (some b), nx T, sl T) = nx T from rfl, show sl (kd T, ln T, upr (rf T) a k (some b), nx T, sl T) = sl T from rfl, Nat.sub_self, Nat.sub_self, Nat.add_zero, Nat.add_zero] at kk2
  refine putf_core (v := aR b) (T2 := (kd T, ln T, upr (rf T) a k (some b), nx T, sl T)) (I2 := I) cks C hd hl hf (by rw [if_pos hr]; exact ⟨b, rfl⟩) hk ha hR hS rfl (fun j => ?_) (fun b hb => ⟨rfl, rfl, fun j => ?_, fun j => rfl⟩) rfl kk2
  · unfold fldV
    rw [show rf (kd T, ln T, upr (rf T) a k (some b), nx T, sl T) a j = upr (rf T) a k (some b) a j from rfl]
    by_cases e : j = k
    · subst e; rw [hr]; simp [upr, cv, va_rf]
    · simp [upr, e]
  · show upr (rf T) a k _ _ j = _
    unfold upr; rw [if_neg (fun z => hb z.1)]
/-! arrays -/
theorem tyOf {k : Nat} {ty : FieldType} (h : (tysG G)[k]? = some (gc G (20 + k), ty)) {s : State} (hs : StF G s) : ArrOfT s (gc G (20 + k)) ty ∧ va_RA s (gc G (20 + k)) ty := hs.1.2 k _ h
theorem vp_in_o {i : Int} {n : Nat} (hi : in32 i) (h0 : 0 ≤ i) (h1 : i < n) : ¬ (oI i < 0 ∨ n ≤ (oI i).toNatClampNeg) := (in_o hi).mpr ⟨h0, h1⟩
theorem inI (h : WFI T I) {a : Nat} (ha : a < nx T) (hk : kd T a ≠ 23) (j : Nat) : in32 (I a j) := by
  have h3 := (h a ha).1 j
  rw [if_neg hk] at h3
  exact h3
theorem inL (h : WFI T I) {a : Nat} (ha : a < nx T) (hk : kd T a = 23) (j : Nat) : in64 (I a j) := by
  have h3 := (h a ha).1 j
  rw [if_pos hk] at h3
  exact h3
theorem elI {a : Nat} (h1 : kd T a ≠ 23) (h2 : kd T a ≠ 24) (j : Nat) : elV G T I a j = .int (oI (I a j)) := by unfold elV; rw [if_neg h1, if_neg h2]
theorem elL {a : Nat} (h1 : kd T a = 23) (j : Nat) : elV G T I a j = .long (oL (I a j)) := by unfold elV; rw [if_pos h1]
theorem elR {a : Nat} (h1 : kd T a = 24) (j : Nat) : elV G T I a j = va_rf ((rf T a j).map (fun b => gh G + b)) := by unfold elV; rw [if_neg (by omega), if_pos h1]
theorem arr_in {i : Int} {n : Nat} {cA : ClassId} {f : Nat → Value} (hi : in32 i) (h0 : 0 ≤ i) (h1 : i < n) : ¬ (oI i < 0 ∨ (arrV cA n f).slots.size ≤ (oI i).toNatClampNeg) := by rw [arrV_size]; exact vp_in_o hi h0 h1
theorem arr_at {i : Int} {n : Nat} {cA : ClassId} {f : Nat → Value} (hi : in32 i) (h0 : 0 ≤ i) (h1 : i < n) : (arrV cA n f).slots[(oI i).toNatClampNeg]? = some (f i.toNat) := by rw [clampI hi h0]; exact arrV_read _ _ (by omega)
theorem r_iaload {a : Nat} {i : Int} (hd : decode y.2.1 pc = .ok (.iaload, 1)) (hk : kd T a = 20) (ha : a < nx T) (h0 : 0 ≤ i) (h1 : i < (ln T a : Int)) (kk : Ev G y d (pc + 1) lv (aI (I a i.toNat) :: st) T I Q) : Ev G y d pc lv (aI i :: aR a :: st) T I Q := by
  intro g1 g2
  refine Ev.step (fun h => h.tl.tl.psI (inI g2 ha (by omega) _)) (fun hh p l e R s m args below meth c C H locs cells slots ls Qf hR hS hL kk2 => ?_) kk g1 g2
  have hc := (hR.cell ha).arr hk (by omega)
  have k2 := kk2 ls hL
  rw [List.map_cons, show cv G (aI (I a i.toNat)) = elV G T I a i.toNat from (elI (by omega) (by omega) _).symm] at k2
  exact W.iald C.1 C.2.1 hc ((tyOf (k := 0) rfl C.2.2.2.2.2.1).1 _ _) (fun q => by cases q) (arr_in hh.hdI h0 h1) (arr_at hh.hdI h0 h1) rfl rfl hd k2
theorem r_baload {a : Nat} {i : Int} (hd : decode y.2.1 pc = .ok (.baload, 1)) (hk : kd T a = 21 ∨ kd T a = 22) (ha : a < nx T) (h0 : 0 ≤ i) (h1 : i < (ln T a : Int)) (kk : Ev G y d (pc + 1) lv (aI (I a i.toNat) :: st) T I Q) : Ev G y d pc lv (aI i :: aR a :: st) T I Q := by
  intro g1 g2
  refine Ev.step (fun h => h.tl.tl.psI (inI g2 ha (by omega) _)) (fun hh p l e R s m args below meth c C H locs cells slots ls Qf hR hS hL kk2 => ?_) kk g1 g2
  have k2 := kk2 ls hL
  rw [List.map_cons, show cv G (aI (I a i.toNat)) = elV G T I a i.toNat from (elI (by omega) (by omega) _).symm] at k2
  rcases hk with hk | hk
  · exact W.bald C.1 C.2.1 ((hR.cell ha).arr hk (by omega)) ((tyOf (k := 1) rfl C.2.2.2.2.2.1).1 _ _) (fun q => by cases q) (arr_in hh.hdI h0 h1) (arr_at hh.hdI h0 h1) rfl rfl hd k2
  · exact W.zald C.1 C.2.1 ((hR.cell ha).arr hk (by omega)) ((tyOf (k := 2) rfl C.2.2.2.2.2.1).1 _ _) (fun q => by cases q) (arr_in hh.hdI h0 h1) (arr_at hh.hdI h0 h1) rfl rfl hd k2
theorem r_laload {a : Nat} {i : Int} (hd : decode y.2.1 pc = .ok (.laload, 1)) (hk : kd T a = 23) (ha : a < nx T) (h0 : 0 ≤ i) (h1 : i < (ln T a : Int)) (kk : Ev G y d (pc + 1) lv (aL (I a i.toNat) :: st) T I Q) : Ev G y d pc lv (aI i :: aR a :: st) T I Q := by
  intro g1 g2
  refine Ev.step (fun h => h.tl.tl.psL (inL g2 ha hk _)) (fun hh p l e R s m args below meth c C H locs cells slots ls Qf hR hS hL kk2 => ?_) kk g1 g2
  have hc := (hR.cell ha).arr hk (by omega)
  have k2 := kk2 ls hL
  rw [List.map_cons, show cv G (aL (I a i.toNat)) = elV G T I a i.toNat from (elL hk _).symm] at k2
  exact W.lald C.1 C.2.1 hc ((tyOf (k := 3) rfl C.2.2.2.2.2.1).1 _ _) (fun q => by cases q) (arr_in hh.hdI h0 h1) (arr_at hh.hdI h0 h1) rfl rfl hd k2
theorem r_aaload {a b : Nat} {i : Int} (hd : decode y.2.1 pc = .ok (.aaload, 1)) (hk : kd T a = 24) (ha : a < nx T) (h0 : 0 ≤ i) (h1 : i < (ln T a : Int)) (hb : rf T a i.toNat = some b) (kk : Ev G y d (pc + 1) lv (aR b :: st) T I Q) : Ev G y d pc lv (aI i :: aR a :: st) T I Q := by
  refine Ev.step (fun h => FWr h.tl.tl b) (fun hh p l e R s m args below meth c C H locs cells slots ls Qf hR hS hL kk2 => ?_) kk
  have hc := (hR.cell ha).arr hk (by omega)
  have k2 := kk2 ls hL
  rw [List.map_cons, show cv G (aR b) = elV G T I a i.toNat by rw [elR hk, hb]; rfl] at k2
  exact W.aald (ty := .object RX9) C.1 C.2.1 hc ((tyOf (k := 4) rfl C.2.2.2.2.2.1).1 _ _) rfl (fun q => by cases q) (arr_in hh.hdI h0 h1) (arr_at hh.hdI h0 h1) rfl rfl hd k2
theorem r_alen {a : Nat} (hd : decode y.2.1 pc = .ok (.arraylength, 1)) (hk : 20 ≤ kd T a) (ha : a < nx T) (kk : Ev G y d (pc + 1) lv (aI (ln T a : Int) :: st) T I Q) : Ev G y d pc lv (aR a :: st) T I Q := by
  intro g1 g2
  have hw := (g2 a ha).2
  refine Ev.step (fun h => h.tl.psI (by unfold in32; omega)) (fun hh p l e R s m args below meth c C H locs cells slots ls Qf hR hS hL kk2 => ?_) kk g1 g2
  have k2 := kk2 ls hL
  have st0 := C.2.2.2.2.2.1
  have he : (arrV (gc G (kd T a)) (ln T a) (elV G T I a)).slots.size.toInt32 = oI (ln T a : Int) := by
    rw [arrV_size]; exact (Int32.ofInt_eq_ofNat).symm
  have hc := (hR.cell ha).arr rfl (by omega)
  have hcase : kd T a = 20 ∨ kd T a = 21 ∨ kd T a = 22 ∨ kd T a = 23 ∨ kd T a = 24 := by omega
  rcases hcase with h | h | h | h | h
  · exact W.alen (ty := .int) C.1 C.2.1 hc (by rw [h]; exact (tyOf (k := 0) rfl st0).1 _ _) he rfl rfl hd k2
  · exact W.alen (ty := .byte) C.1 C.2.1 hc (by rw [h]; exact (tyOf (k := 1) rfl st0).1 _ _) he rfl rfl hd k2
  · exact W.alen (ty := .boolean) C.1 C.2.1 hc (by rw [h]; exact (tyOf (k := 2) rfl st0).1 _ _) he rfl rfl hd k2
  · exact W.alen (ty := .long) C.1 C.2.1 hc (by rw [h]; exact (tyOf (k := 3) rfl st0).1 _ _) he rfl rfl hd k2
  · exact W.alen (ty := .object RX9) C.1 C.2.1 hc (by rw [h]; exact (tyOf (k := 4) rfl st0).1 _ _) he rfl rfl hd k2
/-- an array's cell, one place written -/
theorem put_arr {H H' : Heap} (hR : Rl G T I H) {a i : Nat} {x : Int} {ci : Nat} (hk : kd T a = ci) (hc : 13 ≤ ci) (ha : a < nx T) {v : Value} (hv : ∀ j, elV G T (up2 I a i x) a j = if j = i then v else elV G T I a j)
    (e : H'[gh G + a]? = some ((arrV (gc G ci) (ln T a) (elV G T I a)).setSlot i v)) (z : H'.size = H.size) (oq : ∀ q, q ≠ gh G + a → H'[q]? = H[q]?) : Rl G T (up2 I a i x) H' := by
  refine hR.put (a := a) rfl z oq (fun b hb => ⟨rfl, rfl, fun _ => rfl, fun j => ?_⟩) (fun _ => ?_)
  · unfold up2; rw [if_neg (fun z => hb z.1)]
  · unfold cellAt
    rw [hk, if_neg (by omega), e, arrV_store]
    congr 2
    funext j
    rw [hv j]
    rfl
theorem r_iastore {a : Nat} {i x : Int} (hd : decode y.2.1 pc = .ok (.iastore, 1)) (hk : kd T a = 20) (ha : a < nx T) (h0 : 0 ≤ i) (h1 : i < (ln T a : Int)) (kk : Ev G y d (pc + 1) lv st T (up2 I a i.toNat x) Q) : Ev G y d pc lv (aI x :: aI i :: aR a :: st) T I Q := by
  refine Ev.wr (Nat.le_refl _) (Nat.le_refl _) (fun h1 h2 => ⟨h1.tl.tl.tl, h2.upI (by omega) h1.hdI⟩) (fun hh g2 p l e R s m args below meth c C H locs cells slots ls Qf hR hS hL hc hs kk2 => ?_) kk
  rw [Nat.sub_self, Nat.sub_self, Nat.add_zero, Nat.add_zero] at kk2
  have hc := (hR.cell ha).arr hk (by omega)
  refine W.iast C.1 C.2.1 hc ((tyOf (k := 0) rfl C.2.2.2.2.2.1).1 _ _) (fun q => by cases q) (arr_in hh.tl.hdI h0 h1) rfl rfl hd (fun H' e z oq => ?_)
  rw [clampI hh.tl.hdI h0] at e ⊢
  refine kk2 H' _ (put_arr hR hk (by omega) ha (fun j => ?_) e z oq) (hS.put z oq (show gh G ≤ gh G + a by omega))
  rw [elI (by omega) (by omega), elI (by omega) (by omega)]
  unfold up2
  by_cases e : j = i.toNat
  · simp [e]
  · simp [e]
theorem r_lastore {a : Nat} {i x : Int} (hd : decode y.2.1 pc = .ok (.lastore, 1)) (hk : kd T a = 23) (ha : a < nx T) (h0 : 0 ≤ i) (h1 : i < (ln T a : Int)) (kk : Ev G y d (pc + 1) lv st T (up2 I a i.toNat x) Q) : Ev G y d pc lv (aL x :: aI i :: aR a :: st) T I Q := by
  refine Ev.wr (Nat.le_refl _) (Nat.le_refl _) (fun h1 h2 => ⟨h1.tl.tl.tl, h2.upL hk h1.hdL⟩) (fun hh g2 p l e R s m args below meth c C H locs cells slots ls Qf hR hS hL hc hs kk2 => ?_) kk
  rw [Nat.sub_self, Nat.sub_self, Nat.add_zero, Nat.add_zero] at kk2
  have hc := (hR.cell ha).arr hk (by omega)
  refine W.last C.1 C.2.1 hc ((tyOf (k := 3) rfl C.2.2.2.2.2.1).1 _ _) (fun q => by cases q) (arr_in hh.tl.hdI h0 h1) rfl rfl hd (fun H' e z oq => ?_)
  rw [clampI hh.tl.hdI h0] at e ⊢
  refine kk2 H' _ (put_arr hR hk (by omega) ha (fun j => ?_) e z oq) (hS.put z oq (show gh G ≤ gh G + a by omega))
  rw [elL hk, elL hk]
  unfold up2
  by_cases e : j = i.toNat
  · simp [e]
  · simp [e]
def ibw (b : Bool) (x : Int) : Int := if b then x % 2 else ib8 x
theorem ibw_in (b : Bool) (x : Int) : in32 (ibw b x) := by
  unfold ibw
  split
  · unfold in32; omega
  · exact ib8_in x
theorem nar_z {x : Int} (hx : in32 x) : narrow .boolean (.int (oI x)) = .int (oI (x % 2)) := by
  show Value.int (oI x &&& 1) = _
  congr 1
  apply Int32.toInt_inj.mp
  rw [toI_in (x := x % 2) (by unfold in32; omega)]
  have h := pk_and (oI x) (m := 1) 1 (by decide)
  rw [h, nI_toInt (by omega)]
  have e : ((oI x).toBitVec.toNat : Int) = x % 4294967296 := by
    have e2 : (oI x).toBitVec = BitVec.ofInt 32 x := rfl
    rw [e2, BitVec.toNat_ofInt]
    omega
  omega
theorem r_bastore {a : Nat} {i x : Int} (hd : decode y.2.1 pc = .ok (.bastore, 1)) (b : Bool) (hk : kd T a = if b then 22 else 21) (ha : a < nx T) (h0 : 0 ≤ i) (h1 : i < (ln T a : Int)) (kk : Ev G y d (pc + 1) lv st T (up2 I a i.toNat (ibw b x)) Q) : Ev G y d pc lv (aI x :: aI i :: aR a :: st) T I Q := by
  have hk1 : kd T a = 21 ∨ kd T a = 22 := by cases b <;> simp_all
  refine Ev.wr (Nat.le_refl _) (Nat.le_refl _) (fun h1 h2 => ⟨h1.tl.tl.tl, h2.upI (by omega) (ibw_in b x)⟩) (fun hh g2 p l e R s m args below meth c C H locs cells slots ls Qf hR hS hL hc hs kk2 => ?_) kk
  rw [Nat.sub_self, Nat.sub_self, Nat.add_zero, Nat.add_zero] at kk2
  have hv : ∀ j, elV G T (up2 I a i.toNat (ibw b x)) a j = if j = i.toNat then .int (oI (ibw b x)) else elV G T I a j := by
    intro j
    rw [elI (by omega) (by omega), elI (by omega) (by omega)]
    unfold up2
    by_cases e : j = i.toNat
    · simp [e]
    · simp [e]
  cases b with
  | true =>
    have hk2 : kd T a = 22 := hk
    refine W.zast C.1 C.2.1 ((hR.cell ha).arr hk2 (by omega)) ((tyOf (k := 2) rfl C.2.2.2.2.2.1).1 _ _) (fun q => by cases q) (arr_in hh.tl.hdI h0 h1) rfl rfl hd (fun H' e z oq => ?_)
    rw [clampI hh.tl.hdI h0, nar_z hh.hdI] at e
    exact kk2 H' _ (put_arr hR hk2 (by omega) ha hv e z oq) (hS.put z oq (show gh G ≤ gh G + a by omega))
  | false =>
    have hk2 : kd T a = 21 := hk
    refine W.bast C.1 C.2.1 ((hR.cell ha).arr hk2 (by omega)) ((tyOf (k := 1) rfl C.2.2.2.2.2.1).1 _ _) (fun q => by cases q) (arr_in hh.tl.hdI h0 h1) rfl rfl hd (fun H' e z oq => ?_)
    rw [clampI hh.tl.hdI h0, show narrow .byte (.int (oI x)) = .int (oI (ibw false x)) by show Value.int (oI x).toInt8.toInt32 = _; congr 1; exact (o_toI _).symm] at e
    exact kk2 H' _ (put_arr hR hk2 (by omega) ha hv e z oq) (hS.put z oq (show gh G ≤ gh G + a by omega))
theorem r_aastore {a b : Nat} {i : Int} (cks : ∀ ci, ci < 13 → CK ci) (hd : decode y.2.1 pc = .ok (.aastore, 1)) (hk : kd T a = 24) (ha : a < nx T) (hkb : kd T b = 9) (hb : b < nx T) (h0 : 0 ≤ i) (h1 : i < (ln T a : Int)) (kk : Ev G y d (pc + 1) lv st (kd T, ln T, upr (rf T) a i.toNat (some b), nx T, sl T) I Q) : Ev G y d pc lv (aR b :: aI i :: aR a :: st) T I Q := by
  refine Ev.wr (T2 := (kd T, ln T, upr (rf T) a i.toNat (some b), nx T, sl T)) (Nat.le_refl _) (Nat.le_refl _) (fun h1 h2 => ⟨h1.tl.tl.tl, h2⟩) (fun hh g2 p l e R s m args below meth c C H locs cells slots ls Qf hR hS hL hc hs kk2 => ?_) kk
  rw [show nx (kd T, ln T, upr (rf T) a i.toNat (some b), nx T, sl T) = nx T from rfl, show sl (kd T, ln T, upr (rf T) a i.toNat (some b), nx T, sl T) = sl T from rfl, Nat.sub_self, Nat.sub_self, Nat.add_zero, Nat.add_zero] at kk2
  obtain ⟨hx, hb0, hml, hown, hts, hst, -⟩ := C
  obtain ⟨cellV, g1, g2, g3, -⟩ := (hR.cell hb).obj hkb (by omega)
  have hq : vwCl[9]? = some (RX9, TX9, 14) := rfl
  have hcls := (hst.1.1 9 _ hq).2
  obtain ⟨kA, comp, k1, k2, k3, -⟩ := (tyOf (k := 4) rfl hst).2
  have hcomp : comp = (gD G).1 9 := Option.some.inj (k3.symm.trans hcls.1)
  subst hcomp
  obtain ⟨kC, hkC, -⟩ := hcls.2
  have hca := (hR.cell ha).arr hk (by omega)
  have hi := hh.tl.hdI
  refine W.aast hx hb0 hca (fun q h => by cases h) (fun h => by cases h) k1 k2 rfl hkC ⟨o_not_neg hi h0, by rw [arrV_size, clampI hi h0]; omega⟩ g1 (fun q h => by rw [g3] at h; cases h) (by rw [g2]; exact hkC) (by rw [g2]; exact va_assign hcls) rfl rfl hd (fun H' e z oq => ?_)
  rw [clampI hi h0] at e ⊢
  refine kk2 H' _ (hR.put (a := a) rfl z oq (fun c hc => ⟨rfl, rfl, fun j => ?_, fun j => rfl⟩) (fun _ => ?_)) (hS.put z oq (show gh G ≤ gh G + a by omega))
  · show upr (rf T) a _ _ c j = _
    unfold upr; rw [if_neg (fun z => hc z.1)]
  · unfold cellAt
    rw [show kd (kd T, ln T, upr (rf T) a i.toNat (some b), nx T, sl T) a = 24 from hk, if_neg (by omega), e, arrV_store]
    congr 2
    funext j
    rw [elR (T := (kd T, ln T, upr (rf T) a i.toNat (some b), nx T, sl T)) hk]
    rw [show rf (kd T, ln T, upr (rf T) a i.toNat (some b), nx T, sl T) a j = upr (rf T) a i.toNat (some b) a j from rfl]
    unfold updV upr
    by_cases e : j = i.toNat
    · simp [e, va_rf]
    · simp [e, elR hk]
end MemRows

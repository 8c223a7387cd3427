section C83
variable {G : Gl} {d : Nat} {T : Sh} {I : Mi} {N : Nat → Int} {Q : Option AV → Sh → Mi → Prop}
theorem StF_of {p : Program} {s : State} {m : MethodId} {meth : Method} {c : Code} {b L : Nat} {xs : Nat → Int32} (C0 : lw_At p s m meth c b L xs) : ∃ G : Gl, gh G = s.heap.size ∧ gL G = L ∧ gx G 0 = b ∧ StF G s := by
  obtain ⟨hx, hb, hr, hml, hown, hts, hX, hbl, hlocks, hgv⟩ := C0
  have hgw : ∀ w ∈ goodW, w.before #[Value.ref b] s = true := fun w hw => hts w (List.mem_filter.mp hw).1
  have hfl := flat_of_before _ hgv
  have hA : ∀ a : Nat, a < s.heap.size → ¬ (fun q : Nat => s.heap.size ≤ q) a := fun a ha => Nat.not_le.mpr ha
  have hcl : ∀ k : Nat, ∃ q : ClassId × (Nat → Nat), ∀ qq, vwCl[k]? = some qq → u_Kn s qq.1 qq.2.1 qq.2.2 q.1 q.2 := by
    intro k
    by_cases hk : k < 13
    · obtain ⟨q', hq', hin, -, -⟩ := cks k hk
      obtain ⟨cC, iS, h⟩ := u_known hgw hin (hgw _ (inst_all k hk q' hq'))
      exact ⟨(cC, iS), fun qq hqq => by cases hq'.symm.trans hqq; exact h⟩
    · exact ⟨(0, fun _ => 0), fun qq hqq => absurd (get_lt hqq) (by show ¬ k < 13; exact hk)⟩
  obtain ⟨D, hD⟩ := Classical.axiomOfChoice hcl
  obtain ⟨cI, kI, pI, i1, i2, i3⟩ := Cond.arrayClass_spec (hgw _ aw_int)
  obtain ⟨cB, kB, pB, j1, j2, j3⟩ := Cond.arrayClass_spec (hgw _ aw_byte)
  obtain ⟨cZ, kZ, pZ, z1, z2, z3⟩ := Cond.arrayClass_spec (hgw _ aw_boolean)
  obtain ⟨cL, kL, pL, l1, l2, l3⟩ := Cond.arrayClass_spec (hgw _ aw_long)
  have hao : (Cond.arrayOver (.object RX9)).before #[Value.ref b] s = true := (hts _ (List.mem_append_right _ (tb_2 (List.mem_of_getElem? (i := 23) (by decide +kernel)))))
  obtain ⟨pO, cO, kO, o1, o2, o3, o4, o5⟩ := Cond.arrayOver_spec hao
  have n1 := nw_ar3 "LEAST" (by decide)
  have n2 := nw_ar3 "MOST" (by decide)
  have n3 := nw_ar3 "USUAL" (by decide)
  obtain ⟨a1, e1, x1, b1⟩ := st_row (t := stT "LEAST") (xs := fun j => oI (eLeast j)) (hfl _ n1.1) (hfl _ n1.2.1) (fun j hj => hfl _ (nw_el1 j hj))
  obtain ⟨a2, e2, x2, b2⟩ := st_row (t := stT "MOST") (xs := fun j => oI (eMost j)) (hfl _ n2.1) (hfl _ n2.2.1) (fun j hj => hfl _ (nw_el2 j hj))
  obtain ⟨a3, e3, x3, b3⟩ := st_row (t := stT "USUAL") (xs := fun j => oI (eUsual j)) (hfl _ n3.1) (hfl _ n3.2.1) (fun j hj => hfl _ (nw_el3 j hj))
  have hRI : va_RA s cI .int := i1
  have hscr : ∃ scr : Cell, s.heap[a3]? = some scr ∧ scr.cls = cI := by
    obtain ⟨a, c2, cell, k, q1, q2, q3, q4, q5, q6, -⟩ := Cond.exactly_spec (hfl _ n3.2.2)
    cases e3.symm.trans q1
    have := (va_nm_int hRI).symm.trans q2
    cases this
    exact ⟨cell, q3, q6⟩
  obtain ⟨fl, aF, hF⟩ : ∃ (fl : Bool) (t : Nat), va_Z "jdk/internal/util/Preconditions" "SIOOBE_FORMATTER" "Ljava/util/function/BiFunction;" (if fl = true then .null else .ref t) (fun q : Nat => s.heap.size ≤ q) s s.heap := by
    rcases va_Zqof (A := fun q : Nat => s.heap.size ≤ q) (hts _ (List.mem_append_right _ (tb_3 (List.mem_of_getElem? (i := 9) (by decide +kernel))))) (hts _ (List.mem_append_right _ (tb_1 (List.mem_of_getElem? (i := 19) (by decide +kernel))))) (hfl _ nw_co.2) hA with h | ⟨t, h⟩
    · exact ⟨true, 0, h⟩
    · exact ⟨false, t, h⟩
  obtain ⟨adK, adV, hS, hE⟩ := vk_Sof (args := #[Value.ref b]) (s := s) (N := 9) (tm := sgT) (len := sLen) (byt := sByt) (A := fun q : Nat => s.heap.size ≤ q) (by decide +kernel) (fun i hi => hfl _ (nw_ex i hi).1) (fun i hi => hfl _ (nw_ex i hi).2.1) (fun i hi => hfl _ (nw_ex i hi).2.2.1) (fun i hi => hfl _ (nw_ex i hi).2.2.2) (fun i hi j hj => hfl _ (nw_sl i hi j hj)) (fun i j hi hj hij => (nw_ne i hi j hj hij).imp (hfl _) (hfl _)) hA
  obtain ⟨gxf, g0, g1, g2, g3, g22, gk, gv⟩ : ∃ gxf : Nat → Nat, gxf 0 = b ∧ gxf 1 = a1 ∧ gxf 2 = a2 ∧ gxf 3 = a3 ∧ gxf 22 = aF ∧ (∀ i, i < 9 → gxf (4 + i) = adK i) ∧ ∀ i, i < 9 → gxf (13 + i) = adV i := by
    refine ⟨fun k => if k = 0 then b else if k = 1 then a1 else if k = 2 then a2 else if k = 3 then a3 else if k = 22 then aF else if k < 13 then adK (k - 4) else adV (k - 13), rfl, rfl, rfl, rfl, rfl, fun i hi => ?_, fun i hi => ?_⟩
    · show (if 4 + i = 0 then b else if 4 + i = 1 then a1 else if 4 + i = 2 then a2 else if 4 + i = 3 then a3 else if 4 + i = 22 then aF else if 4 + i < 13 then adK (4 + i - 4) else adV (4 + i - 13)) = adK i
      rw [if_neg (by omega), if_neg (by omega), if_neg (by omega), if_neg (by omega), if_neg (by omega), if_pos (by omega), show 4 + i - 4 = i by omega]
    · show (if 13 + i = 0 then b else if 13 + i = 1 then a1 else if 13 + i = 2 then a2 else if 13 + i = 3 then a3 else if 13 + i = 22 then aF else if 13 + i < 13 then adK (13 + i - 4) else adV (13 + i - 13)) = adV i
      rw [if_neg (by omega), if_neg (by omega), if_neg (by omega), if_neg (by omega), if_neg (by omega), if_neg (by omega), show 13 + i - 13 = i by omega]
  refine ⟨(s.heap.size, gxf, (fun k => (D k).1, fun k => (D k).2), fun k => if k = 20 then cI else if k = 21 then cB else if k = 22 then cZ else if k = 23 then cL else cO, L, xs, fl), rfl, rfl, g0, ⟨fun k q hq => hD k q hq, fun k q hq => ?_⟩, fun w hw => va_Nw.of (nest_on (List.mem_filter.mp hw).2) (hts w (List.mem_append_right _ (List.mem_filter.mp hw).1)), ⟨Nat.le_refl _, fun e he => ?_, ?_, fun e he => ?_, va_Zof (hts _ (List.mem_append_right _ (tb_2 (List.mem_of_getElem? (i := 233) (by decide +kernel))))) (hts _ (List.mem_append_right _ (tb_1 (List.mem_of_getElem? (i := 17) (by decide +kernel))))) (va_eqt (hfl _ nw_co.1)) hA, ?_, ⟨fun i hi => ?_, fun i j hi hj he => ?_⟩⟩, fun i hi => ?_, va_AO.of hao⟩
  · have h : k = 0 ∨ k = 1 ∨ k = 2 ∨ k = 3 ∨ k = 4 := by have := get_lt hq; have h5 : k < 5 := this; omega
    rcases h with rfl | rfl | rfl | rfl | rfl
    · cases hq; exact ⟨fun N z => ⟨(fun k h => by cases h), kI, i2, pI, i3⟩, i1⟩
    · cases hq; exact ⟨fun N z => ⟨(fun k h => by cases h), kB, j2, pB, j3⟩, j1⟩
    · cases hq; exact ⟨fun N z => ⟨(fun k h => by cases h), kZ, z2, pZ, z3⟩, z1⟩
    · cases hq; exact ⟨fun N z => ⟨(fun k h => by cases h), kL, l2, pL, l3⟩, l1⟩
    · cases hq; exact ⟨fun N z => ⟨(fun k h => by cases h), kO, o3, pO, o4⟩, ⟨kO, pO, o3, o4, o1, o5⟩⟩
  · have h : e = 0 ∨ e = 1 ∨ e = 2 ∨ e = 3 := by omega
    rcases h with rfl | rfl | rfl | rfl
    · show va_X (gxf 0) L xs s s.heap ∧ gxf 0 < s.heap.size
      rw [g0]; exact ⟨hX, hbl⟩
    · show va_X (gxf 1) 9 (fun j => oI (eLeast j)) s s.heap ∧ gxf 1 < s.heap.size
      rw [g1]; exact ⟨x1, b1⟩
    · show va_X (gxf 2) 9 (fun j => oI (eMost j)) s s.heap ∧ gxf 2 < s.heap.size
      rw [g2]; exact ⟨x2, b2⟩
    · show va_X (gxf 3) 9 (fun j => oI (eUsual j)) s s.heap ∧ gxf 3 < s.heap.size
      rw [g3]; exact ⟨x3, b3⟩
  · show ∃ scr : Cell, s.heap[gxf 3]? = some scr ∧ scr.cls = cI
    rw [g3]; exact hscr
  · have h : e = 0 ∨ e = 1 ∨ e = 2 := by omega
    rcases h with rfl | rfl | rfl
    · show va_Z "KeyDesk" "LEAST" "[I" (.ref (gxf 1)) _ s s.heap
      rw [g1]; exact va_Zof (hts _ (List.mem_append_right _ (tb_3 (List.mem_of_getElem? (i := 41) (by decide +kernel))))) (hts _ (List.mem_append_right _ (tb_1 (List.mem_of_getElem? (i := 1) (by decide +kernel))))) e1 hA
    · show va_Z "KeyDesk" "MOST" "[I" (.ref (gxf 2)) _ s s.heap
      rw [g2]; exact va_Zof (hts _ (List.mem_append_right _ (tb_3 (List.mem_of_getElem? (i := 43) (by decide +kernel))))) (hts _ (List.mem_append_right _ (tb_1 (List.mem_of_getElem? (i := 1) (by decide +kernel))))) e2 hA
    · show va_Z "KeyDesk" "USUAL" "[I" (.ref (gxf 3)) _ s s.heap
      rw [g3]; exact va_Zof (hts _ (List.mem_append_right _ (tb_1 (List.mem_of_getElem? (i := 37) (by decide +kernel))))) (hts _ (List.mem_append_right _ (tb_1 (List.mem_of_getElem? (i := 1) (by decide +kernel))))) e3 hA
  · cases fl with
    | true => exact hF
    | false =>
      show va_Z _ _ _ (.ref (gxf 22)) _ s s.heap
      rw [g22]; exact hF
  · show va_O _ (gxf (4 + i)) _ s s.heap ∧ va_OF _ _ _ _ (gxf (4 + i)) _ s s.heap ∧ va_OF _ _ _ (.ref (gxf (13 + i))) (gxf (4 + i)) _ s s.heap ∧ va_T _ (gxf (13 + i)) _ _ _ s s.heap
    rw [gk i hi, gv i hi]; exact hS.1 i hi
  · exact hS.2 i j hi hj (by rw [← gk i hi, ← gk j hj]; exact he)
  · show vk_R RX7 (94 + 2 * i) (sTxt.getD i "") (gxf (4 + i)) s
    rw [gk i hi]
    refine vk_R.of ?_ (hE i hi)
    have h : i = 0 ∨ i = 1 ∨ i = 2 ∨ i = 3 ∨ i = 4 ∨ i = 5 ∨ i = 6 ∨ i = 7 ∨ i = 8 := by omega
    rcases h with rfl | rfl | rfl | rfl | rfl | rfl | rfl | rfl | rfl
    · exact (hts _ (List.mem_append_right _ (tb_2 (List.mem_of_getElem? (i := 211) (by decide +kernel)))))
    · exact (hts _ (List.mem_append_right _ (tb_2 (List.mem_of_getElem? (i := 212) (by decide +kernel)))))
    · exact (hts _ (List.mem_append_right _ (tb_2 (List.mem_of_getElem? (i := 213) (by decide +kernel)))))
    · exact (hts _ (List.mem_append_right _ (tb_2 (List.mem_of_getElem? (i := 214) (by decide +kernel)))))
    · exact (hts _ (List.mem_append_right _ (tb_2 (List.mem_of_getElem? (i := 215) (by decide +kernel)))))
    · exact (hts _ (List.mem_append_right _ (tb_2 (List.mem_of_getElem? (i := 216) (by decide +kernel)))))
    · exact (hts _ (List.mem_append_right _ (tb_2 (List.mem_of_getElem? (i := 217) (by decide +kernel)))))
    · exact (hts _ (List.mem_append_right _ (tb_2 (List.mem_of_getElem? (i := 218) (by decide +kernel)))))
    · exact (hts _ (List.mem_append_right _ (tb_2 (List.mem_of_getElem? (i := 219) (by decide +kernel)))))
end C83

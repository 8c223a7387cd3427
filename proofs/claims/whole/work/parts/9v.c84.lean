section C84
variable {G : Gl} {d : Nat} {T : Sh} {I : Mi} {N : Nat → Int} {Q : Option AV → Sh → Mi → Prop}
theorem whole_start {p : Program} {e : Env} {s : State} {m : MethodId} {below : List Frame} {meth : Method} {c : Code} (l : Launch) (hflags : l.flags = flags0) {b L : Nat} {xs : Nat → Int32} (hL : L ≤ 3072) (C0 : lw_At p s m meth c b L xs) : W p l e room_1 s m #[Value.ref b] below meth c s.heap [] 0 0 (lw_Z below #[Value.ref b] s) (entryFrame m ([Value.ref b] : List Value).toArray 4) := by
  obtain ⟨G, hgh, hgL, hgx, hSt⟩ := StF_of C0
  obtain ⟨hx, hb, hr, hml, hown, hts, hX, hbl, hlocks, hgv⟩ := C0
  obtain ⟨v, T', I', ⟨hv, hn, hs⟩, n1, n2, n3, n4, n5, n6⟩ := law_main (G := G) (d := 12) (by decide) (by omega) ⟨fun v hv => by simp at hv; subst hv; trivial, fun v hv => by cases hv⟩ (fun a ha => absurd ha (Nat.not_lt_zero a))
  subst hv
  have hl := lv_entry ([.ref b]) (n := 4) (Nat.le_of_ble_eq_true rfl)
  rw [lg_entry_eq]
  generalize (lg_sl ([.ref b]) ++ List.replicate (4 - (lg_sl ([.ref b])).length) Slot.unset).toArray = ls at hl ⊢
  have hl : lv_has ls 4 [(0, .ref b)] := hl
  refine n6 p l e room_1 s m #[Value.ref b] below meth c ⟨hx, hb, hml, hown, fun w hw => hts w (List.mem_filter.mp hw).1, hSt, by decide, by decide, fun h => absurd h (by decide +kernel)⟩ s.heap [] 0 0 ls _ ⟨by rw [hgh]; rfl, fun a ha => absurd ha (Nat.not_lt_zero a)⟩ va_S.rf ?_ ?_ ⟨hl.1, hl.2.1, fun i v hv => ?_⟩ (fun H' locs' ls' pc' hret hR' hS' => ?_)
  · show 0 + (nx T' - 0) ≤ 600000
    omega
  · show 0 + (sl T' - 0) ≤ 7302250
    omega
  · have hi : i = 0 := by
      match i, hv with
      | 0, _ => rfl
      | 1, hv => simp at hv
      | 2, hv => simp at hv
      | 3, hv => simp at hv
      | i + 4, hv => simp at hv
    subst hi
    have hv0 : v = aE 0 := by simpa using hv.symm
    subst hv0
    show ls[0]? = some (.val (.ref (gx G 0)))
    rw [hgx]
    exact lv_at hl 0 rfl
  · refine va_forget (fun q hq => by have := hS'.2.2 q hq; show s.heap.size ≤ q.base; rw [← hgh]; exact this) ?_
    refine W.widen (k := 600000) (n := 7302250) ?_ ?_ ?_
    · show 0 + (nx T' - 0) ≤ 600000
      omega
    · show 0 + (sl T' - 0) ≤ 7302250
      omega
    · exact lw_ret hx hb hr hlocks hret
end C84

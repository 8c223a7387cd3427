section C74
variable {G : Gl} {d : Nat} {T : Sh} {I : Mi} {N : Nat → Int} {Q : Option AV → Sh → Mi → Prop}
def LKD : List En := sB 274 LX12_init (sB 0 LX11_init [])
def A0 : AN := fun i => (sN i + 8, sN i + 9, sN i + 10, 64)
theorem At.look0 {T0 U : Sh} {I0 K : Mi} {m : Nat} {l : List En} (h : At T0 I0 U K 0 l m) {i ci s : Nat} (he : (l[i]?).map kl = some (ci, s)) : kd U i = ci ∧ ln U i = s ∧ i < nx U := by
  have h1 := h.look he
  rw [Nat.zero_add] at h1
  exact h1
theorem At.ref0 {T0 U : Sh} {I0 K : Mi} {m : Nat} {l : List En} (h : At T0 I0 U K 0 l m) {i k b : Nat} (he : (l[i]?).bind (fun e => e.2.2.2 k) = some b) : rf U i k = some b := by
  obtain ⟨e, e1, e2⟩ := Option.bind_eq_some_iff.mp he
  have h3 := (h.2.2.2 _ e e1).2.2.2 k
  rw [Nat.zero_add, e2] at h3
  rw [h3]
  show some (0 + b) = some b
  rw [Nat.zero_add]
theorem At.row0 {T0 U : Sh} {I0 K : Mi} {m : Nat} {l : List En} (h : At T0 I0 U K 0 l m) (i n : Nat) (f : Nat → Nat) (r : Nat → Int) (he : (l[i]?).map (fun e => (List.range n).map (fun k => e.2.2.1 (f k))) = some ((List.range n).map r)) : ∀ k, k < n → K i (f k) = r k := by
  have h1 := h.row i n f r he
  rw [Nat.zero_add] at h1
  exact h1
theorem LKD_len : LKD.length = 291 := by decide +kernel
theorem LKD_tab : ∀ q ∈ tabK, (LKD[q.1]?).map kl = some (q.2.1, q.2.2) := by decide +kernel
theorem LKD_ref : ∀ q ∈ refK, (LKD[q.1]?).bind (fun e => e.2.2.2 q.2.1) = some q.2.2 := by decide +kernel
theorem LKD_ring : ∀ k, k < 12 → (LKD[25]?).bind (fun e => e.2.2.2 k) = some (sN (k + 1)) := by decide +kernel
theorem LKD_img : ∀ k, k < 2 → (LKD[206]?).bind (fun e => e.2.2.2 k) = some (sN (k + 14)) := by decide +kernel
theorem LKD_S1 : ∀ i, i < 16 → ∀ q ∈ tabS, (LKD[sN i + q.1]?).map kl = some (q.2.1, q.2.2) := by decide +kernel
theorem LKD_S2 : ∀ i, i < 16 → ∀ q ∈ objS, (LKD[sN i + q.1]?).map kl = some (q.2, 0) := by decide +kernel
theorem LKD_S3 : ∀ i, i < 16 → ∀ q ∈ refS, (LKD[sN i + q.1]?).bind (fun e => e.2.2.2 q.2.1) = some (sN i + q.2.2) := by decide +kernel
theorem LKD_S4 : ∀ i, i < 16 → (LKD[sN i + 7]?).bind (fun e => e.2.2.2 1) = some (sN i + 8) ∧ (LKD[sN i + 7]?).bind (fun e => e.2.2.2 2) = some (sN i + 9) ∧ (LKD[sN i + 7]?).bind (fun e => e.2.2.2 3) = some (sN i + 10) ∧ (LKD[sN i + 8]?).map kl = some (20, 64) ∧ (LKD[sN i + 9]?).map kl = some (20, 64) ∧ (LKD[sN i + 10]?).map kl = some (23, 256) := by decide +kernel
theorem KSh0 {T0 V : Sh} {I0 J : Mi} {m : Nat} (h : At T0 I0 V J 0 LKD m) (hm : sl T0 + m ≤ 500000) (hM : ShM V) : KSh V A0 := by
  have hn : nx V = 291 := by rw [h.1, LKD_len]
  have hcs : csum A0 16 = 1024 := by decide +kernel
  refine ⟨⟨by omega, fun q hq => ?_, fun q hq => h.ref0 (LKD_ref q hq), fun k hk => h.ref0 (LKD_ring k hk), fun k hk => h.ref0 (LKD_img k hk)⟩, hM, fun i hi => ?_, fun i j hi hj hij => ?_, ?_, ?_⟩
  · have := h.look0 (LKD_tab q hq)
    exact ⟨this.1, this.2.1⟩
  · have hs := sN_le hi
    obtain ⟨r1, r2, r3, k1, k2, k3⟩ := LKD_S4 i hi
    have g1 := h.look0 k1
    have g2 := h.look0 k2
    have g3 := h.look0 k3
    show ShS V (sN i) (sN i + 8) (sN i + 9) (sN i + 10) 64
    refine ⟨⟨by omega, by omega, fun q hq => ?_, fun q hq => (h.look0 (LKD_S2 i hi q hq)).1, fun q hq => h.ref0 (LKD_S3 i hi q hq)⟩, ⟨h.ref0 r1, h.ref0 r2, h.ref0 r3, g1.1, g2.1, g3.1, g1.2.1, g2.2.1, g3.2.1⟩, ⟨g1.2.2, g2.2.2, g3.2.2, Or.inl rfl, Or.inl rfl, Or.inl rfl, by omega, by omega, by omega⟩, 0, by decide, rfl⟩
    have := h.look0 (LKD_S1 i hi q hq)
    exact ⟨this.1, this.2.1⟩
  · have := sN_dj hi hj hij
    show apL (sN i + 8) (sN i + 9) (sN i + 10) (sN j + 8) (sN j + 9) (sN j + 10)
    unfold apL
    omega
  · rw [hcs, h.2.1]; omega
  · rw [hcs, hn]; decide
theorem St_beg2 {L N : Nat → Int} {K : Mi} {s p o t : Nat} (h9 : ∀ j, j < 9 → K s j = if j = 5 then -1 else 0) (h12 : K (s + 3) 0 = 0) (h16 : K (s + 7) 0 = 0) (h20 : ∀ j, j < 7 → K (s + 11) j = if j = 5 ∨ j = 6 then -1 else 0) : StR L K s p o t (begins N) := by
  obtain ⟨b0, b1, b2, b3, b4, b5, b6, b7, b8, b9, b10, b11, b12⟩ := beg_at (N := N)
  have hg : sgV L (begins N) = 0 := if_pos b0
  have hn : nN (begins N) = 0 := by unfold nN; rw [b1]; rfl
  have ht : tN (begins N) = 0 := by unfold tN; rw [b3]; rfl
  refine ⟨⟨?_, ?_, ?_, ?_, ?_, ?_, ?_, ?_, ?_⟩, fun k hk => absurd hk (by rw [hg]; exact Nat.not_lt_zero k), fun q hq => absurd hq (by rw [b2]; exact Nat.not_lt_zero q), ⟨by rw [h12, b1], fun k hk => absurd hk (by rw [hn]; exact Nat.not_lt_zero k)⟩, ⟨by rw [h16, b3], fun k hk => absurd hk (by rw [ht]; exact Nat.not_lt_zero k)⟩, ?_, ?_, ?_, ?_, fun i hi => absurd hi (by rw [b6]; exact Nat.not_lt_zero i), fun h => absurd h (by rw [b6]; decide)⟩
  · rw [h9 0 (by decide), b0]; rfl
  · rw [h9 1 (by decide), b8]; rfl
  · rw [h9 2 (by decide), hg]; rfl
  · rw [h9 3 (by decide), hg]; rfl
  · rw [h9 4 (by decide), b4]; rfl
  · rw [h9 5 (by decide), b5]; rfl
  · rw [h9 6 (by decide), b2]; rfl
  · rw [h9 7 (by decide), b12]; rfl
  · rw [h9 8 (by decide), b7]; rfl
  · rw [h20 0 (by decide), b6]; rfl
  · rw [h20 4 (by decide), b9]; rfl
  · rw [h20 5 (by decide), b10]; rfl
  · rw [h20 6 (by decide), b11]; rfl
theorem KC0 {T0 V : Sh} {I0 J M : Mi} {m : Nat} {L Bt W P Y N : Nat → Int} (h : At T0 I0 V J 0 LKD m) (hf : ∀ b, b < 274 → M b = J b) (hL : ∀ k, k < 9 → L k = eUsual k) (hY : ∀ k, k < 2 → Y k = 0) : KC M A0 0 L Bt 0 0 W P Y (begins N) := by
  have hpl : plOk L := plOk_of (fun q hq => by rw [hL q hq]; exact us_rng q hq)
  have r3 := h.row0 3 9 (fun k => k) eUsual (by decide +kernel)
  have r0 := h.row0 0 2 (fun k => k) (fun _ => 0) (by decide +kernel)
  have r9 := h.row0 9 9 (fun k => k) (fun j => if j = 5 then -1 else 0) (by decide +kernel)
  have r12 := h.row0 12 1 (fun k => k) (fun _ => 0) (by decide +kernel)
  have r16 := h.row0 16 1 (fun k => k) (fun _ => 0) (by decide +kernel)
  have r20 := h.row0 20 7 (fun k => k) (fun j => if j = 5 ∨ j = 6 then -1 else 0) (by decide +kernel)
  have r24 := h.row0 24 3 (fun k => k) (fun _ => 0) (by decide +kernel)
  have r207 := h.row0 207 2 (fun k => k) (fun _ => 0) (by decide +kernel)
  obtain ⟨b0, b1, b2, b3, _⟩ := beg_at (N := N)
  have ht : tN (begins N) = 0 := by unfold tN; rw [b3]; rfl
  have h26 := hpl.2.2.2.2.2.2.1.1
  refine ⟨⟨fun k hk => by rw [hf 3 (by decide), hL k hk]; exact r3 k hk, hpl⟩, ⟨by rw [hf 0 (by decide)]; exact r0 1 (by decide), by decide, fun k hk => absurd hk (Nat.not_lt_zero k)⟩, ⟨St_beg2 (fun j hj => ?_) ?_ ?_ (fun j hj => ?_), by rw [ht]; exact Nat.zero_le _, ⟨0, _, NOk_beg⟩, by rw [b2]; omega⟩, ⟨by decide, ⟨by rw [hf 24 (by decide)]; exact r24 2 (by decide), by rw [hf 24 (by decide)]; exact r24 1 (by decide)⟩, fun j hj => absurd hj (Nat.not_lt_zero j)⟩, fun k hk => ⟨⟨fun _ => hY k hk, fun _ => by rw [hf 207 (by decide)]; exact r207 k hk⟩, fun g => absurd (hY k hk) g⟩⟩
  · rw [hf (sN 0) (by decide)]; exact r9 j hj
  · rw [hf (sN 0 + 3) (by decide)]; exact r12 0 (by decide)
  · rw [hf (sN 0 + 7) (by decide)]; exact r16 0 (by decide)
  · rw [hf (sN 0 + 11) (by decide)]; exact r20 j hj
end C74

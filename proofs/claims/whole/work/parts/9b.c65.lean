section C65
variable {G : Gl} {d : Nat} {T : Sh} {I : Mi} {N : Nat → Int} {Q : Option AV → Sh → Mi → Prop}
theorem nm_9 {T : Sh} {A : AN} {j : Nat} (hK : KSh T A) (hj : j < 16) : 9 ≤ (A j).1 ∧ 9 ≤ (A j).2.1 ∧ 9 ≤ (A j).2.2.1 := by
  have h1 := neS (hK.2.2.1 j hj)
  have h2 := sN_le hj
  omega
theorem SRel_hi {L : Nat → Int} {T : Sh} {I K : Mi} {A : AN} {j : Nat} {M : Nat → Int} (hK : KSh T A) (hj : j < 16) (h : ∀ b, 9 ≤ b → K b = I b) (hr : SRel L I A j M) : SRel L K A j M := by
  obtain ⟨h1, h2, h3⟩ := hr
  have q2 := nm_9 hK hj
  have q1 := sN_le hj
  exact ⟨StR_eq h1 (fun k hk _ _ _ => h _ (by omega)) (h _ q2.1) (h _ q2.2.1) (h _ q2.2.2), h2, h3⟩
/-- the tape, the plan and the reader alone were changed -/
theorem KC_low {T : Sh} {I K : Mi} {A : AN} {tp tp2 u e : Nat} {L Bt Bt2 W P Y N : Nat → Int} (hK : KSh T A) (h : KC I A tp L Bt u e W P Y N) (hf : ∀ b, 9 ≤ b → K b = I b) (h3 : K 3 = I 3) (h0 : K 0 1 = (tp2 : Int)) (ht : tp2 ≤ 200) (h1 : ∀ k, k < tp2 → K 1 k = ian (Bt2 k) 255) : KC K A tp2 L Bt2 u e W P Y N := by
  obtain ⟨⟨a1, a1b⟩, _, a3, ⟨a4, a5, a6⟩, a7⟩ := h
  refine ⟨⟨fun k hk => by rw [h3]; exact a1 k hk, a1b⟩, ⟨h0, ht, h1⟩, SRel_hi hK (by decide) hf a3, ⟨a4, ⟨?_, ?_⟩, fun j hj => ?_⟩, fun k hk => ⟨?_, fun hy => ?_⟩⟩
  · rw [hf 24 (by decide)]; exact a5.1
  · rw [hf 24 (by decide)]; exact a5.2
  · have := ringI_le e u j
    exact SRel_hi hK (by omega) hf (a6 j hj)
  · rw [hf 207 (by decide)]; exact (a7 k hk).1
  · exact SRel_hi hK (by omega) hf ((a7 k hk).2 hy)
theorem sN_207 {j : Nat} (hj : j < 16) : sN j + 15 ≤ 207 ∨ 207 + 1 ≤ sN j := by
  unfold sN
  split
  · omega
  · split
    · omega
    · split <;> omega
theorem ag_img {N P : Nat → Int} {k : Nat} : agN N (wRow (cpyR N 0 P (17510 * k) (tN N + 3902)) k) := by
  intro i hi
  show cpyR N 0 P (17510 * k) (tN N + 3902) (17510 * k + i) = N i
  rw [cpyR_in (by omega), show 0 + (17510 * k + i - 17510 * k) = i by omega]
theorem kc_image {T U : Sh} {I K : Mi} {A : AN} {tp u e k p2 o2 t2 c2 q n : Nat} {L Bt W P Y N F : Nat → Int} (hK : KSh T A) (h : KC I A tp L Bt u e W P Y N) (hp : pOk P) (hk : k < 2) (hA : AcP T U I K (sN (k + 14)) (A (k + 14)).1 (A (k + 14)).2.1 (A (k + 14)).2.2.1 (A (k + 14)).2.2.2 p2 o2 t2 c2 L N q n 0 0) (hNo : NOk N q n) (hF : F = un (I 207) k 1) :
   KSh U (upA A (k + 14) (p2, o2, t2, c2)) ∧ (∀ b, 274 ≤ b → b < 291 → (sr K 207 F) b = I b) ∧ KC (sr K 207 F) (upA A (k + 14) (p2, o2, t2, c2)) tp L Bt u e W (cpyR N 0 P (17510 * k) (tN N + 3902)) (un Y k (ibw true 1)) N := by
  obtain ⟨⟨h1, h1b⟩, ⟨h2, h2b, h2c⟩, h3, ⟨h4, h5, h6⟩, h7⟩ := h
  have hT := hA.P
  have he : k + 14 < 16 := by omega
  have hS := hK.2.2.1 (k + 14) he
  have hKU := KSh_ext he hK hT.2.1.1 hT.1 hT.2.1.2
  have hsn : sN (k + 14) = 34 + 15 * (k + 14) := by unfold sN; rw [if_neg (by omega), if_neg (by omega), if_neg (by omega)]
  have hfb : ∀ b, b < 291 → (b < sN (k + 14) ∨ sN (k + 14) + 15 ≤ b) → b ≠ 207 → (sr K 207 F) b = I b := fun b b1 b2 b3 => (sr_ne b3).trans (hT.fr hS b1 b2 (by omega))
  have hf : ∀ b, (b = 0 ∨ b = 1 ∨ b = 3 ∨ b = 24) → (sr K 207 F) b = I b := fun b hb => hfb b (by omega) (by omega) (by omega)
  have hr : ∀ j M, j < 16 → j ≠ k + 14 → SRel L I A j M → SRel L (sr K 207 F) (upA A (k + 14) (p2, o2, t2, c2)) j M := fun j M hj hj0 hs =>
    SRel_fr hKU hj (z := 207) (w := 1) (fun b hb => sr_ne (by omega)) (sN_207 hj) (by decide) (SRel_tr hK he hj hj0 hT (by omega) (by decide) hs)
  have hnew : SRel L (sr K 207 F) (upA A (k + 14) (p2, o2, t2, c2)) (k + 14) N := by
    refine SRel_fr hKU he (z := 207) (w := 1) (I := K) (fun b hb => sr_ne (by omega)) (sN_207 he) (by decide) ?_
    unfold SRel
    rw [show upA A (k + 14) (p2, o2, t2, c2) (k + 14) = (p2, o2, t2, c2) from if_pos rfl]
    exact ⟨hA.2.2.2.1, hA.2.2.2.2.1, ⟨q, n, hNo⟩, h3.2.2.2⟩
  have htN := tN_b hNo.1.1
  refine ⟨hKU, fun b b1 b2 => hfb b b2 (Or.inr (by omega)) (by omega), ⟨fun k hk => ?_, h1b⟩, ⟨?_, h2b, fun k hk => ?_⟩, hr 0 N (by decide) (by omega) h3, ⟨h4, ⟨?_, ?_⟩, fun j hj => ?_⟩, fun k2 hk2 => ⟨?_, fun hy => ?_⟩⟩
  · rw [hf 3 (by omega)]; exact h1 k hk
  · rw [hf 0 (by omega)]; exact h2
  · rw [hf 1 (by omega)]; exact h2c k hk
  · rw [hf 24 (by omega)]; exact h5.1
  · rw [hf 24 (by omega)]; exact h5.2
  · have := ringI_le e u j
    exact hr _ _ (by omega) (by omega) (h6 j hj)
  · rw [sr_row, hF]
    by_cases g : k2 = k
    · subst g; rw [un_at, un_at]; exact ⟨fun h => absurd h (by decide), fun h => absurd h (by decide +kernel)⟩
    · rw [un_ne g, un_ne g]; exact (h7 k2 hk2).1
  · by_cases g : k2 = k
    · subst g; exact SRel_ag h1b hnew ag_img
    · rw [un_ne g] at hy
      refine SRel_ag h1b (hr _ _ (by omega) (by omega) ((h7 k2 hk2).2 hy)) (fun i hi => ?_)
      have hi2 : i < 17510 := by
        have hpk := hp k2 hk2
        have : tN (wRow P k2) ≤ 13608 := by show (P (17510 * k2 + 3)).toNat ≤ 13608; omega
        omega
      show cpyR N 0 P (17510 * k) (tN N + 3902) (17510 * k2 + i) = P (17510 * k2 + i)
      rw [cpyR_out (by omega)]
theorem b32_ius (x : Int) {s : Nat} (hs : s < 32) (k : Nat) : b32 (ius x (s : Int)) k = b32 x (s + k) := by
  have hsh : ∀ s : Nat, s < 32 → (((oI (s : Int)).toUInt32 &&& Int32.toUInt32 31).toBitVec % 32#32).toNat = s := by decide +kernel
  have e : b32 (ius x (s : Int)) k = ((oI x).toBitVec >>> (((oI (s : Int)).toUInt32 &&& Int32.toUInt32 31).toBitVec % 32)).getLsbD k := by
    unfold b32 ius
    rw [o_toI]
    rfl
  rw [e, BitVec.ushiftRight_eq', show ((((oI (s : Int)).toUInt32 &&& Int32.toUInt32 31).toBitVec % 32)).toNat = s from hsh s hs, BitVec.getLsbD_ushiftRight]
  rfl
theorem b32_ib8 (x : Int) {k : Nat} (hk : k < 8) : b32 (ib8 x) k = b32 x k := by
  unfold b32 ib8
  rw [o_toI, Int8.toBitVec_toInt32, BitVec.getLsbD_signExtend, Int32.toBitVec_toInt8, BitVec.getLsbD_signExtend]
  have : k < 32 := by omega
  simp [hk, this]
theorem b32_b8 (x : Int) {k : Nat} (hk : k < 8) : b32 (ibw false (ib8 x)) k = b32 x k := by
  rw [show ibw false (ib8 x) = ib8 (ib8 x) from rfl, b32_ib8 _ hk, b32_ib8 _ hk]
theorem lo8 {a : Int} {s : Nat} (hs : s ≤ 24) : ian (ius a (s : Int)) 255 = ian (ibw false (ib8 (isr a (s : Int)))) 255 := by
  refine ext32 (ian_in _ _) (ian_in _ _) (fun k hk => ?_)
  rw [b32_and, b32_and]
  have h255 : b32 255 k = decide (k < 8) := by
    rw [show (255 : Int) = ((2 ^ 8 - 1 : Nat) : Int) by decide, b32_nat, Nat.testBit_two_pow_sub_one]
    simp [hk]
  rw [h255]
  by_cases g : k < 8
  · rw [decide_eq_true g, Bool.and_true, Bool.and_true, b32_ius a (by omega) k, b32_b8 _ g, b32_shr a (by omega) (by omega)]
  · rw [decide_eq_false g, Bool.and_false, Bool.and_false]
end C65

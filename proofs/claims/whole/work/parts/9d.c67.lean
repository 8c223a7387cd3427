section C67
variable {G : Gl} {d : Nat} {T : Sh} {I : Mi} {N : Nat → Int} {Q : Option AV → Sh → Mi → Prop}
theorem feR_at {B : Nat → Int} {tp : Nat} {a b c e f : Int} : ∀ n, (∀ i, i < n → feR B tp a b c e f n (tp + i) = feB (feV a b c e f i) i) ∧ ∀ j, j < tp → feR B tp a b c e f n j = B j := by
  intro n
  induction n with
  | zero => exact ⟨fun i hi => absurd hi (Nat.not_lt_zero i), fun j _ => rfl⟩
  | succ n ih =>
    refine ⟨fun i hi => ?_, fun j hj => ?_⟩
    · rw [feR_succ]
      by_cases g : i = n
      · subst g; rw [un_at]
      · rw [un_ne (by omega)]; exact ih.1 i (by omega)
    · rw [feR_succ, un_ne (by omega)]; exact ih.2 j hj
theorem lnF_0r {B lo hi X : Nat → Int} {tp a : Nat} (h : lnF B tp lo hi X a = 0) : lo (wA B tp a).toNat ≤ xA B tp a ∧ xA B tp a ≤ hi (wA B tp a).toNat := by
  by_cases g : lo (wA B tp a).toNat ≤ xA B tp a ∧ xA B tp a ≤ hi (wA B tp a).toNat
  · exact g
  · exfalso
    unfold lnF at h
    split at h
    · omega
    · split at h
      · omega
      · split at h
        · omega
        · omega
theorem plF_rng {B : Nat → Int} {tp : Nat} : ∀ (u a : Nat) (R X : Nat → Int) (c : Nat), (∀ q, q < 9 → eLeast q ≤ R q ∧ R q ≤ eMost q) → ∀ q, q < 9 → eLeast q ≤ (plF B tp eLeast eMost u a R X c).2 q ∧ (plF B tp eLeast eMost u a R X c).2 q ≤ eMost q := by
  intro u
  induction u with
  | zero => intro a R X c h; exact h
  | succ u ih =>
    intro a R X c h
    rw [plF_succ]
    by_cases g : ¬ lnF B tp eLeast eMost X a = 0
    · rw [if_pos g]; exact h
    · have g2 : lnF B tp eLeast eMost X a = 0 := Decidable.of_not_not g
      have hr := lnF_0r g2
      have h2 : ∀ q, q < 9 → eLeast q ≤ un R (wA B tp a).toNat (xA B tp a) q ∧ un R (wA B tp a).toNat (xA B tp a) q ≤ eMost q := by
        intro q hq
        by_cases e : q = (wA B tp a).toNat
        · subst e; rw [un_at]; exact hr
        · rw [un_ne e]; exact h q hq
      rw [if_neg g]
      by_cases g3 : bA B tp (sA B tp (zA B tp a)) = 59
      · rw [if_pos g3]; exact ih _ _ _ _ h2
      · rw [if_neg g3]
        by_cases g4 : bA B tp (sA B tp (zA B tp a)) = -1
        · rw [if_pos g4]; exact h2
        · rw [if_neg g4]; exact h2
theorem us_rng : ∀ q, q < 9 → eLeast q ≤ eUsual q ∧ eUsual q ≤ eMost q := by decide +kernel
theorem plOk_of {L : Nat → Int} (h : ∀ q, q < 9 → eLeast q ≤ L q ∧ L q ≤ eMost q) : plOk L :=
  ⟨h 0 (by decide), h 1 (by decide), h 2 (by decide), h 3 (by decide), h 4 (by decide), h 5 (by decide), h 6 (by decide), h 7 (by decide), h 8 (by decide)⟩
theorem plOk_pl {B P R0 X0 : Nat → Int} {tp : Nat} (hR : ∀ k, k < 9 → R0 k = eUsual k) : plOk (usR P (plF B tp eLeast eMost 201 0 R0 X0 0).2 9) := by
  refine plOk_of (fun q hq => ?_)
  rw [show usR P (plF B tp eLeast eMost 201 0 R0 X0 0).2 9 q = (plF B tp eLeast eMost 201 0 R0 X0 0).2 q from if_pos hq]
  exact plF_rng _ _ _ _ _ (fun q hq => by rw [hR q hq]; exact us_rng q hq) q hq
theorem beg_at {N : Nat → Int} : begins N 0 = 0 ∧ begins N 1 = 0 ∧ begins N 2 = 0 ∧ begins N 3 = 0 ∧ begins N 4 = 0 ∧ begins N 5 = -1 ∧ begins N 6 = 0 ∧ begins N 7 = 0 ∧ begins N 8 = 0 ∧ begins N 9 = 0 ∧ begins N 10 = -1 ∧ begins N 11 = -1 ∧ begins N 12 = 0 := by
  refine ⟨?_, ?_, ?_, ?_, ?_, ?_, ?_, ?_, ?_, ?_, ?_, ?_, ?_⟩ <;> (unfold begins begN; simp [un])
theorem NOk_beg {N : Nat → Int} : NOk (begins N) 0 (nN (begins N)) := by
  obtain ⟨b0, b1, b2, b3, b4, b5, b6, _⟩ := beg_at (N := N)
  have ht : tN (begins N) = 0 := by unfold tN; rw [b3]; rfl
  exact ⟨PmO_0 Rng_beg, LdOk_0 ht, b2, fun _ => b6, fun h => absurd h (by rw [b0]; decide), fun h => absurd h (by rw [b0]; decide), fun h => absurd h (by rw [b0]; decide)⟩
theorem St_beg {L F H N : Nat → Int} {K : Mi} {s p o t : Nat} (h9 : K s = clF F) (h12 : K (s + 3) 0 = 0) (h16 : K (s + 7) 0 = 0) (h20 : K (s + 11) = un (un (un (un H 0 0) 4 0) 5 (-1)) 6 (-1)) : StR L K s p o t (begins N) := by
  obtain ⟨b0, b1, b2, b3, b4, b5, b6, b7, b8, b9, b10, b11, b12⟩ := beg_at (N := N)
  have hg : sgV L (begins N) = 0 := if_pos b0
  have hn : nN (begins N) = 0 := by unfold nN; rw [b1]; rfl
  have ht : tN (begins N) = 0 := by unfold tN; rw [b3]; rfl
  have e0 : K s = un (un (un (un (un (un (un (un (un F 0 0) 1 0) 2 0) 3 0) 4 0) 5 (-1)) 6 0) 7 0) 8 0 := h9
  refine ⟨⟨?_, ?_, ?_, ?_, ?_, ?_, ?_, ?_, ?_⟩, fun k hk => absurd hk (by rw [hg]; exact Nat.not_lt_zero k), fun q hq => absurd hq (by rw [b2]; exact Nat.not_lt_zero q), ⟨by rw [h12, b1], fun k hk => absurd hk (by rw [hn]; exact Nat.not_lt_zero k)⟩, ⟨by rw [h16, b3], fun k hk => absurd hk (by rw [ht]; exact Nat.not_lt_zero k)⟩, ?_, ?_, ?_, ?_, fun i hi => absurd hi (by rw [b6]; exact Nat.not_lt_zero i), fun h => absurd h (by rw [b6]; decide)⟩
  · rw [e0, b0]; simp [un]
  · rw [e0, b8]; simp [un]
  · rw [e0, hg]; simp [un]
  · rw [e0, hg]; simp [un, ssM]
  · rw [e0, b4]; simp [un]
  · rw [e0, b5]; simp [un]
  · rw [e0, b2]; simp [un]
  · rw [e0, b12]; simp [un]
  · rw [e0, b7]; simp [un]
  · rw [h20, b6]; simp [un]
  · rw [h20, b9]; simp [un]
  · rw [h20, b10]; simp [un]
  · rw [h20, b11]; simp [un]
theorem kc_plan {I K : Mi} {A : AN} {tp u e : Nat} {L L2 Bt W P Y N : Nat → Int} (h : KC I A tp L Bt u e W P Y N) (hL2 : plOk L2) (h3 : ∀ k, k < 9 → K 3 k = L2 k) (h01 : K 0 1 = 0) (st : StR L2 K 9 (A 0).1 (A 0).2.1 (A 0).2.2.1 (begins N)) (ha : K 24 2 = 0) (hb : K 24 1 = (e : Int)) (hc : ∀ k, k < 2 → K 207 k = 0) : KC K A 0 L2 Bt 0 e W P (z8 Y 2) (begins N) := by
  have h26 := hL2.2.2.2.2.2.2.1.1
  have hb2 := (beg_at (N := N)).2.2.1
  have ht : tN (begins N) = 0 := by unfold tN; rw [(beg_at (N := N)).2.2.2.1]; rfl
  exact ⟨⟨h3, hL2⟩, ⟨h01, by decide, fun k hk => absurd hk (Nat.not_lt_zero k)⟩, ⟨st, by rw [ht]; exact Nat.zero_le _, ⟨0, _, NOk_beg⟩, by rw [hb2]; omega⟩, ⟨⟨by decide, h.2.2.2.1.1.2⟩, ⟨ha, hb⟩, fun j hj => absurd hj (Nat.not_lt_zero j)⟩,
    fun k hk => ⟨⟨fun _ => if_pos hk, fun _ => hc k hk⟩, fun g => absurd (show z8 Y 2 k = 0 from if_pos hk) g⟩⟩
theorem k_tapeFour {A : AN} {tp : Nat} {Bt : Nat → Int} {v : Int} (hK : KSh T A) (h0 : I 0 1 = (tp : Int)) (ht : tp + 4 ≤ 200) (hB : ∀ k, k < tp → I 1 k = ian (Bt k) 255) (hb0 : Bt tp = ibw false (ib8 (isr v ((24 : Nat) : Int)))) (hb1 : Bt (tp + 1) = ibw false (ib8 (isr v ((16 : Nat) : Int)))) (hb2 : Bt (tp + 2) = ibw false (ib8 (isr v ((8 : Nat) : Int)))) (hb3 : Bt (tp + 3) = ibw false (ib8 (isr v ((0 : Nat) : Int)))) (hq : ∀ K : Mi, (∀ b, 2 ≤ b → K b = I b) → K 0 1 = ((tp + 4 : Nat) : Int) → (∀ k, k < tp + 4 → K 1 k = ian (Bt k) 255) → Q none T K) : EvE G mX11_tapeFour d [aR 0, aI v] T I Q := by
  refine EvE.mk (lv0 := [some (aR 0), some (aI v), none]) (Nat.le_of_ble_eq_true rfl) (by decide +kernel) rfl ?_
  refine r_bipush (pc := 0) dX11_tapeFour_0 rfl (in32_of rfl) ?_
  refine r_istore_n (pc := 2) (i := 2) (lv' := [_, _, _]) dX11_tapeFour_2 rfl (by decide) rfl ?_
  refine r_iload_n (pc := 3) (i := 2) dX11_tapeFour_3 rfl rfl ?_
  refine r_if_lt (pc := 4) (tgt := 49) dX11_tapeFour_4 rfl (fun c4 => absurd c4 (by omega)) (fun c4 => ?_)
  refine r_aload_n (pc := 7) (i := 0) dX11_tapeFour_7 rfl rfl ?_
  refine r_getfi (pc := 8) cks dX11_tapeFour_8 fl_X11_13 rfl (kK0 hK) (ltK hK (by decide)) ?_
  refine r_top (b := ((tp : Nat) : Int)) (h0) ?_
  refine r_sipush (pc := 11) dX11_tapeFour_11 rfl (in32_of rfl) ?_
  refine r_icmp_ge (pc := 14) (tgt := 43) dX11_tapeFour_14 rfl (fun c14 => absurd c14 (by omega)) (fun c14 => ?_)
  refine r_aload_n (pc := 17) (i := 0) dX11_tapeFour_17 rfl rfl ?_
  refine r_getfr (pc := 18) (b := 1) cks dX11_tapeFour_18 fl_X11_9 rfl (kK0 hK) (ltK hK (by decide)) (rK0_0 hK) ?_
  refine r_aload_n (pc := 21) (i := 0) dX11_tapeFour_21 rfl rfl ?_
  refine r_getfi (pc := 22) cks dX11_tapeFour_22 fl_X11_13 rfl (kK0 hK) (ltK hK (by decide)) ?_
  refine r_top (b := ((tp : Nat) : Int)) (h0) ?_
  refine r_iload_n (pc := 25) (i := 1) dX11_tapeFour_25 rfl rfl ?_
  refine r_iload_n (pc := 26) (i := 2) dX11_tapeFour_26 rfl rfl ?_
  refine r_iushr (pc := 27) dX11_tapeFour_27 ?_
  refine r_sipush (pc := 28) dX11_tapeFour_28 rfl (in32_of rfl) ?_
  refine r_iand (pc := 31) dX11_tapeFour_31 ?_
  refine r_ist (pc := 32) (tp) dX11_tapeFour_32 (kK1 hK) (ltK hK (by decide)) rfl (by rw [lK1 hK]; omega) ?_
  refine r_mem (I2 := sr I 1 (un (I 1) tp (ian (ius v 24) 255))) ((up2_row _ _ _ _).trans ((congrArg (fun fz_ => sr I 1 (un fz_ tp (ian (ius v 24) 255))) (show I 1 = I 1 from rfl)).trans (rfl))) ?_
  refine r_aload_n (pc := 33) (i := 0) dX11_tapeFour_33 rfl rfl ?_
  refine r_dup (pc := 34) dX11_tapeFour_34 rfl ?_
  refine r_getfi (pc := 35) cks dX11_tapeFour_35 fl_X11_13 rfl (kK0 hK) (ltK hK (by decide)) ?_
  refine r_top (b := I 0 1) ((congrFun (sr_ne (by omega)) _).trans (rfl)) ?_
  refine r_top (b := ((tp : Nat) : Int)) (h0) ?_
  refine r_iconst (pc := 38) dX11_tapeFour_38 (in32_of rfl) ?_
  refine r_iaddN (pc := 39) (c := ((tp + 1 : Nat) : Int)) dX11_tapeFour_39 (by unfold w32; omega) ?_
  refine r_putfi (pc := 40) cks dX11_tapeFour_40 fl_X11_13 (pf_11_1 _ _) rfl (kK0 hK) (ltK hK (by decide)) ?_
  refine r_mem (I2 := sr (sr I 1 (un (I 1) tp (ian (ius v 24) 255))) 0 (un (I 0) 1 ((tp + 1 : Nat) : Int))) ((up2_row _ _ _ _).trans ((congrArg (fun fz_ => sr (sr I 1 (un (I 1) tp (ian (ius v 24) 255))) 0 (un fz_ 1 ((tp + 1 : Nat) : Int))) (show (sr I 1 (un (I 1) tp (ian (ius v 24) 255))) 0 = I 0 from (sr_ne (by omega)).trans (rfl))).trans (rfl))) ?_
  refine r_iincN (pc := 43) (i := 2) (c := 16) (lv' := [_, _, _]) dX11_tapeFour_43 rfl (by decide) (by unfold w32; omega) rfl ?_
  refine r_goto (pc := 46) (tgt := 3) dX11_tapeFour_46 rfl ?_
  refine r_iload_n (pc := 3) (i := 2) dX11_tapeFour_3 rfl rfl ?_
  refine r_if_lt (pc := 4) (tgt := 49) dX11_tapeFour_4 rfl (fun c4 => absurd c4 (by omega)) (fun c4 => ?_)
  refine r_aload_n (pc := 7) (i := 0) dX11_tapeFour_7 rfl rfl ?_
  refine r_getfi (pc := 8) cks dX11_tapeFour_8 fl_X11_13 rfl (kK0 hK) (ltK hK (by decide)) ?_
  refine r_top (b := (un (I 0) 1 ((tp + 1 : Nat) : Int)) 1) (sr_at _ _ _ _) ?_
  refine r_top (b := (((tp + 1) : Nat) : Int)) (un_at) ?_
  refine r_sipush (pc := 11) dX11_tapeFour_11 rfl (in32_of rfl) ?_
  refine r_icmp_ge (pc := 14) (tgt := 43) dX11_tapeFour_14 rfl (fun c14 => absurd c14 (by omega)) (fun c14 => ?_)
  refine r_aload_n (pc := 17) (i := 0) dX11_tapeFour_17 rfl rfl ?_
  refine r_getfr (pc := 18) (b := 1) cks dX11_tapeFour_18 fl_X11_9 rfl (kK0 hK) (ltK hK (by decide)) (rK0_0 hK) ?_
  refine r_aload_n (pc := 21) (i := 0) dX11_tapeFour_21 rfl rfl ?_
  refine r_getfi (pc := 22) cks dX11_tapeFour_22 fl_X11_13 rfl (kK0 hK) (ltK hK (by decide)) ?_
  refine r_top (b := (un (I 0) 1 ((tp + 1 : Nat) : Int)) 1) (sr_at _ _ _ _) ?_
  refine r_top (b := (((tp + 1) : Nat) : Int)) (un_at) ?_
  refine r_iload_n (pc := 25) (i := 1) dX11_tapeFour_25 rfl rfl ?_
  refine r_iload_n (pc := 26) (i := 2) dX11_tapeFour_26 rfl rfl ?_
  refine r_iushr (pc := 27) dX11_tapeFour_27 ?_
  refine r_sipush (pc := 28) dX11_tapeFour_28 rfl (in32_of rfl) ?_
  refine r_iand (pc := 31) dX11_tapeFour_31 ?_
  refine r_ist (pc := 32) ((tp + 1)) dX11_tapeFour_32 (kK1 hK) (ltK hK (by decide)) rfl (by rw [lK1 hK]; omega) ?_
  refine r_mem (I2 := sr (sr I 1 (un (un (I 1) tp (ian (ius v 24) 255)) (tp + 1) (ian (ius v 16) 255))) 0 (un (I 0) 1 ((tp + 1 : Nat) : Int))) ((up2_row _ _ _ _).trans ((congrArg (fun fz_ => sr (sr (sr I 1 (un (I 1) tp (ian (ius v 24) 255))) 0 (un (I 0) 1 ((tp + 1 : Nat) : Int))) 1 (un fz_ (tp + 1) (ian (ius v 16) 255))) (show (sr (sr I 1 (un (I 1) tp (ian (ius v 24) 255))) 0 (un (I 0) 1 ((tp + 1 : Nat) : Int))) 1 = un (I 1) tp (ian (ius v 24) 255) from (sr_ne (by omega)).trans (sr_row _ _ _))).trans ((sr_comm (by omega)).trans (congrArg (fun J => sr J 0 (un (I 0) 1 ((tp + 1 : Nat) : Int))) (sr_sr _ _ _ _))))) ?_
  refine r_aload_n (pc := 33) (i := 0) dX11_tapeFour_33 rfl rfl ?_
  refine r_dup (pc := 34) dX11_tapeFour_34 rfl ?_
  refine r_getfi (pc := 35) cks dX11_tapeFour_35 fl_X11_13 rfl (kK0 hK) (ltK hK (by decide)) ?_
  refine r_top (b := (un (I 0) 1 ((tp + 1 : Nat) : Int)) 1) (sr_at _ _ _ _) ?_
  refine r_top (b := (((tp + 1) : Nat) : Int)) (un_at) ?_
  refine r_iconst (pc := 38) dX11_tapeFour_38 (in32_of rfl) ?_
  refine r_iaddN (pc := 39) (c := (((tp + 1) + 1 : Nat) : Int)) dX11_tapeFour_39 (by unfold w32; omega) ?_
  refine r_putfi (pc := 40) cks dX11_tapeFour_40 fl_X11_13 (pf_11_1 _ _) rfl (kK0 hK) (ltK hK (by decide)) ?_
  refine r_mem (I2 := sr (sr I 1 (un (un (I 1) tp (ian (ius v 24) 255)) (tp + 1) (ian (ius v 16) 255))) 0 (un (un (I 0) 1 ((tp + 1 : Nat) : Int)) 1 (((tp + 1) + 1 : Nat) : Int))) ((up2_row _ _ _ _).trans ((congrArg (fun fz_ => sr (sr (sr I 1 (un (un (I 1) tp (ian (ius v 24) 255)) (tp + 1) (ian (ius v 16) 255))) 0 (un (I 0) 1 ((tp + 1 : Nat) : Int))) 0 (un fz_ 1 (((tp + 1) + 1 : Nat) : Int))) (show (sr (sr I 1 (un (un (I 1) tp (ian (ius v 24) 255)) (tp + 1) (ian (ius v 16) 255))) 0 (un (I 0) 1 ((tp + 1 : Nat) : Int))) 0 = un (I 0) 1 ((tp + 1 : Nat) : Int) from sr_row _ _ _)).trans (sr_sr _ _ _ _))) ?_
  refine r_iincN (pc := 43) (i := 2) (c := 8) (lv' := [_, _, _]) dX11_tapeFour_43 rfl (by decide) (by unfold w32; omega) rfl ?_
  refine r_goto (pc := 46) (tgt := 3) dX11_tapeFour_46 rfl ?_
  refine r_iload_n (pc := 3) (i := 2) dX11_tapeFour_3 rfl rfl ?_
  refine r_if_lt (pc := 4) (tgt := 49) dX11_tapeFour_4 rfl (fun c4 => absurd c4 (by omega)) (fun c4 => ?_)
  refine r_aload_n (pc := 7) (i := 0) dX11_tapeFour_7 rfl rfl ?_
  refine r_getfi (pc := 8) cks dX11_tapeFour_8 fl_X11_13 rfl (kK0 hK) (ltK hK (by decide)) ?_
  refine r_top (b := (un (un (I 0) 1 ((tp + 1 : Nat) : Int)) 1 (((tp + 1) + 1 : Nat) : Int)) 1) (sr_at _ _ _ _) ?_
  refine r_top (b := ((((tp + 1) + 1) : Nat) : Int)) (un_at) ?_
  refine r_sipush (pc := 11) dX11_tapeFour_11 rfl (in32_of rfl) ?_
  refine r_icmp_ge (pc := 14) (tgt := 43) dX11_tapeFour_14 rfl (fun c14 => absurd c14 (by omega)) (fun c14 => ?_)
  refine r_aload_n (pc := 17) (i := 0) dX11_tapeFour_17 rfl rfl ?_
  refine r_getfr (pc := 18) (b := 1) cks dX11_tapeFour_18 fl_X11_9 rfl (kK0 hK) (ltK hK (by decide)) (rK0_0 hK) ?_
  refine r_aload_n (pc := 21) (i := 0) dX11_tapeFour_21 rfl rfl ?_
  refine r_getfi (pc := 22) cks dX11_tapeFour_22 fl_X11_13 rfl (kK0 hK) (ltK hK (by decide)) ?_
  refine r_top (b := (un (un (I 0) 1 ((tp + 1 : Nat) : Int)) 1 (((tp + 1) + 1 : Nat) : Int)) 1) (sr_at _ _ _ _) ?_
  refine r_top (b := ((((tp + 1) + 1) : Nat) : Int)) (un_at) ?_
  refine r_iload_n (pc := 25) (i := 1) dX11_tapeFour_25 rfl rfl ?_
  refine r_iload_n (pc := 26) (i := 2) dX11_tapeFour_26 rfl rfl ?_
  refine r_iushr (pc := 27) dX11_tapeFour_27 ?_
  refine r_sipush (pc := 28) dX11_tapeFour_28 rfl (in32_of rfl) ?_
  refine r_iand (pc := 31) dX11_tapeFour_31 ?_
  refine r_ist (pc := 32) (((tp + 1) + 1)) dX11_tapeFour_32 (kK1 hK) (ltK hK (by decide)) rfl (by rw [lK1 hK]; omega) ?_
  refine r_mem (I2 := sr (sr I 1 (un (un (un (I 1) tp (ian (ius v 24) 255)) (tp + 1) (ian (ius v 16) 255)) ((tp + 1) + 1) (ian (ius v 8) 255))) 0 (un (un (I 0) 1 ((tp + 1 : Nat) : Int)) 1 (((tp + 1) + 1 : Nat) : Int))) ((up2_row _ _ _ _).trans ((congrArg (fun fz_ => sr (sr (sr I 1 (un (un (I 1) tp (ian (ius v 24) 255)) (tp + 1) (ian (ius v 16) 255))) 0 (un (un (I 0) 1 ((tp + 1 : Nat) : Int)) 1 (((tp + 1) + 1 : Nat) : Int))) 1 (un fz_ ((tp + 1) + 1) (ian (ius v 8) 255))) (show (sr (sr I 1 (un (un (I 1) tp (ian (ius v 24) 255)) (tp + 1) (ian (ius v 16) 255))) 0 (un (un (I 0) 1 ((tp + 1 : Nat) : Int)) 1 (((tp + 1) + 1 : Nat) : Int))) 1 = un (un (I 1) tp (ian (ius v 24) 255)) (tp + 1) (ian (ius v 16) 255) from (sr_ne (by omega)).trans (sr_row _ _ _))).trans ((sr_comm (by omega)).trans (congrArg (fun J => sr J 0 (un (un (I 0) 1 ((tp + 1 : Nat) : Int)) 1 (((tp + 1) + 1 : Nat) : Int))) (sr_sr _ _ _ _))))) ?_
  refine r_aload_n (pc := 33) (i := 0) dX11_tapeFour_33 rfl rfl ?_
  refine r_dup (pc := 34) dX11_tapeFour_34 rfl ?_
  refine r_getfi (pc := 35) cks dX11_tapeFour_35 fl_X11_13 rfl (kK0 hK) (ltK hK (by decide)) ?_
  refine r_top (b := (un (un (I 0) 1 ((tp + 1 : Nat) : Int)) 1 (((tp + 1) + 1 : Nat) : Int)) 1) (sr_at _ _ _ _) ?_
  refine r_top (b := ((((tp + 1) + 1) : Nat) : Int)) (un_at) ?_
  refine r_iconst (pc := 38) dX11_tapeFour_38 (in32_of rfl) ?_
  refine r_iaddN (pc := 39) (c := ((((tp + 1) + 1) + 1 : Nat) : Int)) dX11_tapeFour_39 (by unfold w32; omega) ?_
  refine r_putfi (pc := 40) cks dX11_tapeFour_40 fl_X11_13 (pf_11_1 _ _) rfl (kK0 hK) (ltK hK (by decide)) ?_
  refine r_mem (I2 := sr (sr I 1 (un (un (un (I 1) tp (ian (ius v 24) 255)) (tp + 1) (ian (ius v 16) 255)) ((tp + 1) + 1) (ian (ius v 8) 255))) 0 (un (un (un (I 0) 1 ((tp + 1 : Nat) : Int)) 1 (((tp + 1) + 1 : Nat) : Int)) 1 ((((tp + 1) + 1) + 1 : Nat) : Int))) ((up2_row _ _ _ _).trans ((congrArg (fun fz_ => sr (sr (sr I 1 (un (un (un (I 1) tp (ian (ius v 24) 255)) (tp + 1) (ian (ius v 16) 255)) ((tp + 1) + 1) (ian (ius v 8) 255))) 0 (un (un (I 0) 1 ((tp + 1 : Nat) : Int)) 1 (((tp + 1) + 1 : Nat) : Int))) 0 (un fz_ 1 ((((tp + 1) + 1) + 1 : Nat) : Int))) (show (sr (sr I 1 (un (un (un (I 1) tp (ian (ius v 24) 255)) (tp + 1) (ian (ius v 16) 255)) ((tp + 1) + 1) (ian (ius v 8) 255))) 0 (un (un (I 0) 1 ((tp + 1 : Nat) : Int)) 1 (((tp + 1) + 1 : Nat) : Int))) 0 = un (un (I 0) 1 ((tp + 1 : Nat) : Int)) 1 (((tp + 1) + 1 : Nat) : Int) from sr_row _ _ _)).trans (sr_sr _ _ _ _))) ?_
  refine r_iincN (pc := 43) (i := 2) (c := 0) (lv' := [_, _, _]) dX11_tapeFour_43 rfl (by decide) (by unfold w32; omega) rfl ?_
  refine r_goto (pc := 46) (tgt := 3) dX11_tapeFour_46 rfl ?_
  refine r_iload_n (pc := 3) (i := 2) dX11_tapeFour_3 rfl rfl ?_
  refine r_if_lt (pc := 4) (tgt := 49) dX11_tapeFour_4 rfl (fun c4 => absurd c4 (by omega)) (fun c4 => ?_)
  refine r_aload_n (pc := 7) (i := 0) dX11_tapeFour_7 rfl rfl ?_
  refine r_getfi (pc := 8) cks dX11_tapeFour_8 fl_X11_13 rfl (kK0 hK) (ltK hK (by decide)) ?_
  refine r_top (b := (un (un (un (I 0) 1 ((tp + 1 : Nat) : Int)) 1 (((tp + 1) + 1 : Nat) : Int)) 1 ((((tp + 1) + 1) + 1 : Nat) : Int)) 1) (sr_at _ _ _ _) ?_
  refine r_top (b := (((((tp + 1) + 1) + 1) : Nat) : Int)) (un_at) ?_
  refine r_sipush (pc := 11) dX11_tapeFour_11 rfl (in32_of rfl) ?_
  refine r_icmp_ge (pc := 14) (tgt := 43) dX11_tapeFour_14 rfl (fun c14 => absurd c14 (by omega)) (fun c14 => ?_)
  refine r_aload_n (pc := 17) (i := 0) dX11_tapeFour_17 rfl rfl ?_
  refine r_getfr (pc := 18) (b := 1) cks dX11_tapeFour_18 fl_X11_9 rfl (kK0 hK) (ltK hK (by decide)) (rK0_0 hK) ?_
  refine r_aload_n (pc := 21) (i := 0) dX11_tapeFour_21 rfl rfl ?_
  refine r_getfi (pc := 22) cks dX11_tapeFour_22 fl_X11_13 rfl (kK0 hK) (ltK hK (by decide)) ?_
  refine r_top (b := (un (un (un (I 0) 1 ((tp + 1 : Nat) : Int)) 1 (((tp + 1) + 1 : Nat) : Int)) 1 ((((tp + 1) + 1) + 1 : Nat) : Int)) 1) (sr_at _ _ _ _) ?_
  refine r_top (b := (((((tp + 1) + 1) + 1) : Nat) : Int)) (un_at) ?_
  refine r_iload_n (pc := 25) (i := 1) dX11_tapeFour_25 rfl rfl ?_
  refine r_iload_n (pc := 26) (i := 2) dX11_tapeFour_26 rfl rfl ?_
  refine r_iushr (pc := 27) dX11_tapeFour_27 ?_
  refine r_sipush (pc := 28) dX11_tapeFour_28 rfl (in32_of rfl) ?_
  refine r_iand (pc := 31) dX11_tapeFour_31 ?_
  refine r_ist (pc := 32) ((((tp + 1) + 1) + 1)) dX11_tapeFour_32 (kK1 hK) (ltK hK (by decide)) rfl (by rw [lK1 hK]; omega) ?_
  refine r_mem (I2 := sr (sr I 1 (un (un (un (un (I 1) tp (ian (ius v 24) 255)) (tp + 1) (ian (ius v 16) 255)) ((tp + 1) + 1) (ian (ius v 8) 255)) (((tp + 1) + 1) + 1) (ian (ius v 0) 255))) 0 (un (un (un (I 0) 1 ((tp + 1 : Nat) : Int)) 1 (((tp + 1) + 1 : Nat) : Int)) 1 ((((tp + 1) + 1) + 1 : Nat) : Int))) ((up2_row _ _ _ _).trans ((congrArg (fun fz_ => sr (sr (sr I 1 (un (un (un (I 1) tp (ian (ius v 24) 255)) (tp + 1) (ian (ius v 16) 255)) ((tp + 1) + 1) (ian (ius v 8) 255))) 0 (un (un (un (I 0) 1 ((tp + 1 : Nat) : Int)) 1 (((tp + 1) + 1 : Nat) : Int)) 1 ((((tp + 1) + 1) + 1 : Nat) : Int))) 1 (un fz_ (((tp + 1) + 1) + 1) (ian (ius v 0) 255))) (show (sr (sr I 1 (un (un (un (I 1) tp (ian (ius v 24) 255)) (tp + 1) (ian (ius v 16) 255)) ((tp + 1) + 1) (ian (ius v 8) 255))) 0 (un (un (un (I 0) 1 ((tp + 1 : Nat) : Int)) 1 (((tp + 1) + 1 : Nat) : Int)) 1 ((((tp + 1) + 1) + 1 : Nat) : Int))) 1 = un (un (un (I 1) tp (ian (ius v 24) 255)) (tp + 1) (ian (ius v 16) 255)) ((tp + 1) + 1) (ian (ius v 8) 255) from (sr_ne (by omega)).trans (sr_row _ _ _))).trans ((sr_comm (by omega)).trans (congrArg (fun J => sr J 0 (un (un (un (I 0) 1 ((tp + 1 : Nat) : Int)) 1 (((tp + 1) + 1 : Nat) : Int)) 1 ((((tp + 1) + 1) + 1 : Nat) : Int))) (sr_sr _ _ _ _))))) ?_
  refine r_aload_n (pc := 33) (i := 0) dX11_tapeFour_33 rfl rfl ?_
  refine r_dup (pc := 34) dX11_tapeFour_34 rfl ?_
  refine r_getfi (pc := 35) cks dX11_tapeFour_35 fl_X11_13 rfl (kK0 hK) (ltK hK (by decide)) ?_
  refine r_top (b := (un (un (un (I 0) 1 ((tp + 1 : Nat) : Int)) 1 (((tp + 1) + 1 : Nat) : Int)) 1 ((((tp + 1) + 1) + 1 : Nat) : Int)) 1) (sr_at _ _ _ _) ?_
  refine r_top (b := (((((tp + 1) + 1) + 1) : Nat) : Int)) (un_at) ?_
  refine r_iconst (pc := 38) dX11_tapeFour_38 (in32_of rfl) ?_
  refine r_iaddN (pc := 39) (c := (((((tp + 1) + 1) + 1) + 1 : Nat) : Int)) dX11_tapeFour_39 (by unfold w32; omega) ?_
  refine r_putfi (pc := 40) cks dX11_tapeFour_40 fl_X11_13 (pf_11_1 _ _) rfl (kK0 hK) (ltK hK (by decide)) ?_
  refine r_mem (I2 := sr (sr I 1 (un (un (un (un (I 1) tp (ian (ius v 24) 255)) (tp + 1) (ian (ius v 16) 255)) ((tp + 1) + 1) (ian (ius v 8) 255)) (((tp + 1) + 1) + 1) (ian (ius v 0) 255))) 0 (un (un (un (un (I 0) 1 ((tp + 1 : Nat) : Int)) 1 (((tp + 1) + 1 : Nat) : Int)) 1 ((((tp + 1) + 1) + 1 : Nat) : Int)) 1 (((((tp + 1) + 1) + 1) + 1 : Nat) : Int))) ((up2_row _ _ _ _).trans ((congrArg (fun fz_ => sr (sr (sr I 1 (un (un (un (un (I 1) tp (ian (ius v 24) 255)) (tp + 1) (ian (ius v 16) 255)) ((tp + 1) + 1) (ian (ius v 8) 255)) (((tp + 1) + 1) + 1) (ian (ius v 0) 255))) 0 (un (un (un (I 0) 1 ((tp + 1 : Nat) : Int)) 1 (((tp + 1) + 1 : Nat) : Int)) 1 ((((tp + 1) + 1) + 1 : Nat) : Int))) 0 (un fz_ 1 (((((tp + 1) + 1) + 1) + 1 : Nat) : Int))) (show (sr (sr I 1 (un (un (un (un (I 1) tp (ian (ius v 24) 255)) (tp + 1) (ian (ius v 16) 255)) ((tp + 1) + 1) (ian (ius v 8) 255)) (((tp + 1) + 1) + 1) (ian (ius v 0) 255))) 0 (un (un (un (I 0) 1 ((tp + 1 : Nat) : Int)) 1 (((tp + 1) + 1 : Nat) : Int)) 1 ((((tp + 1) + 1) + 1 : Nat) : Int))) 0 = un (un (un (I 0) 1 ((tp + 1 : Nat) : Int)) 1 (((tp + 1) + 1 : Nat) : Int)) 1 ((((tp + 1) + 1) + 1 : Nat) : Int) from sr_row _ _ _)).trans (sr_sr _ _ _ _))) ?_
  refine r_iincN (pc := 43) (i := 2) (c := (-8)) (lv' := [_, _, _]) dX11_tapeFour_43 rfl (by decide) (by unfold w32; omega) rfl ?_
  refine r_goto (pc := 46) (tgt := 3) dX11_tapeFour_46 rfl ?_
  refine r_iload_n (pc := 3) (i := 2) dX11_tapeFour_3 rfl rfl ?_
  refine r_if_lt (pc := 4) (tgt := 49) dX11_tapeFour_4 rfl (fun c4 => ?_) (fun c4 => absurd (by omega) c4)
  have p0 : (sr (sr I 1 (un (un (un (un (I 1) tp (ian (ius v 24) 255)) (tp + 1) (ian (ius v 16) 255)) ((tp + 1) + 1) (ian (ius v 8) 255)) (((tp + 1) + 1) + 1) (ian (ius v 0) 255))) 0 (un (un (un (un (I 0) 1 ((tp + 1 : Nat) : Int)) 1 (((tp + 1) + 1 : Nat) : Int)) 1 ((((tp + 1) + 1) + 1 : Nat) : Int)) 1 (((((tp + 1) + 1) + 1) + 1 : Nat) : Int))) 0 = un (un (un (un (I 0) 1 ((tp + 1 : Nat) : Int)) 1 (((tp + 1) + 1 : Nat) : Int)) 1 ((((tp + 1) + 1) + 1 : Nat) : Int)) 1 (((((tp + 1) + 1) + 1) + 1 : Nat) : Int) := show (sr (sr I 1 (un (un (un (un (I 1) tp (ian (ius v 24) 255)) (tp + 1) (ian (ius v 16) 255)) ((tp + 1) + 1) (ian (ius v 8) 255)) (((tp + 1) + 1) + 1) (ian (ius v 0) 255))) 0 (un (un (un (un (I 0) 1 ((tp + 1 : Nat) : Int)) 1 (((tp + 1) + 1 : Nat) : Int)) 1 ((((tp + 1) + 1) + 1 : Nat) : Int)) 1 (((((tp + 1) + 1) + 1) + 1 : Nat) : Int))) 0 = un (un (un (un (I 0) 1 ((tp + 1 : Nat) : Int)) 1 (((tp + 1) + 1 : Nat) : Int)) 1 ((((tp + 1) + 1) + 1 : Nat) : Int)) 1 (((((tp + 1) + 1) + 1) + 1 : Nat) : Int) from sr_row _ _ _
  have p1 : (sr (sr I 1 (un (un (un (un (I 1) tp (ian (ius v 24) 255)) (tp + 1) (ian (ius v 16) 255)) ((tp + 1) + 1) (ian (ius v 8) 255)) (((tp + 1) + 1) + 1) (ian (ius v 0) 255))) 0 (un (un (un (un (I 0) 1 ((tp + 1 : Nat) : Int)) 1 (((tp + 1) + 1 : Nat) : Int)) 1 ((((tp + 1) + 1) + 1 : Nat) : Int)) 1 (((((tp + 1) + 1) + 1) + 1 : Nat) : Int))) 1 = un (un (un (un (I 1) tp (ian (ius v 24) 255)) (tp + 1) (ian (ius v 16) 255)) ((tp + 1) + 1) (ian (ius v 8) 255)) (((tp + 1) + 1) + 1) (ian (ius v 0) 255) := show (sr (sr I 1 (un (un (un (un (I 1) tp (ian (ius v 24) 255)) (tp + 1) (ian (ius v 16) 255)) ((tp + 1) + 1) (ian (ius v 8) 255)) (((tp + 1) + 1) + 1) (ian (ius v 0) 255))) 0 (un (un (un (un (I 0) 1 ((tp + 1 : Nat) : Int)) 1 (((tp + 1) + 1 : Nat) : Int)) 1 ((((tp + 1) + 1) + 1 : Nat) : Int)) 1 (((((tp + 1) + 1) + 1) + 1 : Nat) : Int))) 1 = un (un (un (un (I 1) tp (ian (ius v 24) 255)) (tp + 1) (ian (ius v 16) 255)) ((tp + 1) + 1) (ian (ius v 8) 255)) (((tp + 1) + 1) + 1) (ian (ius v 0) 255) from (sr_ne (by omega)).trans (sr_row _ _ _)
  refine r_vret (pc := 49) dX11_tapeFour_49 trivial (hq _ (fun b hb => by simp only [sr_ne (show b ≠ 0 by omega), sr_ne (show b ≠ 1 by omega)]) (by rw [p0, un_at]) (fun k hk => ?_))
  rw [p1]
  by_cases g3 : k = tp + 3
  · subst g3; rw [un_at, hb3]; exact lo8 (s := 0) (by decide)
  by_cases g2 : k = tp + 2
  · subst g2; rw [un_ne (by omega), un_at, hb2]; exact lo8 (s := 8) (by decide)
  by_cases g1 : k = tp + 1
  · subst g1; rw [un_ne (by omega), un_ne (by omega), un_at, hb1]; exact lo8 (s := 16) (by decide)
  by_cases g0 : k = tp
  · subst g0; rw [un_ne (by omega), un_ne (by omega), un_ne (by omega), un_at, hb0]; exact lo8 (s := 24) (by decide)
  rw [un_ne (by omega), un_ne (by omega), un_ne (by omega), un_ne (by omega)]
  exact hB k (by omega)
end C67

section C19
variable {G : Gl} {d : Nat} {T : Sh} {I : Mi} {N : Nat → Int} {Q : Option AV → Sh → Mi → Prop}
def opR (O M : Nat → Int) (q n : Nat) : Nat → Int := fun j => if 256 * q ≤ j ∧ j < 256 * q + n then M (j + 1044) else O j
theorem opR_in {O M : Nat → Int} {q n i : Nat} (h : i < n) : opR O M q n (256 * q + i) = M (256 * q + i + 1044) := if_pos ⟨by omega, by omega⟩
theorem opR_0 (O M : Nat → Int) (q : Nat) : opR O M q 0 = O := funext fun j => if_neg (by omega)
theorem op_id (O N : Nat → Int) (q k : Nat) : un (opR O (idS N q k) q k) (256 * q + k) (k : Int) = opR O (idS N q (k + 1)) q (k + 1) := by
  funext j
  rw [idS_succ]
  by_cases h : j = 256 * q + k
  · subst h
    rw [un_at, opR_in (by omega), un_at]
  · rw [un_ne h]
    unfold opR
    by_cases g : 256 * q ≤ j ∧ j < 256 * q + k
    · rw [if_pos g, if_pos (by omega), un_ne (by omega)]
    · rw [if_neg g, if_neg (by omega)]
theorem op_sw {O M : Nat → Int} {q n z r : Nat} (hz : z + 1 < n) (hr : r < n) (hrd : (drV M (z + 2)).toNat = r) : un (un (opR O M q n) (256 * q + z + 1) (M (256 * q + r + 1044))) (256 * q + r) (M (256 * q + (z + 1) + 1044)) = opR O (swF M q z) q n := by
  funext j
  unfold swF
  rw [hrd]
  have d1 : dN M (256 * q + r + 1044) = M (256 * q + r + 1044) := dN_ne (by omega)
  have d2 : dN M (256 * q + z + 1045) = M (256 * q + z + 1045) := dN_ne (by omega)
  rw [d1, d2]
  by_cases h : j = 256 * q + r
  · subst h
    rw [un_at, opR_in hr, un_at, show 256 * q + (z + 1) + 1044 = 256 * q + z + 1045 by omega]
  · rw [un_ne h]
    by_cases g : j = 256 * q + z + 1
    · subst g
      rw [un_at, show 256 * q + z + 1 = 256 * q + (z + 1) by omega, opR_in hz, un_ne (by omega), show 256 * q + (z + 1) + 1044 = 256 * q + z + 1045 by omega, un_at]
    · rw [un_ne g]
      unfold opR
      by_cases g2 : 256 * q ≤ j ∧ j < 256 * q + n
      · rw [if_pos g2, if_pos g2, un_ne (by omega), un_ne (by omega)]
        exact (dN_ne (by omega)).symm
      · rw [if_neg g2, if_neg g2]
/-- a row that is an order of the n places -/
def bijR (M : Nat → Int) (q n : Nat) : Prop := (∀ i, i < n → oP M q i < n) ∧ (∀ i j, i < n → j < n → oP M q i = oP M q j → i = j) ∧ ∀ x, x < n → ∃ i, i < n ∧ oP M q i = x
theorem bij_id {N : Nat → Int} {q n : Nat} (h : ∀ k, k < n → idS N q n (256 * q + k + 1044) = (k : Int)) : bijR (idS N q n) q n := by
  have e : ∀ k, k < n → oP (idS N q n) q k = k := fun k hk => by unfold oP; rw [h k hk, Int.toNat_natCast]
  exact ⟨fun i hi => by rw [e i hi]; exact hi, fun i j hi hj hij => by rw [e i hi, e j hj] at hij; exact hij, fun x hx => ⟨x, hx, e x hx⟩⟩
theorem oP_sw {M : Nat → Int} {q z r i : Nat} (hrd : (drV M (z + 2)).toNat = r) : oP (swF M q z) q i = if i = r then oP M q (z + 1) else if i = z + 1 then oP M q r else oP M q i := by
  unfold oP swF
  rw [hrd]
  have d1 : dN M (256 * q + r + 1044) = M (256 * q + r + 1044) := dN_ne (by omega)
  have d2 : dN M (256 * q + z + 1045) = M (256 * q + z + 1045) := dN_ne (by omega)
  rw [d1, d2]
  by_cases h : i = r
  · subst h; rw [un_at, if_pos rfl]; rfl
  · rw [un_ne (by omega), if_neg h]
    by_cases g : i = z + 1
    · subst g
      rw [if_pos rfl, show 256 * q + (z + 1) + 1044 = 256 * q + z + 1045 by omega, un_at]
    · rw [if_neg g, un_ne (by omega), dN_ne (by omega)]
theorem bij_sw {M : Nat → Int} {q n z r : Nat} (h : bijR M q n) (hz : z + 1 < n) (hr : r < n) (hrd : (drV M (z + 2)).toNat = r) : bijR (swF M q z) q n := by
  obtain ⟨a, b, c⟩ := h
  have e := fun i => oP_sw (q := q) (i := i) hrd
  -- the swapping of two places
  obtain ⟨f, hf⟩ : ∃ f : Nat → Nat, f = fun i => if i = r then z + 1 else if i = z + 1 then r else i := ⟨_, rfl⟩
  have ef : ∀ i, oP (swF M q z) q i = oP M q (f i) := fun i => by
    rw [e i, hf]
    show _ = oP M q (if i = r then z + 1 else if i = z + 1 then r else i)
    by_cases h : i = r
    · rw [if_pos h, if_pos h]
    · rw [if_neg h, if_neg h]
      by_cases g : i = z + 1
      · rw [if_pos g, if_pos g]
      · rw [if_neg g, if_neg g]
  have fl : ∀ i, i < n → f i < n := fun i hi => by rw [hf]; show (if i = r then z + 1 else if i = z + 1 then r else i) < n; split; exact hz; split; exact hr; exact hi
  have ff : ∀ i, f (f i) = i := fun i => by
    rw [hf]
    show (if (if i = r then z + 1 else if i = z + 1 then r else i) = r then z + 1 else if (if i = r then z + 1 else if i = z + 1 then r else i) = z + 1 then r else (if i = r then z + 1 else if i = z + 1 then r else i)) = i
    by_cases h : i = r
    · rw [if_pos h]
      by_cases g : z + 1 = r
      · rw [if_pos g]; omega
      · rw [if_neg g, if_pos rfl]; omega
    · rw [if_neg h]
      by_cases g : i = z + 1
      · rw [if_pos g, if_pos rfl]; omega
      · rw [if_neg g, if_neg h, if_neg g]
  refine ⟨fun i hi => by rw [ef]; exact a _ (fl i hi), fun i j hi hj hij => ?_, fun x hx => ?_⟩
  · rw [ef, ef] at hij
    have := b _ _ (fl i hi) (fl j hj) hij
    rw [← ff i, this, ff]
  · obtain ⟨i, i1, i2⟩ := c x hx
    exact ⟨f i, fl i i1, by rw [ef, ff]; exact i2⟩
theorem bij_sh {q n : Nat} : ∀ z M, z < n ∨ z = 0 → Rng M → q < 6 → n ≤ 256 → bijR M q n → bijR (shS q z M) q n := by
  intro z
  induction z with
  | zero => intro M _ _ _ _ h; exact h
  | succ z ih =>
    intro M hz hR hq hn h
    rw [shS_succ]
    have hd := drV_rng M (k := z + 2) (by omega)
    have h2 := bij_sw (r := (drV M (z + 2)).toNat) h (by omega) (by omega) rfl
    refine ih _ (Or.inl (by omega)) ?_ hq hn h2
    have ho1 := Rng_of (j := 256 * q + z + 1045) hR (by omega) (by omega)
    have ho2 := Rng_of (j := 256 * q + (drV M (z + 2)).toNat + 1044) hR (by omega) (by omega)
    unfold swF
    rw [dN_ne (by omega), dN_ne (by omega)]
    exact Rng_unF (Rng_unF (Rng_d hR) (by omega) (by omega) ho2) (by omega) (by omega) ho1
theorem bij_shF {N : Nat → Int} {q n : Nat} (hR : Rng N) (hq : q < 6) (hn : n ≤ 256) : bijR (shF N q n) q n := by
  obtain ⟨a, b, c⟩ := idS_ok (N := N) hR hq n hn
  unfold shF
  split
  · exact bij_id c
  · exact bij_sh (n - 1) _ (by omega) a hq hn (bij_id c)
theorem PmO_sh {N : Nat → Int} {q n : Nat} (h : PmO N q n) (hq : q < 6) : PmO (shF N q n) (q + 1) n := by
  obtain ⟨a1, a2, a3, a4, a5, a6, a7⟩ := h
  obtain ⟨s1, s2, s3⟩ := shF_ok (p := q) a1 hq a3
  obtain ⟨b1, b2, b3⟩ := bij_shF (n := n) a1 hq a3
  have ho : ∀ y k, y < q → k < n → oP (shF N q n) y k = oP N y k := fun y k hy hk => by unfold oP; rw [s2 _ (by omega) (by omega)]
  refine ⟨s1, by rw [s2 1 (by decide) (by omega)]; exact a2, a3, by omega, fun y hy k hk => ?_, fun y hy i j hi hj hij => ?_, fun y hy x hx => ?_⟩
  · by_cases g : y = q
    · subst g; exact b1 k hk
    · rw [ho y k (by omega) hk]; exact a5 y (by omega) k hk
  · by_cases g : y = q
    · subst g; exact b2 i j hi hj hij
    · rw [ho y i (by omega) hi, ho y j (by omega) hj] at hij; exact a6 y (by omega) i j hi hj hij
  · by_cases g : y = q
    · subst g; exact b3 x hx
    · obtain ⟨i, i1, i2⟩ := a7 y (by omega) x hx
      exact ⟨i, i1, by rw [ho y i (by omega) i1]; exact i2⟩
theorem un8_id {F : Nat → Int} {x : Int} (h : F 1 = x) : un F 1 x = F := by
  funext j
  unfold un
  split
  · rename_i g; rw [g, h]
  · rfl
theorem Rng_sw {M : Nat → Int} {q z n : Nat} (hR : Rng M) (hq : q < 6) (hz : z + 1 < n) (hn : n ≤ 256) : Rng (swF M q z) := by
  have hd := drV_rng M (k := z + 2) (by omega)
  have ho1 := Rng_of (j := 256 * q + z + 1045) hR (by omega) (by omega)
  have ho2 := Rng_of (j := 256 * q + (drV M (z + 2)).toNat + 1044) hR (by omega) (by omega)
  unfold swF
  rw [dN_ne (by omega), dN_ne (by omega)]
  exact Rng_unF (Rng_unF (Rng_d hR) (by omega) (by omega) ho2) (by omega) (by omega) ho1
theorem idS_8 {N : Nat → Int} (q : Nat) : ∀ k, idS N q k 8 = N 8 := by
  intro k
  induction k with
  | zero => rfl
  | succ k ih => rw [idS_succ, un_ne (by omega)]; exact ih
theorem k_layOrder {n q : Nat} {s p o t c : Nat} (hS : ShS T s p o t c) (hd : 2 ≤ d) (hn : I (s + 3) 0 = (n : Int)) (hn2 : n ≤ 256) (hq6 : q < 6) (hX : I s 1 = N 8) (hR : Rng N) (hq : Q none T (sr (sr I (s + 2) (opR (I (s + 2)) (shF N q n) q n)) s (un (I s) 1 (shF N q n 8)))) : EvE G mX9_layOrder d [aR s, aI ((q : Nat) : Int)] T I Q := by
  have hne := neS hS
  refine EvE.mk (lv0 := [some (aR s), some (aI ((q : Nat) : Int)), none, none, none, none]) (Nat.le_of_ble_eq_true rfl) (by decide +kernel) rfl ?_
  refine r_iload_n (pc := 0) (i := 1) dX9_layOrder_0 rfl rfl ?_
  refine r_sipush (pc := 1) dX9_layOrder_1 rfl (in32_of rfl) ?_
  refine r_imulN (pc := 4) (c := ((256 * q : Nat) : Int)) dX9_layOrder_4 (by unfold w32; omega) ?_
  refine r_istore_n (pc := 5) (i := 2) (lv' := [_, _, _, _, _, _]) dX9_layOrder_5 rfl (by decide) rfl ?_
  refine r_iconst (pc := 6) dX9_layOrder_6 (in32_of rfl) ?_
  refine r_istore_n (pc := 7) (i := 3) (lv' := [_, _, _, _, _, _]) dX9_layOrder_7 rfl (by decide) rfl ?_
  refine r_mem (I2 := sr I (s + 2) (opR (I (s + 2)) (idS N q 0) q 0)) (by rw [opR_0, sr_id]) ?_
  refine loop1 (fun (k : Nat) => k ≤ n) (fun (k : Nat) => n - k) (fun (k : Nat) => [some (aR s), some (aI ((q : Nat) : Int)), some (aI ((256 * q : Nat) : Int)), some (aI ((k : Nat) : Int)), none, none]) (fun _ => T) (fun (k : Nat) => sr I (s + 2) (opR (I (s + 2)) (idS N q k) q k)) ?_ 0 (Nat.zero_le _)
  intro k hP ih
  have hP : k ≤ n := hP
  refine (?_ : Ev G mX9_layOrder d 8 [some (aR s), some (aI ((q : Nat) : Int)), some (aI ((256 * q : Nat) : Int)), some (aI ((k : Nat) : Int)), none, none] [] T (sr I (s + 2) (opR (I (s + 2)) (idS N q k) q k)) Q)
  refine r_iload_n (pc := 8) (i := 3) dX9_layOrder_8 rfl rfl ?_
  refine r_aload_n (pc := 9) (i := 0) dX9_layOrder_9 rfl rfl ?_
  refine r_getfr (pc := 10) (b := s + 3) cks dX9_layOrder_10 fl_X9_49 rfl (kS0 hS) (ltS0 hS) (rS0_11 hS) ?_
  refine r_getfi (pc := 13) cks dX9_layOrder_13 fl_X9_67 rfl (kS3 hS) (ltS (k := 3) hS (by omega)) ?_
  refine r_top (b := I (s + 3) 0) ((congrFun (sr_ne (by omega)) _).trans (rfl)) ?_
  refine r_top (b := (n : Int)) (hn) ?_
  refine r_icmp_ge (pc := 16) (tgt := 34) dX9_layOrder_16 rfl (fun c16 => ?_) (fun c16 => ?_)
  · have hkn : k = n := by omega
    subst hkn
    refine r_iload_n (pc := 34) (i := 1) dX9_layOrder_34 rfl rfl ?_
    refine r_if_ne (pc := 35) (tgt := 39) dX9_layOrder_35 rfl (fun c35 => ?_) (fun c35 => ?_)
    · have hid := idS_ok (N := N) hR hq6 k hn2
      have hX8 : I s 1 = idS N q k 8 := hX.trans (idS_8 q k).symm
      rcases Nat.eq_zero_or_pos k with hk0 | hk0
      · refine r_aload_n (pc := 39) (i := 0) dX9_layOrder_39 rfl rfl ?_
        refine r_getfr (pc := 40) (b := s + 3) cks dX9_layOrder_40 fl_X9_49 rfl (kS0 hS) (ltS0 hS) (rS0_11 hS) ?_
        refine r_getfi (pc := 43) cks dX9_layOrder_43 fl_X9_67 rfl (kS3 hS) (ltS (k := 3) hS (by omega)) ?_
        refine r_top (b := I (s + 3) 0) ((congrFun (sr_ne (by omega)) _).trans (rfl)) ?_
        refine r_top (b := (k : Int)) (hn) ?_
        refine r_iconst (pc := 46) dX9_layOrder_46 (in32_of rfl) ?_
        refine r_isubN (pc := 47) (c := (-1)) dX9_layOrder_47 (by unfold w32; omega) ?_
        refine r_istore_n (pc := 48) (i := 3) (lv' := [_, _, _, _, _, _]) dX9_layOrder_48 rfl (by decide) rfl ?_
        refine r_iload_n (pc := 49) (i := 3) dX9_layOrder_49 rfl rfl ?_
        refine r_iconst (pc := 50) dX9_layOrder_50 (in32_of rfl) ?_
        refine r_icmp_lt (pc := 51) (tgt := 107) dX9_layOrder_51 rfl (fun c51 => ?_) (fun c51 => absurd (by decide) c51)
        have e : shF N q k = idS N q k := by unfold shF; rw [if_neg (by omega), show k - 1 = 0 by omega]; rfl
        rw [e] at hq
        have e8 : un (I s) 1 (idS N q k 8) = I s := un8_id hX8
        rw [e8] at hq
        exact r_vret (pc := 107) dX9_layOrder_107 trivial (by have e9 : sr (sr I (s + 2) (opR (I (s + 2)) (idS N q k) q k)) s (I s) = sr I (s + 2) (opR (I (s + 2)) (idS N q k) q k) := ((congrArg (fun fz_ => sr (sr I (s + 2) (opR (I (s + 2)) (idS N q k) q k)) s fz_) (show I s = (sr I (s + 2) (opR (I (s + 2)) (idS N q k) q k)) s from (sr_ne (by omega)).symm))).trans (sr_id _ _); rw [e9] at hq; exact hq)
      · refine r_aload_n (pc := 39) (i := 0) dX9_layOrder_39 rfl rfl ?_
        refine r_getfr (pc := 40) (b := s + 3) cks dX9_layOrder_40 fl_X9_49 rfl (kS0 hS) (ltS0 hS) (rS0_11 hS) ?_
        refine r_getfi (pc := 43) cks dX9_layOrder_43 fl_X9_67 rfl (kS3 hS) (ltS (k := 3) hS (by omega)) ?_
        refine r_top (b := I (s + 3) 0) ((congrFun (sr_ne (by omega)) _).trans (rfl)) ?_
        refine r_top (b := (k : Int)) (hn) ?_
        refine r_iconst (pc := 46) dX9_layOrder_46 (in32_of rfl) ?_
        refine r_isubN (pc := 47) (c := (((k - 1) : Nat) : Int)) dX9_layOrder_47 (by unfold w32; omega) ?_
        refine r_istore_n (pc := 48) (i := 3) (lv' := [_, _, _, _, _, _]) dX9_layOrder_48 rfl (by decide) rfl ?_
        refine r_mem (I2 := sr (sr I (s + 2) (opR (I (s + 2)) (idS N q k) q k)) s (I s)) (((congrArg (fun f_ => sr (sr I (s + 2) (opR (I (s + 2)) (idS N q k) q k)) s f_) (show (sr I (s + 2) (opR (I (s + 2)) (idS N q k) q k)) s = I s from (sr_ne (by omega)).trans (rfl))).symm.trans (sr_id _ _)).symm) ?_
        refine r_mem (I2 := sr (sr I (s + 2) (opR (I (s + 2)) (idS N q k) q k)) s (un (I s) 1 (idS N q k 8))) (by rw [un8_id hX8]) ?_
        refine loop2 (fun (v : Nat) (M : Nat → Int) => v ≤ k - 1 ∧ shF N q k = shS q v M ∧ Rng M) (fun (v : Nat) (M : Nat → Int) => v) (fun (v : Nat) (M : Nat → Int) => [some (aR s), some (aI ((q : Nat) : Int)), some (aI ((256 * q : Nat) : Int)), some (aI ((v : Nat) : Int)), none, none]) (fun _ _ => T) (fun (v : Nat) (M : Nat → Int) => sr (sr I (s + 2) (opR (I (s + 2)) M q k)) s (un (I s) 1 (M 8))) ?_ (k - 1) (idS N q k) ⟨Nat.le_refl _, by unfold shF; rw [if_neg (by omega)], hid.1⟩
        intro v M hP2 ih2
        have hP2 : v ≤ k - 1 ∧ shF N q k = shS q v M ∧ Rng M := hP2
        refine (?_ : Ev G mX9_layOrder d 49 [some (aR s), some (aI ((q : Nat) : Int)), some (aI ((256 * q : Nat) : Int)), some (aI ((v : Nat) : Int)), none, none] [] T (sr (sr I (s + 2) (opR (I (s + 2)) M q k)) s (un (I s) 1 (M 8))) Q)
        refine r_iload_n (pc := 49) (i := 3) dX9_layOrder_49 rfl rfl ?_
        refine r_iconst (pc := 50) dX9_layOrder_50 (in32_of rfl) ?_
        refine r_icmp_lt (pc := 51) (tgt := 107) dX9_layOrder_51 rfl (fun c51 => ?_) (fun c51 => ?_)
        · exact r_vret (pc := 107) dX9_layOrder_107 trivial (by have e : shF N q k = M := (by rw [hP2.2.1, show v = 0 by omega]; rfl); rw [e] at hq; exact hq)
        · obtain ⟨z, hvz⟩ : ∃ z, v = z + 1 := ⟨v - 1, by omega⟩
          have hdr := drV_rng M (k := z + 2) (by omega)
          obtain ⟨r, hr⟩ : ∃ r : Nat, (drV M (z + 2)).toNat = r := ⟨_, rfl⟩
          have hsw := op_sw (O := I (s + 2)) (q := q) (n := k) (show z + 1 < k by omega) (show r < k by omega) hr
          have hx8 : swF M q z 8 = dN M 8 := by unfold swF; rw [un_ne (by omega), un_ne (by omega)]
          refine Ev.re (lv2 := [some (aR s), some (aI ((q : Nat) : Int)), some (aI ((256 * q : Nat) : Int)), some (aI ((z + 1 : Nat) : Int)), none, none]) (by rw [hvz]) rfl ?_
          refine r_aload_n (pc := 54) (i := 0) dX9_layOrder_54 rfl rfl ?_
          refine r_iload_n (pc := 55) (i := 3) dX9_layOrder_55 rfl rfl ?_
          refine r_iconst (pc := 56) dX9_layOrder_56 (in32_of rfl) ?_
          refine r_iaddN (pc := 57) (c := ((z + 2 : Nat) : Int)) dX9_layOrder_57 (by unfold w32; omega) ?_
          refine r_callV1 (pc := 58) (d - 1) [aI ((z + 2 : Nat) : Int)] dX9_layOrder_58 (CV.mk2 mk_X9_draw lk_X9_94) (RC.of (ltS0 hS) (kS0 hS) (by decide) rfl) rfl rfl (by omega) (Nat.le_of_ble_eq_true rfl) (Nat.le_of_ble_eq_true rfl) (k_drM (k := z + 2) (M := M) hS ((congrFun (show (sr (sr I (s + 2) (opR (I (s + 2)) M q k)) s (un (I s) 1 (M 8))) s = un (I s) 1 (M 8) from sr_row _ _ _) 1).trans un_at) (Rng_x hP2.2.2) (by omega) (by omega) ?_)
          refine ⟨_, rfl, fun _ => ?_⟩
          refine r_mem (I2 := sr (sr I (s + 2) (opR (I (s + 2)) M q k)) s (un (un (I s) 1 (M 8)) 1 (dN M 8))) ((congrArg (fun v0_ => (sr (sr (sr I (s + 2) (opR (I (s + 2)) M q k)) s (un (I s) 1 (M 8))) s (un v0_ 1 (dN M 8)))) (show (sr (sr I (s + 2) (opR (I (s + 2)) M q k)) s (un (I s) 1 (M 8))) s = un (I s) 1 (M 8) from sr_row _ _ _)).trans (sr_sr _ _ _ _)) ?_
          refine r_top (b := (r : Int)) (by omega) ?_
          refine r_mem (I2 := sr (sr I (s + 2) (opR (I (s + 2)) M q k)) s (un (I s) 1 (dN M 8))) (by rw [un_un]) ?_
          refine r_istore (pc := 61) (i := 4) (lv' := [_, _, _, _, _, _]) dX9_layOrder_61 (by decide) rfl ?_
          refine r_aload_n (pc := 63) (i := 0) dX9_layOrder_63 rfl rfl ?_
          refine r_getfr (pc := 64) (b := s + 2) cks dX9_layOrder_64 fl_X9_43 rfl (kS0 hS) (ltS0 hS) (rS0_10 hS) ?_
          refine r_iload_n (pc := 67) (i := 2) dX9_layOrder_67 rfl rfl ?_
          refine r_iload_n (pc := 68) (i := 3) dX9_layOrder_68 rfl rfl ?_
          refine r_iaddN (pc := 69) (c := ((256 * q + z + 1 : Nat) : Int)) dX9_layOrder_69 (by unfold w32; omega) ?_
          refine r_ild (pc := 70) (256 * q + z + 1) dX9_layOrder_70 (kS2 hS) (ltS (k := 2) hS (by omega)) rfl (by rw [lS2 hS]; omega) ?_
          refine r_top (b := (opR (I (s + 2)) M q k) (256 * q + z + 1)) ((congrFun (sr_ne (by omega)) _).trans (sr_at _ _ _ _)) ?_
          refine r_top (b := M (256 * q + (z + 1) + 1044)) (by rw [show 256 * q + z + 1 = 256 * q + (z + 1) by omega]; exact opR_in (by omega)) ?_
          refine r_istore (pc := 71) (i := 5) (lv' := [_, _, _, _, _, _]) dX9_layOrder_71 (by decide) rfl ?_
          refine r_aload_n (pc := 73) (i := 0) dX9_layOrder_73 rfl rfl ?_
          refine r_getfr (pc := 74) (b := s + 2) cks dX9_layOrder_74 fl_X9_43 rfl (kS0 hS) (ltS0 hS) (rS0_10 hS) ?_
          refine r_iload_n (pc := 77) (i := 2) dX9_layOrder_77 rfl rfl ?_
          refine r_iload_n (pc := 78) (i := 3) dX9_layOrder_78 rfl rfl ?_
          refine r_iaddN (pc := 79) (c := ((256 * q + z + 1 : Nat) : Int)) dX9_layOrder_79 (by unfold w32; omega) ?_
          refine r_aload_n (pc := 80) (i := 0) dX9_layOrder_80 rfl rfl ?_
          refine r_getfr (pc := 81) (b := s + 2) cks dX9_layOrder_81 fl_X9_43 rfl (kS0 hS) (ltS0 hS) (rS0_10 hS) ?_
          refine r_iload_n (pc := 84) (i := 2) dX9_layOrder_84 rfl rfl ?_
          refine r_iload (pc := 85) (i := 4) dX9_layOrder_85 rfl ?_
          refine r_iaddN (pc := 87) (c := ((256 * q + r : Nat) : Int)) dX9_layOrder_87 (by unfold w32; omega) ?_
          refine r_ild (pc := 88) (256 * q + r) dX9_layOrder_88 (kS2 hS) (ltS (k := 2) hS (by omega)) rfl (by rw [lS2 hS]; omega) ?_
          refine r_top (b := (opR (I (s + 2)) M q k) (256 * q + r)) ((congrFun (sr_ne (by omega)) _).trans (sr_at _ _ _ _)) ?_
          refine r_top (b := M (256 * q + r + 1044)) (by rw [show 256 * q + r = 256 * q + (r) by omega]; exact opR_in (by omega)) ?_
          refine r_ist (pc := 89) (256 * q + z + 1) dX9_layOrder_89 (kS2 hS) (ltS (k := 2) hS (by omega)) rfl (by rw [lS2 hS]; omega) ?_
          refine r_mem (I2 := sr (sr I (s + 2) (un (opR (I (s + 2)) M q k) (256 * q + z + 1) (M (256 * q + r + 1044)))) s (un (I s) 1 (dN M 8))) ((up2_row _ _ _ _).trans ((congrArg (fun fz_ => sr (sr (sr I (s + 2) (opR (I (s + 2)) M q k)) s (un (I s) 1 (dN M 8))) (s + 2) (un fz_ (256 * q + z + 1) (M (256 * q + r + 1044)))) (show (sr (sr I (s + 2) (opR (I (s + 2)) M q k)) s (un (I s) 1 (dN M 8))) (s + 2) = opR (I (s + 2)) M q k from (sr_ne (by omega)).trans (sr_row _ _ _))).trans ((sr_comm (by omega)).trans (congrArg (fun J => sr J s (un (I s) 1 (dN M 8))) (sr_sr _ _ _ _))))) ?_
          refine r_aload_n (pc := 90) (i := 0) dX9_layOrder_90 rfl rfl ?_
          refine r_getfr (pc := 91) (b := s + 2) cks dX9_layOrder_91 fl_X9_43 rfl (kS0 hS) (ltS0 hS) (rS0_10 hS) ?_
          refine r_iload_n (pc := 94) (i := 2) dX9_layOrder_94 rfl rfl ?_
          refine r_iload (pc := 95) (i := 4) dX9_layOrder_95 rfl ?_
          refine r_iaddN (pc := 97) (c := ((256 * q + r : Nat) : Int)) dX9_layOrder_97 (by unfold w32; omega) ?_
          refine r_iload (pc := 98) (i := 5) dX9_layOrder_98 rfl ?_
          refine r_ist (pc := 100) (256 * q + r) dX9_layOrder_100 (kS2 hS) (ltS (k := 2) hS (by omega)) rfl (by rw [lS2 hS]; omega) ?_
          refine r_mem (I2 := sr (sr I (s + 2) (un (un (opR (I (s + 2)) M q k) (256 * q + z + 1) (M (256 * q + r + 1044))) (256 * q + r) (M (256 * q + (z + 1) + 1044)))) s (un (I s) 1 (dN M 8))) ((up2_row _ _ _ _).trans ((congrArg (fun fz_ => sr (sr (sr I (s + 2) (un (opR (I (s + 2)) M q k) (256 * q + z + 1) (M (256 * q + r + 1044)))) s (un (I s) 1 (dN M 8))) (s + 2) (un fz_ (256 * q + r) (M (256 * q + (z + 1) + 1044)))) (show (sr (sr I (s + 2) (un (opR (I (s + 2)) M q k) (256 * q + z + 1) (M (256 * q + r + 1044)))) s (un (I s) 1 (dN M 8))) (s + 2) = un (opR (I (s + 2)) M q k) (256 * q + z + 1) (M (256 * q + r + 1044)) from (sr_ne (by omega)).trans (sr_row _ _ _))).trans ((sr_comm (by omega)).trans (congrArg (fun J => sr J s (un (I s) 1 (dN M 8))) (sr_sr _ _ _ _))))) ?_
          refine r_iincN (pc := 101) (i := 3) (c := ((z : Nat) : Int)) (lv' := [_, _, _, _, _, _]) dX9_layOrder_101 rfl (by decide) (by unfold w32; omega) rfl ?_
          refine r_goto (pc := 104) (tgt := 49) dX9_layOrder_104 rfl ?_
          refine Ev.weak (lv2 := [some (aR s), some (aI ((q : Nat) : Int)), some (aI ((256 * q : Nat) : Int)), some (aI ((z : Nat) : Int)), none, none]) ⟨Or.inr rfl, Or.inr rfl, Or.inr rfl, Or.inr rfl, Or.inl rfl, Or.inl rfl, trivial⟩ ?_
          exact Ev.re rfl (by rw [hsw, ← hx8]) (ih2 z (swF M q z) ⟨by omega, by rw [hP2.2.1, hvz, shS_succ], Rng_sw (n := k) hP2.2.2 hq6 (by omega) (by omega)⟩ (by omega))
    · have c35 := Decidable.of_not_not c35
      have hX8 : I s 1 = idS N q k 8 := hX.trans (idS_8 q k).symm
      have e : shF N q k = idS N q k := by unfold shF; rw [if_pos (by omega)]
      rw [e] at hq
      have e8 : un (I s) 1 (idS N q k 8) = I s := un8_id hX8
      rw [e8] at hq
      exact r_vret (pc := 38) dX9_layOrder_38 trivial (by have e9 : sr (sr I (s + 2) (opR (I (s + 2)) (idS N q k) q k)) s (I s) = sr I (s + 2) (opR (I (s + 2)) (idS N q k) q k) := ((congrArg (fun fz_ => sr (sr I (s + 2) (opR (I (s + 2)) (idS N q k) q k)) s fz_) (show I s = (sr I (s + 2) (opR (I (s + 2)) (idS N q k) q k)) s from (sr_ne (by omega)).symm))).trans (sr_id _ _); rw [e9] at hq; exact hq)
  · refine r_aload_n (pc := 19) (i := 0) dX9_layOrder_19 rfl rfl ?_
    refine r_getfr (pc := 20) (b := s + 2) cks dX9_layOrder_20 fl_X9_43 rfl (kS0 hS) (ltS0 hS) (rS0_10 hS) ?_
    refine r_iload_n (pc := 23) (i := 2) dX9_layOrder_23 rfl rfl ?_
    refine r_iload_n (pc := 24) (i := 3) dX9_layOrder_24 rfl rfl ?_
    refine r_iaddN (pc := 25) (c := ((256 * q + k : Nat) : Int)) dX9_layOrder_25 (by unfold w32; omega) ?_
    refine r_iload_n (pc := 26) (i := 3) dX9_layOrder_26 rfl rfl ?_
    refine r_ist (pc := 27) (256 * q + k) dX9_layOrder_27 (kS2 hS) (ltS (k := 2) hS (by omega)) rfl (by rw [lS2 hS]; omega) ?_
    refine r_mem (I2 := sr I (s + 2) (un (opR (I (s + 2)) (idS N q k) q k) (256 * q + k) ((k : Nat) : Int))) ((up2_row _ _ _ _).trans ((congrArg (fun fz_ => sr (sr I (s + 2) (opR (I (s + 2)) (idS N q k) q k)) (s + 2) (un fz_ (256 * q + k) ((k : Nat) : Int))) (show (sr I (s + 2) (opR (I (s + 2)) (idS N q k) q k)) (s + 2) = opR (I (s + 2)) (idS N q k) q k from sr_row _ _ _)).trans (sr_sr _ _ _ _))) ?_
    refine r_iincN (pc := 28) (i := 3) (c := ((k + 1 : Nat) : Int)) (lv' := [_, _, _, _, _, _]) dX9_layOrder_28 rfl (by decide) (by unfold w32; omega) rfl ?_
    refine r_goto (pc := 31) (tgt := 8) dX9_layOrder_31 rfl ?_
    exact Ev.re rfl (by rw [op_id]) (ih (k + 1) (by omega) (by omega))
end C19

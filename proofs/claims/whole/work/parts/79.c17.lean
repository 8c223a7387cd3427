section C17
variable {G : Gl} {d : Nat} {T : Sh} {I : Mi} {N : Nat → Int} {Q : Option AV → Sh → Mi → Prop}
abbrev WE := Sh × Mi × Nat × Nat × Nat × Nat
abbrev HX := (Nat → Int) × Nat × Nat × Nat
/-- while a block is halved -/
def hvI (T : Sh) (I : Mi) (s m p o t c e n q : Nat) (M : Nat → Int) (G1 : Nat → Int) (E : WE) (X : HX) : Prop :=
  AsP T E.1 I E.2.1 s m p o t c E.2.2.1 E.2.2.2.1 E.2.2.2.2.1 E.2.2.2.2.2 X.1 e n ∧ PmO X.1 e n ∧ LdOk X.1 e n ∧ X.2.2.2 ≤ 8 ∧ X.2.2.1 ≤ 2 ^ (8 - X.2.2.2) ∧ 1 ≤ X.2.2.1 ∧ X.2.1 + X.2.2.1 ≤ n ∧ G1 = hvS q (8 - X.2.2.2) X.1 X.2.1 X.2.2.1 ∧ tN X.1 + (8 - X.2.2.2) + 1 ≤ 13608 ∧ (∀ B q0, q0 < 6 → OdR (I (m + 2)) M B n q0 → OdR (I (m + 2)) X.1 B n q0) ∧ ∀ B q0, q0 < 6 → BoR (I (m + 1)) M B n q0 → BoR (I (m + 1)) X.1 B n q0
theorem hvI_step {T U : Sh} {I K : Mi} {s m p o t c e n q p2 o2 t2 c2 : Nat} {M G1 : Nat → Int} {E : WE} {X : HX} (h : hvI T I s m p o t c e n q M G1 E X) (hq : q < e) (hr : 1 < X.2.2.1)
   (hA : AsP E.1 U E.2.1 K s m E.2.2.1 E.2.2.2.1 E.2.2.2.2.1 E.2.2.2.2.2 p2 o2 t2 c2 (askF X.1 q X.2.1 (X.2.2.1 / 2)) e n) :
   (ukO X.1 q X.2.1 (X.2.2.1 / 2) = 1 → hvI T I s m p o t c e n q M G1 (U, K, p2, o2, t2, c2) (askF X.1 q X.2.1 (X.2.2.1 / 2), X.2.1, X.2.2.1 / 2, X.2.2.2 + 1)) ∧ (¬ ukO X.1 q X.2.1 (X.2.2.1 / 2) = 1 → hvI T I s m p o t c e n q M G1 (U, K, p2, o2, t2, c2) (askF X.1 q X.2.1 (X.2.2.1 / 2), X.2.1 + X.2.2.1 / 2, X.2.2.1 - X.2.2.1 / 2, X.2.2.2 + 1)) := by
  obtain ⟨h1, h2, h3, h4, h5, h6, h7, h8, h9, h10, h11⟩ := h
  have hn2 := h2.2.2.1
  have he6 := h2.2.2.2.1
  obtain ⟨v, hv⟩ := p2_pos h5 hr
  have hv2 : 8 - (X.2.2.2 + 1) = v := by omega
  rw [hv] at h5
  obtain ⟨k1, k2⟩ := p2_half h5 hr
  have hP := PmO_ask (p := q) (b := X.2.1) (m := X.2.2.1 / 2) h2 (by omega)
  have hLd := LdOk_ask (p := q) (b := X.2.1) (m := X.2.2.1 / 2) h3 h2.1 he6 hn2 hq (by omega) (by omega)
  have ht := ak_t X.1 q X.2.1 (X.2.2.1 / 2)
  have e1 : G1 = if ukO X.1 q X.2.1 (X.2.2.1 / 2) = 1 then hvS q v (askF X.1 q X.2.1 (X.2.2.1 / 2)) X.2.1 (X.2.2.1 / 2) else hvS q v (askF X.1 q X.2.1 (X.2.2.1 / 2)) (X.2.1 + X.2.2.1 / 2) (X.2.2.1 - X.2.2.1 / 2) := by
    rw [h8, hv, hvS_succ, if_neg (by omega)]
  refine ⟨fun hu => ⟨h1.tr hA, hP, hLd, show X.2.2.2 + 1 ≤ 8 by omega, ?_, show 1 ≤ X.2.2.1 / 2 by omega, show X.2.1 + X.2.2.1 / 2 ≤ n by omega, ?_, ?_, fun B q0 hq0 ho => Od_ask (h10 B q0 hq0 ho) h2.1 hn2 hq0, fun B q0 hq0 ho => Bo_ask (h11 B q0 hq0 ho) hn2 hq0⟩, fun hu => ⟨h1.tr hA, hP, hLd, show X.2.2.2 + 1 ≤ 8 by omega, ?_, show 1 ≤ X.2.2.1 - X.2.2.1 / 2 by omega, show X.2.1 + X.2.2.1 / 2 + (X.2.2.1 - X.2.2.1 / 2) ≤ n by omega, ?_, ?_, fun B q0 hq0 ho => Od_ask (h10 B q0 hq0 ho) h2.1 hn2 hq0, fun B q0 hq0 ho => Bo_ask (h11 B q0 hq0 ho) hn2 hq0⟩⟩
  · show X.2.2.1 / 2 ≤ 2 ^ (8 - (X.2.2.2 + 1)); rw [hv2]; exact k1
  · show G1 = hvS q (8 - (X.2.2.2 + 1)) _ _ _; rw [hv2, e1, if_pos hu]
  · show tN (askF X.1 q X.2.1 (X.2.2.1 / 2)) + (8 - (X.2.2.2 + 1)) + 1 ≤ 13608; omega
  · show X.2.2.1 - X.2.2.1 / 2 ≤ 2 ^ (8 - (X.2.2.2 + 1)); rw [hv2]; exact k2
  · show G1 = hvS q (8 - (X.2.2.2 + 1)) _ _ _; rw [hv2, e1, if_neg hu]
  · show tN (askF X.1 q X.2.1 (X.2.2.1 / 2)) + (8 - (X.2.2.2 + 1)) + 1 ≤ 13608; omega
theorem hv_f {T : Sh} {I : Mi} {s m p o t c e n q q0 B x : Nat} {M G1 : Nat → Int} {E : WE} {X : HX} (h : hvI T I s m p o t c e n q M G1 E X) (hD : ShD T m) (hdm : m + 4 ≤ s ∨ s + 15 ≤ m) (hS : ShS T s p o t c) (hBo : BoR (I (m + 1)) M B n q0) (he : e = q0 + 1) (hB : 2 ≤ B) (hx : x < n) (hq0 : q0 < 6) : ∀ y, y < q0 + 1 → E.2.1 (m + 1) (256 * y + x) = (((fun y => (E.2.1 (m + 1) (256 * y + x)).toNat) y : Nat) : Int) ∧ (fun y => (E.2.1 (m + 1) (256 * y + x)).toNat) y < 128 := by
  intro y hy
  have hm0 := hD.1
  have q := ne_mk (k := 1) hS hm0.1 hdm (by decide)
  have hk : E.2.1 (m + 1) = I (m + 1) := h.1.2.2.2 _ (by omega) (Ne.symm (ne_ms hdm (by decide) (by decide))) (Ne.symm q.1) (Ne.symm q.2.1) (Ne.symm q.2.2) (by omega)
  have hb := h.2.2.2.2.2.2.2.2.2.2 B q0 hq0 hBo
  obtain ⟨i, i1, i2⟩ := h.2.1.2.2.2.2.2.2 y (by omega) x hx
  have hv := hb y (by omega) i i1
  rw [i2, ← hk] at hv
  have hn2 := h.2.1.2.2.1
  have h3 : i / (B * 2 ^ y) < 128 := by
    have h2 : 2 * 1 ≤ B * 2 ^ y := Nat.mul_le_mul hB (Nat.two_pow_pos y)
    exact Nat.lt_of_le_of_lt (Nat.div_le_div_left h2 (by decide)) (by omega)
  show E.2.1 (m + 1) (256 * y + x) = (((E.2.1 (m + 1) (256 * y + x)).toNat : Nat) : Int) ∧ (E.2.1 (m + 1) (256 * y + x)).toNat < 128
  rw [hv, Int.toNat_natCast]
  exact ⟨rfl, h3⟩
theorem k_halve {m q k e n B q0 : Nat} {M : Nat → Int} {s p o t c : Nat} (hS : ShS T s p o t c) (hd : 4 ≤ d) (hD : ShD T m) (hdm : m + 4 ≤ s ∨ s + 15 ≤ m) (hM : MwR T I s p o t c M e n) (hP0 : PmO M e n) (hL : LdOk M e n) (he : e = q0 + 1) (hqq : q ≤ q0) (hB1 : 2 ≤ B) (hB2 : B ≤ 64) (hmB : I m 3 = (B : Int)) (hmq : I m 4 = (q0 : Int)) (hkn : k * (B * 2 ^ q) < n) (ht : tN M + 9 ≤ 13608) (hOd : OdR (I (m + 2)) M B n q0) (hBo : BoR (I (m + 1)) M B n q0) (hq : ∀ (U : Sh) (K : Mi) (p2 o2 t2 c2 : Nat), HvP T U I K s m p o t c p2 o2 t2 c2 (hvF M q (k * (B * 2 ^ q)) (lnB n (B * 2 ^ q) (k * (B * 2 ^ q)))) e n B q0 → Q none U K) : EvE G mX5_halve d [aR m, aR s, aI ((q : Nat) : Int), aI ((k : Nat) : Int)] T I Q := by
  have hm0 := hD.1
  have hn2 := hP0.2.2.1
  have he6 := hP0.2.2.2.1
  have hq0 : q < e := by omega
  obtain ⟨z, hz⟩ : ∃ z, z = B * 2 ^ q := ⟨_, rfl⟩
  have hz2 : z ≤ 2048 := hz ▸ pw_le hB2 (by omega)
  have hz0 : 0 < z := hz ▸ Nat.mul_pos (by omega) (Nat.two_pow_pos q)
  rw [← hz] at hkn
  have hl0 : 1 ≤ lnB n z (k * z) ∧ k * z + lnB n z (k * z) ≤ n ∧ lnB n z (k * z) ≤ 256 := by unfold lnB; omega
  have hnx := hS.1.2.1
  have hinit : hvI T I s m p o t c e n q M (hvF M q (k * (B * 2 ^ q)) (lnB n (B * 2 ^ q) (k * (B * 2 ^ q)))) (T, I, p, o, t, c) (M, k * z, lnB n z (k * z), 0) := ⟨AsP.id hM, hP0, hL, Nat.zero_le _, hl0.2.2, hl0.1, hl0.2.1, by rw [← hz]; rfl, show tN M + 8 + 1 ≤ 13608 from ht, fun _ _ _ h => h, fun _ _ _ h => h⟩
  refine EvE.mk (lv0 := [some (aR m), some (aR s), some (aI ((q : Nat) : Int)), some (aI ((k : Nat) : Int)), none, none, none, none]) (Nat.le_of_ble_eq_true rfl) (by decide +kernel) rfl ?_
  refine r_aload_n (pc := 0) (i := 1) dX5_halve_0 rfl rfl ?_
  refine r_getfr (pc := 1) (b := s + 3) cks dX5_halve_1 fl_X5_48 rfl (kS0 hS) (ltS0 hS) (rS0_11 hS) ?_
  refine r_getfi (pc := 4) cks dX5_halve_4 fl_X5_52 rfl (kS3 hS) (ltS (k := 3) hS (by omega)) ?_
  refine r_top (b := (n : Int)) (hM.2.1.1) ?_
  refine r_aload_n (pc := 7) (i := 0) dX5_halve_7 rfl rfl ?_
  refine r_getfi (pc := 8) cks dX5_halve_8 fl_X5_22 rfl (kD0 hD) (ltD0 hD) ?_
  refine r_top (b := (B : Int)) (hmB) ?_
  refine r_iload_n (pc := 11) (i := 2) dX5_halve_11 rfl rfl ?_
  refine r_ishl (pc := 12) dX5_halve_12 ?_
  refine r_top (b := ((z : Nat) : Int)) (by rw [isl_n (by omega) (by omega) (by omega), hz]; simp) ?_
  refine r_iload_n (pc := 13) (i := 3) dX5_halve_13 rfl rfl ?_
  refine r_callS1 (pc := 14) (d - 1) [aI ((n : Nat) : Int), aI ((z : Nat) : Int), aI ((k : Nat) : Int)] dX5_halve_14 (CS.mk2 mk_X11_lengthOf lk_X5_61) rfl rfl (by omega) (Nat.le_of_ble_eq_true rfl) (Nat.le_of_ble_eq_true rfl) (k_lengthOf (n := n) (z := z) (k := k) (by omega) hn2 (by omega) (by omega) ?_)
  refine ⟨_, rfl, fun _ => ?_⟩
  refine r_istore (pc := 17) (i := 4) (lv' := [_, _, _, _, _, _, _, _]) dX5_halve_17 (by decide) rfl ?_
  refine r_iload_n (pc := 19) (i := 3) dX5_halve_19 rfl rfl ?_
  refine r_aload_n (pc := 20) (i := 0) dX5_halve_20 rfl rfl ?_
  refine r_getfi (pc := 21) cks dX5_halve_21 fl_X5_22 rfl (kD0 hD) (ltD0 hD) ?_
  refine r_top (b := (B : Int)) (hmB) ?_
  refine r_iload_n (pc := 24) (i := 2) dX5_halve_24 rfl rfl ?_
  refine r_ishl (pc := 25) dX5_halve_25 ?_
  refine r_top (b := ((z : Nat) : Int)) (by rw [isl_n (by omega) (by omega) (by omega), hz]; simp) ?_
  refine r_imulN (pc := 26) (c := (((k * z) : Nat) : Int)) dX5_halve_26 (w32_mul (by omega)) ?_
  refine r_istore (pc := 27) (i := 5) (lv' := [_, _, _, _, _, _, _, _]) dX5_halve_27 (by decide) rfl ?_
  refine r_iconst (pc := 29) dX5_halve_29 (in32_of rfl) ?_
  refine r_istore (pc := 30) (i := 6) (lv' := [_, _, _, _, _, _, _, _]) dX5_halve_30 (by decide) rfl ?_
  refine loop2 (fun (E : WE) (X : HX) => hvI T I s m p o t c e n q M (hvF M q (k * (B * 2 ^ q)) (lnB n (B * 2 ^ q) (k * (B * 2 ^ q)))) E X) (fun (E : WE) (X : HX) => 8 - X.2.2.2) (fun (E : WE) (X : HX) => [some (aR m), some (aR s), some (aI ((q : Nat) : Int)), some (aI ((k : Nat) : Int)), some (aI ((X.2.2.1 : Nat) : Int)), some (aI ((X.2.1 : Nat) : Int)), some (aI ((X.2.2.2 : Nat) : Int)), none]) (fun (E : WE) (X : HX) => E.1) (fun (E : WE) (X : HX) => E.2.1) ?_ (T, I, p, o, t, c) (M, k * z, lnB n z (k * z), 0) hinit
  intro E X hP ih
  have hP : hvI T I s m p o t c e n q M (hvF M q (k * (B * 2 ^ q)) (lnB n (B * 2 ^ q) (k * (B * 2 ^ q)))) E X := hP
  have hE : ShS E.1 s E.2.2.1 E.2.2.2.1 E.2.2.2.2.1 E.2.2.2.2.2 := hP.1.1.1
  have hDE := ShD_ext hD hP.1.2.1 hdm
  obtain ⟨_, _, _, hj8, hr8, hr1, hbr, hG, htn, _⟩ := id hP
  have hj7 : 1 < X.2.2.1 → X.2.2.2 < 8 := fun h => by obtain ⟨v, hv⟩ := p2_pos hr8 h; omega
  refine (?_ : Ev G mX5_halve d 32 [some (aR m), some (aR s), some (aI ((q : Nat) : Int)), some (aI ((k : Nat) : Int)), some (aI ((X.2.2.1 : Nat) : Int)), some (aI ((X.2.1 : Nat) : Int)), some (aI ((X.2.2.2 : Nat) : Int)), none] [] E.1 E.2.1 Q)
  refine r_iload (pc := 32) (i := 6) dX5_halve_32 rfl ?_
  refine r_sipush (pc := 34) dX5_halve_34 rfl (in32_of rfl) ?_
  refine r_icmp_ge (pc := 37) (tgt := 92) dX5_halve_37 rfl (fun c37 => absurd c37 (by omega)) (fun c37 => ?_)
  refine r_iload (pc := 40) (i := 4) dX5_halve_40 rfl ?_
  refine r_iconst (pc := 42) dX5_halve_42 (in32_of rfl) ?_
  refine r_icmp_le (pc := 43) (tgt := 92) dX5_halve_43 rfl (fun c43 => ?_) (fun c43 => ?_)
  · have hm4 : E.2.1 m 4 = (q0 : Int) := (congrFun (hP.1.2.2.2 m (by omega) (Ne.symm (ne_ms (k := 7) (j := 0) hdm (by decide) (by decide))) (Ne.symm (ne_mk (k := 0) hS hm0.1 hdm (by decide)).1) (Ne.symm (ne_mk (k := 0) hS hm0.1 hdm (by decide)).2.1) (Ne.symm (ne_mk (k := 0) hS hm0.1 hdm (by decide)).2.2) (by omega)) 4).trans hmq
    refine r_aload_n (pc := 92) (i := 1) dX5_halve_92 rfl rfl ?_
    refine r_iload_n (pc := 93) (i := 2) dX5_halve_93 rfl rfl ?_
    refine r_iload (pc := 94) (i := 5) dX5_halve_94 rfl ?_
    refine r_callV1 (pc := 96) (d - 1) [aI ((q : Nat) : Int), aI ((X.2.1 : Nat) : Int)] dX5_halve_96 (CV.mk2 mk_X9_ordered lk_X5_85) (RC.of (ltS0 hE) (kS0 hE) (by decide) rfl) rfl rfl (by omega) (Nat.le_of_ble_eq_true rfl) (Nat.le_of_ble_eq_true rfl) (k_ordered (q := q) (k := X.2.1) hE (by omega) ?_)
    refine ⟨_, rfl, fun _ => ?_⟩
    have hox := oP_rd (p := q) (k := X.2.1) (Rng_O hP.2.1.1) (by omega)
    have hxn := hP.2.1.2.2.2.2.1 q hq0 X.2.1 (by omega)
    refine r_top (b := ((oP X.1 q X.2.1 : Nat) : Int)) ((hP.1.1.2.2.1 q hq0 X.2.1 (by omega)).trans hox.1) ?_
    refine r_istore (pc := 99) (i := 6) (lv' := [_, _, _, _, _, _, _, _]) dX5_halve_99 (by decide) rfl ?_
    refine r_aload_n (pc := 101) (i := 1) dX5_halve_101 rfl rfl ?_
    refine r_getfr (pc := 102) (b := s + 3) cks dX5_halve_102 fl_X5_48 rfl (kS0 hE) (ltS0 hE) (rS0_11 hE) ?_
    refine r_iload (pc := 105) (i := 6) dX5_halve_105 rfl ?_
    refine r_callV0 (pc := 107) (d - 1) [aI (((oP X.1 q X.2.1) : Nat) : Int)] dX5_halve_107 (CV.mk2 mk_X3_turn lk_X5_114) (RC.of (ltS (k := 3) hE (by omega)) (kS3 hE) (by decide) rfl) rfl rfl (by omega) (Nat.le_of_ble_eq_true rfl) (Nat.le_of_ble_eq_true rfl) (k_turnN (n := n) (k := oP X.1 q X.2.1) hE (by omega) hP.1.1.2.1.1 hn2 hxn ?_)
    refine ⟨rfl, fun _ => ?_⟩
    refine r_mem (I2 := sr E.2.1 (s + 5) (un (E.2.1 (s + 5)) (oP X.1 q X.2.1) (ixo ((E.2.1 (s + 5)) (oP X.1 q X.2.1)) 1))) ((congrArg (fun v0_ => (sr E.2.1 (s + 5) (un v0_ (oP X.1 q X.2.1) (ixo (v0_ (oP X.1 q X.2.1)) 1)))) (show E.2.1 (s + 5) = E.2.1 (s + 5) from rfl)).trans (rfl)) ?_
    refine r_aload_n (pc := 110) (i := 1) dX5_halve_110 rfl rfl ?_
    refine r_dup (pc := 111) dX5_halve_111 rfl ?_
    refine r_getfi (pc := 112) cks dX5_halve_112 fl_X5_37 rfl (kS0 hE) (ltS0 hE) ?_
    refine r_top (b := E.2.1 s 8) ((congrFun (sr_ne (by omega)) _).trans (rfl)) ?_
    refine r_top (b := X.1 7) (hP.1.1.2.2.2.2.1) ?_
    refine r_iconst (pc := 115) dX5_halve_115 (in32_of rfl) ?_
    refine r_iaddN (pc := 116) (c := (w32 (X.1 7 + 1))) dX5_halve_116 rfl ?_
    refine r_putfi (pc := 117) cks dX5_halve_117 fl_X5_37 (pf_9_8 _ _) rfl (kS0 hE) (ltS0 hE) ?_
    refine r_mem (I2 := sr (sr E.2.1 (s + 5) (un (E.2.1 (s + 5)) (oP X.1 q X.2.1) (ixo ((E.2.1 (s + 5)) (oP X.1 q X.2.1)) 1))) s (un (E.2.1 s) 8 (w32 (X.1 7 + 1)))) ((up2_row _ _ _ _).trans ((congrArg (fun fz_ => sr (sr E.2.1 (s + 5) (un (E.2.1 (s + 5)) (oP X.1 q X.2.1) (ixo ((E.2.1 (s + 5)) (oP X.1 q X.2.1)) 1))) s (un fz_ 8 (w32 (X.1 7 + 1)))) (show (sr E.2.1 (s + 5) (un (E.2.1 (s + 5)) (oP X.1 q X.2.1) (ixo ((E.2.1 (s + 5)) (oP X.1 q X.2.1)) 1))) s = E.2.1 s from (sr_ne (by omega)).trans (rfl))).trans (rfl))) ?_
    refine r_iconst (pc := 120) dX5_halve_120 (in32_of rfl) ?_
    refine r_istore (pc := 121) (i := 7) (lv' := [_, _, _, _, _, _, _, _]) dX5_halve_121 (by decide) rfl ?_
    have hf : ∀ y, y < q0 + 1 → E.2.1 (m + 1) (256 * y + oP X.1 q X.2.1) = (((fun y => (E.2.1 (m + 1) (256 * y + oP X.1 q X.2.1)).toNat) y : Nat) : Int) ∧ (fun y => (E.2.1 (m + 1) (256 * y + oP X.1 q X.2.1)).toNat) y < 128 := hv_f hP hD hdm hS hBo he hB1 hxn (by omega)
    refine r_mem (I2 := sr (sr (sr E.2.1 (s + 5) (un (E.2.1 (s + 5)) (oP X.1 q X.2.1) (ixo ((E.2.1 (s + 5)) (oP X.1 q X.2.1)) 1))) s (un (E.2.1 s) 8 (w32 (X.1 7 + 1)))) (m + 2) (E.2.1 (m + 2))) (((congrArg (fun f_ => sr (sr (sr E.2.1 (s + 5) (un (E.2.1 (s + 5)) (oP X.1 q X.2.1) (ixo ((E.2.1 (s + 5)) (oP X.1 q X.2.1)) 1))) s (un (E.2.1 s) 8 (w32 (X.1 7 + 1)))) (m + 2) f_) (show (sr (sr E.2.1 (s + 5) (un (E.2.1 (s + 5)) (oP X.1 q X.2.1) (ixo ((E.2.1 (s + 5)) (oP X.1 q X.2.1)) 1))) s (un (E.2.1 s) 8 (w32 (X.1 7 + 1)))) (m + 2) = E.2.1 (m + 2) from (sr_ne (by omega)).trans ((sr_ne (by omega)).trans (rfl)))).symm.trans (sr_id _ _)).symm) ?_
    obtain ⟨f, hf0⟩ : ∃ f : Nat → Nat, (fun y => (E.2.1 (m + 1) (256 * y + oP X.1 q X.2.1)).toNat) = f := ⟨_, rfl⟩
    rw [hf0] at hf
    refine Ev.weak (lv2 := [some (aR m), some (aR s), some (aI ((q : Nat) : Int)), some (aI ((k : Nat) : Int)), none, none, some (aI (((oP X.1 q X.2.1) : Nat) : Int)), some (aI 0)]) ⟨Or.inr rfl, Or.inr rfl, Or.inr rfl, Or.inr rfl, Or.inl rfl, Or.inl rfl, Or.inr rfl, Or.inr rfl, trivial⟩ ?_
    refine loop1 (fun (y : Nat) => y ≤ q0 + 1) (fun (y : Nat) => q0 + 1 - y) (fun (y : Nat) => [some (aR m), some (aR s), some (aI ((q : Nat) : Int)), some (aI ((k : Nat) : Int)), none, none, some (aI (((oP X.1 q X.2.1) : Nat) : Int)), some (aI ((y : Nat) : Int))]) (fun (y : Nat) => E.1) (fun (y : Nat) => sr (sr (sr E.2.1 (s + 5) (un (E.2.1 (s + 5)) (oP X.1 q X.2.1) (ixo ((E.2.1 (s + 5)) (oP X.1 q X.2.1)) 1))) s (un (E.2.1 s) 8 (w32 (X.1 7 + 1)))) (m + 2) (tgR (E.2.1 (m + 2)) f y)) ?_ 0 (Nat.zero_le _)
    intro y hP2 ih2
    have hP2 : y ≤ q0 + 1 := hP2
    refine (?_ : Ev G mX5_halve d 123 [some (aR m), some (aR s), some (aI ((q : Nat) : Int)), some (aI ((k : Nat) : Int)), none, none, some (aI (((oP X.1 q X.2.1) : Nat) : Int)), some (aI ((y : Nat) : Int))] [] E.1 (sr (sr (sr E.2.1 (s + 5) (un (E.2.1 (s + 5)) (oP X.1 q X.2.1) (ixo ((E.2.1 (s + 5)) (oP X.1 q X.2.1)) 1))) s (un (E.2.1 s) 8 (w32 (X.1 7 + 1)))) (m + 2) (tgR (E.2.1 (m + 2)) f y)) Q)
    refine r_iload (pc := 123) (i := 7) dX5_halve_123 rfl ?_
    refine r_aload_n (pc := 125) (i := 0) dX5_halve_125 rfl rfl ?_
    refine r_getfi (pc := 126) cks dX5_halve_126 fl_X5_26 rfl (kD0 hDE) (ltD0 hDE) ?_
    refine r_top (b := E.2.1 m 4) ((congrFun (sr_ne (by omega)) _).trans ((congrFun (sr_ne (by omega)) _).trans ((congrFun (sr_ne (by omega)) _).trans (rfl)))) ?_
    refine r_top (b := (q0 : Int)) (hm4) ?_
    refine r_icmp_gt (pc := 129) (tgt := 168) dX5_halve_129 rfl (fun c129 => ?_) (fun c129 => ?_)
    · have hy1 : y = q0 + 1 := by omega
      subst hy1
      subst hf0
      have hG2 : hvF M q (k * (B * 2 ^ q)) (lnB n (B * 2 ^ q) (k * (B * 2 ^ q))) = mdF X.1 (oP X.1 q X.2.1) := hG.trans (hvS_end _ _ _ _ _ (by omega))
      exact r_vret (pc := 168) dX5_halve_168 trivial (hq _ _ _ _ _ _ (by rw [hG2]; exact hv_end (x := oP X.1 q X.2.1) hP.1 hP.2.1 hP.2.2.1 he hxn hB1 hm0.1 hdm hS (hP.2.2.2.2.2.2.2.2.2.1 B q0 (by omega) hOd) (hP.2.2.2.2.2.2.2.2.2.2 B q0 (by omega) hBo)))
    · have hfy := (hf y (by omega)).2
      refine r_aload_n (pc := 132) (i := 0) dX5_halve_132 rfl rfl ?_
      refine r_getfr (pc := 133) (b := m + 2) cks dX5_halve_133 fl_X5_15 rfl (kD0 hDE) (ltD0 hDE) (rD0_1 hDE) ?_
      refine r_iload (pc := 136) (i := 7) dX5_halve_136 rfl ?_
      refine r_sipush (pc := 138) dX5_halve_138 rfl (in32_of rfl) ?_
      refine r_imulN (pc := 141) (c := ((128 * y : Nat) : Int)) dX5_halve_141 (by unfold w32; omega) ?_
      refine r_aload_n (pc := 142) (i := 0) dX5_halve_142 rfl rfl ?_
      refine r_getfr (pc := 143) (b := m + 1) cks dX5_halve_143 fl_X5_9 rfl (kD0 hDE) (ltD0 hDE) (rD0_0 hDE) ?_
      refine r_iload (pc := 146) (i := 7) dX5_halve_146 rfl ?_
      refine r_sipush (pc := 148) dX5_halve_148 rfl (in32_of rfl) ?_
      refine r_imulN (pc := 151) (c := ((256 * y : Nat) : Int)) dX5_halve_151 (by unfold w32; omega) ?_
      refine r_iload (pc := 152) (i := 6) dX5_halve_152 rfl ?_
      refine r_iaddN (pc := 154) (c := ((256 * y + (oP X.1 q X.2.1) : Nat) : Int)) dX5_halve_154 (by unfold w32; omega) ?_
      refine r_ild (pc := 155) (256 * y + (oP X.1 q X.2.1)) dX5_halve_155 (kD1 hDE) (ltD (k := 1) hDE (by omega)) rfl (by rw [lD1 hDE]; omega) ?_
      refine r_top (b := E.2.1 (m + 1) (256 * y + (oP X.1 q X.2.1))) ((congrFun (sr_ne (by omega)) _).trans ((congrFun (sr_ne (by omega)) _).trans ((congrFun (sr_ne (by omega)) _).trans (rfl)))) ?_
      refine r_top (b := ((f y : Nat) : Int)) ((hf y (by omega)).1) ?_
      refine r_iaddN (pc := 156) (c := ((128 * y + (f y) : Nat) : Int)) dX5_halve_156 (by unfold w32; omega) ?_
      refine r_dup2 (pc := 157) dX5_halve_157 rfl rfl ?_
      refine r_ild (pc := 158) (128 * y + (f y)) dX5_halve_158 (kD2 hDE) (ltD (k := 2) hDE (by omega)) rfl (by rw [lD2 hDE]; omega) ?_
      refine r_top (b := (tgR (E.2.1 (m + 2)) f y) (128 * y + (f y))) (sr_at _ _ _ _) ?_
      refine r_iconst (pc := 159) dX5_halve_159 (in32_of rfl) ?_
      refine r_ixor (pc := 160) dX5_halve_160 ?_
      refine r_ist (pc := 161) (128 * y + (f y)) dX5_halve_161 (kD2 hDE) (ltD (k := 2) hDE (by omega)) rfl (by rw [lD2 hDE]; omega) ?_
      refine r_mem (I2 := sr (sr (sr E.2.1 (s + 5) (un (E.2.1 (s + 5)) (oP X.1 q X.2.1) (ixo ((E.2.1 (s + 5)) (oP X.1 q X.2.1)) 1))) s (un (E.2.1 s) 8 (w32 (X.1 7 + 1)))) (m + 2) (un (tgR (E.2.1 (m + 2)) f y) (128 * y + (f y)) (ixo ((tgR (E.2.1 (m + 2)) f y) (128 * y + (f y))) 1))) ((up2_row _ _ _ _).trans ((congrArg (fun fz_ => sr (sr (sr (sr E.2.1 (s + 5) (un (E.2.1 (s + 5)) (oP X.1 q X.2.1) (ixo ((E.2.1 (s + 5)) (oP X.1 q X.2.1)) 1))) s (un (E.2.1 s) 8 (w32 (X.1 7 + 1)))) (m + 2) (tgR (E.2.1 (m + 2)) f y)) (m + 2) (un fz_ (128 * y + (f y)) (ixo ((tgR (E.2.1 (m + 2)) f y) (128 * y + (f y))) 1))) (show (sr (sr (sr E.2.1 (s + 5) (un (E.2.1 (s + 5)) (oP X.1 q X.2.1) (ixo ((E.2.1 (s + 5)) (oP X.1 q X.2.1)) 1))) s (un (E.2.1 s) 8 (w32 (X.1 7 + 1)))) (m + 2) (tgR (E.2.1 (m + 2)) f y)) (m + 2) = tgR (E.2.1 (m + 2)) f y from sr_row _ _ _)).trans (sr_sr _ _ _ _))) ?_
      refine r_iincN (pc := 162) (i := 7) (c := ((y + 1 : Nat) : Int)) (lv' := [_, _, _, _, _, _, _, _]) dX5_halve_162 rfl (by decide) (by unfold w32; omega) rfl ?_
      refine r_goto (pc := 165) (tgt := 123) dX5_halve_165 rfl ?_
      exact Ev.re rfl (by rw [tgR_succ]) (ih2 (y + 1) (by omega) (by omega))
  · refine r_iload (pc := 46) (i := 4) dX5_halve_46 rfl ?_
    refine r_iconst (pc := 48) dX5_halve_48 (in32_of rfl) ?_
    refine r_idiv (pc := 49) dX5_halve_49 (by omega) ?_
    refine r_top (b := (((X.2.2.1 / 2) : Nat) : Int)) (by rw [idv_n (by unfold in32; omega) (by unfold in32; omega) (by omega) (by omega)]; omega) ?_
    refine r_istore (pc := 50) (i := 7) (lv' := [_, _, _, _, _, _, _, _]) dX5_halve_50 (by decide) rfl ?_
    refine r_aload_n (pc := 52) (i := 0) dX5_halve_52 rfl rfl ?_
    refine r_aload_n (pc := 53) (i := 1) dX5_halve_53 rfl rfl ?_
    refine r_iload_n (pc := 54) (i := 2) dX5_halve_54 rfl rfl ?_
    refine r_iload (pc := 55) (i := 5) dX5_halve_55 rfl ?_
    refine r_iload (pc := 57) (i := 7) dX5_halve_57 rfl ?_
    refine r_callV1 (pc := 59) (d - 1) [aR s, aI ((q : Nat) : Int), aI ((X.2.1 : Nat) : Int), aI (((X.2.2.1 / 2) : Nat) : Int)] dX5_halve_59 (CV.mk2 mk_X5_ask lk_X5_65) (RC.of (ltD0 hDE) (kD0 hDE) (by decide) rfl) rfl rfl (by omega) (Nat.le_of_ble_eq_true rfl) (Nat.le_of_ble_eq_true rfl) (k_ask (m := m) (q := q) (b := X.2.1) (l := X.2.2.1 / 2) (e := e) (n := n) (M := X.1) hE (by omega) hDE hdm hP.1.1 hP.2.1 hP.2.2.1 hq0 (by omega) (by omega) (by omega) (fun U K p2 o2 t2 c2 hA => ?_))
    refine ⟨_, rfl, fun _ => ?_⟩
    refine r_if_eq (pc := 62) (tgt := 72) dX5_halve_62 rfl (fun c62 => ?_) (fun c62 => ?_)
    · refine r_iload (pc := 72) (i := 5) dX5_halve_72 rfl ?_
      refine r_iload (pc := 74) (i := 7) dX5_halve_74 rfl ?_
      refine r_iaddN (pc := 76) (c := ((X.2.1 + (X.2.2.1 / 2) : Nat) : Int)) dX5_halve_76 (by unfold w32; omega) ?_
      refine r_istore (pc := 77) (i := 5) (lv' := [_, _, _, _, _, _, _, _]) dX5_halve_77 (by decide) rfl ?_
      refine r_iload (pc := 79) (i := 4) dX5_halve_79 rfl ?_
      refine r_iload (pc := 81) (i := 7) dX5_halve_81 rfl ?_
      refine r_isubN (pc := 83) (c := (((X.2.2.1 - X.2.2.1 / 2) : Nat) : Int)) dX5_halve_83 (by unfold w32; omega) ?_
      refine r_istore (pc := 84) (i := 4) (lv' := [_, _, _, _, _, _, _, _]) dX5_halve_84 (by decide) rfl ?_
      refine r_iincN (pc := 86) (i := 6) (c := ((X.2.2.2 + 1 : Nat) : Int)) (lv' := [_, _, _, _, _, _, _, _]) dX5_halve_86 rfl (by decide) (by unfold w32; omega) rfl ?_
      refine r_goto (pc := 89) (tgt := 32) dX5_halve_89 rfl ?_
      refine Ev.weak (lv2 := [some (aR m), some (aR s), some (aI ((q : Nat) : Int)), some (aI ((k : Nat) : Int)), some (aI (((X.2.2.1 - X.2.2.1 / 2) : Nat) : Int)), some (aI ((X.2.1 + (X.2.2.1 / 2) : Nat) : Int)), some (aI ((X.2.2.2 + 1 : Nat) : Int)), none]) ⟨Or.inr rfl, Or.inr rfl, Or.inr rfl, Or.inr rfl, Or.inr rfl, Or.inr rfl, Or.inr rfl, Or.inl rfl, trivial⟩ ?_
      exact ih (U, K, p2, o2, t2, c2) (askF X.1 q X.2.1 (X.2.2.1 / 2), X.2.1 + X.2.2.1 / 2, X.2.2.1 - X.2.2.1 / 2, X.2.2.2 + 1) ((hvI_step hP hq0 (by omega) hA).2 (by omega)) (show 8 - (X.2.2.2 + 1) < 8 - X.2.2.2 by have := hj7 (by omega); omega)
    · refine r_iload (pc := 65) (i := 7) dX5_halve_65 rfl ?_
      refine r_istore (pc := 67) (i := 4) (lv' := [_, _, _, _, _, _, _, _]) dX5_halve_67 (by decide) rfl ?_
      refine r_goto (pc := 69) (tgt := 86) dX5_halve_69 rfl ?_
      refine r_iincN (pc := 86) (i := 6) (c := ((X.2.2.2 + 1 : Nat) : Int)) (lv' := [_, _, _, _, _, _, _, _]) dX5_halve_86 rfl (by decide) (by unfold w32; omega) rfl ?_
      refine r_goto (pc := 89) (tgt := 32) dX5_halve_89 rfl ?_
      refine Ev.weak (lv2 := [some (aR m), some (aR s), some (aI ((q : Nat) : Int)), some (aI ((k : Nat) : Int)), some (aI (((X.2.2.1 / 2) : Nat) : Int)), some (aI ((X.2.1 : Nat) : Int)), some (aI ((X.2.2.2 + 1 : Nat) : Int)), none]) ⟨Or.inr rfl, Or.inr rfl, Or.inr rfl, Or.inr rfl, Or.inr rfl, Or.inr rfl, Or.inr rfl, Or.inl rfl, trivial⟩ ?_
      exact ih (U, K, p2, o2, t2, c2) (askF X.1 q X.2.1 (X.2.2.1 / 2), X.2.1, X.2.2.1 / 2, X.2.2.2 + 1) ((hvI_step hP hq0 (by omega) hA).1 (by have := ukO_01 X.1 q X.2.1 (X.2.2.1 / 2); omega)) (show 8 - (X.2.2.2 + 1) < 8 - X.2.2.2 by have := hj7 (by omega); omega)
end C17

section C14
variable {G : Gl} {d : Nat} {T : Sh} {I : Mi} {N : Nat → Int} {Q : Option AV → Sh → Mi → Prop}
/-- what an asking leaves -/
def AsP (T U : Sh) (I K : Mi) (s m p o t c p2 o2 t2 c2 : Nat) (M : Nat → Int) (e n : Nat) : Prop :=
  MwR U K s p2 o2 t2 c2 M e n ∧ Ext s T U c c2 ∧ ((p2 = p ∨ nx T ≤ p2) ∧ (o2 = o ∨ nx T ≤ o2) ∧ (t2 = t ∨ nx T ≤ t2)) ∧
  ∀ b, b < nx T → b ≠ s + 7 → b ≠ p → b ≠ o → b ≠ t → b ≠ m + 3 → K b = I b
theorem iRn_ext {f g : Nat → Nat} {q : Nat} : ∀ m, (∀ i, i < m → f i = g i) → iRn f m q = iRn g m q := by
  intro m
  induction m with
  | zero => intro _; rfl
  | succ m ih => intro h; rw [iRn_succ, iRn_succ, ih (fun i hi => h i (by omega)), h m (by omega)]
theorem ask_P {T U : Sh} {I K : Mi} {s m p o t c p2 o2 t2 c2 : Nat} {M W : Nat → Int} {e n q b l : Nat} (hM : MwR T I s p o t c M e n) (hP : PmO M e n) (hL : LdOk M e n) (hm : m + 4 ≤ 291) (hdm : m + 4 ≤ s ∨ s + 15 ≤ m) (hq : q < e) (hbl : b + l ≤ n) (hl : 1 ≤ l) (ht : tN M < 13608)
   (hW : ∀ x, x < 256 → b64 (W (x / 64)) (x % 64) = iRn (fun i => oP M q (b + i)) l x)
   (h : TlP T U (sr I (m + 3) W) K s p o t c p2 o2 t2 c2 (tN M) (parO M 276 q b l) (q : Int) W) : AsP T U I K s m p o t c p2 o2 t2 c2 (askF M q b l) e n := by
  obtain ⟨m1, m2, m3, m4, m5, m6⟩ := hM
  obtain ⟨t1, t2_, t3, t4, t5, t6, t7, t8, t9, t10⟩ := h
  have hne := neS m1
  have hnx := m1.1.2.1
  have hR := hP.1
  have hfr : ∀ b, b < nx T → b ≠ s + 7 → b ≠ p → b ≠ o → b ≠ t → b ≠ m + 3 → K b = I b := fun b h1 h2 h3 h4 h5 h6 => (t4 b h1 h2 h3 h4 h5).trans (sr_ne h6)
  have hI7 : (sr I (m + 3) W) (s + 7) = I (s + 7) := sr_ne (by omega)
  have hIp : (sr I (m + 3) W) p = I p := sr_ne (by omega)
  have hIo : (sr I (m + 3) W) o = I o := sr_ne (by omega)
  have hIt : (sr I (m + 3) W) t = I t := sr_ne (by omega)
  have hnn := hP.nn
  have hP2 := PmO_ask (p := q) (b := b) (m := l) hP ht
  have hoP : ∀ y k, 256 * y + k < 1536 → oP (askF M q b l) y k = oP M y k := fun y k hk => by unfold oP; rw [ak_lo (by omega) (by omega)]
  have he6 := hP.2.2.2.1
  have hn2 := hP.2.2.1
  refine ⟨⟨t1, ⟨?_, fun k hk => ?_⟩, fun y hy k hk => ?_, ⟨?_, fun k hk => ?_⟩, ?_, by rw [ak_t]; omega⟩, t2_, t3, hfr⟩
  · rw [hfr _ (by omega) (by omega) (by omega) (by omega) (by omega) (by omega)]; exact m2.1
  · rw [hfr _ (by omega) (by omega) (by omega) (by omega) (by omega) (by omega), hfr _ (by omega) (by omega) (by omega) (by omega) (by omega) (by omega), ak_lo (by omega) (by omega), ak_lo (by omega) (by omega)]; exact m2.2 k hk
  · rw [hfr _ (by omega) (by omega) (by omega) (by omega) (by omega) (by omega), ak_lo (by omega) (by omega)]; exact m3 y hy k hk
  · rw [t5, un_at, tN_rd hP2.1, ak_t]
  · rw [ak_t] at hk
    by_cases g : k < tN M
    · have h0 := m4.2 k g
      have h1 := LdE_mv (K := K) (p2 := p2) (o2 := o2) (t2 := t2) h0 ((t6.1 k g).1.trans (congrFun hIp k)) ((t6.1 k g).2.trans (congrFun hIo k)) (fun j hj => (t6.2 (4 * k + j) (by omega)).trans (congrFun hIt _))
      exact LdE_ext h1 (hL k g) he6 hnn hn2 hP2.nn (ak_cell g) (fun y i hy hi => hoP y i (by omega)) (fun j j1 j2 => ak_lo (by omega) (by omega))
    · have e0 : k = tN M := by omega
      subst e0
      have h01 := parO_01 (N := M) (y := 276) (p := q) (b := b) hR (Or.inl rfl) (by omega) l (by omega)
      have ec : askF M q b l (tN M + 3902) = cdL 0 ((parO M 276 q b l).toNat : Nat) q b l := by rw [ak_new]; congr 1; omega
      obtain ⟨e1, e2, e3, e4, e5⟩ := cd_0 (N := askF M q b l) (k := tN M) (a := (parO M 276 q b l).toNat) (p := q) (b := b) (m := l) (by omega) (by omega) (by omega) ec
      refine ⟨?_, ?_, fun x hx => ?_⟩
      · rw [t7, e2]; omega
      · rw [t8, if_pos e1, e3]
      · rw [t9 (x / 64) (by omega), hW x hx, sbR_eq]
        unfold stF
        rw [if_pos e1, e3, e4, e5, Int.toNat_natCast, Int.toNat_natCast, Int.toNat_natCast, sb_stO l (fun i j hi hj hij => by
          have := hP2.2.2.2.2.2.1 q hq (b + i) (b + j) (by omega) (by omega) hij
          omega), sb_z8 hx, Bool.false_xor]
        exact iRn_ext l (fun i hi => (hoP q (b + i) (by omega)).symm)
  · rw [hfr _ (by omega) (by omega) (by omega) (by omega) (by omega) (by omega), ak_lo (by decide) (by decide)]; exact m5
theorem k_ask {m q b l e n : Nat} {M : Nat → Int} {s p o t c : Nat} (hS : ShS T s p o t c) (hd : 3 ≤ d) (hD : ShD T m) (hdm : m + 4 ≤ s ∨ s + 15 ≤ m) (hM : MwR T I s p o t c M e n) (hP0 : PmO M e n) (hL : LdOk M e n) (hq0 : q < e) (hbl : b + l ≤ n) (hl : 1 ≤ l) (ht : tN M < 13608) (hq : ∀ (U : Sh) (K : Mi) (p2 o2 t2 c2 : Nat), AsP T U I K s m p o t c p2 o2 t2 c2 (askF M q b l) e n → Q (some (aI (ukO M q b l))) U K) : EvE G mX5_ask d [aR m, aR s, aI ((q : Nat) : Int), aI ((b : Nat) : Int), aI ((l : Nat) : Int)] T I Q := by
  have hne := neS hS
  have hm0 := hD.1
  have hn2 := hP0.2.2.1
  have he6 := hP0.2.2.2.1
  refine EvE.mk (lv0 := [some (aR m), some (aR s), some (aI ((q : Nat) : Int)), some (aI ((b : Nat) : Int)), some (aI ((l : Nat) : Int)), none, none, none, none]) (Nat.le_of_ble_eq_true rfl) (by decide +kernel) rfl ?_
  refine r_iconst (pc := 0) dX5_ask_0 (in32_of rfl) ?_
  refine r_istore (pc := 1) (i := 5) (lv' := [_, _, _, _, _, _, _, _, _]) dX5_ask_1 (by decide) rfl ?_
  refine r_iconst (pc := 3) dX5_ask_3 (in32_of rfl) ?_
  refine r_istore (pc := 4) (i := 6) (lv' := [_, _, _, _, _, _, _, _, _]) dX5_ask_4 (by decide) rfl ?_
  refine r_aload_n (pc := 6) (i := 0) dX5_ask_6 rfl rfl ?_
  refine r_getfr (pc := 7) (b := m + 3) cks dX5_ask_7 fl_X5_18 rfl (kD0 hD) (ltD0 hD) (rD0_2 hD) ?_
  refine r_lconst (pc := 10) (z := 0) dX5_ask_10 rfl (in64_of rfl) ?_
  refine r_callS0 (pc := 11) (d - 1) [aR (m + 3), aL 0] dX5_ask_11 (CS.mk2 mk_J7_fill_d0a16 lk_X5_92) rfl rfl (by omega) (Nat.le_of_ble_eq_true rfl) (Nat.le_of_ble_eq_true rfl) (k_fillL (x := m + 3) (lx := 4) (kD3 hD) (ltD hD (by omega)) (lD3 hD) (by omega) ?_)
  refine ⟨rfl, fun _ => ?_⟩
  refine r_mem (I2 := sr I (m + 3) (fiR (I (m + 3)) 0 4)) ((congrArg (fun v0_ => (sr I (m + 3) (fiR v0_ 0 4))) (show I (m + 3) = I (m + 3) from rfl)).trans (rfl)) ?_
  refine r_iload_n (pc := 14) (i := 3) dX5_ask_14 rfl rfl ?_
  refine r_istore (pc := 15) (i := 7) (lv' := [_, _, _, _, _, _, _, _, _]) dX5_ask_15 (by decide) rfl ?_
  refine Ev.re (lv2 := [some (aR m), some (aR s), some (aI ((q : Nat) : Int)), some (aI ((b : Nat) : Int)), some (aI ((l : Nat) : Int)), some (aI (parO M 276 q b 0)), some (aI (parO M 532 q b 0)), some (aI (((b + 0) : Nat) : Int)), none]) (by rw [Nat.add_zero]; rfl) rfl ?_
  refine loop1 (fun (x : Nat) => x ≤ l) (fun (x : Nat) => l - x) (fun (x : Nat) => [some (aR m), some (aR s), some (aI ((q : Nat) : Int)), some (aI ((b : Nat) : Int)), some (aI ((l : Nat) : Int)), some (aI (parO M 276 q b x)), some (aI (parO M 532 q b x)), some (aI (((b + x) : Nat) : Int)), none]) (fun _ => T) (fun (x : Nat) => sr I (m + 3) (wdS (fun i => oP M q (b + i)) (fiR (I (m + 3)) 0 4) x)) ?_ 0 (Nat.zero_le _)
  intro x hP ih
  have hP : x ≤ l := hP
  refine (?_ : Ev G mX5_ask d 17 [some (aR m), some (aR s), some (aI ((q : Nat) : Int)), some (aI ((b : Nat) : Int)), some (aI ((l : Nat) : Int)), some (aI (parO M 276 q b x)), some (aI (parO M 532 q b x)), some (aI (((b + x) : Nat) : Int)), none] [] T (sr I (m + 3) (wdS (fun i => oP M q (b + i)) (fiR (I (m + 3)) 0 4) x)) Q)
  refine r_iload (pc := 17) (i := 7) dX5_ask_17 rfl ?_
  refine r_iload_n (pc := 19) (i := 3) dX5_ask_19 rfl rfl ?_
  refine r_iload (pc := 20) (i := 4) dX5_ask_20 rfl ?_
  refine r_iaddN (pc := 22) (c := ((b + l : Nat) : Int)) dX5_ask_22 (by unfold w32; omega) ?_
  refine r_icmp_ge (pc := 23) (tgt := 91) dX5_ask_23 rfl (fun c23 => ?_) (fun c23 => ?_)
  · have hxl : x = l := by omega
    subst hxl
    refine r_aload_n (pc := 91) (i := 1) dX5_ask_91 rfl rfl ?_
    refine r_getfr (pc := 92) (b := s + 7) cks dX5_ask_92 fl_X5_104 rfl (kS0 hS) (ltS0 hS) (rS0_12 hS) ?_
    refine r_iload (pc := 95) (i := 5) dX5_ask_95 rfl ?_
    refine r_iload_n (pc := 97) (i := 2) dX5_ask_97 rfl rfl ?_
    refine r_aload_n (pc := 98) (i := 0) dX5_ask_98 rfl rfl ?_
    refine r_getfr (pc := 99) (b := m + 3) cks dX5_ask_99 fl_X5_18 rfl (kD0 hD) (ltD0 hD) (rD0_2 hD) ?_
    refine r_callV0 (pc := 102) (d - 1) [aI (parO M 276 q b x), aI ((q : Nat) : Int), aR (m + 3)] dX5_ask_102 (CV.mk2 mk_X4_tell lk_X5_108) (RC.of (ltS (k := 7) hS (by omega)) (kS7 hS) (by decide) rfl) rfl rfl (by omega) (Nat.le_of_ble_eq_true rfl) (Nat.le_of_ble_eq_true rfl) (k_tell (w := m + 3) (n0 := tN M) hS (by omega) ((congrFun (show (sr I (m + 3) (wdS (fun i => oP M q (b + i)) (fiR (I (m + 3)) 0 4) x)) (s + 7) = I (s + 7) from (sr_ne (by omega)).trans (rfl)) 0).trans (hM.2.2.2.1.1.trans (tN_rd hP0.1))) hM.2.2.2.2.2 ht (kD3 hD) (lD3 hD) (by omega) (by omega) (fun U K p2 o2 t2 c2 hTl => ?_))
    refine ⟨rfl, fun _ => ?_⟩
    refine r_iload (pc := 105) (i := 5) dX5_ask_105 rfl ?_
    refine r_iload (pc := 107) (i := 6) dX5_ask_107 rfl ?_
    refine r_icmp_eq (pc := 109) (tgt := 116) dX5_ask_109 rfl (fun c109 => ?_) (fun c109 => ?_)
    · refine r_iconst (pc := 116) dX5_ask_116 (in32_of rfl) ?_
      rw [sr_row] at hTl
      have hA := ask_P (W := wdS (fun i => oP M q (b + i)) (fiR (I (m + 3)) 0 4) x) (l := x) hM hP0 hL (by omega) hdm hq0 hbl hl ht (fun y hy => by rw [b64_wdS, fiR_in (by omega), b64_0, Bool.false_or]) hTl
      exact r_iret (pc := 117) dX5_ask_117 (Or.inl rfl) (by have h := hq _ _ _ _ _ _ hA; rw [show ukO M q b x = 0 from bi_f (fun h => h c109)] at h; exact h)
    · refine r_iconst (pc := 112) dX5_ask_112 (in32_of rfl) ?_
      refine r_goto (pc := 113) (tgt := 117) dX5_ask_113 rfl ?_
      rw [sr_row] at hTl
      have hA := ask_P (W := wdS (fun i => oP M q (b + i)) (fiR (I (m + 3)) 0 4) x) (l := x) hM hP0 hL (by omega) hdm hq0 hbl hl ht (fun y hy => by rw [b64_wdS, fiR_in (by omega), b64_0, Bool.false_or]) hTl
      exact r_iret (pc := 117) dX5_ask_117 (Or.inr rfl) (by have h := hq _ _ _ _ _ _ hA; rw [show ukO M q b x = 1 from bi_t c109] at h; exact h)
  · refine r_aload_n (pc := 26) (i := 1) dX5_ask_26 rfl rfl ?_
    refine r_iload_n (pc := 27) (i := 2) dX5_ask_27 rfl rfl ?_
    refine r_iload (pc := 28) (i := 7) dX5_ask_28 rfl ?_
    refine r_callV1 (pc := 30) (d - 1) [aI ((q : Nat) : Int), aI (((b + x) : Nat) : Int)] dX5_ask_30 (CV.mk2 mk_X9_ordered lk_X5_85) (RC.of (ltS0 hS) (kS0 hS) (by decide) rfl) rfl rfl (by omega) (Nat.le_of_ble_eq_true rfl) (Nat.le_of_ble_eq_true rfl) (k_ordered (q := q) (k := b + x) hS (by omega) ?_)
    refine ⟨_, rfl, fun _ => ?_⟩
    have hox := oP_rd (p := q) (k := b + x) (Rng_O hP0.1) (by omega)
    have hxn := hP0.2.2.2.2.1 q hq0 (b + x) (by omega)
    refine r_top (b := ((oP M q (b + x) : Nat) : Int)) (by rw [sr_ne (by omega)]; exact (hM.2.2.1 q hq0 (b + x) (by omega)).trans hox.1) ?_
    refine r_istore (pc := 33) (i := 8) (lv' := [_, _, _, _, _, _, _, _, _]) dX5_ask_33 (by decide) rfl ?_
    refine r_aload_n (pc := 35) (i := 0) dX5_ask_35 rfl rfl ?_
    refine r_getfr (pc := 36) (b := m + 3) cks dX5_ask_36 fl_X5_18 rfl (kD0 hD) (ltD0 hD) (rD0_2 hD) ?_
    refine r_iload (pc := 39) (i := 8) dX5_ask_39 rfl ?_
    refine r_bipush (pc := 41) dX5_ask_41 rfl (in32_of rfl) ?_
    refine r_ishr (pc := 43) dX5_ask_43 ?_
    refine r_top (b := (((oP M q (b + x) / 64) : Nat) : Int)) (isr_6 (by omega)) ?_
    refine r_dup2 (pc := 44) dX5_ask_44 rfl rfl ?_
    refine r_lld (pc := 45) ((oP M q (b + x) / 64)) dX5_ask_45 (kD3 hD) (ltD (k := 3) hD (by omega)) rfl (by rw [lD3 hD]; omega) ?_
    refine r_topL (b := (wdS (fun i => oP M q (b + i)) (fiR (I (m + 3)) 0 4) x) (oP M q (b + x) / 64)) (sr_at _ _ _ _) ?_
    refine r_lconst (pc := 46) (z := 1) dX5_ask_46 rfl (in64_of rfl) ?_
    refine r_iload (pc := 47) (i := 8) dX5_ask_47 rfl ?_
    refine r_bipush (pc := 49) dX5_ask_49 rfl (in32_of rfl) ?_
    refine r_iand (pc := 51) dX5_ask_51 ?_
    refine r_top (b := (((oP M q (b + x) % 64) : Nat) : Int)) (ian_63 (by omega)) ?_
    refine r_lshl (pc := 52) dX5_ask_52 ?_
    refine r_lor (pc := 53) dX5_ask_53 ?_
    refine r_lst (pc := 54) ((oP M q (b + x) / 64)) dX5_ask_54 (kD3 hD) (ltD (k := 3) hD (by omega)) rfl (by rw [lD3 hD]; omega) ?_
    refine r_mem (I2 := sr I (m + 3) (un (wdS (fun i => oP M q (b + i)) (fiR (I (m + 3)) 0 4) x) (oP M q (b + x) / 64) (lro ((wdS (fun i => oP M q (b + i)) (fiR (I (m + 3)) 0 4) x) (oP M q (b + x) / 64)) (lsl 1 (((oP M q (b + x) % 64) : Nat) : Int))))) ((up2_row _ _ _ _).trans ((congrArg (fun fz_ => sr (sr I (m + 3) (wdS (fun i => oP M q (b + i)) (fiR (I (m + 3)) 0 4) x)) (m + 3) (un fz_ (oP M q (b + x) / 64) (lro ((wdS (fun i => oP M q (b + i)) (fiR (I (m + 3)) 0 4) x) (oP M q (b + x) / 64)) (lsl 1 (((oP M q (b + x) % 64) : Nat) : Int))))) (show (sr I (m + 3) (wdS (fun i => oP M q (b + i)) (fiR (I (m + 3)) 0 4) x)) (m + 3) = wdS (fun i => oP M q (b + i)) (fiR (I (m + 3)) 0 4) x from sr_row _ _ _)).trans (sr_sr _ _ _ _))) ?_
    refine r_iload (pc := 55) (i := 5) dX5_ask_55 rfl ?_
    refine r_aload_n (pc := 57) (i := 1) dX5_ask_57 rfl rfl ?_
    refine r_getfr (pc := 58) (b := s + 3) cks dX5_ask_58 fl_X5_48 rfl (kS0 hS) (ltS0 hS) (rS0_11 hS) ?_
    refine r_getfr (pc := 61) (b := s + 4) cks dX5_ask_61 fl_X5_98 rfl (kS3 hS) (ltS (k := 3) hS (by omega)) (rS3_1 hS) ?_
    refine r_iload (pc := 64) (i := 8) dX5_ask_64 rfl ?_
    refine r_ild (pc := 66) ((oP M q (b + x))) dX5_ask_66 (kS4 hS) (ltS (k := 4) hS (by omega)) rfl (by rw [lS4 hS]; omega) ?_
    refine r_top (b := I (s + 4) (oP M q (b + x))) ((congrFun (sr_ne (by omega)) _).trans (rfl)) ?_
    refine r_top (b := M (276 + oP M q (b + x))) (((hM.2.1.2 _ hxn).1).trans (congrArg M (Nat.add_comm _ _))) ?_
    refine r_ixor (pc := 67) dX5_ask_67 ?_
    refine r_istore (pc := 68) (i := 5) (lv' := [_, _, _, _, _, _, _, _, _]) dX5_ask_68 (by decide) rfl ?_
    refine r_iload (pc := 70) (i := 6) dX5_ask_70 rfl ?_
    refine r_aload_n (pc := 72) (i := 1) dX5_ask_72 rfl rfl ?_
    refine r_getfr (pc := 73) (b := s + 3) cks dX5_ask_73 fl_X5_48 rfl (kS0 hS) (ltS0 hS) (rS0_11 hS) ?_
    refine r_getfr (pc := 76) (b := s + 5) cks dX5_ask_76 fl_X5_101 rfl (kS3 hS) (ltS (k := 3) hS (by omega)) (rS3_2 hS) ?_
    refine r_iload (pc := 79) (i := 8) dX5_ask_79 rfl ?_
    refine r_ild (pc := 81) ((oP M q (b + x))) dX5_ask_81 (kS5 hS) (ltS (k := 5) hS (by omega)) rfl (by rw [lS5 hS]; omega) ?_
    refine r_top (b := I (s + 5) (oP M q (b + x))) ((congrFun (sr_ne (by omega)) _).trans (rfl)) ?_
    refine r_top (b := M (532 + oP M q (b + x))) (((hM.2.1.2 _ hxn).2).trans (congrArg M (Nat.add_comm _ _))) ?_
    refine r_ixor (pc := 82) dX5_ask_82 ?_
    refine r_istore (pc := 83) (i := 6) (lv' := [_, _, _, _, _, _, _, _, _]) dX5_ask_83 (by decide) rfl ?_
    refine r_iincN (pc := 85) (i := 7) (c := (((b + x) + 1 : Nat) : Int)) (lv' := [_, _, _, _, _, _, _, _, _]) dX5_ask_85 rfl (by decide) (by unfold w32; omega) rfl ?_
    refine r_goto (pc := 88) (tgt := 17) dX5_ask_88 rfl ?_
    refine Ev.weak (lv2 := [some (aR m), some (aR s), some (aI ((q : Nat) : Int)), some (aI ((b : Nat) : Int)), some (aI ((l : Nat) : Int)), some (aI (ixo (parO M 276 q b x) (M (276 + oP M q (b + x))))), some (aI (ixo (parO M 532 q b x) (M (532 + oP M q (b + x))))), some (aI (((b + x) + 1 : Nat) : Int)), none]) ⟨Or.inr rfl, Or.inr rfl, Or.inr rfl, Or.inr rfl, Or.inr rfl, Or.inr rfl, Or.inr rfl, Or.inr rfl, Or.inl rfl, trivial⟩ ?_
    exact Ev.re (by rw [parO_succ, parO_succ, Nat.add_assoc]) (by rw [wdS_succ]) (ih (x + 1) (by omega) (by omega))
end C14

section C61
variable {G : Gl} {d : Nat} {T : Sh} {I : Mi} {N : Nat → Int} {Q : Option AV → Sh → Mi → Prop}
theorem kk_would {A : AN} {L : Nat → Int} {p o t c q n : Nat} (hK : KSh T A) (hS : ShS T 9 p o t c) {B pp : Nat} {x w : Int} (hd : 8 ≤ d) (hst : StR L I 9 p o t N) (htc : tN N ≤ c) (hNo : NOk N q n) (hL : ∀ k, k < 9 → I (2 + 1) k = L k) (hLp : plOk L) (h5 : L 5 = (B : Int)) (h6 : L 6 = (pp : Int)) (hap : apL (A 13).1 (A 13).2.1 (A 13).2.2.1 p o t) (hq0 : ¬ wdOk N x w → Q (some (aI (-1))) T I) (hq1 : wdOk N x w → ∀ (U : Sh) (K : Mi) (p2 o2 t2 c2 : Nat), TrP T U I K 220 (A 13).1 (A 13).2.1 (A 13).2.2.1 (A 13).2.2.2 p2 o2 t2 c2 235 9 → Q (some (aI (wdV B pp q N x w))) U K) : EvE G mX11_would d [aR 0, aI x, aI w] T I Q := by
  have hn2 := hNo.1.2.2.1
  have h6r := ok_6.mp (hNo.1.1 6)
  have hS13 := sK13 hK
  have hpl := hLp
  unfold plOk at hpl
  have hstg := hNo.2.2.2
  refine EvE.mk (lv0 := [some (aR 0), some (aI x), some (aI w)]) (Nat.le_of_ble_eq_true rfl) (by decide +kernel) rfl ?_
  refine r_iload_n (pc := 0) (i := 1) dX11_would_0 rfl rfl ?_
  refine r_if_lt (pc := 1) (tgt := 26) dX11_would_1 rfl (fun c1 => ?_) (fun c1 => ?_)
  · refine r_iconst (pc := 26) dX11_would_26 (in32_of rfl) ?_
    exact r_iret (pc := 27) dX11_would_27 trivial (hq0 (fun h => by obtain ⟨h1, h2, h3⟩ := h; omega))
  · refine r_iload_n (pc := 4) (i := 1) dX11_would_4 rfl rfl ?_
    refine r_bipush (pc := 5) dX11_would_5 rfl (in32_of rfl) ?_
    refine r_icmp_gt (pc := 7) (tgt := 26) dX11_would_7 rfl (fun c7 => ?_) (fun c7 => ?_)
    · refine r_iconst (pc := 26) dX11_would_26 (in32_of rfl) ?_
      exact r_iret (pc := 27) dX11_would_27 trivial (hq0 (fun h => by obtain ⟨h1, h2, h3⟩ := h; omega))
    · refine r_iload_n (pc := 10) (i := 2) dX11_would_10 rfl rfl ?_
      refine r_if_lt (pc := 11) (tgt := 26) dX11_would_11 rfl (fun c11 => ?_) (fun c11 => ?_)
      · refine r_iconst (pc := 26) dX11_would_26 (in32_of rfl) ?_
        exact r_iret (pc := 27) dX11_would_27 trivial (hq0 (fun h => by obtain ⟨h1, h2, h3⟩ := h; omega))
      · refine r_iload_n (pc := 14) (i := 2) dX11_would_14 rfl rfl ?_
        refine r_iconst (pc := 15) dX11_would_15 (in32_of rfl) ?_
        refine r_icmp_gt (pc := 16) (tgt := 26) dX11_would_16 rfl (fun c16 => ?_) (fun c16 => ?_)
        · refine r_iconst (pc := 26) dX11_would_26 (in32_of rfl) ?_
          exact r_iret (pc := 27) dX11_would_27 trivial (hq0 (fun h => by obtain ⟨h1, h2, h3⟩ := h; omega))
        · refine r_aload_n (pc := 19) (i := 0) dX11_would_19 rfl rfl ?_
          refine r_callV1 (pc := 20) (d - 1) [] dX11_would_20 (CV.mk2 mk_X11_isMending lk_X11_135) (RC.of (ltK hK (by decide)) (kK0 hK) (by decide) rfl) rfl rfl (by omega) (Nat.le_of_ble_eq_true rfl) (Nat.le_of_ble_eq_true rfl) (k_isMending hK hS hst htc hNo ?_)
          refine ⟨_, rfl, fun _ => ?_⟩
          refine r_if_ne (pc := 23) (tgt := 28) dX11_would_23 rfl (fun c23 => ?_) (fun c23 => ?_)
          · have c23 := bi_1 c23
            obtain ⟨k, rfl⟩ : ∃ e : Nat, x = (e : Int) := ⟨(x).toNat, by omega⟩
            have hpo : pOK N q := (hstg.2.2.1 (by omega)).1
            refine r_aload_n (pc := 28) (i := 0) dX11_would_28 rfl rfl ?_
            refine r_getfr (pc := 29) (b := 219) cks dX11_would_29 fl_X11_76 rfl (kK0 hK) (ltK hK (by decide)) (rK0_11 hK) ?_
            refine r_aload_n (pc := 32) (i := 0) dX11_would_32 rfl rfl ?_
            refine r_getfr (pc := 33) (b := 9) cks dX11_would_33 fl_X11_34 rfl (kK0 hK) (ltK hK (by decide)) (rK0_4 hK) ?_
            refine r_aload_n (pc := 36) (i := 0) dX11_would_36 rfl rfl ?_
            refine r_getfr (pc := 37) (b := 2) cks dX11_would_37 fl_X11_20 rfl (kK0 hK) (ltK hK (by decide)) (rK0_2 hK) ?_
            refine r_iload_n (pc := 40) (i := 1) dX11_would_40 rfl rfl ?_
            refine r_callV0 (pc := 41) (d - 1) [aR 9, aR 2, aI ((k : Nat) : Int)] dX11_would_41 (CV.mk2 mk_X10_runPasses lk_X11_291) (RC.of (ltK hK (by decide)) (kK219 hK) (by decide) rfl) rfl rfl (by omega) (Nat.le_of_ble_eq_true rfl) (Nat.le_of_ble_eq_true rfl) (k_runPasses (v := 219) (u := 235) (a := 237) (m := 240) (n := n) (B := B) (q := q) (pp := pp) (more := k) (L := L) (N := N) hS13 (tK219 hK) hS (pK2 hK) (by omega) (by omega) (by omega) hap hst htc hL hNo.1 hNo.2.1 hpo (by omega) (hstg.1 (by omega)) hLp h6 (by omega) h5 (by omega) (by omega) (fun U K p2 o2 t2 c2 hA => ?_))
            refine ⟨rfl, fun _ => ?_⟩
            have hKU := KSh_ext (i := 13) (by decide) hK hA.2.1.1 hA.1 hA.2.1.2
            refine r_iload_n (pc := 44) (i := 2) dX11_would_44 rfl rfl ?_
            refine r_if_ne (pc := 45) (tgt := 64) dX11_would_45 rfl (fun c45 => ?_) (fun c45 => ?_)
            · refine r_aload_n (pc := 64) (i := 0) dX11_would_64 rfl rfl ?_
              refine r_getfr (pc := 65) (b := 219) cks dX11_would_65 fl_X11_76 rfl (kK0 hKU) (ltK hKU (by decide)) (rK0_11 hKU) ?_
              refine r_getfr (pc := 68) (b := 220) cks dX11_would_68 fl_X11_295 rfl (kK219 hKU) (ltK hKU (by decide)) (rK219_0 hKU) ?_
              refine r_getfr (pc := 71) (b := 220 + 7) cks dX11_would_71 fl_X11_210 rfl (kS0 hA.1) (ltS0 hA.1) (rS0_12 hA.1) ?_
              refine r_getfi (pc := 74) cks dX11_would_74 fl_X11_245 rfl (kS7 hA.1) (ltS (k := 7) hA.1 (by omega)) ?_
              refine r_top (b := (pcI B N (min k (pp - q))) 3) (hA.2.2.2.1.2.2.2.2.1.1) ?_
              have hv : wdV B pp q N ((k : Nat) : Int) w = ((pcI B N (min k (pp - q))) 3) := by unfold wdV; rw [Int.toNat_natCast, hNo.1.nn, if_neg (by omega)]
              exact r_iret (pc := 77) dX11_would_77 trivial (by have h := hq1 ⟨⟨by omega, by omega⟩, ⟨by omega, by omega⟩, by omega⟩ _ _ _ _ _ _ hA.P; rw [hv] at h; exact h)
            · have c45 := Decidable.of_not_not c45
              refine r_aload_n (pc := 48) (i := 0) dX11_would_48 rfl rfl ?_
              refine r_getfr (pc := 49) (b := 219) cks dX11_would_49 fl_X11_76 rfl (kK0 hKU) (ltK hKU (by decide)) (rK0_11 hKU) ?_
              refine r_getfr (pc := 52) (b := 220) cks dX11_would_52 fl_X11_295 rfl (kK219 hKU) (ltK hKU (by decide)) (rK219_0 hKU) ?_
              refine r_getfr (pc := 55) (b := 220 + 3) cks dX11_would_55 fl_X11_117 rfl (kS0 hA.1) (ltS0 hA.1) (rS0_11 hA.1) ?_
              refine r_callV1 (pc := 58) (d - 1) [] dX11_would_58 (CV.mk2 mk_X3_unlike lk_X11_182) (RC.of (ltS (k := 3) hA.1 (by omega)) (kS3 hA.1) (by decide) rfl) rfl rfl (by omega) (Nat.le_of_ble_eq_true rfl) (Nat.le_of_ble_eq_true rfl) (k_unlike (n := n) hA.1 (hA.2.2.2.1.2.2.2.1.1.trans hA.2.2.2.2.2.1.2.1) hn2 ?_)
              refine ⟨_, rfl, fun _ => ?_⟩
              refine r_top (b := ((unl (pcI B N (min k (pp - q))) n : Nat) : Int)) (St_unl hA.2.2.2.1 hA.2.2.2.2.2.1) ?_
              refine r_goto (pc := 61) (tgt := 77) dX11_would_61 rfl ?_
              have hv : wdV B pp q N ((k : Nat) : Int) w = (((unl (pcI B N (min k (pp - q))) n) : Nat) : Int) := by unfold wdV; rw [Int.toNat_natCast, hNo.1.nn, if_pos (by omega)]
              exact r_iret (pc := 77) dX11_would_77 trivial (by have h := hq1 ⟨⟨by omega, by omega⟩, ⟨by omega, by omega⟩, by omega⟩ _ _ _ _ _ _ hA.P; rw [hv] at h; exact h)
          · have c23 := bi_if.mp (Decidable.of_not_not c23)
            refine r_iconst (pc := 26) dX11_would_26 (in32_of rfl) ?_
            exact r_iret (pc := 27) dX11_would_27 trivial (hq0 (fun h => by obtain ⟨h1, h2, h3⟩ := h; omega))
theorem kk_rounds {A : AN} {L : Nat → Int} {p o t c q n : Nat} (hK : KSh T A) (hS : ShS T 9 p o t c) {B pp : Nat} {w : Int} (hd : 8 ≤ d) (hst : StR L I 9 p o t N) (htc : tN N ≤ c) (hNo : NOk N q n) (hL : ∀ k, k < 9 → I (2 + 1) k = L k) (hLp : plOk L) (h5 : L 5 = (B : Int)) (h6 : L 6 = (pp : Int)) (hap : apL (A 13).1 (A 13).2.1 (A 13).2.2.1 p o t) (hq0 : ¬ rdOk N w → Q (some (aI (-1))) T I) (hq1 : rdOk N w → ∀ (U : Sh) (K : Mi) (p2 o2 t2 c2 : Nat), TrP T U I K 220 (A 13).1 (A 13).2.1 (A 13).2.2.1 (A 13).2.2.2 p2 o2 t2 c2 235 9 → Q (some (aI (rdV B pp q N w))) U K) : EvE G mX11_rounds d [aR 0, aI w] T I Q := by
  have hn2 := hNo.1.2.2.1
  have h6r := ok_6.mp (hNo.1.1 6)
  have hS13 := sK13 hK
  have hpl := hLp
  unfold plOk at hpl
  have hstg := hNo.2.2.2
  refine EvE.mk (lv0 := [some (aR 0), some (aI w)]) (Nat.le_of_ble_eq_true rfl) (by decide +kernel) rfl ?_
  refine r_iload_n (pc := 0) (i := 1) dX11_rounds_0 rfl rfl ?_
  refine r_if_lt (pc := 1) (tgt := 16) dX11_rounds_1 rfl (fun c1 => ?_) (fun c1 => ?_)
  · refine r_iconst (pc := 16) dX11_rounds_16 (in32_of rfl) ?_
    exact r_iret (pc := 17) dX11_rounds_17 trivial (hq0 (fun h => by obtain ⟨h1, h2⟩ := h; omega))
  · refine r_iload_n (pc := 4) (i := 1) dX11_rounds_4 rfl rfl ?_
    refine r_iconst (pc := 5) dX11_rounds_5 (in32_of rfl) ?_
    refine r_icmp_gt (pc := 6) (tgt := 16) dX11_rounds_6 rfl (fun c6 => ?_) (fun c6 => ?_)
    · refine r_iconst (pc := 16) dX11_rounds_16 (in32_of rfl) ?_
      exact r_iret (pc := 17) dX11_rounds_17 trivial (hq0 (fun h => by obtain ⟨h1, h2⟩ := h; omega))
    · refine r_aload_n (pc := 9) (i := 0) dX11_rounds_9 rfl rfl ?_
      refine r_callV1 (pc := 10) (d - 1) [] dX11_rounds_10 (CV.mk2 mk_X11_isMending lk_X11_135) (RC.of (ltK hK (by decide)) (kK0 hK) (by decide) rfl) rfl rfl (by omega) (Nat.le_of_ble_eq_true rfl) (Nat.le_of_ble_eq_true rfl) (k_isMending hK hS hst htc hNo ?_)
      refine ⟨_, rfl, fun _ => ?_⟩
      refine r_if_ne (pc := 13) (tgt := 18) dX11_rounds_13 rfl (fun c13 => ?_) (fun c13 => ?_)
      · have c13 := bi_1 c13
        have hpo : pOK N q := (hstg.2.2.1 (by omega)).1
        refine r_aload_n (pc := 18) (i := 0) dX11_rounds_18 rfl rfl ?_
        refine r_getfr (pc := 19) (b := 219) cks dX11_rounds_19 fl_X11_76 rfl (kK0 hK) (ltK hK (by decide)) (rK0_11 hK) ?_
        refine r_aload_n (pc := 22) (i := 0) dX11_rounds_22 rfl rfl ?_
        refine r_getfr (pc := 23) (b := 9) cks dX11_rounds_23 fl_X11_34 rfl (kK0 hK) (ltK hK (by decide)) (rK0_4 hK) ?_
        refine r_aload_n (pc := 26) (i := 0) dX11_rounds_26 rfl rfl ?_
        refine r_getfr (pc := 27) (b := 2) cks dX11_rounds_27 fl_X11_20 rfl (kK0 hK) (ltK hK (by decide)) (rK0_2 hK) ?_
        refine r_iload_n (pc := 30) (i := 1) dX11_rounds_30 rfl rfl ?_
        refine r_callV1 (pc := 31) (d - 1) [aR 9, aR 2, aI w] dX11_rounds_31 (CV.mk2 mk_X10_roundsTillAlike lk_X11_298) (RC.of (ltK hK (by decide)) (kK219 hK) (by decide) rfl) rfl rfl (by omega) (Nat.le_of_ble_eq_true rfl) (Nat.le_of_ble_eq_true rfl) (k_rounds (v := 219) (u := 235) (a := 237) (m := 240) (n := n) (B := B) (q := q) (pp := pp) (w := w) (L := L) (N := N) hS13 (tK219 hK) hS (pK2 hK) (by omega) (by omega) (by omega) hap hst htc hL hNo.1 hNo.2.1 hpo (by omega) (hstg.1 (by omega)) hLp h6 (by omega) h5 (by omega) (by omega) (fun U K p2 o2 t2 c2 hT => ?_))
        refine ⟨_, rfl, fun _ => ?_⟩
        exact r_iret (pc := 34) dX11_rounds_34 trivial (hq1 ⟨⟨by omega, by omega⟩, by omega⟩ _ _ _ _ _ _ hT)
      · have c13 := bi_if.mp (Decidable.of_not_not c13)
        refine r_iconst (pc := 16) dX11_rounds_16 (in32_of rfl) ?_
        exact r_iret (pc := 17) dX11_rounds_17 trivial (hq0 (fun h => by obtain ⟨h1, h2⟩ := h; omega))
theorem kk_best {A : AN} {L : Nat → Int} {p o t c q n : Nat} (hK : KSh T A) (hS : ShS T 9 p o t c) {B pp : Nat} {w : Int} {A0 : Nat → Int} (hd : 8 ≤ d) (hst : StR L I 9 p o t N) (htc : tN N ≤ c) (hNo : NOk N q n) (hL : ∀ k, k < 9 → I (2 + 1) k = L k) (hLp : plOk L) (h5 : L 5 = (B : Int)) (h6 : L 6 = (pp : Int)) (hap : apL (A 13).1 (A 13).2.1 (A 13).2.2.1 p o t) (hA0 : agN N A0) (hq0 : ¬ bsOk N w → Q (some (aI (-1))) T I) (hq1 : bsOk N w → ∀ (U : Sh) (K : Mi) (p2 o2 t2 c2 : Nat), TrP T U I K 220 (A 13).1 (A 13).2.1 (A 13).2.2.1 (A 13).2.2.2 p2 o2 t2 c2 235 9 → Q (some (aI (bsV A0 pp q N w))) U K) : EvE G mX11_best d [aR 0, aI w] T I Q := by
  have hn2 := hNo.1.2.2.1
  have h6r := ok_6.mp (hNo.1.1 6)
  have hS13 := sK13 hK
  have hpl := hLp
  unfold plOk at hpl
  have hstg := hNo.2.2.2
  refine EvE.mk (lv0 := [some (aR 0), some (aI w)]) (Nat.le_of_ble_eq_true rfl) (by decide +kernel) rfl ?_
  refine r_iload_n (pc := 0) (i := 1) dX11_best_0 rfl rfl ?_
  refine r_if_lt (pc := 1) (tgt := 20) dX11_best_1 rfl (fun c1 => ?_) (fun c1 => ?_)
  · refine r_iconst (pc := 20) dX11_best_20 (in32_of rfl) ?_
    exact r_iret (pc := 21) dX11_best_21 trivial (hq0 (fun h => by obtain ⟨h1, h2⟩ := h; omega))
  · refine r_iload_n (pc := 4) (i := 1) dX11_best_4 rfl rfl ?_
    refine r_iconst (pc := 5) dX11_best_5 (in32_of rfl) ?_
    refine r_icmp_gt (pc := 6) (tgt := 20) dX11_best_6 rfl (fun c6 => ?_) (fun c6 => ?_)
    · refine r_iconst (pc := 20) dX11_best_20 (in32_of rfl) ?_
      exact r_iret (pc := 21) dX11_best_21 trivial (hq0 (fun h => by obtain ⟨h1, h2⟩ := h; omega))
    · refine r_aload_n (pc := 9) (i := 0) dX11_best_9 rfl rfl ?_
      refine r_getfr (pc := 10) (b := 9) cks dX11_best_10 fl_X11_34 rfl (kK0 hK) (ltK hK (by decide)) (rK0_4 hK) ?_
      refine r_getfi (pc := 13) cks dX11_best_13 fl_X11_126 rfl (kS0 hS) (ltS0 hS) ?_
      refine r_top (b := N 0) (hst.1.1) ?_
      refine r_iconst (pc := 16) dX11_best_16 (in32_of rfl) ?_
      refine r_icmp_eq (pc := 17) (tgt := 22) dX11_best_17 rfl (fun c17 => ?_) (fun c17 => ?_)
      · have hpo : pOK N q := (hstg.2.2.1 (by omega)).1
        refine r_aload_n (pc := 22) (i := 0) dX11_best_22 rfl rfl ?_
        refine r_getfr (pc := 23) (b := 219) cks dX11_best_23 fl_X11_76 rfl (kK0 hK) (ltK hK (by decide)) (rK0_11 hK) ?_
        refine r_aload_n (pc := 26) (i := 0) dX11_best_26 rfl rfl ?_
        refine r_getfr (pc := 27) (b := 9) cks dX11_best_27 fl_X11_34 rfl (kK0 hK) (ltK hK (by decide)) (rK0_4 hK) ?_
        refine r_aload_n (pc := 30) (i := 0) dX11_best_30 rfl rfl ?_
        refine r_getfr (pc := 31) (b := 2) cks dX11_best_31 fl_X11_20 rfl (kK0 hK) (ltK hK (by decide)) (rK0_2 hK) ?_
        refine r_iload_n (pc := 34) (i := 1) dX11_best_34 rfl rfl ?_
        refine r_callV1 (pc := 35) (d - 1) [aR 9, aR 2, aI w] dX11_best_35 (CV.mk2 mk_X10_bestBlock lk_X11_302) (RC.of (ltK hK (by decide)) (kK219 hK) (by decide) rfl) rfl rfl (by omega) (Nat.le_of_ble_eq_true rfl) (Nat.le_of_ble_eq_true rfl) (k_best (v := 219) (u := 235) (a := 237) (m := 240) (n := n) (q := q) (pp := pp) (w := w) (L := L) (A0 := A0) (N := N) hS13 (tK219 hK) hS (pK2 hK) (by omega) (by omega) (by omega) hap hst htc hL hNo.1 hNo.2.1 hpo (by omega) (hstg.1 (by omega)) hLp h6 (by omega) hA0 (fun U K p2 o2 t2 c2 hT => ?_))
        refine ⟨_, rfl, fun _ => ?_⟩
        exact r_iret (pc := 38) dX11_best_38 trivial (hq1 ⟨⟨by omega, by omega⟩, by omega⟩ _ _ _ _ _ _ hT)
      · refine r_iconst (pc := 20) dX11_best_20 (in32_of rfl) ?_
        exact r_iret (pc := 21) dX11_best_21 trivial (hq0 (fun h => by obtain ⟨h1, h2⟩ := h; omega))
theorem kk_seeds {A : AN} {L : Nat → Int} {p o t c q n : Nat} (hK : KSh T A) (hS : ShS T 9 p o t c) {B pp : Nat} {x w : Int} (hd : 8 ≤ d) (hst : StR L I 9 p o t N) (htc : tN N ≤ c) (hNo : NOk N q n) (hL : ∀ k, k < 9 → I (2 + 1) k = L k) (hLp : plOk L) (h5 : L 5 = (B : Int)) (h6 : L 6 = (pp : Int)) (hap : apL (A 13).1 (A 13).2.1 (A 13).2.2.1 p o t) (hq0 : ¬ sdOk x w → Q (some (aI (-1))) T I) (hq1 : sdOk x w → ∀ (U : Sh) (K : Mi) (p2 o2 t2 c2 : Nat), TrP T U I K 220 (A 13).1 (A 13).2.1 (A 13).2.2.1 (A 13).2.2.2 p2 o2 t2 c2 235 9 → Q (some (aI (sdV L N x w))) U K) : EvE G mX11_seeds d [aR 0, aI x, aI w] T I Q := by
  have hn2 := hNo.1.2.2.1
  have h6r := ok_6.mp (hNo.1.1 6)
  have hS13 := sK13 hK
  have hpl := hLp
  unfold plOk at hpl
  have hstg := hNo.2.2.2
  refine EvE.mk (lv0 := [some (aR 0), some (aI x), some (aI w)]) (Nat.le_of_ble_eq_true rfl) (by decide +kernel) rfl ?_
  refine r_iload_n (pc := 0) (i := 1) dX11_seeds_0 rfl rfl ?_
  refine r_iconst (pc := 1) dX11_seeds_1 (in32_of rfl) ?_
  refine r_icmp_lt (pc := 2) (tgt := 20) dX11_seeds_2 rfl (fun c2 => ?_) (fun c2 => ?_)
  · refine r_iconst (pc := 20) dX11_seeds_20 (in32_of rfl) ?_
    exact r_iret (pc := 21) dX11_seeds_21 trivial (hq0 (fun h => by obtain ⟨h1, h2⟩ := h; omega))
  · refine r_iload_n (pc := 5) (i := 1) dX11_seeds_5 rfl rfl ?_
    refine r_bipush (pc := 6) dX11_seeds_6 rfl (in32_of rfl) ?_
    refine r_icmp_gt (pc := 8) (tgt := 20) dX11_seeds_8 rfl (fun c8 => ?_) (fun c8 => ?_)
    · refine r_iconst (pc := 20) dX11_seeds_20 (in32_of rfl) ?_
      exact r_iret (pc := 21) dX11_seeds_21 trivial (hq0 (fun h => by obtain ⟨h1, h2⟩ := h; omega))
    · refine r_iload_n (pc := 11) (i := 2) dX11_seeds_11 rfl rfl ?_
      refine r_if_lt (pc := 12) (tgt := 20) dX11_seeds_12 rfl (fun c12 => ?_) (fun c12 => ?_)
      · refine r_iconst (pc := 20) dX11_seeds_20 (in32_of rfl) ?_
        exact r_iret (pc := 21) dX11_seeds_21 trivial (hq0 (fun h => by obtain ⟨h1, h2⟩ := h; omega))
      · refine r_iload_n (pc := 15) (i := 2) dX11_seeds_15 rfl rfl ?_
        refine r_iconst (pc := 16) dX11_seeds_16 (in32_of rfl) ?_
        refine r_icmp_le (pc := 17) (tgt := 22) dX11_seeds_17 rfl (fun c17 => ?_) (fun c17 => ?_)
        · obtain ⟨k, rfl⟩ : ∃ e : Nat, x = (e : Int) := ⟨(x).toNat, by omega⟩
          refine r_aload_n (pc := 22) (i := 0) dX11_seeds_22 rfl rfl ?_
          refine r_getfr (pc := 23) (b := 219) cks dX11_seeds_23 fl_X11_76 rfl (kK0 hK) (ltK hK (by decide)) (rK0_11 hK) ?_
          refine r_aload_n (pc := 26) (i := 0) dX11_seeds_26 rfl rfl ?_
          refine r_getfr (pc := 27) (b := 2) cks dX11_seeds_27 fl_X11_20 rfl (kK0 hK) (ltK hK (by decide)) (rK0_2 hK) ?_
          refine r_iload_n (pc := 30) (i := 1) dX11_seeds_30 rfl rfl ?_
          refine r_iload_n (pc := 31) (i := 2) dX11_seeds_31 rfl rfl ?_
          refine r_callV1 (pc := 32) (d - 1) [aR 2, aI ((k : Nat) : Int), aI w] dX11_seeds_32 (CV.mk2 mk_X10_overSeeds lk_X11_305) (RC.of (ltK hK (by decide)) (kK219 hK) (by decide) rfl) rfl rfl (by omega) (Nat.le_of_ble_eq_true rfl) (Nat.le_of_ble_eq_true rfl) (k_seeds (v := 219) (u := 235) (a := 237) (m := 240) (mm := k) (w := w) (L := L) (N := N) hS13 (tK219 hK) (pK2 hK) (by omega) (by omega) hL hLp (by omega) (fun U K p2 o2 t2 c2 hT => ?_))
          refine ⟨_, rfl, fun _ => ?_⟩
          exact r_iret (pc := 35) dX11_seeds_35 trivial (hq1 ⟨⟨by omega, by omega⟩, by omega, by omega⟩ _ _ _ _ _ _ hT)
        · refine r_iconst (pc := 20) dX11_seeds_20 (in32_of rfl) ?_
          exact r_iret (pc := 21) dX11_seeds_21 trivial (hq0 (fun h => by obtain ⟨h1, h2⟩ := h; omega))
theorem kk_noise {A : AN} {L : Nat → Int} {p o t c q n : Nat} (hK : KSh T A) (hS : ShS T 9 p o t c) {B pp : Nat} {x : Int} (hd : 8 ≤ d) (hst : StR L I 9 p o t N) (htc : tN N ≤ c) (hNo : NOk N q n) (hL : ∀ k, k < 9 → I (2 + 1) k = L k) (hLp : plOk L) (h5 : L 5 = (B : Int)) (h6 : L 6 = (pp : Int)) (hap : apL (A 13).1 (A 13).2.1 (A 13).2.2.1 p o t) (hq0 : ¬ (1 ≤ x ∧ x ≤ 20) → Q (some (aI (-1))) T I) (hq1 : (1 ≤ x ∧ x ≤ 20) → ∀ (U : Sh) (K : Mi) (p2 o2 t2 c2 : Nat), TrP T U I K 220 (A 13).1 (A 13).2.1 (A 13).2.2.1 (A 13).2.2.2 p2 o2 t2 c2 235 9 → Q (some (aI (nzF L x.toNat 51 0 N))) U K) : EvE G mX11_noise d [aR 0, aI x] T I Q := by
  have hn2 := hNo.1.2.2.1
  have h6r := ok_6.mp (hNo.1.1 6)
  have hS13 := sK13 hK
  have hpl := hLp
  unfold plOk at hpl
  have hstg := hNo.2.2.2
  refine EvE.mk (lv0 := [some (aR 0), some (aI x)]) (Nat.le_of_ble_eq_true rfl) (by decide +kernel) rfl ?_
  refine r_iload_n (pc := 0) (i := 1) dX11_noise_0 rfl rfl ?_
  refine r_iconst (pc := 1) dX11_noise_1 (in32_of rfl) ?_
  refine r_icmp_lt (pc := 2) (tgt := 11) dX11_noise_2 rfl (fun c2 => ?_) (fun c2 => ?_)
  · refine r_iconst (pc := 11) dX11_noise_11 (in32_of rfl) ?_
    exact r_iret (pc := 12) dX11_noise_12 trivial (hq0 (fun h => by omega))
  · refine r_iload_n (pc := 5) (i := 1) dX11_noise_5 rfl rfl ?_
    refine r_bipush (pc := 6) dX11_noise_6 rfl (in32_of rfl) ?_
    refine r_icmp_le (pc := 8) (tgt := 13) dX11_noise_8 rfl (fun c8 => ?_) (fun c8 => ?_)
    · obtain ⟨k, rfl⟩ : ∃ e : Nat, x = (e : Int) := ⟨(x).toNat, by omega⟩
      refine r_aload_n (pc := 13) (i := 0) dX11_noise_13 rfl rfl ?_
      refine r_getfr (pc := 14) (b := 219) cks dX11_noise_14 fl_X11_76 rfl (kK0 hK) (ltK hK (by decide)) (rK0_11 hK) ?_
      refine r_aload_n (pc := 17) (i := 0) dX11_noise_17 rfl rfl ?_
      refine r_getfr (pc := 18) (b := 2) cks dX11_noise_18 fl_X11_20 rfl (kK0 hK) (ltK hK (by decide)) (rK0_2 hK) ?_
      refine r_iload_n (pc := 21) (i := 1) dX11_noise_21 rfl rfl ?_
      refine r_callV1 (pc := 22) (d - 1) [aR 2, aI ((k : Nat) : Int)] dX11_noise_22 (CV.mk2 mk_X10_greatestNoise lk_X11_309) (RC.of (ltK hK (by decide)) (kK219 hK) (by decide) rfl) rfl rfl (by omega) (Nat.le_of_ble_eq_true rfl) (Nat.le_of_ble_eq_true rfl) (k_noise (v := 219) (u := 235) (a := 237) (m := 240) (mm := k) (L := L) (N := N) hS13 (tK219 hK) (pK2 hK) (by omega) (by omega) hL hLp (by omega) (fun U K p2 o2 t2 c2 hT => ?_))
      refine ⟨_, rfl, fun _ => ?_⟩
      exact r_iret (pc := 25) dX11_noise_25 trivial (hq1 ⟨by omega, by omega⟩ _ _ _ _ _ _ hT)
    · refine r_iconst (pc := 11) dX11_noise_11 (in32_of rfl) ?_
      exact r_iret (pc := 12) dX11_noise_12 trivial (hq0 (fun h => by omega))
end C61

section M29
variable {G : Gl} {d : Nat} {T : Sh} {I : Mi} {N : Nat → Int} {Q : Option AV → Sh → Mi → Prop}
def feV (a b c e f : Int) (k : Nat) : Int := if k < 4 then a else if k < 8 then b else if k < 12 then c else if k < 16 then e else f
def feB (v : Int) (k : Nat) : Int := ibw false (ib8 (isr v (-8 * ((k % 4 : Nat) : Int) + 24)))
theorem feB_eq (v : Int) (k : Nat) : feB v k = ibw false (ib8 (isr v (-8 * ((k % 4 : Nat) : Int) + 24))) := rfl
/-- the tape with k bytes more -/
def feR (B : Nat → Int) (tp : Nat) (a b c e f : Int) : Nat → (Nat → Int)
  | 0 => B
  | k + 1 => un (feR B tp a b c e f k) (tp + k) (feB (feV a b c e f k) k)
theorem feR_succ (B : Nat → Int) (tp : Nat) (a b c e f : Int) (k : Nat) : feR B tp a b c e f (k + 1) = un (feR B tp a b c e f k) (tp + k) (feB (feV a b c e f k) k) := rfl
theorem c_feed {tp : Nat} {a b c e f : Int} {B H : Nat → Int} (hT : ShM T) (htp : H 1 = (tp : Int)) (hq0 : 180 < tp → Q (some (aI (-1))) T (sr (sr I 275 B) 274 H)) (hq1 : tp ≤ 180 → Q (some (aI ((tp + 20 : Nat) : Int))) T (sr (sr I 275 (feR B tp a b c e f 20)) 274 (un H 1 ((tp + 20 : Nat) : Int)))) : EvE G mX12_feed d [aR 274, aI a, aI b, aI c, aI e, aI f] T (sr (sr I 275 B) 274 H) Q := by
  refine EvE.mk (lv0 := [some (aR 274), some (aI a), some (aI b), some (aI c), some (aI e), some (aI f), none, none]) (Nat.le_of_ble_eq_true rfl) (by decide +kernel) rfl ?_
  refine r_aload_n (pc := 0) (i := 0) dX12_feed_0 rfl rfl ?_
  refine r_getfi (pc := 1) cks dX12_feed_1 fl_X12_73 rfl (kM274 hT) (ltM hT (by omega)) ?_
  refine r_top (b := H 1) (sr_at _ _ _ _) ?_
  refine r_top (b := ((tp : Nat) : Int)) (htp) ?_
  refine r_sipush (pc := 4) dX12_feed_4 rfl (in32_of rfl) ?_
  refine r_icmp_le (pc := 7) (tgt := 12) dX12_feed_7 rfl (fun c7 => ?_) (fun c7 => ?_)
  · refine r_iconst (pc := 12) dX12_feed_12 (in32_of rfl) ?_
    refine r_istore (pc := 13) (i := 6) (lv' := [_, _, _, _, _, _, _, _]) dX12_feed_13 (by decide) rfl ?_
    refine loop1 (fun (k : Nat) => k ≤ 20) (fun (k : Nat) => 20 - k) (fun (k : Nat) => [some (aR 274), some (aI a), some (aI b), some (aI c), some (aI e), some (aI f), some (aI ((k : Nat) : Int)), none]) (fun _ => T) (fun (k : Nat) => sr (sr I 275 (feR B tp a b c e f k)) 274 H) ?_ 0 (Nat.zero_le _)
    intro k hP ih
    have hP : k ≤ 20 := hP
    refine (?_ : Ev G mX12_feed d 15 [some (aR 274), some (aI a), some (aI b), some (aI c), some (aI e), some (aI f), some (aI ((k : Nat) : Int)), none] [] T (sr (sr I 275 (feR B tp a b c e f k)) 274 H) Q)
    refine r_iload (pc := 15) (i := 6) dX12_feed_15 rfl ?_
    refine r_bipush (pc := 17) dX12_feed_17 rfl (in32_of rfl) ?_
    refine r_icmp_ge (pc := 19) (tgt := 102) dX12_feed_19 rfl (fun c19 => ?_) (fun c19 => ?_)
    · refine r_aload_n (pc := 102) (i := 0) dX12_feed_102 rfl rfl ?_
      refine r_dup (pc := 103) dX12_feed_103 rfl ?_
      refine r_getfi (pc := 104) cks dX12_feed_104 fl_X12_73 rfl (kM274 hT) (ltM hT (by omega)) ?_
      refine r_top (b := H 1) (sr_at _ _ _ _) ?_
      refine r_top (b := ((tp : Nat) : Int)) (htp) ?_
      refine r_bipush (pc := 107) dX12_feed_107 rfl (in32_of rfl) ?_
      refine r_iaddN (pc := 109) (c := ((tp + 20 : Nat) : Int)) dX12_feed_109 (by unfold w32; omega) ?_
      refine r_putfi (pc := 110) cks dX12_feed_110 fl_X12_73 (pf_12_1 _ _) rfl (kM274 hT) (ltM hT (by omega)) ?_
      refine r_mem (I2 := sr (sr I 275 (feR B tp a b c e f k)) 274 (un H 1 ((tp + 20 : Nat) : Int))) (by rw [up2_sr]) ?_
      refine r_aload_n (pc := 113) (i := 0) dX12_feed_113 rfl rfl ?_
      refine r_getfi (pc := 114) cks dX12_feed_114 fl_X12_73 rfl (kM274 hT) (ltM hT (by omega)) ?_
      refine r_top (b := (un H 1 ((tp + 20 : Nat) : Int)) 1) (sr_at _ _ _ _) ?_
      refine r_top (b := (((tp + 20) : Nat) : Int)) (un_at) ?_
      exact r_iret (pc := 117) dX12_feed_117 trivial (by have h := hq1 (by omega); rw [show 20 = k by omega] at h; first | exact h | (rw [show tp + k = tp + 20 by omega] at h; exact h))
    · refine r_iload (pc := 22) (i := 6) dX12_feed_22 rfl ?_
      refine r_iconst (pc := 24) dX12_feed_24 (in32_of rfl) ?_
      refine r_icmp_ge (pc := 25) (tgt := 32) dX12_feed_25 rfl (fun c25 => ?_) (fun c25 => ?_)
      · refine r_iload (pc := 32) (i := 6) dX12_feed_32 rfl ?_
        refine r_bipush (pc := 34) dX12_feed_34 rfl (in32_of rfl) ?_
        refine r_icmp_ge (pc := 36) (tgt := 43) dX12_feed_36 rfl (fun c36 => ?_) (fun c36 => ?_)
        · refine r_iload (pc := 43) (i := 6) dX12_feed_43 rfl ?_
          refine r_bipush (pc := 45) dX12_feed_45 rfl (in32_of rfl) ?_
          refine r_icmp_ge (pc := 47) (tgt := 54) dX12_feed_47 rfl (fun c47 => ?_) (fun c47 => ?_)
          · refine r_iload (pc := 54) (i := 6) dX12_feed_54 rfl ?_
            refine r_bipush (pc := 56) dX12_feed_56 rfl (in32_of rfl) ?_
            refine r_icmp_ge (pc := 58) (tgt := 66) dX12_feed_58 rfl (fun c58 => ?_) (fun c58 => ?_)
            · refine r_iload (pc := 66) (i := 5) dX12_feed_66 rfl ?_
              refine r_istore (pc := 68) (i := 7) (lv' := [_, _, _, _, _, _, _, _]) dX12_feed_68 (by decide) rfl ?_
              refine r_aload_n (pc := 70) (i := 0) dX12_feed_70 rfl rfl ?_
              refine r_getfr (pc := 71) (b := 275) cks dX12_feed_71 fl_X12_7 rfl (kM274 hT) (ltM hT (by omega)) (rM0 hT) ?_
              refine r_aload_n (pc := 74) (i := 0) dX12_feed_74 rfl rfl ?_
              refine r_getfi (pc := 75) cks dX12_feed_75 fl_X12_73 rfl (kM274 hT) (ltM hT (by omega)) ?_
              refine r_top (b := H 1) (sr_at _ _ _ _) ?_
              refine r_top (b := ((tp : Nat) : Int)) (htp) ?_
              refine r_iload (pc := 78) (i := 6) dX12_feed_78 rfl ?_
              refine r_iaddN (pc := 80) (c := ((tp + k : Nat) : Int)) dX12_feed_80 (by unfold w32; omega) ?_
              refine r_iload (pc := 81) (i := 7) dX12_feed_81 rfl ?_
              refine r_bipush (pc := 83) dX12_feed_83 rfl (in32_of rfl) ?_
              refine r_bipush (pc := 85) dX12_feed_85 rfl (in32_of rfl) ?_
              refine r_iload (pc := 87) (i := 6) dX12_feed_87 rfl ?_
              refine r_iconst (pc := 89) dX12_feed_89 (in32_of rfl) ?_
              refine r_irem (pc := 90) dX12_feed_90 (by omega) ?_
              refine r_top (b := (((k % 4) : Nat) : Int)) (by rw [irm_n (by unfold in32; omega) (by unfold in32; omega) (by omega) (by omega)]; omega) ?_
              refine r_imulN (pc := 91) (c := ((8 * (k % 4) : Nat) : Int)) dX12_feed_91 (by unfold w32; omega) ?_
              refine r_isubN (pc := 92) (c := (-8 * (((k % 4) : Nat) : Int) + 24)) dX12_feed_92 (by unfold w32; omega) ?_
              refine r_ishr (pc := 93) dX12_feed_93 ?_
              refine r_i2b (pc := 94) dX12_feed_94 ?_
              refine r_bst (pc := 95) (tp + k) false dX12_feed_95 (kM275 hT) (ltM hT (by omega)) rfl (by rw [lM275 hT]; omega) ?_
              refine r_mem (I2 := sr (sr I 275 (un (feR B tp a b c e f k) (tp + k) (ibw  false (ib8 (isr f (-8 * (((k % 4) : Nat) : Int) + 24)))))) 274 H) (by rw [up2_sr_ne (by decide), up2_sr]) ?_
              refine r_iincN (pc := 96) (i := 6) (c := ((k + 1 : Nat) : Int)) (lv' := [_, _, _, _, _, _, _, _]) dX12_feed_96 rfl (by decide) (by unfold w32; omega) rfl ?_
              refine r_goto (pc := 99) (tgt := 15) dX12_feed_99 rfl ?_
              refine Ev.weak (lv2 := [some (aR 274), some (aI a), some (aI b), some (aI c), some (aI e), some (aI f), some (aI ((k + 1 : Nat) : Int)), none]) ⟨Or.inr rfl, Or.inr rfl, Or.inr rfl, Or.inr rfl, Or.inr rfl, Or.inr rfl, Or.inr rfl, Or.inl rfl, trivial⟩ ?_
              exact Ev.re rfl (by rw [feR_succ, show feV a b c e f k = f from by unfold feV; (repeat' split) <;> first | rfl | omega, feB_eq]) (ih (k + 1) (by omega) (by omega))
            · refine r_iload (pc := 61) (i := 4) dX12_feed_61 rfl ?_
              refine r_goto (pc := 63) (tgt := 68) dX12_feed_63 rfl ?_
              refine r_istore (pc := 68) (i := 7) (lv' := [_, _, _, _, _, _, _, _]) dX12_feed_68 (by decide) rfl ?_
              refine r_aload_n (pc := 70) (i := 0) dX12_feed_70 rfl rfl ?_
              refine r_getfr (pc := 71) (b := 275) cks dX12_feed_71 fl_X12_7 rfl (kM274 hT) (ltM hT (by omega)) (rM0 hT) ?_
              refine r_aload_n (pc := 74) (i := 0) dX12_feed_74 rfl rfl ?_
              refine r_getfi (pc := 75) cks dX12_feed_75 fl_X12_73 rfl (kM274 hT) (ltM hT (by omega)) ?_
              refine r_top (b := H 1) (sr_at _ _ _ _) ?_
              refine r_top (b := ((tp : Nat) : Int)) (htp) ?_
              refine r_iload (pc := 78) (i := 6) dX12_feed_78 rfl ?_
              refine r_iaddN (pc := 80) (c := ((tp + k : Nat) : Int)) dX12_feed_80 (by unfold w32; omega) ?_
              refine r_iload (pc := 81) (i := 7) dX12_feed_81 rfl ?_
              refine r_bipush (pc := 83) dX12_feed_83 rfl (in32_of rfl) ?_
              refine r_bipush (pc := 85) dX12_feed_85 rfl (in32_of rfl) ?_
              refine r_iload (pc := 87) (i := 6) dX12_feed_87 rfl ?_
              refine r_iconst (pc := 89) dX12_feed_89 (in32_of rfl) ?_
              refine r_irem (pc := 90) dX12_feed_90 (by omega) ?_
              refine r_top (b := (((k % 4) : Nat) : Int)) (by rw [irm_n (by unfold in32; omega) (by unfold in32; omega) (by omega) (by omega)]; omega) ?_
              refine r_imulN (pc := 91) (c := ((8 * (k % 4) : Nat) : Int)) dX12_feed_91 (by unfold w32; omega) ?_
              refine r_isubN (pc := 92) (c := (-8 * (((k % 4) : Nat) : Int) + 24)) dX12_feed_92 (by unfold w32; omega) ?_
              refine r_ishr (pc := 93) dX12_feed_93 ?_
              refine r_i2b (pc := 94) dX12_feed_94 ?_
              refine r_bst (pc := 95) (tp + k) false dX12_feed_95 (kM275 hT) (ltM hT (by omega)) rfl (by rw [lM275 hT]; omega) ?_
              refine r_mem (I2 := sr (sr I 275 (un (feR B tp a b c e f k) (tp + k) (ibw  false (ib8 (isr e (-8 * (((k % 4) : Nat) : Int) + 24)))))) 274 H) (by rw [up2_sr_ne (by decide), up2_sr]) ?_
              refine r_iincN (pc := 96) (i := 6) (c := ((k + 1 : Nat) : Int)) (lv' := [_, _, _, _, _, _, _, _]) dX12_feed_96 rfl (by decide) (by unfold w32; omega) rfl ?_
              refine r_goto (pc := 99) (tgt := 15) dX12_feed_99 rfl ?_
              refine Ev.weak (lv2 := [some (aR 274), some (aI a), some (aI b), some (aI c), some (aI e), some (aI f), some (aI ((k + 1 : Nat) : Int)), none]) ⟨Or.inr rfl, Or.inr rfl, Or.inr rfl, Or.inr rfl, Or.inr rfl, Or.inr rfl, Or.inr rfl, Or.inl rfl, trivial⟩ ?_
              exact Ev.re rfl (by rw [feR_succ, show feV a b c e f k = e from by unfold feV; (repeat' split) <;> first | rfl | omega, feB_eq]) (ih (k + 1) (by omega) (by omega))
          · refine r_iload_n (pc := 50) (i := 3) dX12_feed_50 rfl rfl ?_
            refine r_goto (pc := 51) (tgt := 68) dX12_feed_51 rfl ?_
            refine r_istore (pc := 68) (i := 7) (lv' := [_, _, _, _, _, _, _, _]) dX12_feed_68 (by decide) rfl ?_
            refine r_aload_n (pc := 70) (i := 0) dX12_feed_70 rfl rfl ?_
            refine r_getfr (pc := 71) (b := 275) cks dX12_feed_71 fl_X12_7 rfl (kM274 hT) (ltM hT (by omega)) (rM0 hT) ?_
            refine r_aload_n (pc := 74) (i := 0) dX12_feed_74 rfl rfl ?_
            refine r_getfi (pc := 75) cks dX12_feed_75 fl_X12_73 rfl (kM274 hT) (ltM hT (by omega)) ?_
            refine r_top (b := H 1) (sr_at _ _ _ _) ?_
            refine r_top (b := ((tp : Nat) : Int)) (htp) ?_
            refine r_iload (pc := 78) (i := 6) dX12_feed_78 rfl ?_
            refine r_iaddN (pc := 80) (c := ((tp + k : Nat) : Int)) dX12_feed_80 (by unfold w32; omega) ?_
            refine r_iload (pc := 81) (i := 7) dX12_feed_81 rfl ?_
            refine r_bipush (pc := 83) dX12_feed_83 rfl (in32_of rfl) ?_
            refine r_bipush (pc := 85) dX12_feed_85 rfl (in32_of rfl) ?_
            refine r_iload (pc := 87) (i := 6) dX12_feed_87 rfl ?_
            refine r_iconst (pc := 89) dX12_feed_89 (in32_of rfl) ?_
            refine r_irem (pc := 90) dX12_feed_90 (by omega) ?_
            refine r_top (b := (((k % 4) : Nat) : Int)) (by rw [irm_n (by unfold in32; omega) (by unfold in32; omega) (by omega) (by omega)]; omega) ?_
            refine r_imulN (pc := 91) (c := ((8 * (k % 4) : Nat) : Int)) dX12_feed_91 (by unfold w32; omega) ?_
            refine r_isubN (pc := 92) (c := (-8 * (((k % 4) : Nat) : Int) + 24)) dX12_feed_92 (by unfold w32; omega) ?_
            refine r_ishr (pc := 93) dX12_feed_93 ?_
            refine r_i2b (pc := 94) dX12_feed_94 ?_
            refine r_bst (pc := 95) (tp + k) false dX12_feed_95 (kM275 hT) (ltM hT (by omega)) rfl (by rw [lM275 hT]; omega) ?_
            refine r_mem (I2 := sr (sr I 275 (un (feR B tp a b c e f k) (tp + k) (ibw  false (ib8 (isr c (-8 * (((k % 4) : Nat) : Int) + 24)))))) 274 H) (by rw [up2_sr_ne (by decide), up2_sr]) ?_
            refine r_iincN (pc := 96) (i := 6) (c := ((k + 1 : Nat) : Int)) (lv' := [_, _, _, _, _, _, _, _]) dX12_feed_96 rfl (by decide) (by unfold w32; omega) rfl ?_
            refine r_goto (pc := 99) (tgt := 15) dX12_feed_99 rfl ?_
            refine Ev.weak (lv2 := [some (aR 274), some (aI a), some (aI b), some (aI c), some (aI e), some (aI f), some (aI ((k + 1 : Nat) : Int)), none]) ⟨Or.inr rfl, Or.inr rfl, Or.inr rfl, Or.inr rfl, Or.inr rfl, Or.inr rfl, Or.inr rfl, Or.inl rfl, trivial⟩ ?_
            exact Ev.re rfl (by rw [feR_succ, show feV a b c e f k = c from by unfold feV; (repeat' split) <;> first | rfl | omega, feB_eq]) (ih (k + 1) (by omega) (by omega))
        · refine r_iload_n (pc := 39) (i := 2) dX12_feed_39 rfl rfl ?_
          refine r_goto (pc := 40) (tgt := 68) dX12_feed_40 rfl ?_
          refine r_istore (pc := 68) (i := 7) (lv' := [_, _, _, _, _, _, _, _]) dX12_feed_68 (by decide) rfl ?_
          refine r_aload_n (pc := 70) (i := 0) dX12_feed_70 rfl rfl ?_
          refine r_getfr (pc := 71) (b := 275) cks dX12_feed_71 fl_X12_7 rfl (kM274 hT) (ltM hT (by omega)) (rM0 hT) ?_
          refine r_aload_n (pc := 74) (i := 0) dX12_feed_74 rfl rfl ?_
          refine r_getfi (pc := 75) cks dX12_feed_75 fl_X12_73 rfl (kM274 hT) (ltM hT (by omega)) ?_
          refine r_top (b := H 1) (sr_at _ _ _ _) ?_
          refine r_top (b := ((tp : Nat) : Int)) (htp) ?_
          refine r_iload (pc := 78) (i := 6) dX12_feed_78 rfl ?_
          refine r_iaddN (pc := 80) (c := ((tp + k : Nat) : Int)) dX12_feed_80 (by unfold w32; omega) ?_
          refine r_iload (pc := 81) (i := 7) dX12_feed_81 rfl ?_
          refine r_bipush (pc := 83) dX12_feed_83 rfl (in32_of rfl) ?_
          refine r_bipush (pc := 85) dX12_feed_85 rfl (in32_of rfl) ?_
          refine r_iload (pc := 87) (i := 6) dX12_feed_87 rfl ?_
          refine r_iconst (pc := 89) dX12_feed_89 (in32_of rfl) ?_
          refine r_irem (pc := 90) dX12_feed_90 (by omega) ?_
          refine r_top (b := (((k % 4) : Nat) : Int)) (by rw [irm_n (by unfold in32; omega) (by unfold in32; omega) (by omega) (by omega)]; omega) ?_
          refine r_imulN (pc := 91) (c := ((8 * (k % 4) : Nat) : Int)) dX12_feed_91 (by unfold w32; omega) ?_
          refine r_isubN (pc := 92) (c := (-8 * (((k % 4) : Nat) : Int) + 24)) dX12_feed_92 (by unfold w32; omega) ?_
          refine r_ishr (pc := 93) dX12_feed_93 ?_
          refine r_i2b (pc := 94) dX12_feed_94 ?_
          refine r_bst (pc := 95) (tp + k) false dX12_feed_95 (kM275 hT) (ltM hT (by omega)) rfl (by rw [lM275 hT]; omega) ?_
          refine r_mem (I2 := sr (sr I 275 (un (feR B tp a b c e f k) (tp + k) (ibw  false (ib8 (isr b (-8 * (((k % 4) : Nat) : Int) + 24)))))) 274 H) (by rw [up2_sr_ne (by decide), up2_sr]) ?_
          refine r_iincN (pc := 96) (i := 6) (c := ((k + 1 : Nat) : Int)) (lv' := [_, _, _, _, _, _, _, _]) dX12_feed_96 rfl (by decide) (by unfold w32; omega) rfl ?_
          refine r_goto (pc := 99) (tgt := 15) dX12_feed_99 rfl ?_
          refine Ev.weak (lv2 := [some (aR 274), some (aI a), some (aI b), some (aI c), some (aI e), some (aI f), some (aI ((k + 1 : Nat) : Int)), none]) ⟨Or.inr rfl, Or.inr rfl, Or.inr rfl, Or.inr rfl, Or.inr rfl, Or.inr rfl, Or.inr rfl, Or.inl rfl, trivial⟩ ?_
          exact Ev.re rfl (by rw [feR_succ, show feV a b c e f k = b from by unfold feV; (repeat' split) <;> first | rfl | omega, feB_eq]) (ih (k + 1) (by omega) (by omega))
      · refine r_iload_n (pc := 28) (i := 1) dX12_feed_28 rfl rfl ?_
        refine r_goto (pc := 29) (tgt := 68) dX12_feed_29 rfl ?_
        refine r_istore (pc := 68) (i := 7) (lv' := [_, _, _, _, _, _, _, _]) dX12_feed_68 (by decide) rfl ?_
        refine r_aload_n (pc := 70) (i := 0) dX12_feed_70 rfl rfl ?_
        refine r_getfr (pc := 71) (b := 275) cks dX12_feed_71 fl_X12_7 rfl (kM274 hT) (ltM hT (by omega)) (rM0 hT) ?_
        refine r_aload_n (pc := 74) (i := 0) dX12_feed_74 rfl rfl ?_
        refine r_getfi (pc := 75) cks dX12_feed_75 fl_X12_73 rfl (kM274 hT) (ltM hT (by omega)) ?_
        refine r_top (b := H 1) (sr_at _ _ _ _) ?_
        refine r_top (b := ((tp : Nat) : Int)) (htp) ?_
        refine r_iload (pc := 78) (i := 6) dX12_feed_78 rfl ?_
        refine r_iaddN (pc := 80) (c := ((tp + k : Nat) : Int)) dX12_feed_80 (by unfold w32; omega) ?_
        refine r_iload (pc := 81) (i := 7) dX12_feed_81 rfl ?_
        refine r_bipush (pc := 83) dX12_feed_83 rfl (in32_of rfl) ?_
        refine r_bipush (pc := 85) dX12_feed_85 rfl (in32_of rfl) ?_
        refine r_iload (pc := 87) (i := 6) dX12_feed_87 rfl ?_
        refine r_iconst (pc := 89) dX12_feed_89 (in32_of rfl) ?_
        refine r_irem (pc := 90) dX12_feed_90 (by omega) ?_
        refine r_top (b := (((k % 4) : Nat) : Int)) (by rw [irm_n (by unfold in32; omega) (by unfold in32; omega) (by omega) (by omega)]; omega) ?_
        refine r_imulN (pc := 91) (c := ((8 * (k % 4) : Nat) : Int)) dX12_feed_91 (by unfold w32; omega) ?_
        refine r_isubN (pc := 92) (c := (-8 * (((k % 4) : Nat) : Int) + 24)) dX12_feed_92 (by unfold w32; omega) ?_
        refine r_ishr (pc := 93) dX12_feed_93 ?_
        refine r_i2b (pc := 94) dX12_feed_94 ?_
        refine r_bst (pc := 95) (tp + k) false dX12_feed_95 (kM275 hT) (ltM hT (by omega)) rfl (by rw [lM275 hT]; omega) ?_
        refine r_mem (I2 := sr (sr I 275 (un (feR B tp a b c e f k) (tp + k) (ibw  false (ib8 (isr a (-8 * (((k % 4) : Nat) : Int) + 24)))))) 274 H) (by rw [up2_sr_ne (by decide), up2_sr]) ?_
        refine r_iincN (pc := 96) (i := 6) (c := ((k + 1 : Nat) : Int)) (lv' := [_, _, _, _, _, _, _, _]) dX12_feed_96 rfl (by decide) (by unfold w32; omega) rfl ?_
        refine r_goto (pc := 99) (tgt := 15) dX12_feed_99 rfl ?_
        refine Ev.weak (lv2 := [some (aR 274), some (aI a), some (aI b), some (aI c), some (aI e), some (aI f), some (aI ((k + 1 : Nat) : Int)), none]) ⟨Or.inr rfl, Or.inr rfl, Or.inr rfl, Or.inr rfl, Or.inr rfl, Or.inr rfl, Or.inr rfl, Or.inl rfl, trivial⟩ ?_
        exact Ev.re rfl (by rw [feR_succ, show feV a b c e f k = a from by unfold feV; (repeat' split) <;> first | rfl | omega, feB_eq]) (ih (k + 1) (by omega) (by omega))
  · refine r_iconst (pc := 10) dX12_feed_10 (in32_of rfl) ?_
    exact r_iret (pc := 11) dX12_feed_11 trivial (hq0 (by omega))
end M29

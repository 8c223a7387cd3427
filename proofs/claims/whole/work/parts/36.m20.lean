section M20
variable {G : Gl} {d : Nat} {T : Sh} {I : Mi} {N : Nat → Int} {Q : Option AV → Sh → Mi → Prop}
def okWn (N : Nat → Int) : Prop := (N 0 = 2 ∨ N 0 = 3) ∧ ¬ N 12 = 8
def wnF (N : Nat → Int) (n : Nat) : Nat → Int := un (un (wnS N (n / 8)) 12 (N 12 + 1)) 0 3
theorem c_winnow {n : Nat} {u : Nat} {P W A H : Nat → Int} (hT : ShM T) (hd : 4 ≤ d) (hR : Rng N) (hw : wOk W) (hu : H 16 = (u : Int)) (hu2 : u ≤ 12) (hn : N 1 = (n : Int)) (hn2 : n ≤ 256) (ht : okWn N → tN N + 128 ≤ 13608) (hq0 : ¬ okWn N → Q (some (aI (-1))) T (sr (sr (sr (sr (sr I 286 P) 285 W) 284 A) 274 H) 283 N)) (hq1 : okWn N → Q (some (aI ((wnC N (n / 8) : Nat) : Int))) T (sr (sr (sr (sr (sr I 286 P) 285 (kaW W N u)) 284 A) 274 (un H 16 ((kaU u : Nat) : Int))) 283 (wnF N n))) : EvE G mX12_winnow d [aR 274] T (sr (sr (sr (sr (sr I 286 P) 285 W) 284 A) 274 H) 283 N) Q := by
  have h12 := ok_12.mp (hR 12)
  refine EvE.mk (lv0 := [some (aR 274), none, none, none, none]) (Nat.le_of_ble_eq_true rfl) (by decide +kernel) rfl ?_
  refine r_aload_n (pc := 0) (i := 0) dX12_winnow_0 rfl rfl ?_
  refine r_callV1 (pc := 1) (d - 1) [] dX12_winnow_1 (CV.mk2 mk_X12_isMending lk_X12_201) (RC.of (ltM hT (by omega)) (kM274 hT) (by decide) rfl) rfl rfl (by omega) (Nat.le_of_ble_eq_true rfl) (Nat.le_of_ble_eq_true rfl) (c_isMending hT ?_)
  refine ⟨_, rfl, fun _ => ?_⟩
  refine r_if_eq (pc := 4) (tgt := 19) dX12_winnow_4 rfl (fun c4 => ?_) (fun c4 => ?_)
  · have c4 := bi_if.mp c4
    refine r_iconst (pc := 19) dX12_winnow_19 (in32_of rfl) ?_
    exact r_iret (pc := 20) dX12_winnow_20 trivial (hq0 (fun h => by unfold okWn at h; omega))
  · have c4 := bi_1 c4
    refine r_aload_n (pc := 7) (i := 0) dX12_winnow_7 rfl rfl ?_
    refine r_getfr (pc := 8) (b := 283) cks dX12_winnow_8 fl_X12_37 rfl (kM274 hT) (ltM hT (by omega)) (rM11 hT) ?_
    refine r_bipush (pc := 11) dX12_winnow_11 rfl (in32_of rfl) ?_
    refine r_ild (pc := 13) (12) dX12_winnow_13 (kM283 hT) (ltM hT (by omega)) (by omega) (by rw [lM283 hT]; omega) ?_
    refine r_top (b := N 12) (sr_at _ _ _ _) ?_
    refine r_bipush (pc := 14) dX12_winnow_14 rfl (in32_of rfl) ?_
    refine r_icmp_ne (pc := 16) (tgt := 21) dX12_winnow_16 rfl (fun c16 => ?_) (fun c16 => ?_)
    · have ht := ht (by unfold okWn; omega)
      refine r_aload_n (pc := 21) (i := 0) dX12_winnow_21 rfl rfl ?_
      refine r_callV0 (pc := 22) (d - 1) [] dX12_winnow_22 (CV.mk2 mk_X12_keepsAct lk_X12_149) (RC.of (ltM hT (by omega)) (kM274 hT) (by decide) rfl) rfl rfl (by omega) (Nat.le_of_ble_eq_true rfl) (Nat.le_of_ble_eq_true rfl) (c_keepsAct (u := u) (P := P) (W := W) (A := A) (H := H) (N := N) hT (by omega) hR hw hu hu2 ?_)
      refine ⟨rfl, fun _ => ?_⟩
      refine r_iconst (pc := 25) dX12_winnow_25 (in32_of rfl) ?_
      refine r_istore_n (pc := 26) (i := 1) (lv' := [_, _, _, _, _]) dX12_winnow_26 rfl (by decide) rfl ?_
      refine r_iconst (pc := 27) dX12_winnow_27 (in32_of rfl) ?_
      refine r_istore_n (pc := 28) (i := 2) (lv' := [_, _, _, _, _]) dX12_winnow_28 rfl (by decide) rfl ?_
      refine loop1 (fun (e : Nat) => e ≤ n / 8) (fun (e : Nat) => n / 8 - e) (fun (e : Nat) => [some (aR 274), some (aI (((wnC N e) : Nat) : Int)), some (aI ((e : Nat) : Int)), none, none]) (fun _ => T) (fun (e : Nat) => sr (sr (sr (sr (sr I 286 P) 285 (kaW W N u)) 284 A) 274 (un H 16 ((kaU u : Nat) : Int))) 283 (wnS N e)) ?_ 0 (Nat.zero_le _)
      intro e hP ih
      have hP : e ≤ n / 8 := hP
      have hwn := wnS_ok hR e (by omega) (by omega)
      have hRe := hwn.1
      have hne : wnS N e 1 = (n : Int) := (hwn.2.2.2 1 (by decide) (by decide) (by decide) (by decide)).trans hn
      have h12e : wnS N e 12 = N 12 := hwn.2.2.2 12 (by decide) (by decide) (by decide) (by decide)
      have hce := wnC_le N e
      have hte := hwn.2.1
      refine (?_ : Ev G mX12_winnow d 29 [some (aR 274), some (aI (((wnC N e) : Nat) : Int)), some (aI ((e : Nat) : Int)), none, none] [] T (sr (sr (sr (sr (sr I 286 P) 285 (kaW W N u)) 284 A) 274 (un H 16 ((kaU u : Nat) : Int))) 283 (wnS N e)) Q)
      refine r_bipush (pc := 29) dX12_winnow_29 rfl (in32_of rfl) ?_
      refine r_iload_n (pc := 31) (i := 2) dX12_winnow_31 rfl rfl ?_
      refine r_imulN (pc := 32) (c := ((8 * e : Nat) : Int)) dX12_winnow_32 (by unfold w32; omega) ?_
      refine r_bipush (pc := 33) dX12_winnow_33 rfl (in32_of rfl) ?_
      refine r_iaddN (pc := 35) (c := ((8 * e + 7 : Nat) : Int)) dX12_winnow_35 (by unfold w32; omega) ?_
      refine r_aload_n (pc := 36) (i := 0) dX12_winnow_36 rfl rfl ?_
      refine r_getfr (pc := 37) (b := 283) cks dX12_winnow_37 fl_X12_37 rfl (kM274 hT) (ltM hT (by omega)) (rM11 hT) ?_
      refine r_iconst (pc := 40) dX12_winnow_40 (in32_of rfl) ?_
      refine r_ild (pc := 41) (1) dX12_winnow_41 (kM283 hT) (ltM hT (by omega)) (by omega) (by rw [lM283 hT]; omega) ?_
      refine r_top (b := (wnS N e) 1) (sr_at _ _ _ _) ?_
      refine r_top (b := ((n : Nat) : Int)) (hne) ?_
      refine r_icmp_ge (pc := 42) (tgt := 116) dX12_winnow_42 rfl (fun c42 => ?_) (fun c42 => ?_)
      · refine r_aload_n (pc := 116) (i := 0) dX12_winnow_116 rfl rfl ?_
        refine r_getfr (pc := 117) (b := 283) cks dX12_winnow_117 fl_X12_37 rfl (kM274 hT) (ltM hT (by omega)) (rM11 hT) ?_
        refine r_bipush (pc := 120) dX12_winnow_120 rfl (in32_of rfl) ?_
        refine r_dup2 (pc := 122) dX12_winnow_122 rfl rfl ?_
        refine r_ild (pc := 123) (12) dX12_winnow_123 (kM283 hT) (ltM hT (by omega)) (by omega) (by rw [lM283 hT]; omega) ?_
        refine r_top (b := (wnS N e) 12) (sr_at _ _ _ _) ?_
        refine r_top (b := (N 12)) (h12e) ?_
        refine r_iconst (pc := 124) dX12_winnow_124 (in32_of rfl) ?_
        refine r_iaddN (pc := 125) (c := ((N 12) + 1)) dX12_winnow_125 (by unfold w32; omega) ?_
        refine r_ist (pc := 126) (12) dX12_winnow_126 (kM283 hT) (ltM hT (by omega)) (by omega) (by rw [lM283 hT]; omega) ?_
        refine r_mem (I2 := sr (sr (sr (sr (sr I 286 P) 285 (kaW W N u)) 284 A) 274 (un H 16 ((kaU u : Nat) : Int))) 283 (un (wnS N e) 12 ((N 12) + 1))) (by rw [up2_sr]) ?_
        refine r_aload_n (pc := 127) (i := 0) dX12_winnow_127 rfl rfl ?_
        refine r_getfr (pc := 128) (b := 283) cks dX12_winnow_128 fl_X12_37 rfl (kM274 hT) (ltM hT (by omega)) (rM11 hT) ?_
        refine r_iconst (pc := 131) dX12_winnow_131 (in32_of rfl) ?_
        refine r_iconst (pc := 132) dX12_winnow_132 (in32_of rfl) ?_
        refine r_ist (pc := 133) (0) dX12_winnow_133 (kM283 hT) (ltM hT (by omega)) (by omega) (by rw [lM283 hT]; omega) ?_
        refine r_mem (I2 := sr (sr (sr (sr (sr I 286 P) 285 (kaW W N u)) 284 A) 274 (un H 16 ((kaU u : Nat) : Int))) 283 (un (un (wnS N e) 12 ((N 12) + 1)) 0 3)) (by rw [up2_sr]) ?_
        refine r_iload_n (pc := 134) (i := 1) dX12_winnow_134 rfl rfl ?_
        exact r_iret (pc := 135) dX12_winnow_135 trivial (by have hen : n / 8 = e := (by omega); have g := hq1 (by unfold okWn; omega); unfold wnF at g; rw [hen] at g; exact g)
      · refine r_aload_n (pc := 45) (i := 0) dX12_winnow_45 rfl rfl ?_
        refine r_iload_n (pc := 46) (i := 2) dX12_winnow_46 rfl rfl ?_
        refine r_iconst (pc := 47) dX12_winnow_47 (in32_of rfl) ?_
        refine r_callV1 (pc := 48) (d - 1) [aI ((e : Nat) : Int), aI 0] dX12_winnow_48 (CV.mk2 mk_X12_asksEight lk_X12_211) (RC.of (ltM hT (by omega)) (kM274 hT) (by decide) rfl) rfl rfl (by omega) (Nat.le_of_ble_eq_true rfl) (Nat.le_of_ble_eq_true rfl) (c_asksEight (e := e) (j := 0) (N := wnS N e) hT (by omega) hRe (by omega) (by omega) (by omega) (by omega) ?_)
        refine ⟨_, rfl, fun _ => ?_⟩
        refine r_if_ne (pc := 51) (tgt := 57) dX12_winnow_51 rfl (fun c51 => ?_) (fun c51 => ?_)
        · refine r_iconst (pc := 57) dX12_winnow_57 (in32_of rfl) ?_
          refine r_istore_n (pc := 58) (i := 3) (lv' := [_, _, _, _, _]) dX12_winnow_58 rfl (by decide) rfl ?_
          refine r_iconst (pc := 59) dX12_winnow_59 (in32_of rfl) ?_
          refine r_istore (pc := 60) (i := 4) (lv' := [_, _, _, _, _]) dX12_winnow_60 (by decide) rfl ?_
          refine loop1 (fun (jj : Nat) => jj ≤ 3) (fun (jj : Nat) => 3 - jj) (fun (jj : Nat) => [some (aR 274), some (aI (((wnC N e) : Nat) : Int)), some (aI ((e : Nat) : Int)), some (aI (nbV (wnS N e) e jj)), some (aI ((jj + 1 : Nat) : Int))]) (fun _ => T) (fun (jj : Nat) => sr (sr (sr (sr (sr I 286 P) 285 (kaW W N u)) 284 A) 274 (un H 16 ((kaU u : Nat) : Int))) 283 (nbM (wnS N e) e jj)) ?_ 0 (by omega)
          intro jj hP2 ih2
          have hP2 : jj ≤ 3 := hP2
          have hnb := nbM_ok (e := e) hRe jj (by omega)
          have hRj := hnb.1
          have htj := hnb.2.1
          refine (?_ : Ev G mX12_winnow d 62 [some (aR 274), some (aI (((wnC N e) : Nat) : Int)), some (aI ((e : Nat) : Int)), some (aI (nbV (wnS N e) e jj)), some (aI ((jj + 1 : Nat) : Int))] [] T (sr (sr (sr (sr (sr I 286 P) 285 (kaW W N u)) 284 A) 274 (un H 16 ((kaU u : Nat) : Int))) 283 (nbM (wnS N e) e jj)) Q)
          refine r_iload (pc := 62) (i := 4) dX12_winnow_62 rfl ?_
          refine r_iconst (pc := 64) dX12_winnow_64 (in32_of rfl) ?_
          refine r_icmp_gt (pc := 65) (tgt := 97) dX12_winnow_65 rfl (fun c65 => ?_) (fun c65 => ?_)
          · have hj3 : jj = 3 := by omega
            subst hj3
            have hR3 := hRj
            have hz := nbV_3 (wnS N e) e
            refine Ev.re (lv2 := [some (aR 274), some (aI (((wnC N e) : Nat) : Int)), some (aI ((e : Nat) : Int)), some (aI (nbV (wnS N e) e 3)), some (aI 4)]) (I2 := sr (sr (sr (sr (sr I 286 P) 285 (kaW W N u)) 284 A) 274 (un H 16 ((kaU u : Nat) : Int))) 283 (nbM (wnS N e) e 3)) rfl rfl ?_
            refine r_aload_n (pc := 97) (i := 0) dX12_winnow_97 rfl rfl ?_
            refine r_bipush (pc := 98) dX12_winnow_98 rfl (in32_of rfl) ?_
            refine r_iload_n (pc := 100) (i := 2) dX12_winnow_100 rfl rfl ?_
            refine r_imulN (pc := 101) (c := ((8 * e : Nat) : Int)) dX12_winnow_101 (by unfold w32; omega) ?_
            refine r_iload_n (pc := 102) (i := 3) dX12_winnow_102 rfl rfl ?_
            refine r_iaddN (pc := 103) (c := (((8 * e + (nbV (wnS N e) e 3).toNat) : Nat) : Int)) dX12_winnow_103 (by unfold w32; omega) ?_
            refine r_callV0 (pc := 104) (d - 1) [aI (((8 * e + (nbV (wnS N e) e 3).toNat) : Nat) : Int)] dX12_winnow_104 (CV.mk2 mk_X12_mends lk_X12_176) (RC.of (ltM hT (by omega)) (kM274 hT) (by decide) rfl) rfl rfl (by omega) (Nat.le_of_ble_eq_true rfl) (Nat.le_of_ble_eq_true rfl) (c_mends (p := (8 * e + (nbV (wnS N e) e 3).toNat)) (N := nbM (wnS N e) e 3) hT hR3 (by omega) ?_)
            refine ⟨rfl, fun _ => ?_⟩
            refine r_iincN (pc := 107) (i := 1) (c := (((wnC N e) + 1 : Nat) : Int)) (lv' := [_, _, _, _, _]) dX12_winnow_107 rfl (by decide) (by unfold w32; omega) rfl ?_
            refine r_iincN (pc := 110) (i := 2) (c := ((e + 1 : Nat) : Int)) (lv' := [_, _, _, _, _]) dX12_winnow_110 rfl (by decide) (by unfold w32; omega) rfl ?_
            refine r_goto (pc := 113) (tgt := 29) dX12_winnow_113 rfl ?_
            refine Ev.weak (lv2 := [some (aR 274), some (aI (((wnC N e) + 1 : Nat) : Int)), some (aI ((e + 1 : Nat) : Int)), none, none]) ⟨Or.inr rfl, Or.inr rfl, Or.inr rfl, Or.inl rfl, Or.inl rfl, trivial⟩ ?_
            exact Ev.re (by rw [wnC_succ, if_neg c51]) (by rw [wnS_succ]; unfold wnT; rw [if_neg c51]) (ih (e + 1) (by omega) (by omega))
          · refine r_iload_n (pc := 68) (i := 3) dX12_winnow_68 rfl rfl ?_
            refine r_aload_n (pc := 69) (i := 0) dX12_winnow_69 rfl rfl ?_
            refine r_iload_n (pc := 70) (i := 2) dX12_winnow_70 rfl rfl ?_
            refine r_iload (pc := 71) (i := 4) dX12_winnow_71 rfl ?_
            refine r_callV1 (pc := 73) (d - 1) [aI ((e : Nat) : Int), aI ((jj + 1 : Nat) : Int)] dX12_winnow_73 (CV.mk2 mk_X12_asksEight lk_X12_211) (RC.of (ltM hT (by omega)) (kM274 hT) (by decide) rfl) rfl rfl (by omega) (Nat.le_of_ble_eq_true rfl) (Nat.le_of_ble_eq_true rfl) (c_asksEight (e := e) (j := ((jj + 1 : Nat) : Int)) (N := nbM (wnS N e) e jj) hT (by omega) hRj (by omega) (by omega) (by omega) (by omega) ?_)
            refine ⟨_, rfl, fun _ => ?_⟩
            refine r_if_eq (pc := 76) (tgt := 88) dX12_winnow_76 rfl (fun c76 => ?_) (fun c76 => ?_)
            · refine r_iconst (pc := 88) dX12_winnow_88 (in32_of rfl) ?_
              refine r_ior (pc := 89) dX12_winnow_89 ?_
              refine r_istore_n (pc := 90) (i := 3) (lv' := [_, _, _, _, _]) dX12_winnow_90 rfl (by decide) rfl ?_
              refine r_iincN (pc := 91) (i := 4) (c := ((jj + 2 : Nat) : Int)) (lv' := [_, _, _, _, _]) dX12_winnow_91 rfl (by decide) (by unfold w32; omega) rfl ?_
              refine r_goto (pc := 94) (tgt := 62) dX12_winnow_94 rfl ?_
              exact Ev.re (by rw [nbV_succ, if_pos c76]) (by rw [nbM_succ]) (ih2 (jj + 1) (by omega) (by omega))
            · refine r_iconst (pc := 79) dX12_winnow_79 (in32_of rfl) ?_
              refine r_iload (pc := 80) (i := 4) dX12_winnow_80 rfl ?_
              refine r_iconst (pc := 82) dX12_winnow_82 (in32_of rfl) ?_
              refine r_isubN (pc := 83) (c := ((jj : Nat) : Int)) dX12_winnow_83 (by unfold w32; omega) ?_
              refine r_ishl (pc := 84) dX12_winnow_84 ?_
              refine r_goto (pc := 85) (tgt := 89) dX12_winnow_85 rfl ?_
              refine r_ior (pc := 89) dX12_winnow_89 ?_
              refine r_istore_n (pc := 90) (i := 3) (lv' := [_, _, _, _, _]) dX12_winnow_90 rfl (by decide) rfl ?_
              refine r_iincN (pc := 91) (i := 4) (c := ((jj + 2 : Nat) : Int)) (lv' := [_, _, _, _, _]) dX12_winnow_91 rfl (by decide) (by unfold w32; omega) rfl ?_
              refine r_goto (pc := 94) (tgt := 62) dX12_winnow_94 rfl ?_
              exact Ev.re (by rw [nbV_succ, if_neg c76]) (by rw [nbM_succ]) (ih2 (jj + 1) (by omega) (by omega))
        · have c51 := Decidable.of_not_not c51
          refine r_goto (pc := 54) (tgt := 110) dX12_winnow_54 rfl ?_
          refine r_iincN (pc := 110) (i := 2) (c := ((e + 1 : Nat) : Int)) (lv' := [_, _, _, _, _]) dX12_winnow_110 rfl (by decide) (by unfold w32; omega) rfl ?_
          refine r_goto (pc := 113) (tgt := 29) dX12_winnow_113 rfl ?_
          exact Ev.re (by rw [wnC_succ, if_pos c51]; rfl) (by rw [wnS_succ]; unfold wnT; rw [if_pos c51]) (ih (e + 1) (by omega) (by omega))
    · have c16 := Decidable.of_not_not c16
      have hno := ht
      refine r_iconst (pc := 19) dX12_winnow_19 (in32_of rfl) ?_
      exact r_iret (pc := 20) dX12_winnow_20 trivial (hq0 (fun h => by unfold okWn at h; omega))
end M20

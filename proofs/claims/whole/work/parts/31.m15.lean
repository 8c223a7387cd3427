section M15
variable {G : Gl} {d : Nat} {T : Sh} {I : Mi} {N : Nat → Int} {Q : Option AV → Sh → Mi → Prop}
theorem un_un (f : Nat → Int) (k : Nat) (x y : Int) : un (un f k x) k y = un f k y := by
  funext j
  unfold un
  split <;> rfl
theorem c_keepsAct {u : Nat} {P W A H : Nat → Int} (hT : ShM T) (hd : 2 ≤ d) (hR : Rng N) (hw : wOk W) (hu : H 16 = (u : Int)) (hu2 : u ≤ 12) (hq : Q none T (sr (sr (sr (sr (sr I 286 P) 285 (kaW W N u)) 284 A) 274 (un H 16 ((kaU u : Nat) : Int))) 283 N)) : EvE G mX12_keepsAct d [aR 274] T (sr (sr (sr (sr (sr I 286 P) 285 W) 284 A) 274 H) 283 N) Q := by
  have ht3 := ok_3.mp (hR 3)
  have ht4 := tN_rd hR
  refine EvE.mk (lv0 := [some (aR 274), none]) (Nat.le_of_ble_eq_true rfl) (by decide +kernel) rfl ?_
  refine r_aload_n (pc := 0) (i := 0) dX12_keepsAct_0 rfl rfl ?_
  refine r_getfi (pc := 1) cks dX12_keepsAct_1 fl_X12_118 rfl (kM274 hT) (ltM hT (by omega)) ?_
  refine r_top (b := H 16) ((congrFun (sr_ne (by decide)) _).trans (sr_at _ _ _ _)) ?_
  refine r_top (b := ((u : Nat) : Int)) (hu) ?_
  refine r_bipush (pc := 4) dX12_keepsAct_4 rfl (in32_of rfl) ?_
  refine r_icmp_ne (pc := 6) (tgt := 56) dX12_keepsAct_6 rfl (fun c6 => ?_) (fun c6 => ?_)
  · refine r_aload_n (pc := 56) (i := 0) dX12_keepsAct_56 rfl rfl ?_
    refine r_getfr (pc := 57) (b := 283) cks dX12_keepsAct_57 fl_X12_37 rfl (kM274 hT) (ltM hT (by omega)) (rM11 hT) ?_
    refine r_iconst (pc := 60) dX12_keepsAct_60 (in32_of rfl) ?_
    refine r_aload_n (pc := 61) (i := 0) dX12_keepsAct_61 rfl rfl ?_
    refine r_getfr (pc := 62) (b := 285) cks dX12_keepsAct_62 fl_X12_44 rfl (kM274 hT) (ltM hT (by omega)) (rM13 hT) ?_
    refine r_sipush (pc := 65) dX12_keepsAct_65 rfl (in32_of rfl) ?_
    refine r_aload_n (pc := 68) (i := 0) dX12_keepsAct_68 rfl rfl ?_
    refine r_getfi (pc := 69) cks dX12_keepsAct_69 fl_X12_118 rfl (kM274 hT) (ltM hT (by omega)) ?_
    refine r_top (b := H 16) ((congrFun (sr_ne (by decide)) _).trans (sr_at _ _ _ _)) ?_
    refine r_top (b := ((u : Nat) : Int)) (hu) ?_
    refine r_imulN (pc := 72) (c := ((17510 * u : Nat) : Int)) dX12_keepsAct_72 (by unfold w32; omega) ?_
    refine r_callS0 (pc := 73) (d - 1) [aR 283, aI 0, aR 285, aI ((17510 * u : Nat) : Int)] dX12_keepsAct_73 (CS.mk2 mk_X12_copies lk_X12_123) rfl rfl (by omega) (Nat.le_of_ble_eq_true rfl) (Nat.le_of_ble_eq_true rfl) (c_copies (x := 283) (y := 285) (a := 0) (b := 17510 * u) (t := tN N) (lx := 17510) (ly := 210120) (kM283 hT) (ltM hT (by omega)) (lM283 hT) (kM285 hT) (ltM hT (by omega)) (lM285 hT) (Or.inl (by decide)) ((congrFun FM_r283 _).trans (tN_rd hR)) (by omega) (by omega) (by omega) (by omega) ?_)
    refine ⟨rfl, fun _ => ?_⟩
    refine r_mem (I2 := sr (sr (sr (sr (sr I 286 P) 285 (cpyR N 0 W (17510 * u) (tN N + 3902))) 284 A) 274 H) 283 N) FM_c283_285 ?_
    refine r_aload_n (pc := 76) (i := 0) dX12_keepsAct_76 rfl rfl ?_
    refine r_dup (pc := 77) dX12_keepsAct_77 rfl ?_
    refine r_getfi (pc := 78) cks dX12_keepsAct_78 fl_X12_118 rfl (kM274 hT) (ltM hT (by omega)) ?_
    refine r_top (b := H 16) ((congrFun (sr_ne (by decide)) _).trans (sr_at _ _ _ _)) ?_
    refine r_top (b := ((u : Nat) : Int)) (hu) ?_
    refine r_iconst (pc := 81) dX12_keepsAct_81 (in32_of rfl) ?_
    refine r_iaddN (pc := 82) (c := ((u + 1 : Nat) : Int)) dX12_keepsAct_82 (by unfold w32; omega) ?_
    refine r_putfi (pc := 83) cks dX12_keepsAct_83 fl_X12_118 (pf_12_16 _ _) rfl (kM274 hT) (ltM hT (by omega)) ?_
    refine r_mem (I2 := sr (sr (sr (sr (sr I 286 P) 285 (cpyR N 0 W (17510 * u) (tN N + 3902))) 284 A) 274 (un H 16 ((u + 1 : Nat) : Int))) 283 N) (by rw [up2_sr_ne (by decide), up2_sr]) ?_
    exact r_vret (pc := 86) dX12_keepsAct_86 trivial (by unfold kaW kaU at hq; rw [if_neg (by omega), if_neg (by omega)] at hq; exact hq)
  · have c6 := Decidable.of_not_not c6
    refine r_iconst (pc := 9) dX12_keepsAct_9 (in32_of rfl) ?_
    refine r_istore_n (pc := 10) (i := 1) (lv' := [_, _]) dX12_keepsAct_10 rfl (by decide) rfl ?_
    refine loop1 (fun (c : Nat) => c ≤ 11) (fun (c : Nat) => 11 - c) (fun (c : Nat) => [some (aR 274), some (aI ((c + 1 : Nat) : Int))]) (fun _ => T) (fun (c : Nat) => sr (sr (sr (sr (sr I 286 P) 285 (shW W c)) 284 A) 274 H) 283 N) ?_ 0 (Nat.zero_le _)
    intro c hP ih
    have hP : c ≤ 11 := hP
    have hwc := fun h => shW_ok hw c hP (c + 1) h
    refine (?_ : Ev G mX12_keepsAct d 11 [some (aR 274), some (aI ((c + 1 : Nat) : Int))] [] T (sr (sr (sr (sr (sr I 286 P) 285 (shW W c)) 284 A) 274 H) 283 N) Q)
    refine r_iload_n (pc := 11) (i := 1) dX12_keepsAct_11 rfl rfl ?_
    refine r_bipush (pc := 12) dX12_keepsAct_12 rfl (in32_of rfl) ?_
    refine r_icmp_ge (pc := 14) (tgt := 46) dX12_keepsAct_14 rfl (fun c14 => ?_) (fun c14 => ?_)
    · have hc : c = 11 := by omega
      subst hc
      refine r_aload_n (pc := 46) (i := 0) dX12_keepsAct_46 rfl rfl ?_
      refine r_dup (pc := 47) dX12_keepsAct_47 rfl ?_
      refine r_getfi (pc := 48) cks dX12_keepsAct_48 fl_X12_118 rfl (kM274 hT) (ltM hT (by omega)) ?_
      refine r_top (b := H 16) ((congrFun (sr_ne (by decide)) _).trans (sr_at _ _ _ _)) ?_
      refine r_top (b := ((u : Nat) : Int)) (hu) ?_
      refine r_iconst (pc := 51) dX12_keepsAct_51 (in32_of rfl) ?_
      refine r_isubN (pc := 52) (c := 11) dX12_keepsAct_52 (by unfold w32; omega) ?_
      refine r_putfi (pc := 53) cks dX12_keepsAct_53 fl_X12_118 (pf_12_16 _ _) rfl (kM274 hT) (ltM hT (by omega)) ?_
      refine r_mem (I2 := sr (sr (sr (sr (sr I 286 P) 285 (shW W 11)) 284 A) 274 (un H 16 11)) 283 N) (by rw [up2_sr_ne (by decide), up2_sr]) ?_
      refine r_aload_n (pc := 56) (i := 0) dX12_keepsAct_56 rfl rfl ?_
      refine r_getfr (pc := 57) (b := 283) cks dX12_keepsAct_57 fl_X12_37 rfl (kM274 hT) (ltM hT (by omega)) (rM11 hT) ?_
      refine r_iconst (pc := 60) dX12_keepsAct_60 (in32_of rfl) ?_
      refine r_aload_n (pc := 61) (i := 0) dX12_keepsAct_61 rfl rfl ?_
      refine r_getfr (pc := 62) (b := 285) cks dX12_keepsAct_62 fl_X12_44 rfl (kM274 hT) (ltM hT (by omega)) (rM13 hT) ?_
      refine r_sipush (pc := 65) dX12_keepsAct_65 rfl (in32_of rfl) ?_
      refine r_aload_n (pc := 68) (i := 0) dX12_keepsAct_68 rfl rfl ?_
      refine r_getfi (pc := 69) cks dX12_keepsAct_69 fl_X12_118 rfl (kM274 hT) (ltM hT (by omega)) ?_
      refine r_top (b := (un H 16 11) 16) ((congrFun (sr_ne (by decide)) _).trans (sr_at _ _ _ _)) ?_
      refine r_top (b := 11) (un_at) ?_
      refine r_imulN (pc := 72) (c := 192610) dX12_keepsAct_72 (by unfold w32; omega) ?_
      refine r_callS0 (pc := 73) (d - 1) [aR 283, aI 0, aR 285, aI 192610] dX12_keepsAct_73 (CS.mk2 mk_X12_copies lk_X12_123) rfl rfl (by omega) (Nat.le_of_ble_eq_true rfl) (Nat.le_of_ble_eq_true rfl) (c_copies (x := 283) (y := 285) (a := 0) (b := 192610) (t := tN N) (lx := 17510) (ly := 210120) (kM283 hT) (ltM hT (by omega)) (lM283 hT) (kM285 hT) (ltM hT (by omega)) (lM285 hT) (Or.inl (by decide)) ((congrFun FM_r283 _).trans (tN_rd hR)) (by omega) (by omega) (by omega) (by omega) ?_)
      refine ⟨rfl, fun _ => ?_⟩
      refine r_mem (I2 := sr (sr (sr (sr (sr I 286 P) 285 (cpyR N 0 (shW W 11) 192610 (tN N + 3902))) 284 A) 274 (un H 16 11)) 283 N) FM_c283_285 ?_
      refine r_aload_n (pc := 76) (i := 0) dX12_keepsAct_76 rfl rfl ?_
      refine r_dup (pc := 77) dX12_keepsAct_77 rfl ?_
      refine r_getfi (pc := 78) cks dX12_keepsAct_78 fl_X12_118 rfl (kM274 hT) (ltM hT (by omega)) ?_
      refine r_top (b := (un H 16 11) 16) ((congrFun (sr_ne (by decide)) _).trans (sr_at _ _ _ _)) ?_
      refine r_top (b := 11) (un_at) ?_
      refine r_iconst (pc := 81) dX12_keepsAct_81 (in32_of rfl) ?_
      refine r_iaddN (pc := 82) (c := 12) dX12_keepsAct_82 (by unfold w32; omega) ?_
      refine r_putfi (pc := 83) cks dX12_keepsAct_83 fl_X12_118 (pf_12_16 _ _) rfl (kM274 hT) (ltM hT (by omega)) ?_
      refine r_mem (I2 := sr (sr (sr (sr (sr I 286 P) 285 (cpyR N 0 (shW W 11) 192610 (tN N + 3902))) 284 A) 274 (un (un H 16 11) 16 12)) 283 N) (by rw [up2_sr_ne (by decide), up2_sr]) ?_
      rw [un_un]
      exact r_vret (pc := 86) dX12_keepsAct_86 trivial (by unfold kaW kaU at hq; rw [if_pos (by omega), if_pos (by omega)] at hq; exact hq)
    · have hwd := hwc (by omega)
      refine r_aload_n (pc := 17) (i := 0) dX12_keepsAct_17 rfl rfl ?_
      refine r_getfr (pc := 18) (b := 285) cks dX12_keepsAct_18 fl_X12_44 rfl (kM274 hT) (ltM hT (by omega)) (rM13 hT) ?_
      refine r_sipush (pc := 21) dX12_keepsAct_21 rfl (in32_of rfl) ?_
      refine r_iload_n (pc := 24) (i := 1) dX12_keepsAct_24 rfl rfl ?_
      refine r_imulN (pc := 25) (c := ((17510 * c + 17510 : Nat) : Int)) dX12_keepsAct_25 (by unfold w32; omega) ?_
      refine r_aload_n (pc := 26) (i := 0) dX12_keepsAct_26 rfl rfl ?_
      refine r_getfr (pc := 27) (b := 285) cks dX12_keepsAct_27 fl_X12_44 rfl (kM274 hT) (ltM hT (by omega)) (rM13 hT) ?_
      refine r_sipush (pc := 30) dX12_keepsAct_30 rfl (in32_of rfl) ?_
      refine r_iload_n (pc := 33) (i := 1) dX12_keepsAct_33 rfl rfl ?_
      refine r_iconst (pc := 34) dX12_keepsAct_34 (in32_of rfl) ?_
      refine r_isubN (pc := 35) (c := ((c : Nat) : Int)) dX12_keepsAct_35 (by unfold w32; omega) ?_
      refine r_imulN (pc := 36) (c := ((17510 * c : Nat) : Int)) dX12_keepsAct_36 (by unfold w32; omega) ?_
      refine r_callS0 (pc := 37) (d - 1) [aR 285, aI ((17510 * c + 17510 : Nat) : Int), aR 285, aI ((17510 * c : Nat) : Int)] dX12_keepsAct_37 (CS.mk2 mk_X12_copies lk_X12_123) rfl rfl (by omega) (Nat.le_of_ble_eq_true rfl) (Nat.le_of_ble_eq_true rfl) (c_copies (x := 285) (y := 285) (a := 17510 * c + 17510) (b := 17510 * c) (t := ((shW W c) (17510 * (c + 1) + 3)).toNat) (lx := 210120) (ly := 210120) (kM285 hT) (ltM hT (by omega)) (lM285 hT) (kM285 hT) (ltM hT (by omega)) (lM285 hT) (Or.inr (by omega)) ((congrFun FM_r285 _).trans (by rw [show 17510 * c + 17510 + 3 = 17510 * (c + 1) + 3 by omega]; omega)) (by omega) (by omega) (by omega) (by omega) ?_)
      refine ⟨rfl, fun _ => ?_⟩
      refine r_mem (I2 := sr (sr (sr (sr (sr I 286 P) 285 (cpyR (shW W c) (17510 * c + 17510) (shW W c) (17510 * c) (((shW W c) (17510 * (c + 1) + 3)).toNat + 3902))) 284 A) 274 H) 283 N) FM_c285_285 ?_
      refine r_iincN (pc := 40) (i := 1) (c := ((c + 2 : Nat) : Int)) (lv' := [_, _]) dX12_keepsAct_40 rfl (by decide) (by unfold w32; omega) rfl ?_
      refine r_goto (pc := 43) (tgt := 11) dX12_keepsAct_43 rfl ?_
      exact Ev.re rfl (by rw [shW_succ, show 17510 * (c + 1) = 17510 * c + 17510 by omega]) (ih (c + 1) (by omega) (by omega))
theorem c_keepsAside {P W A H : Nat → Int} (hT : ShM T) (hd : 1 ≤ d) (hR : Rng N) (hq : Q none T (sr (sr (sr (sr (sr I 286 P) 285 W) 284 (cpyR N 0 A 0 (tN N + 3902))) 274 H) 283 N)) : EvE G mX12_keepsAside d [aR 274] T (sr (sr (sr (sr (sr I 286 P) 285 W) 284 A) 274 H) 283 N) Q := by
  have ht3 := ok_3.mp (hR 3)
  have ht4 := tN_rd hR
  refine EvE.mk (lv0 := [some (aR 274)]) (Nat.le_of_ble_eq_true rfl) (by decide +kernel) rfl ?_
  refine r_aload_n (pc := 0) (i := 0) dX12_keepsAside_0 rfl rfl ?_
  refine r_getfr (pc := 1) (b := 283) cks dX12_keepsAside_1 fl_X12_37 rfl (kM274 hT) (ltM hT (by omega)) (rM11 hT) ?_
  refine r_iconst (pc := 4) dX12_keepsAside_4 (in32_of rfl) ?_
  refine r_aload_n (pc := 5) (i := 0) dX12_keepsAside_5 rfl rfl ?_
  refine r_getfr (pc := 6) (b := 284) cks dX12_keepsAside_6 fl_X12_40 rfl (kM274 hT) (ltM hT (by omega)) (rM12 hT) ?_
  refine r_iconst (pc := 9) dX12_keepsAside_9 (in32_of rfl) ?_
  refine r_callS0 (pc := 10) (d - 1) [aR 283, aI 0, aR 284, aI 0] dX12_keepsAside_10 (CS.mk2 mk_X12_copies lk_X12_123) rfl rfl (by omega) (Nat.le_of_ble_eq_true rfl) (Nat.le_of_ble_eq_true rfl) (c_copies (x := 283) (y := 284) (a := 0) (b := 0) (t := tN N) (lx := 17510) (ly := 17510) (kM283 hT) (ltM hT (by omega)) (lM283 hT) (kM284 hT) (ltM hT (by omega)) (lM284 hT) (Or.inl (by decide)) ((congrFun FM_r283 _).trans (tN_rd hR)) (by omega) (by omega) (by omega) (by omega) ?_)
  refine ⟨rfl, fun _ => ?_⟩
  refine r_mem (I2 := sr (sr (sr (sr (sr I 286 P) 285 W) 284 (cpyR N 0 A 0 (tN N + 3902))) 274 H) 283 N) FM_c283_284 ?_
  exact r_vret (pc := 13) dX12_keepsAside_13 trivial hq
theorem c_laysBack {P W A H : Nat → Int} (hT : ShM T) (hd : 1 ≤ d) (hR : Rng A) (hq : Q none T (sr (sr (sr (sr (sr I 286 P) 285 W) 284 A) 274 H) 283 (cpyR A 0 N 0 (tN A + 3902)))) : EvE G mX12_laysBack d [aR 274] T (sr (sr (sr (sr (sr I 286 P) 285 W) 284 A) 274 H) 283 N) Q := by
  have ht3 := ok_3.mp (hR 3)
  have ht4 := tN_rd hR
  refine EvE.mk (lv0 := [some (aR 274)]) (Nat.le_of_ble_eq_true rfl) (by decide +kernel) rfl ?_
  refine r_aload_n (pc := 0) (i := 0) dX12_laysBack_0 rfl rfl ?_
  refine r_getfr (pc := 1) (b := 284) cks dX12_laysBack_1 fl_X12_40 rfl (kM274 hT) (ltM hT (by omega)) (rM12 hT) ?_
  refine r_iconst (pc := 4) dX12_laysBack_4 (in32_of rfl) ?_
  refine r_aload_n (pc := 5) (i := 0) dX12_laysBack_5 rfl rfl ?_
  refine r_getfr (pc := 6) (b := 283) cks dX12_laysBack_6 fl_X12_37 rfl (kM274 hT) (ltM hT (by omega)) (rM11 hT) ?_
  refine r_iconst (pc := 9) dX12_laysBack_9 (in32_of rfl) ?_
  refine r_callS0 (pc := 10) (d - 1) [aR 284, aI 0, aR 283, aI 0] dX12_laysBack_10 (CS.mk2 mk_X12_copies lk_X12_123) rfl rfl (by omega) (Nat.le_of_ble_eq_true rfl) (Nat.le_of_ble_eq_true rfl) (c_copies (x := 284) (y := 283) (a := 0) (b := 0) (t := tN A) (lx := 17510) (ly := 17510) (kM284 hT) (ltM hT (by omega)) (lM284 hT) (kM283 hT) (ltM hT (by omega)) (lM283 hT) (Or.inl (by decide)) ((congrFun FM_r284 _).trans (tN_rd hR)) (by omega) (by omega) (by omega) (by omega) ?_)
  refine ⟨rfl, fun _ => ?_⟩
  refine r_mem (I2 := sr (sr (sr (sr (sr I 286 P) 285 W) 284 A) 274 H) 283 (cpyR A 0 N 0 (tN A + 3902))) FM_c284_283 ?_
  exact r_vret (pc := 13) dX12_laysBack_13 trivial hq
theorem c_undo {u : Nat} {P W A H : Nat → Int} (hT : ShM T) (hd : 1 ≤ d) (hw : wOk W) (hu : H 16 = (u : Int)) (hu2 : u ≤ 12) (hq0 : u = 0 → Q (some (aI (-1))) T (sr (sr (sr (sr (sr I 286 P) 285 W) 284 A) 274 H) 283 N)) (hq1 : ∀ e, u = e + 1 → Q (some (aI (e : Int))) T (sr (sr (sr (sr (sr I 286 P) 285 W) 284 A) 274 (un H 16 (e : Int))) 283 (cpyR W (17510 * e) N 0 ((W (17510 * e + 3)).toNat + 3902)))) : EvE G mX12_undo d [aR 274] T (sr (sr (sr (sr (sr I 286 P) 285 W) 284 A) 274 H) 283 N) Q := by
  refine EvE.mk (lv0 := [some (aR 274)]) (Nat.le_of_ble_eq_true rfl) (by decide +kernel) rfl ?_
  refine r_aload_n (pc := 0) (i := 0) dX12_undo_0 rfl rfl ?_
  refine r_getfi (pc := 1) cks dX12_undo_1 fl_X12_118 rfl (kM274 hT) (ltM hT (by omega)) ?_
  refine r_top (b := H 16) ((congrFun (sr_ne (by decide)) _).trans (sr_at _ _ _ _)) ?_
  refine r_top (b := ((u : Nat) : Int)) (hu) ?_
  refine r_if_ne (pc := 4) (tgt := 9) dX12_undo_4 rfl (fun c4 => ?_) (fun c4 => ?_)
  · obtain ⟨e, rfl⟩ : ∃ e, u = e + 1 := ⟨u - 1, by omega⟩
    have hwe := hw e (by omega)
    refine r_aload_n (pc := 9) (i := 0) dX12_undo_9 rfl rfl ?_
    refine r_dup (pc := 10) dX12_undo_10 rfl ?_
    refine r_getfi (pc := 11) cks dX12_undo_11 fl_X12_118 rfl (kM274 hT) (ltM hT (by omega)) ?_
    refine r_top (b := H 16) ((congrFun (sr_ne (by decide)) _).trans (sr_at _ _ _ _)) ?_
    refine r_top (b := ((e + 1 : Nat) : Int)) (hu) ?_
    refine r_iconst (pc := 14) dX12_undo_14 (in32_of rfl) ?_
    refine r_isubN (pc := 15) (c := ((e : Nat) : Int)) dX12_undo_15 (by unfold w32; omega) ?_
    refine r_putfi (pc := 16) cks dX12_undo_16 fl_X12_118 (pf_12_16 _ _) rfl (kM274 hT) (ltM hT (by omega)) ?_
    refine r_mem (I2 := sr (sr (sr (sr (sr I 286 P) 285 W) 284 A) 274 (un H 16 ((e : Nat) : Int))) 283 N) (by rw [up2_sr_ne (by decide), up2_sr]) ?_
    refine r_aload_n (pc := 19) (i := 0) dX12_undo_19 rfl rfl ?_
    refine r_getfr (pc := 20) (b := 285) cks dX12_undo_20 fl_X12_44 rfl (kM274 hT) (ltM hT (by omega)) (rM13 hT) ?_
    refine r_sipush (pc := 23) dX12_undo_23 rfl (in32_of rfl) ?_
    refine r_aload_n (pc := 26) (i := 0) dX12_undo_26 rfl rfl ?_
    refine r_getfi (pc := 27) cks dX12_undo_27 fl_X12_118 rfl (kM274 hT) (ltM hT (by omega)) ?_
    refine r_top (b := (un H 16 ((e : Nat) : Int)) 16) ((congrFun (sr_ne (by decide)) _).trans (sr_at _ _ _ _)) ?_
    refine r_top (b := ((e : Nat) : Int)) (un_at) ?_
    refine r_imulN (pc := 30) (c := ((17510 * e : Nat) : Int)) dX12_undo_30 (by unfold w32; omega) ?_
    refine r_aload_n (pc := 31) (i := 0) dX12_undo_31 rfl rfl ?_
    refine r_getfr (pc := 32) (b := 283) cks dX12_undo_32 fl_X12_37 rfl (kM274 hT) (ltM hT (by omega)) (rM11 hT) ?_
    refine r_iconst (pc := 35) dX12_undo_35 (in32_of rfl) ?_
    refine r_callS0 (pc := 36) (d - 1) [aR 285, aI ((17510 * e : Nat) : Int), aR 283, aI 0] dX12_undo_36 (CS.mk2 mk_X12_copies lk_X12_123) rfl rfl (by omega) (Nat.le_of_ble_eq_true rfl) (Nat.le_of_ble_eq_true rfl) (c_copies (x := 285) (y := 283) (a := 17510 * e) (b := 0) (t := (W (17510 * e + 3)).toNat) (lx := 210120) (ly := 17510) (kM285 hT) (ltM hT (by omega)) (lM285 hT) (kM283 hT) (ltM hT (by omega)) (lM283 hT) (Or.inl (by decide)) ((congrFun FM_r285 _).trans (by omega)) (by omega) (by omega) (by omega) (by omega) ?_)
    refine ⟨rfl, fun _ => ?_⟩
    refine r_mem (I2 := sr (sr (sr (sr (sr I 286 P) 285 W) 284 A) 274 (un H 16 ((e : Nat) : Int))) 283 (cpyR W (17510 * e) N 0 ((W (17510 * e + 3)).toNat + 3902))) FM_c285_283 ?_
    refine r_aload_n (pc := 39) (i := 0) dX12_undo_39 rfl rfl ?_
    refine r_getfi (pc := 40) cks dX12_undo_40 fl_X12_118 rfl (kM274 hT) (ltM hT (by omega)) ?_
    refine r_top (b := (un H 16 ((e : Nat) : Int)) 16) ((congrFun (sr_ne (by decide)) _).trans (sr_at _ _ _ _)) ?_
    refine r_top (b := ((e : Nat) : Int)) (un_at) ?_
    exact r_iret (pc := 43) dX12_undo_43 trivial (hq1 e rfl)
  · have c4 := Decidable.of_not_not c4
    refine r_iconst (pc := 7) dX12_undo_7 (in32_of rfl) ?_
    exact r_iret (pc := 8) dX12_undo_8 trivial (hq0 (by omega))
def pOk (P : Nat → Int) : Prop := ∀ k, k < 2 → 0 ≤ P (17510 * k + 3) ∧ P (17510 * k + 3) ≤ 13608
theorem c_image {k : Int} {Y : Nat → Int} {P W A H : Nat → Int} (hT : ShM T) (hd : 1 ≤ d) (hR : Rng N) (hq0 : ¬ (0 ≤ k ∧ k ≤ 1) → Q (some (aI (-1))) T (sr (sr (sr (sr (sr (sr I 287 Y) 286 P) 285 W) 284 A) 274 H) 283 N)) (hq1 : ∀ e : Nat, k = (e : Int) → e ≤ 1 → Q (some (aI (N 0))) T (sr (sr (sr (sr (sr (sr I 287 (un Y e (ibw true 1))) 286 (cpyR N 0 P (17510 * e) (tN N + 3902))) 285 W) 284 A) 274 H) 283 N)) : EvE G mX12_image d [aR 274, aI k] T (sr (sr (sr (sr (sr (sr I 287 Y) 286 P) 285 W) 284 A) 274 H) 283 N) Q := by
  have ht3 := ok_3.mp (hR 3)
  have ht4 := tN_rd hR
  refine EvE.mk (lv0 := [some (aR 274), some (aI k)]) (Nat.le_of_ble_eq_true rfl) (by decide +kernel) rfl ?_
  refine r_iload_n (pc := 0) (i := 1) dX12_image_0 rfl rfl ?_
  refine r_i2l (pc := 1) dX12_image_1 ?_
  refine r_lconst (pc := 2) (z := 0) dX12_image_2 rfl (in64_of rfl) ?_
  refine r_lconst (pc := 3) (z := 1) dX12_image_3 rfl (in64_of rfl) ?_
  refine r_callS1 (pc := 4) (d - 1) [aL k, aL 0, aL 1] dX12_image_4 (CS.mk2 mk_X12_isIn1 lk_X12_76) rfl rfl (by omega) (Nat.le_of_ble_eq_true rfl) (Nat.le_of_ble_eq_true rfl) (c_isIn1 ?_)
  refine ⟨_, rfl, fun _ => ?_⟩
  refine r_if_ne (pc := 7) (tgt := 12) dX12_image_7 rfl (fun c7 => ?_) (fun c7 => ?_)
  · have c7 := bi_1 c7
    obtain ⟨e, rfl⟩ : ∃ e : Nat, k = (e : Int) := ⟨k.toNat, by omega⟩
    refine r_aload_n (pc := 12) (i := 0) dX12_image_12 rfl rfl ?_
    refine r_getfr (pc := 13) (b := 283) cks dX12_image_13 fl_X12_37 rfl (kM274 hT) (ltM hT (by omega)) (rM11 hT) ?_
    refine r_iconst (pc := 16) dX12_image_16 (in32_of rfl) ?_
    refine r_aload_n (pc := 17) (i := 0) dX12_image_17 rfl rfl ?_
    refine r_getfr (pc := 18) (b := 286) cks dX12_image_18 fl_X12_48 rfl (kM274 hT) (ltM hT (by omega)) (rM14 hT) ?_
    refine r_sipush (pc := 21) dX12_image_21 rfl (in32_of rfl) ?_
    refine r_iload_n (pc := 24) (i := 1) dX12_image_24 rfl rfl ?_
    refine r_imulN (pc := 25) (c := ((17510 * e : Nat) : Int)) dX12_image_25 (by unfold w32; omega) ?_
    refine r_callS0 (pc := 26) (d - 1) [aR 283, aI 0, aR 286, aI ((17510 * e : Nat) : Int)] dX12_image_26 (CS.mk2 mk_X12_copies lk_X12_123) rfl rfl (by omega) (Nat.le_of_ble_eq_true rfl) (Nat.le_of_ble_eq_true rfl) (c_copies (x := 283) (y := 286) (a := 0) (b := 17510 * e) (t := tN N) (lx := 17510) (ly := 35020) (kM283 hT) (ltM hT (by omega)) (lM283 hT) (kM286 hT) (ltM hT (by omega)) (lM286 hT) (Or.inl (by decide)) ((congrFun FM_r283 _).trans (tN_rd hR)) (by omega) (by omega) (by omega) (by omega) ?_)
    refine ⟨rfl, fun _ => ?_⟩
    refine r_mem (I2 := sr (sr (sr (sr (sr (sr I 287 Y) 286 (cpyR N 0 P (17510 * e) (tN N + 3902))) 285 W) 284 A) 274 H) 283 N) FM_c283_286 ?_
    refine r_aload_n (pc := 29) (i := 0) dX12_image_29 rfl rfl ?_
    refine r_getfr (pc := 30) (b := 287) cks dX12_image_30 fl_X12_51 rfl (kM274 hT) (ltM hT (by omega)) (rM15 hT) ?_
    refine r_iload_n (pc := 33) (i := 1) dX12_image_33 rfl rfl ?_
    refine r_iconst (pc := 34) dX12_image_34 (in32_of rfl) ?_
    refine r_bst (pc := 35) (e) true dX12_image_35 (kM287 hT) (ltM hT (by omega)) rfl (by rw [lM287 hT]; omega) ?_
    refine r_mem (I2 := sr (sr (sr (sr (sr (sr I 287 (un Y e (ibw  true 1))) 286 (cpyR N 0 P (17510 * e) (tN N + 3902))) 285 W) 284 A) 274 H) 283 N) (by rw [up2_sr_ne (by decide), up2_sr_ne (by decide), up2_sr_ne (by decide), up2_sr_ne (by decide), up2_sr_ne (by decide), up2_sr]) ?_
    refine r_aload_n (pc := 36) (i := 0) dX12_image_36 rfl rfl ?_
    refine r_getfr (pc := 37) (b := 283) cks dX12_image_37 fl_X12_37 rfl (kM274 hT) (ltM hT (by omega)) (rM11 hT) ?_
    refine r_iconst (pc := 40) dX12_image_40 (in32_of rfl) ?_
    refine r_ild (pc := 41) (0) dX12_image_41 (kM283 hT) (ltM hT (by omega)) (by omega) (by rw [lM283 hT]; omega) ?_
    refine r_top (b := N 0) (sr_at _ _ _ _) ?_
    exact r_iret (pc := 42) dX12_image_42 trivial (hq1 e rfl (by omega))
  · have c7 := bi_if.mp (Decidable.of_not_not c7)
    refine r_iconst (pc := 10) dX12_image_10 (in32_of rfl) ?_
    exact r_iret (pc := 11) dX12_image_11 trivial (hq0 (by omega))
theorem c_back {k : Int} {Y : Nat → Int} {P W A H : Nat → Int} (hT : ShM T) (hd : 1 ≤ d) (hp : pOk P) (hq0 : (∀ e : Nat, k = (e : Int) → e ≤ 1 → Y e = 0) → Q (some (aI (-1))) T (sr (sr (sr (sr (sr (sr I 287 Y) 286 P) 285 W) 284 A) 274 H) 283 N)) (hq1 : ∀ e : Nat, k = (e : Int) → e ≤ 1 → ¬ Y e = 0 → Q (some (aI (cpyR P (17510 * e) N 0 ((P (17510 * e + 3)).toNat + 3902) 0))) T (sr (sr (sr (sr (sr (sr I 287 Y) 286 P) 285 W) 284 A) 274 (un H 16 0)) 283 (cpyR P (17510 * e) N 0 ((P (17510 * e + 3)).toNat + 3902)))) : EvE G mX12_back d [aR 274, aI k] T (sr (sr (sr (sr (sr (sr I 287 Y) 286 P) 285 W) 284 A) 274 H) 283 N) Q := by
  refine EvE.mk (lv0 := [some (aR 274), some (aI k)]) (Nat.le_of_ble_eq_true rfl) (by decide +kernel) rfl ?_
  refine r_iload_n (pc := 0) (i := 1) dX12_back_0 rfl rfl ?_
  refine r_i2l (pc := 1) dX12_back_1 ?_
  refine r_lconst (pc := 2) (z := 0) dX12_back_2 rfl (in64_of rfl) ?_
  refine r_lconst (pc := 3) (z := 1) dX12_back_3 rfl (in64_of rfl) ?_
  refine r_callS1 (pc := 4) (d - 1) [aL k, aL 0, aL 1] dX12_back_4 (CS.mk2 mk_X12_isIn1 lk_X12_76) rfl rfl (by omega) (Nat.le_of_ble_eq_true rfl) (Nat.le_of_ble_eq_true rfl) (c_isIn1 ?_)
  refine ⟨_, rfl, fun _ => ?_⟩
  refine r_if_eq (pc := 7) (tgt := 19) dX12_back_7 rfl (fun c7 => ?_) (fun c7 => ?_)
  · have c7 := bi_if.mp c7
    refine r_iconst (pc := 19) dX12_back_19 (in32_of rfl) ?_
    exact r_iret (pc := 20) dX12_back_20 trivial (hq0 (fun e h1 h2 => by omega))
  · have c7 := bi_1 c7
    obtain ⟨e, rfl⟩ : ∃ e : Nat, k = (e : Int) := ⟨k.toNat, by omega⟩
    have hpe := hp e (by omega)
    refine r_aload_n (pc := 10) (i := 0) dX12_back_10 rfl rfl ?_
    refine r_getfr (pc := 11) (b := 287) cks dX12_back_11 fl_X12_51 rfl (kM274 hT) (ltM hT (by omega)) (rM15 hT) ?_
    refine r_iload_n (pc := 14) (i := 1) dX12_back_14 rfl rfl ?_
    refine r_bld (pc := 15) (e) dX12_back_15 (Or.inr (kM287 hT)) (ltM hT (by omega)) rfl (by rw [lM287 hT]; omega) ?_
    refine r_top (b := Y e) ((congrFun (sr_ne (by decide)) _).trans ((congrFun (sr_ne (by decide)) _).trans ((congrFun (sr_ne (by decide)) _).trans ((congrFun (sr_ne (by decide)) _).trans ((congrFun (sr_ne (by decide)) _).trans (sr_at _ _ _ _)))))) ?_
    refine r_if_ne (pc := 16) (tgt := 21) dX12_back_16 rfl (fun c16 => ?_) (fun c16 => ?_)
    · refine r_aload_n (pc := 21) (i := 0) dX12_back_21 rfl rfl ?_
      refine r_getfr (pc := 22) (b := 286) cks dX12_back_22 fl_X12_48 rfl (kM274 hT) (ltM hT (by omega)) (rM14 hT) ?_
      refine r_sipush (pc := 25) dX12_back_25 rfl (in32_of rfl) ?_
      refine r_iload_n (pc := 28) (i := 1) dX12_back_28 rfl rfl ?_
      refine r_imulN (pc := 29) (c := ((17510 * e : Nat) : Int)) dX12_back_29 (by unfold w32; omega) ?_
      refine r_aload_n (pc := 30) (i := 0) dX12_back_30 rfl rfl ?_
      refine r_getfr (pc := 31) (b := 283) cks dX12_back_31 fl_X12_37 rfl (kM274 hT) (ltM hT (by omega)) (rM11 hT) ?_
      refine r_iconst (pc := 34) dX12_back_34 (in32_of rfl) ?_
      refine r_callS0 (pc := 35) (d - 1) [aR 286, aI ((17510 * e : Nat) : Int), aR 283, aI 0] dX12_back_35 (CS.mk2 mk_X12_copies lk_X12_123) rfl rfl (by omega) (Nat.le_of_ble_eq_true rfl) (Nat.le_of_ble_eq_true rfl) (c_copies (x := 286) (y := 283) (a := 17510 * e) (b := 0) (t := (P (17510 * e + 3)).toNat) (lx := 35020) (ly := 17510) (kM286 hT) (ltM hT (by omega)) (lM286 hT) (kM283 hT) (ltM hT (by omega)) (lM283 hT) (Or.inl (by decide)) ((congrFun FM_r286 _).trans (by omega)) (by omega) (by omega) (by omega) (by omega) ?_)
      refine ⟨rfl, fun _ => ?_⟩
      refine r_mem (I2 := sr (sr (sr (sr (sr (sr I 287 Y) 286 P) 285 W) 284 A) 274 H) 283 (cpyR P (17510 * e) N 0 ((P (17510 * e + 3)).toNat + 3902))) FM_c286_283 ?_
      refine r_aload_n (pc := 38) (i := 0) dX12_back_38 rfl rfl ?_
      refine r_iconst (pc := 39) dX12_back_39 (in32_of rfl) ?_
      refine r_putfi (pc := 40) cks dX12_back_40 fl_X12_118 (pf_12_16 _ _) rfl (kM274 hT) (ltM hT (by omega)) ?_
      refine r_mem (I2 := sr (sr (sr (sr (sr (sr I 287 Y) 286 P) 285 W) 284 A) 274 (un H 16 0)) 283 (cpyR P (17510 * e) N 0 ((P (17510 * e + 3)).toNat + 3902))) (by rw [up2_sr_ne (by decide), up2_sr]) ?_
      refine r_aload_n (pc := 43) (i := 0) dX12_back_43 rfl rfl ?_
      refine r_getfr (pc := 44) (b := 283) cks dX12_back_44 fl_X12_37 rfl (kM274 hT) (ltM hT (by omega)) (rM11 hT) ?_
      refine r_iconst (pc := 47) dX12_back_47 (in32_of rfl) ?_
      refine r_ild (pc := 48) (0) dX12_back_48 (kM283 hT) (ltM hT (by omega)) (by omega) (by rw [lM283 hT]; omega) ?_
      refine r_top (b := (cpyR P (17510 * e) N 0 ((P (17510 * e + 3)).toNat + 3902)) 0) (sr_at _ _ _ _) ?_
      exact r_iret (pc := 49) dX12_back_49 trivial (hq1 e rfl (by omega) c16)
    · have c16 := Decidable.of_not_not c16
      refine r_iconst (pc := 19) dX12_back_19 (in32_of rfl) ?_
      exact r_iret (pc := 20) dX12_back_20 trivial (hq0 (fun e2 h1 h2 => by have he : e2 = e := (by omega); rw [he]; exact c16))
end M15

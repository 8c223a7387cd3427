section M21
variable {G : Gl} {d : Nat} {T : Sh} {I : Mi} {N : Nat → Int} {Q : Option AV → Sh → Mi → Prop}
theorem c_shorten {n : Nat} {u : Nat} {P W A H : Nat → Int} (hT : ShM T) (hd : 4 ≤ d) (hR : Rng N) (hw : wOk W) (hu : H 16 = (u : Int)) (hu2 : u ≤ 12) (hn : N 1 = (n : Int)) (hn2 : n ≤ 256) (hb : okSh N → 0 ≤ N 5) (hf0 : 0 ≤ I 280 8) (hf1 : I 280 8 ≤ 50) (hq0 : ¬ okSh N → Q (some (aI (-1))) T (sr (sr (sr (sr (sr I 286 P) 285 W) 284 A) 274 H) 283 N)) (hq1 : okSh N → lenS N n (tN N) (I 280 8) < 1 → Q (some (aI 0)) T (sr (sr (sr (sr (sr I 286 P) 285 (kaW W N u)) 284 A) 274 (un H 16 ((kaU u : Nat) : Int))) 283 (un N 0 6))) (hq2 : okSh N → ∀ L : Nat, lenS N n (tN N) (I 280 8) = (L : Int) → 1 ≤ L → Q (some (aI (L : Int))) T (sr (sr (sr (sr (sr I 286 P) 285 (kaW W N u)) 284 A) 274 (un H 16 ((kaU u : Nat) : Int))) 283 (shZ N n L))) : EvE G mX12_shorten d [aR 274] T (sr (sr (sr (sr (sr I 286 P) 285 W) 284 A) 274 H) 283 N) Q := by
  refine EvE.mk (lv0 := [some (aR 274)]) (Nat.le_of_ble_eq_true rfl) (by decide +kernel) rfl ?_
  refine r_aload_n (pc := 0) (i := 0) dX12_shorten_0 rfl rfl ?_
  refine r_getfr (pc := 1) (b := 283) cks dX12_shorten_1 fl_X12_37 rfl (kM274 hT) (ltM hT (by omega)) (rM11 hT) ?_
  refine r_iconst (pc := 4) dX12_shorten_4 (in32_of rfl) ?_
  refine r_ild (pc := 5) (0) dX12_shorten_5 (kM283 hT) (ltM hT (by omega)) (by omega) (by rw [lM283 hT]; omega) ?_
  refine r_top (b := N 0) (sr_at _ _ _ _) ?_
  refine r_iconst (pc := 6) dX12_shorten_6 (in32_of rfl) ?_
  refine r_icmp_eq (pc := 7) (tgt := 12) dX12_shorten_7 rfl (fun c7 => ?_) (fun c7 => ?_)
  · have hok : okSh N := c7
    have hb := hb hok
    refine r_aload_n (pc := 12) (i := 0) dX12_shorten_12 rfl rfl ?_
    refine r_callV0 (pc := 13) (d - 1) [] dX12_shorten_13 (CV.mk2 mk_X12_keepsAct lk_X12_149) (RC.of (ltM hT (by omega)) (kM274 hT) (by decide) rfl) rfl rfl (by omega) (Nat.le_of_ble_eq_true rfl) (Nat.le_of_ble_eq_true rfl) (c_keepsAct (u := u) (P := P) (W := W) (A := A) (H := H) (N := N) hT (by omega) hR hw hu hu2 ?_)
    refine ⟨rfl, fun _ => ?_⟩
    refine r_aload_n (pc := 16) (i := 0) dX12_shorten_16 rfl rfl ?_
    refine r_callV1 (pc := 17) (d - 1) [] dX12_shorten_17 (CV.mk2 mk_X12_shortens lk_X12_224) (RC.of (ltM hT (by omega)) (kM274 hT) (by decide) rfl) rfl rfl (by omega) (Nat.le_of_ble_eq_true rfl) (Nat.le_of_ble_eq_true rfl) (c_shortens (n := n) (I := (sr (sr (sr (sr I 286 P) 285 (kaW W N u)) 284 A) 274 (un H 16 ((kaU u : Nat) : Int)))) (N := N) hT (by omega) hn hn2 hR hb hf0 hf1 (fun hl => ?_) (fun L hL h1 => ?_))
    · exact ⟨_, rfl, fun _ => r_iret (pc := 20) dX12_shorten_20 trivial (hq1 hok hl)⟩
    · exact ⟨_, rfl, fun _ => r_iret (pc := 20) dX12_shorten_20 trivial (hq2 hok L hL h1)⟩
  · have hno := hb
    refine r_iconst (pc := 10) dX12_shorten_10 (in32_of rfl) ?_
    exact r_iret (pc := 11) dX12_shorten_11 trivial (hq0 (fun h => by unfold okSh at h; omega))
def setA (I : Mi) (k : Int) : Int := if 0 ≤ k ∧ k ≤ 8 then I 280 k.toNat else -1
theorem c_setting {k : Int} (hT : ShM T) (hd : 1 ≤ d) (hq : Q (some (aI (setA I k))) T I) : EvE G mX12_setting d [aR 274, aI k] T I Q := by
  refine EvE.mk (lv0 := [some (aR 274), some (aI k)]) (Nat.le_of_ble_eq_true rfl) (by decide +kernel) rfl ?_
  refine r_iload_n (pc := 0) (i := 1) dX12_setting_0 rfl rfl ?_
  refine r_i2l (pc := 1) dX12_setting_1 ?_
  refine r_lconst (pc := 2) (z := 0) dX12_setting_2 rfl (in64_of rfl) ?_
  refine r_ldc2 (pc := 3) (n := 8) dX12_setting_3 cn_X12_121 (in64_of rfl) ?_
  refine r_callS1 (pc := 6) (d - 1) [aL k, aL 0, aL 8] dX12_setting_6 (CS.mk2 mk_X12_isIn1 lk_X12_76) rfl rfl (by omega) (Nat.le_of_ble_eq_true rfl) (Nat.le_of_ble_eq_true rfl) (c_isIn1 ?_)
  refine ⟨_, rfl, fun _ => ?_⟩
  refine r_if_eq (pc := 9) (tgt := 21) dX12_setting_9 rfl (fun c9 => ?_) (fun c9 => ?_)
  · have c9 := bi_if.mp c9
    refine r_iconst (pc := 21) dX12_setting_21 (in32_of rfl) ?_
    exact r_iret (pc := 22) dX12_setting_22 trivial (by rw [show setA I k = (-1) by unfold setA; (repeat' split) <;> first | rfl | omega | (exfalso; omega)] at hq; exact hq)
  · have c9 := bi_1 c9
    refine r_aload_n (pc := 12) (i := 0) dX12_setting_12 rfl rfl ?_
    refine r_getfr (pc := 13) (b := 280) cks dX12_setting_13 fl_X12_27 rfl (kM274 hT) (ltM hT (by omega)) (rM6 hT) ?_
    refine r_iload_n (pc := 16) (i := 1) dX12_setting_16 rfl rfl ?_
    refine r_ild (pc := 17) (k.toNat) dX12_setting_17 (kM280 hT) (ltM hT (by omega)) (by omega) (by rw [lM280 hT]; omega) ?_
    refine r_goto (pc := 18) (tgt := 22) dX12_setting_18 rfl ?_
    exact r_iret (pc := 22) dX12_setting_22 trivial (by rw [show setA I k = (I 280 k.toNat) by unfold setA; (repeat' split) <;> first | rfl | omega | (exfalso; omega)] at hq; exact hq)
def okEn (I : Mi) (n : Int) : Prop := 0 ≤ n ∧ n ≤ I 274 1
theorem c_end {n : Int} (hT : ShM T) (hd : 1 ≤ d) (hq0 : ¬ okEn I n → Q (some (aI (-1))) T I) (hq1 : okEn I n → Q (some (aI n)) T (up2 I 274 1 n)) : EvE G mX12_end d [aR 274, aI n] T I Q := by
  refine EvE.mk (lv0 := [some (aR 274), some (aI n)]) (Nat.le_of_ble_eq_true rfl) (by decide +kernel) rfl ?_
  refine r_iload_n (pc := 0) (i := 1) dX12_end_0 rfl rfl ?_
  refine r_i2l (pc := 1) dX12_end_1 ?_
  refine r_lconst (pc := 2) (z := 0) dX12_end_2 rfl (in64_of rfl) ?_
  refine r_aload_n (pc := 3) (i := 0) dX12_end_3 rfl rfl ?_
  refine r_getfi (pc := 4) cks dX12_end_4 fl_X12_73 rfl (kM274 hT) (ltM hT (by omega)) ?_
  refine r_i2l (pc := 7) dX12_end_7 ?_
  refine r_callS1 (pc := 8) (d - 1) [aL n, aL 0, aL (I 274 1)] dX12_end_8 (CS.mk2 mk_X12_isIn1 lk_X12_76) rfl rfl (by omega) (Nat.le_of_ble_eq_true rfl) (Nat.le_of_ble_eq_true rfl) (c_isIn1 ?_)
  refine ⟨_, rfl, fun _ => ?_⟩
  refine r_if_ne (pc := 11) (tgt := 16) dX12_end_11 rfl (fun c11 => ?_) (fun c11 => ?_)
  · have c11 := bi_1 c11
    refine r_aload_n (pc := 16) (i := 0) dX12_end_16 rfl rfl ?_
    refine r_iload_n (pc := 17) (i := 1) dX12_end_17 rfl rfl ?_
    refine r_putfi (pc := 18) cks dX12_end_18 fl_X12_73 (pf_12_1 _ _) rfl (kM274 hT) (ltM hT (by omega)) ?_
    refine r_iload_n (pc := 21) (i := 1) dX12_end_21 rfl rfl ?_
    exact r_iret (pc := 22) dX12_end_22 trivial (hq1 (by unfold okEn; omega))
  · have c11 := bi_if.mp (Decidable.of_not_not c11)
    refine r_iconst (pc := 14) dX12_end_14 (in32_of rfl) ?_
    exact r_iret (pc := 15) dX12_end_15 trivial (hq0 (fun h => by unfold okEn at h; omega))
end M21

section C57
variable {G : Gl} {d : Nat} {T : Sh} {I : Mi} {N : Nat → Int} {Q : Option AV → Sh → Mi → Prop}
theorem shW_at {W : Nat → Int} (hw : wOk W) : ∀ c, c ≤ 11 → (∀ i, 17510 * c ≤ i → shW W c i = W i) ∧ ∀ j, j < c → agN (wRow W (j + 1)) (wRow (shW W c) j) := by
  intro c
  induction c with
  | zero => intro _; exact ⟨fun i _ => rfl, fun j hj => absurd hj (Nat.not_lt_zero j)⟩
  | succ c ih =>
    intro hc
    obtain ⟨h1, h2⟩ := ih (by omega)
    have hm : (shW W c (17510 * (c + 1) + 3)).toNat = tN (wRow W (c + 1)) := by rw [h1 _ (by omega)]; rfl
    have ht := hw (c + 1) (by omega)
    have ht2 : tN (wRow W (c + 1)) ≤ 13608 := by show (W (17510 * (c + 1) + 3)).toNat ≤ 13608; omega
    refine ⟨fun i hi => ?_, fun j hj k hk => ?_⟩
    · rw [shW_succ, cpyR_out (by rw [hm]; omega)]; exact h1 i (by omega)
    · have htj := hw (j + 1) (by omega)
      have hk2 : k < 17510 := by
        have : tN (wRow W (j + 1)) ≤ 13608 := by show (W (17510 * (j + 1) + 3)).toNat ≤ 13608; omega
        omega
      show shW W (c + 1) (17510 * j + k) = W (17510 * (j + 1) + k)
      by_cases g : j = c
      · subst g
        rw [shW_succ, cpyR_in (by rw [hm]; omega), show 17510 * (j + 1) + (17510 * j + k - 17510 * j) = 17510 * (j + 1) + k by omega]
        exact h1 _ (by omega)
      · rw [shW_succ, cpyR_out (by omega)]
        exact h2 j (by omega) k hk
theorem ring_keep {W N : Nat → Int} {u e j : Nat} (hw : wOk W) (hN : Rng N) (hu : u ≤ 12) (he : e < 12) (hj : j < kaU u) :
    (ringI ((e + 1) % 12) (kaU u) j = e + 1 ∧ agN N (wRow (kaW W N u) j)) ∨ ∃ j0, j0 < u ∧ ringI ((e + 1) % 12) (kaU u) j = ringI e u j0 ∧ ringI e u j0 ≠ e + 1 ∧ agN (wRow W j0) (wRow (kaW W N u) j) := by
  have htN : tN N ≤ 13608 := tN_b hN
  unfold kaU at hj ⊢
  unfold kaW
  by_cases g : u = 12
  · subst g
    rw [if_pos rfl] at hj ⊢
    rw [if_pos rfl]
    obtain ⟨s1, s2⟩ := shW_at hw 11 (Nat.le_refl _)
    by_cases h : j = 11
    · subst h
      left
      refine ⟨by unfold ringI; omega, fun k hk => ?_⟩
      show cpyR N 0 (shW W 11) (17510 * 11) (tN N + 3902) (17510 * 11 + k) = N k
      rw [cpyR_in (by omega), show 0 + (17510 * 11 + k - 17510 * 11) = k by omega]
    · right
      refine ⟨j + 1, by omega, by unfold ringI; omega, by unfold ringI; omega, fun k hk => ?_⟩
      have hk2 : k < 17510 := by
        have htj := hw (j + 1) (by omega)
        have : tN (wRow W (j + 1)) ≤ 13608 := by show (W (17510 * (j + 1) + 3)).toNat ≤ 13608; omega
        omega
      show cpyR N 0 (shW W 11) (17510 * 11) (tN N + 3902) (17510 * j + k) = _
      rw [cpyR_out (by omega)]
      exact s2 j (by omega) k hk
  · rw [if_neg g] at hj ⊢
    rw [if_neg g]
    by_cases h : j = u
    · subst h
      left
      refine ⟨by unfold ringI; omega, fun k hk => ?_⟩
      show cpyR N 0 W (17510 * j) (tN N + 3902) (17510 * j + k) = N k
      rw [cpyR_in (by omega), show 0 + (17510 * j + k - 17510 * j) = k by omega]
    · right
      refine ⟨j, by omega, by unfold ringI; omega, by unfold ringI; omega, fun k hk => ?_⟩
      have hk2 : k < 17510 := by
        have htj := hw j (by omega)
        have : tN (wRow W j) ≤ 13608 := by show (W (17510 * j + 3)).toNat ≤ 13608; omega
        omega
      show cpyR N 0 W (17510 * u) (tN N + 3902) (17510 * j + k) = W (17510 * j + k)
      rw [cpyR_out (by omega)]
theorem sN_24 {j : Nat} (hj : j < 16) : sN j + 15 ≤ 24 ∨ 24 + 1 ≤ sN j := by
  unfold sN
  split
  · omega
  · split
    · omega
    · split <;> omega
theorem kc_keep {T U : Sh} {I K : Mi} {A : AN} {tp u e p2 o2 t2 c2 q n : Nat} {L Bt W P Y N F : Nat → Int} (hK : KSh T A) (h : KC I A tp L Bt u e W P Y N) (hw : wOk W) (hA : AcP T U I K (sN (e + 1)) (A (e + 1)).1 (A (e + 1)).2.1 (A (e + 1)).2.2.1 (A (e + 1)).2.2.2 p2 o2 t2 c2 L N q n 0 0) (hNo : NOk N q n) (hF1 : F 1 = (((e + 1) % 12 : Nat) : Int)) (hF2 : F 2 = ((kaU u : Nat) : Int)) :
   KSh U (upA A (e + 1) (p2, o2, t2, c2)) ∧ (∀ b, 274 ≤ b → b < 291 → (sr K 24 F) b = I b) ∧ KC (sr K 24 F) (upA A (e + 1) (p2, o2, t2, c2)) tp L Bt (kaU u) ((e + 1) % 12) (kaW W N u) P Y N := by
  obtain ⟨⟨h1, h1b⟩, ⟨h2, h2b, h2c⟩, h3, ⟨h4, h5, h6⟩, h7⟩ := h
  have hT := hA.P
  have he : e + 1 < 16 := by omega
  have hS := hK.2.2.1 (e + 1) he
  have hKU := KSh_ext he hK hT.2.1.1 hT.1 hT.2.1.2
  have hsz := sN_fx (e + 1) he
  have hfb : ∀ b, b < 291 → (b < sN (e + 1) ∨ sN (e + 1) + 15 ≤ b) → b ≠ 24 → (sr K 24 F) b = I b := fun b b1 b2 b3 => (sr_ne b3).trans (hT.fr hS b1 b2 (by omega))
  have hf : ∀ b, (b = 0 ∨ b = 1 ∨ b = 3 ∨ b = 207) → (sr K 24 F) b = I b := fun b hb => by
    refine hfb b (by omega) ?_ (by omega)
    have g0 := hsz (0, 11, 0) (List.mem_of_getElem? (i := 0) rfl)
    have g1 := hsz (1, 20, 200) (List.mem_of_getElem? (i := 1) rfl)
    have g3 := hsz (3, 20, 9) (List.mem_of_getElem? (i := 3) rfl)
    have g7 := hsz (207, 20, 2) (List.mem_of_getElem? (i := 11) rfl)
    simp only at g0 g1 g3 g7
    rcases hb with rfl | rfl | rfl | rfl
    · exact g0
    · exact g1
    · exact g3
    · exact g7
  have hr : ∀ j M, j < 16 → j ≠ e + 1 → SRel L I A j M → SRel L (sr K 24 F) (upA A (e + 1) (p2, o2, t2, c2)) j M := fun j M hj hj0 hs =>
    SRel_fr hKU hj (z := 24) (w := 1) (fun b hb => sr_ne (by omega)) (sN_24 hj) (by decide) (SRel_tr hK he hj hj0 hT (by omega) (by decide) hs)
  have hnew : SRel L (sr K 24 F) (upA A (e + 1) (p2, o2, t2, c2)) (e + 1) N := by
    refine SRel_fr hKU he (z := 24) (w := 1) (I := K) (fun b hb => sr_ne (by omega)) (sN_24 he) (by decide) ?_
    unfold SRel
    rw [show upA A (e + 1) (p2, o2, t2, c2) (e + 1) = (p2, o2, t2, c2) from if_pos rfl]
    exact ⟨hA.2.2.2.1, hA.2.2.2.2.1, ⟨q, n, hNo⟩, h3.2.2.2⟩
  refine ⟨hKU, fun b b1 b2 => hfb b b2 (Or.inr (by have := sN_le he; omega)) (by omega), ⟨fun k hk => ?_, h1b⟩, ⟨?_, h2b, fun k hk => ?_⟩, hr 0 N (by decide) (by omega) h3, ⟨⟨kaU_le h4.1, Nat.mod_lt _ (by decide)⟩, ⟨?_, ?_⟩, fun j hj => ?_⟩, fun k hk => ⟨?_, fun hy => ?_⟩⟩
  · rw [hf 3 (by omega)]; exact h1 k hk
  · rw [hf 0 (by omega)]; exact h2
  · rw [hf 1 (by omega)]; exact h2c k hk
  · rw [sr_row]; exact hF2
  · rw [sr_row]; exact hF1
  · rcases ring_keep (N := N) hw hNo.1.1 h4.1 h4.2 hj with ⟨g1, g2⟩ | ⟨j0, g1, g2, g3, g4⟩
    · rw [g1]; exact SRel_ag h1b hnew g2
    · rw [g2]
      have := ringI_le e u j0
      exact SRel_ag h1b (hr _ _ (by omega) g3 (h6 j0 g1)) g4
  · rw [hf 207 (by omega)]; exact (h7 k hk).1
  · exact hr _ _ (by omega) (by omega) ((h7 k hk).2 hy)
theorem ring_back {e u j : Nat} (hu : 1 ≤ u) (hu2 : u ≤ 12) (he : e < 12) (hj : j < u) : ringI ((e + 11) % 12) (u - 1) j = ringI e u j ∧ ringI e u (u - 1) = (e + 11) % 12 + 1 := by unfold ringI; omega
theorem ag_row {W N : Nat → Int} {j : Nat} : agN (wRow W j) (cpyR W (17510 * j) N 0 ((W (17510 * j + 3)).toNat + 3902)) := by
  intro k hk
  have hk2 : k < 3902 + (W (17510 * j + 3)).toNat := hk
  rw [cpyR_in (by omega), Nat.sub_zero]
  rfl
theorem k_keep {tp u e : Nat} {L Bt W P Y : Nat → Int} {A : AN} (hK : KSh T A) (hd : 4 ≤ d) (hC : KC I A tp L Bt u e W P Y N) (hw : wOk W) (hq : ∀ (U : Sh) (K : Mi) (a : Nat × Nat × Nat × Nat), KSh U (upA A (e + 1) a) → (∀ b, 274 ≤ b → b < 291 → K b = I b) → KC K (upA A (e + 1) a) tp L Bt (kaU u) ((e + 1) % 12) (kaW W N u) P Y N → Q none U K) : EvE G mX2_keep d [aR 24, aR 9] T I Q := by
  obtain ⟨q, n, hNo⟩ := hC.2.2.1.2.2.1
  have hLp := hC.1.2
  have hst := hC.2.2.1.1
  have htc := hC.2.2.1.2.1
  have he12 := hC.2.2.2.1.1.2
  have hu12 := hC.2.2.2.1.1.1
  have he1 := hC.2.2.2.1.2.1.2
  have hu1 := hC.2.2.2.1.2.1.1
  obtain ⟨g, hg⟩ : ∃ g, g = sN (e + 1) := ⟨_, rfl⟩
  have hSg : ShS T g (A (e + 1)).1 (A (e + 1)).2.1 (A (e + 1)).2.2.1 (A (e + 1)).2.2.2 := by rw [hg]; exact hK.2.2.1 (e + 1) (by omega)
  have hap := hK.2.2.2.1 (e + 1) 0 (by omega) (by decide) (by omega)
  have hgj : g + 15 ≤ 9 ∨ 9 + 15 ≤ g := by rw [hg]; have := sN_dj (i := e + 1) (j := 0) (by omega) (by decide) (by omega); exact this
  have hrg : rf T 25 e = some g := by rw [hg]; exact hK.1.2.2.2.1 e he12
  refine EvE.mk (lv0 := [some (aR 24), some (aR 9)]) (Nat.le_of_ble_eq_true rfl) (by decide +kernel) rfl ?_
  refine r_aload_n (pc := 0) (i := 0) dX2_keep_0 rfl rfl ?_
  refine r_getfr (pc := 1) (b := 25) cks dX2_keep_1 fl_X2_11 rfl (kK24 hK) (ltK hK (by decide)) (rK24_0 hK) ?_
  refine r_aload_n (pc := 4) (i := 0) dX2_keep_4 rfl rfl ?_
  refine r_getfi (pc := 5) cks dX2_keep_5 fl_X2_17 rfl (kK24 hK) (ltK hK (by decide)) ?_
  refine r_top (b := ((e : Nat) : Int)) (he1) ?_
  refine r_aaload (pc := 8) (b := g) dX2_keep_8 (kK25 hK) (ltK hK (by decide)) (by omega) (by rw [lK25 hK]; omega) (by rw [Int.toNat_natCast]; exact hrg) ?_
  refine r_aload_n (pc := 9) (i := 1) dX2_keep_9 rfl rfl ?_
  refine r_callV0 (pc := 10) (d - 1) [aR 9] dX2_keep_10 (CV.mk2 mk_X9_takeFrom lk_X2_25) (RC.of (ltS0 hSg) (kS0 hSg) (by decide) rfl) rfl rfl (by omega) (Nat.le_of_ble_eq_true rfl) (Nat.le_of_ble_eq_true rfl) (k_stFrom (s := g) (s2 := 9) (n := n) (q := q) (L := L) (N := N) hSg (sK0 hK) (by omega) hgj hap hst htc hNo.1 hNo.2.1 hNo.2.2.1 hLp (fun U K p3 o3 t3 c3 hA => ?_))
  refine ⟨rfl, fun _ => ?_⟩
  have hKU := KSh_ext (i := e + 1) (by omega) hK (by rw [← hg]; exact hA.2.1.1) (by rw [← hg]; exact hA.1) hA.2.1.2
  have hg24 := sN_24 (j := e + 1) (by omega)
  have hK24 : K 24 = I 24 := hA.fr hSg (by decide) (by omega) (by omega)
  refine r_aload_n (pc := 13) (i := 0) dX2_keep_13 rfl rfl ?_
  refine r_aload_n (pc := 14) (i := 0) dX2_keep_14 rfl rfl ?_
  refine r_getfi (pc := 15) cks dX2_keep_15 fl_X2_17 rfl (kK24 hKU) (ltK hKU (by decide)) ?_
  refine r_top (b := ((e : Nat) : Int)) ((congrFun hK24 1).trans he1) ?_
  refine r_iconst (pc := 18) dX2_keep_18 (in32_of rfl) ?_
  refine r_iaddN (pc := 19) (c := ((e + 1 : Nat) : Int)) dX2_keep_19 (by unfold w32; omega) ?_
  refine r_bipush (pc := 20) dX2_keep_20 rfl (in32_of rfl) ?_
  refine r_irem (pc := 22) dX2_keep_22 (by omega) ?_
  refine r_top (b := ((((e + 1) % 12) : Nat) : Int)) (by rw [irm_n (by unfold in32; omega) (by unfold in32; omega) (by omega) (by omega)]; omega) ?_
  refine r_putfi (pc := 23) cks dX2_keep_23 fl_X2_17 (pf_2_1 _ _) rfl (kK24 hKU) (ltK hKU (by decide)) ?_
  refine r_mem (I2 := sr K 24 (un (K 24) 1 ((((e + 1) % 12) : Nat) : Int))) ((up2_row _ _ _ _).trans ((congrArg (fun fz_ => sr K 24 (un fz_ 1 ((((e + 1) % 12) : Nat) : Int))) (show K 24 = K 24 from rfl)).trans (rfl))) ?_
  refine r_aload_n (pc := 26) (i := 0) dX2_keep_26 rfl rfl ?_
  refine r_aload_n (pc := 27) (i := 0) dX2_keep_27 rfl rfl ?_
  refine r_getfi (pc := 28) cks dX2_keep_28 fl_X2_21 rfl (kK24 hKU) (ltK hKU (by decide)) ?_
  refine r_top (b := (un (K 24) 1 ((((e + 1) % 12) : Nat) : Int)) 2) (sr_at _ _ _ _) ?_
  refine r_top (b := ((u : Nat) : Int)) ((un_ne (by decide)).trans ((congrFun hK24 2).trans hu1)) ?_
  refine r_iconst (pc := 31) dX2_keep_31 (in32_of rfl) ?_
  refine r_iaddN (pc := 32) (c := ((u + 1 : Nat) : Int)) dX2_keep_32 (by unfold w32; omega) ?_
  refine r_bipush (pc := 33) dX2_keep_33 rfl (in32_of rfl) ?_
  refine r_min (pc := 35) dX2_keep_35 (by omega) ml_X2_29 (Nat.le_of_ble_eq_true rfl) ?_
  refine r_top (b := (((kaU u) : Nat) : Int)) (by unfold kaU; split <;> split <;> omega) ?_
  refine r_putfi (pc := 38) cks dX2_keep_38 fl_X2_21 (pf_2_2 _ _) rfl (kK24 hKU) (ltK hKU (by decide)) ?_
  refine r_mem (I2 := sr K 24 (un (un (K 24) 1 ((((e + 1) % 12) : Nat) : Int)) 2 (((kaU u) : Nat) : Int))) ((up2_row _ _ _ _).trans ((congrArg (fun fz_ => sr (sr K 24 (un (K 24) 1 ((((e + 1) % 12) : Nat) : Int))) 24 (un fz_ 2 (((kaU u) : Nat) : Int))) (show (sr K 24 (un (K 24) 1 ((((e + 1) % 12) : Nat) : Int))) 24 = un (K 24) 1 ((((e + 1) % 12) : Nat) : Int) from sr_row _ _ _)).trans (sr_sr _ _ _ _))) ?_
  obtain ⟨r1, r2, r3⟩ := kc_keep (F := un (un (K 24) 1 ((((e + 1) % 12) : Nat) : Int)) 2 (((kaU u) : Nat) : Int)) hK hC hw (by rw [← hg]; exact hA) hNo ((un_ne (by decide)).trans un_at) un_at
  exact r_vret (pc := 41) dX2_keep_41 trivial (hq _ _ _ r1 r2 r3)
theorem k_hisClear {tp u e : Nat} {L Bt W P Y : Nat → Int} {A : AN} (hK : KSh T A) (hq : Q none T (sr I 24 (un (I 24) 2 0))) : EvE G mX2_clear d [aR 24] T I Q := by
  refine EvE.mk (lv0 := [some (aR 24)]) (Nat.le_of_ble_eq_true rfl) (by decide +kernel) rfl ?_
  refine r_aload_n (pc := 0) (i := 0) dX2_clear_0 rfl rfl ?_
  refine r_iconst (pc := 1) dX2_clear_1 (in32_of rfl) ?_
  refine r_putfi (pc := 2) cks dX2_clear_2 fl_X2_21 (pf_2_2 _ _) rfl (kK24 hK) (ltK hK (by decide)) ?_
  refine r_mem (I2 := sr I 24 (un (I 24) 2 0)) ((up2_row _ _ _ _).trans ((congrArg (fun fz_ => sr I 24 (un fz_ 2 0)) (show I 24 = I 24 from rfl)).trans (rfl))) ?_
  exact r_vret (pc := 5) dX2_clear_5 trivial hq
theorem kc_24 {T : Sh} {I K : Mi} {A : AN} {tp u e u2 e2 : Nat} {L Bt W W2 P Y N : Nat → Int} (hK : KSh T A) (h : KC I A tp L Bt u e W P Y N) (hf : ∀ b, b < 24 ∨ 24 + 1 ≤ b → K b = I b) (h1 : K 24 2 = (u2 : Int)) (h2 : K 24 1 = (e2 : Int)) (hu : u2 ≤ 12) (he : e2 < 12) (hr : ∀ j, j < u2 → SRel L I A (ringI e2 u2 j) (wRow W2 j)) : KC K A tp L Bt u2 e2 W2 P Y N := by
  obtain ⟨⟨a1, a1b⟩, ⟨a2, a2b, a2c⟩, a3, _, a7⟩ := h
  have hs : ∀ j M, j < 16 → SRel L I A j M → SRel L K A j M := fun j M hj g => SRel_fr hK hj hf (sN_24 hj) (by decide) g
  refine ⟨⟨fun k hk => ?_, a1b⟩, ⟨?_, a2b, fun k hk => ?_⟩, hs 0 N (by decide) a3, ⟨⟨hu, he⟩, ⟨h1, h2⟩, fun j hj => ?_⟩, fun k hk => ⟨?_, fun hy => ?_⟩⟩
  · rw [hf 3 (by omega)]; exact a1 k hk
  · rw [hf 0 (by omega)]; exact a2
  · rw [hf 1 (by omega)]; exact a2c k hk
  · have := ringI_le e2 u2 j
    exact hs _ _ (by omega) (hr j hj)
  · rw [hf 207 (by omega)]; exact (a7 k hk).1
  · exact hs _ _ (by omega) ((a7 k hk).2 hy)
theorem k_giveBack {tp u e : Nat} {L Bt W P Y : Nat → Int} {A : AN} (hK : KSh T A) (hd : 4 ≤ d) (hC : KC I A tp L Bt u e W P Y N) (hu0 : 1 ≤ u) (hq : ∀ (U : Sh) (K : Mi) (a : Nat × Nat × Nat × Nat), KSh U (upA A 0 a) → (∀ b, 274 ≤ b → b < 291 → K b = I b) → KC K (upA A 0 a) tp L Bt (u - 1) ((e + 11) % 12) W P Y (cpyR W (17510 * (u - 1)) N 0 ((W (17510 * (u - 1) + 3)).toNat + 3902)) → Q none U K) : EvE G mX2_giveBack d [aR 24, aR 9] T I Q := by
  have hLp := hC.1.2
  have he12 := hC.2.2.2.1.1.2
  have hu12 := hC.2.2.2.1.1.1
  have he1 := hC.2.2.2.1.2.1.2
  have hu1 := hC.2.2.2.1.2.1.1
  obtain ⟨e2, he2⟩ : ∃ e2, e2 = (e + 11) % 12 := ⟨_, rfl⟩
  have he2_12 : e2 < 12 := by omega
  obtain ⟨g, hg⟩ : ∃ g, g = sN (e2 + 1) := ⟨_, rfl⟩
  have hSg : ShS T g (A (e2 + 1)).1 (A (e2 + 1)).2.1 (A (e2 + 1)).2.2.1 (A (e2 + 1)).2.2.2 := by rw [hg]; exact hK.2.2.1 (e2 + 1) (by omega)
  have hap := hK.2.2.2.1 0 (e2 + 1) (by decide) (by omega) (by omega)
  have hgj : 9 + 15 ≤ g ∨ g + 15 ≤ 9 := by rw [hg]; have := sN_dj (i := 0) (j := e2 + 1) (by decide) (by omega) (by omega); exact this
  have hrg : rf T 25 ((e + 11) % 12) = some g := by rw [hg, ← he2]; exact hK.1.2.2.2.1 e2 he2_12
  have hrl0 : SRel L I A (e2 + 1) (wRow W (u - 1)) := by have h := hC.2.2.2.1.2.2 (u - 1) (by omega); rw [(ring_back (j := u - 1) hu0 hu12 he12 (by omega)).2, ← he2] at h; exact h
  refine EvE.mk (lv0 := [some (aR 24), some (aR 9)]) (Nat.le_of_ble_eq_true rfl) (by decide +kernel) rfl ?_
  refine r_aload_n (pc := 0) (i := 0) dX2_giveBack_0 rfl rfl ?_
  refine r_getfi (pc := 1) cks dX2_giveBack_1 fl_X2_21 rfl (kK24 hK) (ltK hK (by decide)) ?_
  refine r_top (b := ((u : Nat) : Int)) (hu1) ?_
  refine r_if_le (pc := 4) (tgt := 46) dX2_giveBack_4 rfl (fun c4 => absurd c4 (by omega)) (fun c4 => ?_)
  refine r_aload_n (pc := 7) (i := 0) dX2_giveBack_7 rfl rfl ?_
  refine r_aload_n (pc := 8) (i := 0) dX2_giveBack_8 rfl rfl ?_
  refine r_getfi (pc := 9) cks dX2_giveBack_9 fl_X2_17 rfl (kK24 hK) (ltK hK (by decide)) ?_
  refine r_top (b := ((e : Nat) : Int)) (he1) ?_
  refine r_bipush (pc := 12) dX2_giveBack_12 rfl (in32_of rfl) ?_
  refine r_iaddN (pc := 14) (c := ((e + 12 : Nat) : Int)) dX2_giveBack_14 (by unfold w32; omega) ?_
  refine r_iconst (pc := 15) dX2_giveBack_15 (in32_of rfl) ?_
  refine r_isubN (pc := 16) (c := (((e + 11) : Nat) : Int)) dX2_giveBack_16 (by unfold w32; omega) ?_
  refine r_bipush (pc := 17) dX2_giveBack_17 rfl (in32_of rfl) ?_
  refine r_irem (pc := 19) dX2_giveBack_19 (by omega) ?_
  refine r_top (b := ((((e + 11) % 12) : Nat) : Int)) (by rw [irm_n (by unfold in32; omega) (by unfold in32; omega) (by omega) (by omega)]; omega) ?_
  refine r_putfi (pc := 20) cks dX2_giveBack_20 fl_X2_17 (pf_2_1 _ _) rfl (kK24 hK) (ltK hK (by decide)) ?_
  refine r_mem (I2 := sr I 24 (un (I 24) 1 ((((e + 11) % 12) : Nat) : Int))) ((up2_row _ _ _ _).trans ((congrArg (fun fz_ => sr I 24 (un fz_ 1 ((((e + 11) % 12) : Nat) : Int))) (show I 24 = I 24 from rfl)).trans (rfl))) ?_
  refine r_aload_n (pc := 23) (i := 0) dX2_giveBack_23 rfl rfl ?_
  refine r_dup (pc := 24) dX2_giveBack_24 rfl ?_
  refine r_getfi (pc := 25) cks dX2_giveBack_25 fl_X2_21 rfl (kK24 hK) (ltK hK (by decide)) ?_
  refine r_top (b := (un (I 24) 1 ((((e + 11) % 12) : Nat) : Int)) 2) (sr_at _ _ _ _) ?_
  refine r_top (b := ((u : Nat) : Int)) ((un_ne (by decide)).trans (hu1)) ?_
  refine r_iconst (pc := 28) dX2_giveBack_28 (in32_of rfl) ?_
  refine r_isubN (pc := 29) (c := (((u - 1) : Nat) : Int)) dX2_giveBack_29 (by unfold w32; omega) ?_
  refine r_putfi (pc := 30) cks dX2_giveBack_30 fl_X2_21 (pf_2_2 _ _) rfl (kK24 hK) (ltK hK (by decide)) ?_
  refine r_mem (I2 := sr I 24 (un (un (I 24) 1 ((((e + 11) % 12) : Nat) : Int)) 2 (((u - 1) : Nat) : Int))) ((up2_row _ _ _ _).trans ((congrArg (fun fz_ => sr (sr I 24 (un (I 24) 1 ((((e + 11) % 12) : Nat) : Int))) 24 (un fz_ 2 (((u - 1) : Nat) : Int))) (show (sr I 24 (un (I 24) 1 ((((e + 11) % 12) : Nat) : Int))) 24 = un (I 24) 1 ((((e + 11) % 12) : Nat) : Int) from sr_row _ _ _)).trans (sr_sr _ _ _ _))) ?_
  obtain ⟨K1, hK1⟩ : ∃ K1, K1 = sr I 24 (un (un (I 24) 1 ((((e + 11) % 12) : Nat) : Int)) 2 (((u - 1) : Nat) : Int)) := ⟨_, rfl⟩
  rw [← hK1]
  have hf1 : ∀ b, b < 24 ∨ 24 + 1 ≤ b → K1 b = I b := fun b hb => by rw [hK1]; exact sr_ne (by omega)
  have hk1n : K1 24 1 = (((e + 11) % 12 : Nat) : Int) := by rw [hK1, sr_row]; exact (un_ne (by decide)).trans un_at
  have hC1 : KC K1 A tp L Bt (u - 1) ((e + 11) % 12) W P Y N := kc_24 hK hC hf1 (by rw [hK1, sr_row]; exact (un_at)) hk1n (by omega) (Nat.mod_lt _ (by decide)) (fun j hj => by rw [(ring_back (by omega) hu12 he12 (show j < u by omega)).1]; exact hC.2.2.2.1.2.2 j (by omega))
  have hrl := SRel_fr hK (by omega) hf1 (sN_24 (by omega)) (by decide) hrl0
  obtain ⟨hst2, htc, ⟨q, n, hNo⟩, h26⟩ := hrl
  rw [← hg] at hst2
  refine r_aload_n (pc := 33) (i := 1) dX2_giveBack_33 rfl rfl ?_
  refine r_aload_n (pc := 34) (i := 0) dX2_giveBack_34 rfl rfl ?_
  refine r_getfr (pc := 35) (b := 25) cks dX2_giveBack_35 fl_X2_11 rfl (kK24 hK) (ltK hK (by decide)) (rK24_0 hK) ?_
  refine r_aload_n (pc := 38) (i := 0) dX2_giveBack_38 rfl rfl ?_
  refine r_getfi (pc := 39) cks dX2_giveBack_39 fl_X2_17 rfl (kK24 hK) (ltK hK (by decide)) ?_
  refine r_top (b := (((e + 11) % 12 : Nat) : Int)) (hk1n) ?_
  refine r_aaload (pc := 42) (b := g) dX2_giveBack_42 (kK25 hK) (ltK hK (by decide)) (by omega) (by rw [lK25 hK]; omega) (by rw [Int.toNat_natCast]; exact hrg) ?_
  refine r_callV0 (pc := 43) (d - 1) [aR g] dX2_giveBack_43 (CV.mk2 mk_X9_takeFrom lk_X2_25) (RC.of (ltS0 (sK0 hK)) (kS0 (sK0 hK)) (by decide) rfl) rfl rfl (by omega) (Nat.le_of_ble_eq_true rfl) (Nat.le_of_ble_eq_true rfl) (k_stFrom (s := 9) (s2 := g) (n := n) (q := q) (L := L) (N := wRow W (u - 1)) (sK0 hK) hSg (by omega) hgj hap (hst2) htc hNo.1 hNo.2.1 hNo.2.2.1 hLp (fun U K p3 o3 t3 c3 hA => ?_))
  refine ⟨rfl, fun _ => ?_⟩
  have hag := ag_row (W := W) (N := N) (j := u - 1)
  have hA2 := hA.ag hNo.2.2.1 (sg_256 hLp) hag
  obtain ⟨r1, r2⟩ := KC_now hK hC1 hA2.P (Or.inr ⟨rfl, rfl⟩) ⟨hA2.2.2.2.1, hA2.2.2.2.2.1, ⟨q, n, NOk_ag hNo hag⟩, by rw [hag 2 (by omega)]; exact h26⟩
  exact r_vret (pc := 46) dX2_giveBack_46 trivial (hq _ _ _ r1 (fun b b1 b2 => (hA.fr (sK0 hK) b2 (by omega) (by omega)).trans (hf1 b (by omega))) r2)
end C57

section C8
variable {G : Gl} {d : Nat} {T : Sh} {I : Mi} {N : Nat → Int} {Q : Option AV → Sh → Mi → Prop}
abbrev SE := (Nat → Int) × (Nat → Int) × (Nat → Int) × (Nat → Int) × (Nat → Int)
theorem kuA_er {J : Mi} {s z p : Nat} {M : Nat → Int} (hp : p < z) (ha : J (s + 4) p = M (p + 276)) (hb : J (s + 5) p = M (p + 532)) : M 4 + kuA J s z (p : Int) = erF M p := by
  unfold kuA erF
  rw [Int.toNat_natCast, ha, hb, dN_ne (by decide), dN_ne (by omega), dN_ne (by omega)]
  by_cases g : M (p + 276) = M (p + 532)
  · rw [if_pos g, bi_f (fun h => h.2 g)]
  · rw [if_neg g, bi_t ⟨⟨by omega, by omega⟩, g⟩]
theorem k_drM {k : Nat} {M : Nat → Int} {s p o t c : Nat} (hS : ShS T s p o t c) (hX : I s 1 = M 8) (hx : xOk M) (hk : 0 < k) (hk2 : k < 2147483648) (hq : Q (some (aI (drV M k))) T (sr I s (un (I s) 1 (dN M 8)))) : EvE G mX9_draw d [aR s, aI ((k : Nat) : Int)] T I Q := by
  have h := k_dM (G := G) (d := d) (I := I) (Q := Q) (M := M) (k := k) hS hx hk hk2 hq
  rw [dX_id hX] at h
  exact h
theorem k_tellSample {a u n sn : Nat} {L : Nat → Int} {s p o t c : Nat} (hS : ShS T s p o t c) (hd : 2 ≤ d) (hu : ShP T u) (hus : u + 2 ≤ s ∨ s + 15 ≤ u) (hL : ∀ k, k < 9 → I (u + 1) k = L k) (hp : plO1 L) (hR : Rng N) (hn : N 1 = (n : Int)) (hn2 : n ≤ 256) (hsn : (L 4).toNat = sn) (h0 : N 0 = 1) (h2 : N 2 = 0) (h3 : N 3 = 0) (h4 : N 4 = 0) (h6 : N 6 = 0) (hst0 : StR L I s p o t N) (hq : ∀ K : Mi, frS I K s → StR L K s p o t (smF N n sn) → Q none T K) : EvE G mX0_tellSample d [aR a, aR s, aR u] T I Q := by
  have hne := neS hS
  have hp0 := hp
  unfold plO1 at hp0
  obtain ⟨hfl, hmk, hor, hky, hld, hfn⟩ := hst0
  have hnn : nN N = n := by unfold nN; rw [hn]; omega
  refine EvE.mk (lv0 := [some (aR a), some (aR s), some (aR u), none, none, none]) (Nat.le_of_ble_eq_true rfl) (by decide +kernel) rfl ?_
  refine r_iconst (pc := 0) dX0_tellSample_0 (in32_of rfl) ?_
  refine r_istore_n (pc := 1) (i := 3) (lv' := [_, _, _, _, _, _]) dX0_tellSample_1 rfl (by decide) rfl ?_
  refine r_iconst (pc := 2) dX0_tellSample_2 (in32_of rfl) ?_
  refine r_istore (pc := 3) (i := 4) (lv' := [_, _, _, _, _, _]) dX0_tellSample_3 (by decide) rfl ?_
  refine r_mem (I2 := sr I s (I s)) (((congrArg (fun f_ => sr I s f_) (show I s = I s from rfl)).symm.trans (sr_id _ _)).symm) ?_
  refine r_mem (I2 := sr (sr I s (I s)) (s + 3) (I (s + 3))) (((congrArg (fun f_ => sr (sr I s (I s)) (s + 3) f_) (show (sr I s (I s)) (s + 3) = I (s + 3) from (sr_ne (by omega)).trans (rfl))).symm.trans (sr_id _ _)).symm) ?_
  refine r_mem (I2 := sr (sr (sr I s (I s)) (s + 3) (I (s + 3))) (s + 4) (I (s + 4))) (((congrArg (fun f_ => sr (sr (sr I s (I s)) (s + 3) (I (s + 3))) (s + 4) f_) (show (sr (sr I s (I s)) (s + 3) (I (s + 3))) (s + 4) = I (s + 4) from (sr_ne (by omega)).trans ((sr_ne (by omega)).trans (rfl)))).symm.trans (sr_id _ _)).symm) ?_
  refine r_mem (I2 := sr (sr (sr (sr I s (I s)) (s + 3) (I (s + 3))) (s + 4) (I (s + 4))) (s + 5) (I (s + 5))) (((congrArg (fun f_ => sr (sr (sr (sr I s (I s)) (s + 3) (I (s + 3))) (s + 4) (I (s + 4))) (s + 5) f_) (show (sr (sr (sr I s (I s)) (s + 3) (I (s + 3))) (s + 4) (I (s + 4))) (s + 5) = I (s + 5) from (sr_ne (by omega)).trans ((sr_ne (by omega)).trans ((sr_ne (by omega)).trans (rfl))))).symm.trans (sr_id _ _)).symm) ?_
  refine r_mem (I2 := sr (sr (sr (sr (sr I s (I s)) (s + 3) (I (s + 3))) (s + 4) (I (s + 4))) (s + 5) (I (s + 5))) (s + 6) (I (s + 6))) (((congrArg (fun f_ => sr (sr (sr (sr (sr I s (I s)) (s + 3) (I (s + 3))) (s + 4) (I (s + 4))) (s + 5) (I (s + 5))) (s + 6) f_) (show (sr (sr (sr (sr I s (I s)) (s + 3) (I (s + 3))) (s + 4) (I (s + 4))) (s + 5) (I (s + 5))) (s + 6) = I (s + 6) from (sr_ne (by omega)).trans ((sr_ne (by omega)).trans ((sr_ne (by omega)).trans ((sr_ne (by omega)).trans (rfl)))))).symm.trans (sr_id _ _)).symm) ?_
  refine loop2 (fun (k : Nat) (D : SE) => k ≤ sn ∧ k ≤ n - 1 ∧ tsI (I s) D.1 D.2.1 D.2.2.1 D.2.2.2.1 D.2.2.2.2 (smI N n k) (n - k)) (fun (k : Nat) (D : SE) => sn - k) (fun (k : Nat) (D : SE) => [some (aR a), some (aR s), some (aR u), some (aI ((k : Nat) : Int)), some (aI ((k : Nat) : Int)), none]) (fun _ _ => T) (fun (k : Nat) (D : SE) => sr (sr (sr (sr (sr I s D.1) (s + 3) D.2.1) (s + 4) D.2.2.1) (s + 5) D.2.2.2.1) (s + 6) D.2.2.2.2) ?_ 0 (I s, I (s + 3), I (s + 4), I (s + 5), I (s + 6)) ⟨Nat.zero_le _, Nat.zero_le _, ⟨hfl.2.1, hfl.2.2.2.2.1, fun _ _ _ => rfl⟩, hky.1.trans hn, fun i hi => hky.2 i (by omega)⟩
  intro k D hP ih
  have hP : k ≤ sn ∧ k ≤ n - 1 ∧ tsI (I s) D.1 D.2.1 D.2.2.1 D.2.2.2.1 D.2.2.2.2 (smI N n k) (n - k) := hP
  have hX := smI_ok hR hn hn2 h4 k (by omega) hP.2.1
  refine (?_ : Ev G mX0_tellSample d 5 [some (aR a), some (aR s), some (aR u), some (aI ((k : Nat) : Int)), some (aI ((k : Nat) : Int)), none] [] T (sr (sr (sr (sr (sr I s D.1) (s + 3) D.2.1) (s + 4) D.2.2.1) (s + 5) D.2.2.2.1) (s + 6) D.2.2.2.2) Q)
  refine r_iload (pc := 5) (i := 4) dX0_tellSample_5 rfl ?_
  refine r_aload_n (pc := 7) (i := 2) dX0_tellSample_7 rfl rfl ?_
  refine r_iconst (pc := 8) dX0_tellSample_8 (in32_of rfl) ?_
  refine r_callV1 (pc := 9) (d - 1) [aI 4] dX0_tellSample_9 (CV.mk2 mk_X6_number lk_X0_24) (RC.of (ltP0 hu) (kP0 hu) (by decide) rfl) rfl rfl (by omega) (Nat.le_of_ble_eq_true rfl) (Nat.le_of_ble_eq_true rfl) (k_num (L := L) hu 4 (by decide) (fun k_ hk_ => (congrFun (show (sr (sr (sr (sr (sr I s D.1) (s + 3) D.2.1) (s + 4) D.2.2.1) (s + 5) D.2.2.2.1) (s + 6) D.2.2.2.2) (u + 1) = I (u + 1) from (sr_ne (by omega)).trans ((sr_ne (by omega)).trans ((sr_ne (by omega)).trans ((sr_ne (by omega)).trans ((sr_ne (by omega)).trans (rfl)))))) k_).trans (hL k_ hk_)) ?_)
  refine ⟨_, rfl, fun _ => ?_⟩
  refine r_icmp_ge (pc := 12) (tgt := 83) dX0_tellSample_12 rfl (fun c12 => ?_) (fun c12 => ?_)
  · refine r_aload_n (pc := 83) (i := 1) dX0_tellSample_83 rfl rfl ?_
    refine r_aload_n (pc := 84) (i := 1) dX0_tellSample_84 rfl rfl ?_
    refine r_getfi (pc := 85) cks dX0_tellSample_85 fl_X0_64 rfl (kS0 hS) (ltS0 hS) ?_
    refine r_top (b := D.1 4) ((congrFun (sr_ne (by omega)) _).trans ((congrFun (sr_ne (by omega)) _).trans ((congrFun (sr_ne (by omega)) _).trans ((congrFun (sr_ne (by omega)) _).trans (sr_at _ _ _ _))))) ?_
    refine r_top (b := (smI N n k) 4) (hP.2.2.1.2.1) ?_
    refine r_iload_n (pc := 88) (i := 3) dX0_tellSample_88 rfl rfl ?_
    refine r_callS1 (pc := 89) (d - 1) [aI ((smI N n k) 4), aI ((k : Nat) : Int)] dX0_tellSample_89 (CS.mk2 mk_X0_boundOf lk_X0_74) rfl rfl (by omega) (Nat.le_of_ble_eq_true rfl) (Nat.le_of_ble_eq_true rfl) (k_boundOf (m := k) (by omega) (by omega) (by omega) (by omega) ?_)
    refine ⟨_, rfl, fun _ => ?_⟩
    refine r_putfi (pc := 92) cks dX0_tellSample_92 fl_X0_78 (pf_9_5 _ _) rfl (kS0 hS) (ltS0 hS) ?_
    refine r_mem (I2 := sr (sr (sr (sr (sr I s (un D.1 5 (bdF ((smI N n k) 4) k))) (s + 3) D.2.1) (s + 4) D.2.2.1) (s + 5) D.2.2.2.1) (s + 6) D.2.2.2.2) ((up2_row _ _ _ _).trans ((congrArg (fun fz_ => sr (sr (sr (sr (sr (sr I s D.1) (s + 3) D.2.1) (s + 4) D.2.2.1) (s + 5) D.2.2.2.1) (s + 6) D.2.2.2.2) s (un fz_ 5 (bdF ((smI N n k) 4) k))) (show (sr (sr (sr (sr (sr I s D.1) (s + 3) D.2.1) (s + 4) D.2.2.1) (s + 5) D.2.2.2.1) (s + 6) D.2.2.2.2) s = D.1 from (sr_ne (by omega)).trans ((sr_ne (by omega)).trans ((sr_ne (by omega)).trans ((sr_ne (by omega)).trans (sr_row _ _ _)))))).trans ((sr_comm (by omega)).trans (congrArg (fun J => sr J (s + 6) D.2.2.2.2) ((sr_comm (by omega)).trans (congrArg (fun J => sr J (s + 5) D.2.2.2.1) ((sr_comm (by omega)).trans (congrArg (fun J => sr J (s + 4) D.2.2.1) ((sr_comm (by omega)).trans (congrArg (fun J => sr J (s + 3) D.2.1) (sr_sr _ _ _ _))))))))))) ?_
    refine r_aload_n (pc := 95) (i := 1) dX0_tellSample_95 rfl rfl ?_
    refine r_iconst (pc := 96) dX0_tellSample_96 (in32_of rfl) ?_
    refine r_putfi (pc := 97) cks dX0_tellSample_97 fl_X0_55 (pf_9_0 _ _) rfl (kS0 hS) (ltS0 hS) ?_
    refine r_mem (I2 := sr (sr (sr (sr (sr I s (un (un D.1 5 (bdF ((smI N n k) 4) k)) 0 2)) (s + 3) D.2.1) (s + 4) D.2.2.1) (s + 5) D.2.2.2.1) (s + 6) D.2.2.2.2) ((up2_row _ _ _ _).trans ((congrArg (fun fz_ => sr (sr (sr (sr (sr (sr I s (un D.1 5 (bdF ((smI N n k) 4) k))) (s + 3) D.2.1) (s + 4) D.2.2.1) (s + 5) D.2.2.2.1) (s + 6) D.2.2.2.2) s (un fz_ 0 2)) (show (sr (sr (sr (sr (sr I s (un D.1 5 (bdF ((smI N n k) 4) k))) (s + 3) D.2.1) (s + 4) D.2.2.1) (s + 5) D.2.2.2.1) (s + 6) D.2.2.2.2) s = un D.1 5 (bdF ((smI N n k) 4) k) from (sr_ne (by omega)).trans ((sr_ne (by omega)).trans ((sr_ne (by omega)).trans ((sr_ne (by omega)).trans (sr_row _ _ _)))))).trans ((sr_comm (by omega)).trans (congrArg (fun J => sr J (s + 6) D.2.2.2.2) ((sr_comm (by omega)).trans (congrArg (fun J => sr J (s + 5) D.2.2.2.1) ((sr_comm (by omega)).trans (congrArg (fun J => sr J (s + 4) D.2.2.1) ((sr_comm (by omega)).trans (congrArg (fun J => sr J (s + 3) D.2.1) (sr_sr _ _ _ _))))))))))) ?_
    have hk : k = min sn (n - 1) := by omega
    have hsm : smF N n sn = un (un (smI N n k) 5 (bdF ((smI N n k) 4) k)) 0 2 := by unfold smF smK; rw [hk]
    obtain ⟨⟨t1, t4, tj⟩, tk, tc⟩ := hP.2.2
    refine r_vret (pc := 100) dX0_tellSample_100 trivial (hq _ (fun c hc => by (repeat rw [sr_ne (by omega)])) ?_)
    have e0 : (sr (sr (sr (sr (sr I s (un (un D.1 5 (bdF ((smI N n k) 4) k)) 0 2)) (s + 3) D.2.1) (s + 4) D.2.2.1) (s + 5) D.2.2.2.1) (s + 6) D.2.2.2.2) (s) = un (un D.1 5 (bdF ((smI N n k) 4) k)) 0 2 := show (sr (sr (sr (sr (sr I s (un (un D.1 5 (bdF ((smI N n k) 4) k)) 0 2)) (s + 3) D.2.1) (s + 4) D.2.2.1) (s + 5) D.2.2.2.1) (s + 6) D.2.2.2.2) s = un (un D.1 5 (bdF ((smI N n k) 4) k)) 0 2 from (sr_ne (by omega)).trans ((sr_ne (by omega)).trans ((sr_ne (by omega)).trans ((sr_ne (by omega)).trans (sr_row _ _ _))))
    have e3 : (sr (sr (sr (sr (sr I s (un (un D.1 5 (bdF ((smI N n k) 4) k)) 0 2)) (s + 3) D.2.1) (s + 4) D.2.2.1) (s + 5) D.2.2.2.1) (s + 6) D.2.2.2.2) (s + 3) = D.2.1 := show (sr (sr (sr (sr (sr I s (un (un D.1 5 (bdF ((smI N n k) 4) k)) 0 2)) (s + 3) D.2.1) (s + 4) D.2.2.1) (s + 5) D.2.2.2.1) (s + 6) D.2.2.2.2) (s + 3) = D.2.1 from (sr_ne (by omega)).trans ((sr_ne (by omega)).trans ((sr_ne (by omega)).trans (sr_row _ _ _)))
    have e4 : (sr (sr (sr (sr (sr I s (un (un D.1 5 (bdF ((smI N n k) 4) k)) 0 2)) (s + 3) D.2.1) (s + 4) D.2.2.1) (s + 5) D.2.2.2.1) (s + 6) D.2.2.2.2) (s + 4) = D.2.2.1 := show (sr (sr (sr (sr (sr I s (un (un D.1 5 (bdF ((smI N n k) 4) k)) 0 2)) (s + 3) D.2.1) (s + 4) D.2.2.1) (s + 5) D.2.2.2.1) (s + 6) D.2.2.2.2) (s + 4) = D.2.2.1 from (sr_ne (by omega)).trans ((sr_ne (by omega)).trans (sr_row _ _ _))
    have e5 : (sr (sr (sr (sr (sr I s (un (un D.1 5 (bdF ((smI N n k) 4) k)) 0 2)) (s + 3) D.2.1) (s + 4) D.2.2.1) (s + 5) D.2.2.2.1) (s + 6) D.2.2.2.2) (s + 5) = D.2.2.2.1 := show (sr (sr (sr (sr (sr I s (un (un D.1 5 (bdF ((smI N n k) 4) k)) 0 2)) (s + 3) D.2.1) (s + 4) D.2.2.1) (s + 5) D.2.2.2.1) (s + 6) D.2.2.2.2) (s + 5) = D.2.2.2.1 from (sr_ne (by omega)).trans (sr_row _ _ _)
    have e6 : (sr (sr (sr (sr (sr I s (un (un D.1 5 (bdF ((smI N n k) 4) k)) 0 2)) (s + 3) D.2.1) (s + 4) D.2.2.1) (s + 5) D.2.2.2.1) (s + 6) D.2.2.2.2) (s + 6) = D.2.2.2.2 := show (sr (sr (sr (sr (sr I s (un (un D.1 5 (bdF ((smI N n k) 4) k)) 0 2)) (s + 3) D.2.1) (s + 4) D.2.2.1) (s + 5) D.2.2.2.1) (s + 6) D.2.2.2.2) (s + 6) = D.2.2.2.2 from sr_row _ _ _
    have e1 : (sr (sr (sr (sr (sr I s (un (un D.1 5 (bdF ((smI N n k) 4) k)) 0 2)) (s + 3) D.2.1) (s + 4) D.2.2.1) (s + 5) D.2.2.2.1) (s + 6) D.2.2.2.2) (s + 1) = I (s + 1) := show (sr (sr (sr (sr (sr I s (un (un D.1 5 (bdF ((smI N n k) 4) k)) 0 2)) (s + 3) D.2.1) (s + 4) D.2.2.1) (s + 5) D.2.2.2.1) (s + 6) D.2.2.2.2) (s + 1) = I (s + 1) from (sr_ne (by omega)).trans ((sr_ne (by omega)).trans ((sr_ne (by omega)).trans ((sr_ne (by omega)).trans ((sr_ne (by omega)).trans (rfl)))))
    have e7 : (sr (sr (sr (sr (sr I s (un (un D.1 5 (bdF ((smI N n k) 4) k)) 0 2)) (s + 3) D.2.1) (s + 4) D.2.2.1) (s + 5) D.2.2.2.1) (s + 6) D.2.2.2.2) (s + 7) = I (s + 7) := show (sr (sr (sr (sr (sr I s (un (un D.1 5 (bdF ((smI N n k) 4) k)) 0 2)) (s + 3) D.2.1) (s + 4) D.2.2.1) (s + 5) D.2.2.2.1) (s + 6) D.2.2.2.2) (s + 7) = I (s + 7) from (sr_ne (by omega)).trans ((sr_ne (by omega)).trans ((sr_ne (by omega)).trans ((sr_ne (by omega)).trans ((sr_ne (by omega)).trans (rfl)))))
    have e11 : (sr (sr (sr (sr (sr I s (un (un D.1 5 (bdF ((smI N n k) 4) k)) 0 2)) (s + 3) D.2.1) (s + 4) D.2.2.1) (s + 5) D.2.2.2.1) (s + 6) D.2.2.2.2) (s + 11) = I (s + 11) := show (sr (sr (sr (sr (sr I s (un (un D.1 5 (bdF ((smI N n k) 4) k)) 0 2)) (s + 3) D.2.1) (s + 4) D.2.2.1) (s + 5) D.2.2.2.1) (s + 6) D.2.2.2.2) (s + 11) = I (s + 11) from (sr_ne (by omega)).trans ((sr_ne (by omega)).trans ((sr_ne (by omega)).trans ((sr_ne (by omega)).trans ((sr_ne (by omega)).trans (rfl)))))
    have g0 : smF N n sn 0 = 2 := by rw [hsm, un_at]
    have gj : ∀ j, j ≠ 0 → j ≠ 1 → j ≠ 4 → j ≠ 5 → j ≠ 8 → ¬ (276 ≤ j ∧ j < 1044) → smF N n sn j = N j := fun j a0 a1 a4 a5 a8 ah => by rw [hsm, un_ne a0, un_ne a5]; exact hX.2.2.2 j a1 a4 a8 ah
    have gx : ∀ j, j ≠ 0 → j ≠ 5 → smF N n sn j = (smI N n k) j := fun j a0 a5 => by rw [hsm, un_ne a0, un_ne a5]
    have g1 : nN (smF N n sn) = n - k := by unfold nN; rw [gx 1 (by decide) (by decide), hX.2.1]; omega
    have hsg : sgV L (smF N n sn) = sgV L N := by unfold sgV; rw [g0, h0, if_neg (by decide), if_neg (by decide)]
    have hL0 : sgV L N = L 0 := by unfold sgV; rw [h0]; exact if_neg (by decide)
    have z : ∀ j, j = 2 ∨ j = 3 ∨ j = 6 → smF N n sn j = 0 := fun j hj => by rw [gj j (by omega) (by omega) (by omega) (by omega) (by omega) (by omega)]; rcases hj with h | h | h <;> (rw [h]; assumption)
    have hsi : ∀ i, i < (L 0).toNat → smF N n sn (i + 20) = N (i + 20) := fun i hi => gj _ (by omega) (by omega) (by omega) (by omega) (by omega) (by omega)
    refine ⟨⟨?_, ?_, ?_, ?_, ?_, ?_, ?_, ?_, ?_⟩, ?_, ?_, ⟨?_, ?_⟩, ⟨?_, ?_⟩, ⟨?_, ?_, ?_, ?_, ?_, ?_⟩⟩
    · rw [e0, un_at, g0]
    · rw [e0, un_ne (by decide), un_ne (by decide), t1, gx 8 (by decide) (by decide)]
    · rw [e0, un_ne (by decide), un_ne (by decide), tj 2 (by decide) (by decide), hsg]
      exact hfl.2.2.1
    · rw [e0, un_ne (by decide), un_ne (by decide), tj 3 (by decide) (by decide), hsg, hL0, ssM_ext _ hsi, ← hL0]
      exact hfl.2.2.2.1
    · rw [e0, un_ne (by decide), un_ne (by decide), t4, gx 4 (by decide) (by decide)]
    · rw [e0, un_ne (by decide), un_at, hsm, un_ne (by decide), un_at]
    · rw [e0, un_ne (by decide), un_ne (by decide), tj 6 (by decide) (by decide), gj 2 (by decide) (by decide) (by decide) (by decide) (by decide) (by omega)]
      exact hfl.2.2.2.2.2.2.1
    · rw [e0, un_ne (by decide), un_ne (by decide), tj 7 (by decide) (by decide), gj 12 (by decide) (by decide) (by decide) (by decide) (by decide) (by omega)]
      exact hfl.2.2.2.2.2.2.2.1
    · rw [e0, un_ne (by decide), un_ne (by decide), tj 8 (by decide) (by decide), gj 7 (by decide) (by decide) (by decide) (by decide) (by decide) (by omega)]
      exact hfl.2.2.2.2.2.2.2.2
    · intro i hi
      rw [hsg] at hi
      rw [e1, hsi i (by omega)]
      exact hmk i hi
    · intro q hq
      rw [z 2 (Or.inl rfl)] at hq
      exact absurd hq (Nat.not_lt_zero q)
    · rw [e3, tk, gx 1 (by decide) (by decide), hX.2.1]
    · intro i hi
      rw [g1] at hi
      obtain ⟨c1, c2, c3⟩ := tc i hi
      rw [e4, e5, e6, gx _ (by omega) (by omega), gx _ (by omega) (by omega), c1, c2, c3, spI_kn, spI_kn, gx (i + 788) (by omega) (by omega)]
      have ho := Rng_of (j := i + 788) hX.1 (by omega) (by omega)
      exact ⟨rfl, rfl, (knV_ext (gx _ (by omega) (by omega))).symm⟩
    · rw [e7, z 3 (Or.inr (Or.inl rfl))]
      exact hld.1.trans h3
    · intro i hi
      unfold tN at hi
      rw [z 3 (Or.inr (Or.inl rfl))] at hi
      exact absurd hi (Nat.not_lt_zero i)
    · rw [e11, z 6 (Or.inr (Or.inr rfl))]
      exact hfn.1.trans h6
    · rw [e11, gj 9 (by decide) (by decide) (by decide) (by decide) (by decide) (by omega)]
      exact hfn.2.1
    · rw [e11, gj 10 (by decide) (by decide) (by decide) (by decide) (by decide) (by omega)]
      exact hfn.2.2.1
    · rw [e11, gj 11 (by decide) (by decide) (by decide) (by decide) (by decide) (by omega)]
      exact hfn.2.2.2.1
    · intro i hi
      rw [z 6 (Or.inr (Or.inr rfl))] at hi
      exact absurd hi (Nat.not_lt_zero i)
    · intro h
      rw [z 6 (Or.inr (Or.inr rfl))] at h
      exact absurd h (by decide)
  · refine r_aload_n (pc := 15) (i := 1) dX0_tellSample_15 rfl rfl ?_
    refine r_getfr (pc := 16) (b := s + 3) cks dX0_tellSample_16 fl_X0_45 rfl (kS0 hS) (ltS0 hS) (rS0_11 hS) ?_
    refine r_getfi (pc := 19) cks dX0_tellSample_19 fl_X0_61 rfl (kS3 hS) (ltS (k := 3) hS (by omega)) ?_
    refine r_top (b := D.2.1 0) ((congrFun (sr_ne (by omega)) _).trans ((congrFun (sr_ne (by omega)) _).trans ((congrFun (sr_ne (by omega)) _).trans (sr_at _ _ _ _)))) ?_
    refine r_top (b := ((n - k : Nat) : Int)) (hP.2.2.2.1) ?_
    refine r_iconst (pc := 22) dX0_tellSample_22 (in32_of rfl) ?_
    refine r_icmp_le (pc := 23) (tgt := 83) dX0_tellSample_23 rfl (fun c23 => ?_) (fun c23 => ?_)
    · refine r_aload_n (pc := 83) (i := 1) dX0_tellSample_83 rfl rfl ?_
      refine r_aload_n (pc := 84) (i := 1) dX0_tellSample_84 rfl rfl ?_
      refine r_getfi (pc := 85) cks dX0_tellSample_85 fl_X0_64 rfl (kS0 hS) (ltS0 hS) ?_
      refine r_top (b := D.1 4) ((congrFun (sr_ne (by omega)) _).trans ((congrFun (sr_ne (by omega)) _).trans ((congrFun (sr_ne (by omega)) _).trans ((congrFun (sr_ne (by omega)) _).trans (sr_at _ _ _ _))))) ?_
      refine r_top (b := (smI N n k) 4) (hP.2.2.1.2.1) ?_
      refine r_iload_n (pc := 88) (i := 3) dX0_tellSample_88 rfl rfl ?_
      refine r_callS1 (pc := 89) (d - 1) [aI ((smI N n k) 4), aI ((k : Nat) : Int)] dX0_tellSample_89 (CS.mk2 mk_X0_boundOf lk_X0_74) rfl rfl (by omega) (Nat.le_of_ble_eq_true rfl) (Nat.le_of_ble_eq_true rfl) (k_boundOf (m := k) (by omega) (by omega) (by omega) (by omega) ?_)
      refine ⟨_, rfl, fun _ => ?_⟩
      refine r_putfi (pc := 92) cks dX0_tellSample_92 fl_X0_78 (pf_9_5 _ _) rfl (kS0 hS) (ltS0 hS) ?_
      refine r_mem (I2 := sr (sr (sr (sr (sr I s (un D.1 5 (bdF ((smI N n k) 4) k))) (s + 3) D.2.1) (s + 4) D.2.2.1) (s + 5) D.2.2.2.1) (s + 6) D.2.2.2.2) ((up2_row _ _ _ _).trans ((congrArg (fun fz_ => sr (sr (sr (sr (sr (sr I s D.1) (s + 3) D.2.1) (s + 4) D.2.2.1) (s + 5) D.2.2.2.1) (s + 6) D.2.2.2.2) s (un fz_ 5 (bdF ((smI N n k) 4) k))) (show (sr (sr (sr (sr (sr I s D.1) (s + 3) D.2.1) (s + 4) D.2.2.1) (s + 5) D.2.2.2.1) (s + 6) D.2.2.2.2) s = D.1 from (sr_ne (by omega)).trans ((sr_ne (by omega)).trans ((sr_ne (by omega)).trans ((sr_ne (by omega)).trans (sr_row _ _ _)))))).trans ((sr_comm (by omega)).trans (congrArg (fun J => sr J (s + 6) D.2.2.2.2) ((sr_comm (by omega)).trans (congrArg (fun J => sr J (s + 5) D.2.2.2.1) ((sr_comm (by omega)).trans (congrArg (fun J => sr J (s + 4) D.2.2.1) ((sr_comm (by omega)).trans (congrArg (fun J => sr J (s + 3) D.2.1) (sr_sr _ _ _ _))))))))))) ?_
      refine r_aload_n (pc := 95) (i := 1) dX0_tellSample_95 rfl rfl ?_
      refine r_iconst (pc := 96) dX0_tellSample_96 (in32_of rfl) ?_
      refine r_putfi (pc := 97) cks dX0_tellSample_97 fl_X0_55 (pf_9_0 _ _) rfl (kS0 hS) (ltS0 hS) ?_
      refine r_mem (I2 := sr (sr (sr (sr (sr I s (un (un D.1 5 (bdF ((smI N n k) 4) k)) 0 2)) (s + 3) D.2.1) (s + 4) D.2.2.1) (s + 5) D.2.2.2.1) (s + 6) D.2.2.2.2) ((up2_row _ _ _ _).trans ((congrArg (fun fz_ => sr (sr (sr (sr (sr (sr I s (un D.1 5 (bdF ((smI N n k) 4) k))) (s + 3) D.2.1) (s + 4) D.2.2.1) (s + 5) D.2.2.2.1) (s + 6) D.2.2.2.2) s (un fz_ 0 2)) (show (sr (sr (sr (sr (sr I s (un D.1 5 (bdF ((smI N n k) 4) k))) (s + 3) D.2.1) (s + 4) D.2.2.1) (s + 5) D.2.2.2.1) (s + 6) D.2.2.2.2) s = un D.1 5 (bdF ((smI N n k) 4) k) from (sr_ne (by omega)).trans ((sr_ne (by omega)).trans ((sr_ne (by omega)).trans ((sr_ne (by omega)).trans (sr_row _ _ _)))))).trans ((sr_comm (by omega)).trans (congrArg (fun J => sr J (s + 6) D.2.2.2.2) ((sr_comm (by omega)).trans (congrArg (fun J => sr J (s + 5) D.2.2.2.1) ((sr_comm (by omega)).trans (congrArg (fun J => sr J (s + 4) D.2.2.1) ((sr_comm (by omega)).trans (congrArg (fun J => sr J (s + 3) D.2.1) (sr_sr _ _ _ _))))))))))) ?_
      have hk : k = min sn (n - 1) := by omega
      have hsm : smF N n sn = un (un (smI N n k) 5 (bdF ((smI N n k) 4) k)) 0 2 := by unfold smF smK; rw [hk]
      obtain ⟨⟨t1, t4, tj⟩, tk, tc⟩ := hP.2.2
      refine r_vret (pc := 100) dX0_tellSample_100 trivial (hq _ (fun c hc => by (repeat rw [sr_ne (by omega)])) ?_)
      have e0 : (sr (sr (sr (sr (sr I s (un (un D.1 5 (bdF ((smI N n k) 4) k)) 0 2)) (s + 3) D.2.1) (s + 4) D.2.2.1) (s + 5) D.2.2.2.1) (s + 6) D.2.2.2.2) (s) = un (un D.1 5 (bdF ((smI N n k) 4) k)) 0 2 := show (sr (sr (sr (sr (sr I s (un (un D.1 5 (bdF ((smI N n k) 4) k)) 0 2)) (s + 3) D.2.1) (s + 4) D.2.2.1) (s + 5) D.2.2.2.1) (s + 6) D.2.2.2.2) s = un (un D.1 5 (bdF ((smI N n k) 4) k)) 0 2 from (sr_ne (by omega)).trans ((sr_ne (by omega)).trans ((sr_ne (by omega)).trans ((sr_ne (by omega)).trans (sr_row _ _ _))))
      have e3 : (sr (sr (sr (sr (sr I s (un (un D.1 5 (bdF ((smI N n k) 4) k)) 0 2)) (s + 3) D.2.1) (s + 4) D.2.2.1) (s + 5) D.2.2.2.1) (s + 6) D.2.2.2.2) (s + 3) = D.2.1 := show (sr (sr (sr (sr (sr I s (un (un D.1 5 (bdF ((smI N n k) 4) k)) 0 2)) (s + 3) D.2.1) (s + 4) D.2.2.1) (s + 5) D.2.2.2.1) (s + 6) D.2.2.2.2) (s + 3) = D.2.1 from (sr_ne (by omega)).trans ((sr_ne (by omega)).trans ((sr_ne (by omega)).trans (sr_row _ _ _)))
      have e4 : (sr (sr (sr (sr (sr I s (un (un D.1 5 (bdF ((smI N n k) 4) k)) 0 2)) (s + 3) D.2.1) (s + 4) D.2.2.1) (s + 5) D.2.2.2.1) (s + 6) D.2.2.2.2) (s + 4) = D.2.2.1 := show (sr (sr (sr (sr (sr I s (un (un D.1 5 (bdF ((smI N n k) 4) k)) 0 2)) (s + 3) D.2.1) (s + 4) D.2.2.1) (s + 5) D.2.2.2.1) (s + 6) D.2.2.2.2) (s + 4) = D.2.2.1 from (sr_ne (by omega)).trans ((sr_ne (by omega)).trans (sr_row _ _ _))
      have e5 : (sr (sr (sr (sr (sr I s (un (un D.1 5 (bdF ((smI N n k) 4) k)) 0 2)) (s + 3) D.2.1) (s + 4) D.2.2.1) (s + 5) D.2.2.2.1) (s + 6) D.2.2.2.2) (s + 5) = D.2.2.2.1 := show (sr (sr (sr (sr (sr I s (un (un D.1 5 (bdF ((smI N n k) 4) k)) 0 2)) (s + 3) D.2.1) (s + 4) D.2.2.1) (s + 5) D.2.2.2.1) (s + 6) D.2.2.2.2) (s + 5) = D.2.2.2.1 from (sr_ne (by omega)).trans (sr_row _ _ _)
      have e6 : (sr (sr (sr (sr (sr I s (un (un D.1 5 (bdF ((smI N n k) 4) k)) 0 2)) (s + 3) D.2.1) (s + 4) D.2.2.1) (s + 5) D.2.2.2.1) (s + 6) D.2.2.2.2) (s + 6) = D.2.2.2.2 := show (sr (sr (sr (sr (sr I s (un (un D.1 5 (bdF ((smI N n k) 4) k)) 0 2)) (s + 3) D.2.1) (s + 4) D.2.2.1) (s + 5) D.2.2.2.1) (s + 6) D.2.2.2.2) (s + 6) = D.2.2.2.2 from sr_row _ _ _
      have e1 : (sr (sr (sr (sr (sr I s (un (un D.1 5 (bdF ((smI N n k) 4) k)) 0 2)) (s + 3) D.2.1) (s + 4) D.2.2.1) (s + 5) D.2.2.2.1) (s + 6) D.2.2.2.2) (s + 1) = I (s + 1) := show (sr (sr (sr (sr (sr I s (un (un D.1 5 (bdF ((smI N n k) 4) k)) 0 2)) (s + 3) D.2.1) (s + 4) D.2.2.1) (s + 5) D.2.2.2.1) (s + 6) D.2.2.2.2) (s + 1) = I (s + 1) from (sr_ne (by omega)).trans ((sr_ne (by omega)).trans ((sr_ne (by omega)).trans ((sr_ne (by omega)).trans ((sr_ne (by omega)).trans (rfl)))))
      have e7 : (sr (sr (sr (sr (sr I s (un (un D.1 5 (bdF ((smI N n k) 4) k)) 0 2)) (s + 3) D.2.1) (s + 4) D.2.2.1) (s + 5) D.2.2.2.1) (s + 6) D.2.2.2.2) (s + 7) = I (s + 7) := show (sr (sr (sr (sr (sr I s (un (un D.1 5 (bdF ((smI N n k) 4) k)) 0 2)) (s + 3) D.2.1) (s + 4) D.2.2.1) (s + 5) D.2.2.2.1) (s + 6) D.2.2.2.2) (s + 7) = I (s + 7) from (sr_ne (by omega)).trans ((sr_ne (by omega)).trans ((sr_ne (by omega)).trans ((sr_ne (by omega)).trans ((sr_ne (by omega)).trans (rfl)))))
      have e11 : (sr (sr (sr (sr (sr I s (un (un D.1 5 (bdF ((smI N n k) 4) k)) 0 2)) (s + 3) D.2.1) (s + 4) D.2.2.1) (s + 5) D.2.2.2.1) (s + 6) D.2.2.2.2) (s + 11) = I (s + 11) := show (sr (sr (sr (sr (sr I s (un (un D.1 5 (bdF ((smI N n k) 4) k)) 0 2)) (s + 3) D.2.1) (s + 4) D.2.2.1) (s + 5) D.2.2.2.1) (s + 6) D.2.2.2.2) (s + 11) = I (s + 11) from (sr_ne (by omega)).trans ((sr_ne (by omega)).trans ((sr_ne (by omega)).trans ((sr_ne (by omega)).trans ((sr_ne (by omega)).trans (rfl)))))
      have g0 : smF N n sn 0 = 2 := by rw [hsm, un_at]
      have gj : ∀ j, j ≠ 0 → j ≠ 1 → j ≠ 4 → j ≠ 5 → j ≠ 8 → ¬ (276 ≤ j ∧ j < 1044) → smF N n sn j = N j := fun j a0 a1 a4 a5 a8 ah => by rw [hsm, un_ne a0, un_ne a5]; exact hX.2.2.2 j a1 a4 a8 ah
      have gx : ∀ j, j ≠ 0 → j ≠ 5 → smF N n sn j = (smI N n k) j := fun j a0 a5 => by rw [hsm, un_ne a0, un_ne a5]
      have g1 : nN (smF N n sn) = n - k := by unfold nN; rw [gx 1 (by decide) (by decide), hX.2.1]; omega
      have hsg : sgV L (smF N n sn) = sgV L N := by unfold sgV; rw [g0, h0, if_neg (by decide), if_neg (by decide)]
      have hL0 : sgV L N = L 0 := by unfold sgV; rw [h0]; exact if_neg (by decide)
      have z : ∀ j, j = 2 ∨ j = 3 ∨ j = 6 → smF N n sn j = 0 := fun j hj => by rw [gj j (by omega) (by omega) (by omega) (by omega) (by omega) (by omega)]; rcases hj with h | h | h <;> (rw [h]; assumption)
      have hsi : ∀ i, i < (L 0).toNat → smF N n sn (i + 20) = N (i + 20) := fun i hi => gj _ (by omega) (by omega) (by omega) (by omega) (by omega) (by omega)
      refine ⟨⟨?_, ?_, ?_, ?_, ?_, ?_, ?_, ?_, ?_⟩, ?_, ?_, ⟨?_, ?_⟩, ⟨?_, ?_⟩, ⟨?_, ?_, ?_, ?_, ?_, ?_⟩⟩
      · rw [e0, un_at, g0]
      · rw [e0, un_ne (by decide), un_ne (by decide), t1, gx 8 (by decide) (by decide)]
      · rw [e0, un_ne (by decide), un_ne (by decide), tj 2 (by decide) (by decide), hsg]
        exact hfl.2.2.1
      · rw [e0, un_ne (by decide), un_ne (by decide), tj 3 (by decide) (by decide), hsg, hL0, ssM_ext _ hsi, ← hL0]
        exact hfl.2.2.2.1
      · rw [e0, un_ne (by decide), un_ne (by decide), t4, gx 4 (by decide) (by decide)]
      · rw [e0, un_ne (by decide), un_at, hsm, un_ne (by decide), un_at]
      · rw [e0, un_ne (by decide), un_ne (by decide), tj 6 (by decide) (by decide), gj 2 (by decide) (by decide) (by decide) (by decide) (by decide) (by omega)]
        exact hfl.2.2.2.2.2.2.1
      · rw [e0, un_ne (by decide), un_ne (by decide), tj 7 (by decide) (by decide), gj 12 (by decide) (by decide) (by decide) (by decide) (by decide) (by omega)]
        exact hfl.2.2.2.2.2.2.2.1
      · rw [e0, un_ne (by decide), un_ne (by decide), tj 8 (by decide) (by decide), gj 7 (by decide) (by decide) (by decide) (by decide) (by decide) (by omega)]
        exact hfl.2.2.2.2.2.2.2.2
      · intro i hi
        rw [hsg] at hi
        rw [e1, hsi i (by omega)]
        exact hmk i hi
      · intro q hq
        rw [z 2 (Or.inl rfl)] at hq
        exact absurd hq (Nat.not_lt_zero q)
      · rw [e3, tk, gx 1 (by decide) (by decide), hX.2.1]
      · intro i hi
        rw [g1] at hi
        obtain ⟨c1, c2, c3⟩ := tc i hi
        rw [e4, e5, e6, gx _ (by omega) (by omega), gx _ (by omega) (by omega), c1, c2, c3, spI_kn, spI_kn, gx (i + 788) (by omega) (by omega)]
        have ho := Rng_of (j := i + 788) hX.1 (by omega) (by omega)
        exact ⟨rfl, rfl, (knV_ext (gx _ (by omega) (by omega))).symm⟩
      · rw [e7, z 3 (Or.inr (Or.inl rfl))]
        exact hld.1.trans h3
      · intro i hi
        unfold tN at hi
        rw [z 3 (Or.inr (Or.inl rfl))] at hi
        exact absurd hi (Nat.not_lt_zero i)
      · rw [e11, z 6 (Or.inr (Or.inr rfl))]
        exact hfn.1.trans h6
      · rw [e11, gj 9 (by decide) (by decide) (by decide) (by decide) (by decide) (by omega)]
        exact hfn.2.1
      · rw [e11, gj 10 (by decide) (by decide) (by decide) (by decide) (by decide) (by omega)]
        exact hfn.2.2.1
      · rw [e11, gj 11 (by decide) (by decide) (by decide) (by decide) (by decide) (by omega)]
        exact hfn.2.2.2.1
      · intro i hi
        rw [z 6 (Or.inr (Or.inr rfl))] at hi
        exact absurd hi (Nat.not_lt_zero i)
      · intro h
        rw [z 6 (Or.inr (Or.inr rfl))] at h
        exact absurd h (by decide)
    · refine r_aload_n (pc := 26) (i := 1) dX0_tellSample_26 rfl rfl ?_
      refine r_aload_n (pc := 27) (i := 1) dX0_tellSample_27 rfl rfl ?_
      refine r_getfr (pc := 28) (b := s + 3) cks dX0_tellSample_28 fl_X0_45 rfl (kS0 hS) (ltS0 hS) (rS0_11 hS) ?_
      refine r_getfi (pc := 31) cks dX0_tellSample_31 fl_X0_61 rfl (kS3 hS) (ltS (k := 3) hS (by omega)) ?_
      refine r_top (b := D.2.1 0) ((congrFun (sr_ne (by omega)) _).trans ((congrFun (sr_ne (by omega)) _).trans ((congrFun (sr_ne (by omega)) _).trans (sr_at _ _ _ _)))) ?_
      refine r_top (b := ((n - k : Nat) : Int)) (hP.2.2.2.1) ?_
      refine r_callV1 (pc := 34) (d - 1) [aI (((n - k) : Nat) : Int)] dX0_tellSample_34 (CV.mk2 mk_X9_draw lk_X0_58) (RC.of (ltS0 hS) (kS0 hS) (by decide) rfl) rfl rfl (by omega) (Nat.le_of_ble_eq_true rfl) (Nat.le_of_ble_eq_true rfl) (k_drM (k := n - k) (M := smI N n k) hS ((congrFun (show (sr (sr (sr (sr (sr I s D.1) (s + 3) D.2.1) (s + 4) D.2.2.1) (s + 5) D.2.2.2.1) (s + 6) D.2.2.2.2) s = D.1 from (sr_ne (by omega)).trans ((sr_ne (by omega)).trans ((sr_ne (by omega)).trans ((sr_ne (by omega)).trans (sr_row _ _ _))))) 1).trans hP.2.2.1.1) (Rng_x hX.1) (by omega) (by omega) ?_)
      refine ⟨_, rfl, fun _ => ?_⟩
      refine r_mem (I2 := sr (sr (sr (sr (sr I s (un D.1 1 (dN (smI N n k) 8))) (s + 3) D.2.1) (s + 4) D.2.2.1) (s + 5) D.2.2.2.1) (s + 6) D.2.2.2.2) ((congrArg (fun v0_ => (sr (sr (sr (sr (sr (sr I s D.1) (s + 3) D.2.1) (s + 4) D.2.2.1) (s + 5) D.2.2.2.1) (s + 6) D.2.2.2.2) s (un v0_ 1 (dN (smI N n k) 8)))) (show (sr (sr (sr (sr (sr I s D.1) (s + 3) D.2.1) (s + 4) D.2.2.1) (s + 5) D.2.2.2.1) (s + 6) D.2.2.2.2) s = D.1 from (sr_ne (by omega)).trans ((sr_ne (by omega)).trans ((sr_ne (by omega)).trans ((sr_ne (by omega)).trans (sr_row _ _ _)))))).trans ((sr_comm (by omega)).trans (congrArg (fun J => sr J (s + 6) D.2.2.2.2) ((sr_comm (by omega)).trans (congrArg (fun J => sr J (s + 5) D.2.2.2.1) ((sr_comm (by omega)).trans (congrArg (fun J => sr J (s + 4) D.2.2.1) ((sr_comm (by omega)).trans (congrArg (fun J => sr J (s + 3) D.2.1) (sr_sr _ _ _ _)))))))))) ?_
      have hdr := drV_rng (smI N n k) (k := n - k) (by omega)
      obtain ⟨q, hq0⟩ : ∃ q : Nat, ((drV (smI N n k) (n - k)).toNat) = q := ⟨_, rfl⟩
      have hq1 : drV (smI N n k) (n - k) = (q : Int) := by omega
      have hqz : q < n - k := by omega
      have hcq := hP.2.2.2.2 q hqz
      have hst := ts_step (p := q) hP.2.2 hX.1 (by omega) hqz
      rw [show shfS (un (un (dN (smI N n k)) 4 (erF (smI N n k) q)) 1 ((n - k - 1 : Nat) : Int)) q (n - k - 1 - q) = smI N n (k + 1) from by rw [smI_succ]; unfold smM; rw [hq0]] at hst
      refine r_top hq1 ?_
      refine r_istore (pc := 37) (i := 5) (lv' := [_, _, _, _, _, _]) dX0_tellSample_37 (by decide) rfl ?_
      refine r_aload_n (pc := 39) (i := 1) dX0_tellSample_39 rfl rfl ?_
      refine r_dup (pc := 40) dX0_tellSample_40 rfl ?_
      refine r_getfi (pc := 41) cks dX0_tellSample_41 fl_X0_64 rfl (kS0 hS) (ltS0 hS) ?_
      refine r_top (b := (un D.1 1 (dN (smI N n k) 8)) 4) ((congrFun (sr_ne (by omega)) _).trans ((congrFun (sr_ne (by omega)) _).trans ((congrFun (sr_ne (by omega)) _).trans ((congrFun (sr_ne (by omega)) _).trans (sr_at _ _ _ _))))) ?_
      refine r_top (b := D.1 4) (un_ne (by decide)) ?_
      refine r_top (b := (smI N n k) 4) (hP.2.2.1.2.1) ?_
      refine r_aload_n (pc := 44) (i := 1) dX0_tellSample_44 rfl rfl ?_
      refine r_getfr (pc := 45) (b := s + 3) cks dX0_tellSample_45 fl_X0_45 rfl (kS0 hS) (ltS0 hS) (rS0_11 hS) ?_
      refine r_iload (pc := 48) (i := 5) dX0_tellSample_48 rfl ?_
      refine r_callV1 (pc := 50) (d - 1) [aI ((q : Nat) : Int)] dX0_tellSample_50 (CV.mk2 mk_X3_isUnlike lk_X0_67) (RC.of (ltS (k := 3) hS (by omega)) (kS3 hS) (by decide) rfl) rfl rfl (by omega) (Nat.le_of_ble_eq_true rfl) (Nat.le_of_ble_eq_true rfl) (k_isUnlike (n := n - k) hS (by omega) ((congrFun (show (sr (sr (sr (sr (sr I s (un D.1 1 (dN (smI N n k) 8))) (s + 3) D.2.1) (s + 4) D.2.2.1) (s + 5) D.2.2.2.1) (s + 6) D.2.2.2.2) (s + 3) = D.2.1 from (sr_ne (by omega)).trans ((sr_ne (by omega)).trans ((sr_ne (by omega)).trans (sr_row _ _ _)))) 0).trans hP.2.2.2.1) (by omega) ?_)
      refine ⟨_, rfl, fun _ => ?_⟩
      refine r_if_eq (pc := 53) (tgt := 60) dX0_tellSample_53 rfl (fun c53 => ?_) (fun c53 => ?_)
      · refine r_iconst (pc := 60) dX0_tellSample_60 (in32_of rfl) ?_
        refine r_iaddN (pc := 61) (c := (erF (smI N n k) q)) dX0_tellSample_61 (by have hke := kuA_er (J := sr (sr (sr (sr (sr I s (un D.1 1 (dN (smI N n k) 8))) (s + 3) D.2.1) (s + 4) D.2.2.1) (s + 5) D.2.2.2.1) (s + 6) D.2.2.2.2) (s := s) (M := smI N n k) hqz ((congrFun (show (sr (sr (sr (sr (sr I s (un D.1 1 (dN (smI N n k) 8))) (s + 3) D.2.1) (s + 4) D.2.2.1) (s + 5) D.2.2.2.1) (s + 6) D.2.2.2.2) (s + 4) = D.2.2.1 from (sr_ne (by omega)).trans ((sr_ne (by omega)).trans (sr_row _ _ _))) q).trans hcq.1) ((congrFun (show (sr (sr (sr (sr (sr I s (un D.1 1 (dN (smI N n k) 8))) (s + 3) D.2.1) (s + 4) D.2.2.1) (s + 5) D.2.2.2.1) (s + 6) D.2.2.2.2) (s + 5) = D.2.2.2.1 from (sr_ne (by omega)).trans (sr_row _ _ _)) q).trans hcq.2.1); have hk01 : kuA (sr (sr (sr (sr (sr I s (un D.1 1 (dN (smI N n k) 8))) (s + 3) D.2.1) (s + 4) D.2.2.1) (s + 5) D.2.2.2.1) (s + 6) D.2.2.2.2) s (n - k) (q : Int) = 0 ∨ kuA (sr (sr (sr (sr (sr I s (un D.1 1 (dN (smI N n k) 8))) (s + 3) D.2.1) (s + 4) D.2.2.1) (s + 5) D.2.2.2.1) (s + 6) D.2.2.2.2) s (n - k) (q : Int) = 1 := bi_01 _; have her := erF_rng (p := q) hX.2.2.1; unfold w32; omega) ?_
        refine r_putfi (pc := 62) cks dX0_tellSample_62 fl_X0_64 (pf_9_4 _ _) rfl (kS0 hS) (ltS0 hS) ?_
        refine r_mem (I2 := sr (sr (sr (sr (sr I s (un (un D.1 1 (dN (smI N n k) 8)) 4 (erF (smI N n k) q))) (s + 3) D.2.1) (s + 4) D.2.2.1) (s + 5) D.2.2.2.1) (s + 6) D.2.2.2.2) ((up2_row _ _ _ _).trans ((congrArg (fun fz_ => sr (sr (sr (sr (sr (sr I s (un D.1 1 (dN (smI N n k) 8))) (s + 3) D.2.1) (s + 4) D.2.2.1) (s + 5) D.2.2.2.1) (s + 6) D.2.2.2.2) s (un fz_ 4 (erF (smI N n k) q))) (show (sr (sr (sr (sr (sr I s (un D.1 1 (dN (smI N n k) 8))) (s + 3) D.2.1) (s + 4) D.2.2.1) (s + 5) D.2.2.2.1) (s + 6) D.2.2.2.2) s = un D.1 1 (dN (smI N n k) 8) from (sr_ne (by omega)).trans ((sr_ne (by omega)).trans ((sr_ne (by omega)).trans ((sr_ne (by omega)).trans (sr_row _ _ _)))))).trans ((sr_comm (by omega)).trans (congrArg (fun J => sr J (s + 6) D.2.2.2.2) ((sr_comm (by omega)).trans (congrArg (fun J => sr J (s + 5) D.2.2.2.1) ((sr_comm (by omega)).trans (congrArg (fun J => sr J (s + 4) D.2.2.1) ((sr_comm (by omega)).trans (congrArg (fun J => sr J (s + 3) D.2.1) (sr_sr _ _ _ _))))))))))) ?_
        refine r_aload_n (pc := 65) (i := 1) dX0_tellSample_65 rfl rfl ?_
        refine r_getfr (pc := 66) (b := s + 3) cks dX0_tellSample_66 fl_X0_45 rfl (kS0 hS) (ltS0 hS) (rS0_11 hS) ?_
        refine r_iload (pc := 69) (i := 5) dX0_tellSample_69 rfl ?_
        refine r_callV0 (pc := 71) (d - 1) [aI ((q : Nat) : Int)] dX0_tellSample_71 (CV.mk2 mk_X3_drop lk_X0_71) (RC.of (ltS (k := 3) hS (by omega)) (kS3 hS) (by decide) rfl) rfl rfl (by omega) (Nat.le_of_ble_eq_true rfl) (Nat.le_of_ble_eq_true rfl) (k_drop (n := n - k) (k := q) hS (by omega) ((congrFun (show (sr (sr (sr (sr (sr I s (un (un D.1 1 (dN (smI N n k) 8)) 4 (erF (smI N n k) q))) (s + 3) D.2.1) (s + 4) D.2.2.1) (s + 5) D.2.2.2.1) (s + 6) D.2.2.2.2) (s + 3) = D.2.1 from (sr_ne (by omega)).trans ((sr_ne (by omega)).trans ((sr_ne (by omega)).trans (sr_row _ _ _)))) 0).trans hP.2.2.2.1) (by omega) hqz ?_)
        refine ⟨rfl, fun _ => ?_⟩
        refine r_mem (I2 := sr (sr (sr (sr (sr I s (un (un D.1 1 (dN (smI N n k) 8)) 4 (erF (smI N n k) q))) (s + 3) (un D.2.1 0 ((n - k - 1 : Nat) : Int))) (s + 4) (cpyR D.2.2.1 (q + 1) D.2.2.1 q (n - k - 1 - q))) (s + 5) (cpyR D.2.2.2.1 (q + 1) D.2.2.2.1 q (n - k - 1 - q))) (s + 6) (cpyR D.2.2.2.2 (q + 1) D.2.2.2.2 q (n - k - 1 - q))) ((congr (congr (congr (congr (congr (congr (congrArg (fun v0_ v1_ v2_ v3_ v4_ v5_ v6_ => (sr (sr (sr (sr (sr (sr (sr (sr (sr I s (un (un D.1 1 (dN (smI N n k) 8)) 4 (erF (smI N n k) q))) (s + 3) D.2.1) (s + 4) D.2.2.1) (s + 5) D.2.2.2.1) (s + 6) D.2.2.2.2) (s + 3) (un v0_ 0 ((n - k - 1 : Nat) : Int))) (s + 4) (cpyR v1_ (q + 1) v2_ q (n - k - 1 - q))) (s + 5) (cpyR v3_ (q + 1) v4_ q (n - k - 1 - q))) (s + 6) (cpyR v5_ (q + 1) v6_ q (n - k - 1 - q)))) (show (sr (sr (sr (sr (sr I s (un (un D.1 1 (dN (smI N n k) 8)) 4 (erF (smI N n k) q))) (s + 3) D.2.1) (s + 4) D.2.2.1) (s + 5) D.2.2.2.1) (s + 6) D.2.2.2.2) (s + 3) = D.2.1 from (sr_ne (by omega)).trans ((sr_ne (by omega)).trans ((sr_ne (by omega)).trans (sr_row _ _ _))))) (show (sr (sr (sr (sr (sr I s (un (un D.1 1 (dN (smI N n k) 8)) 4 (erF (smI N n k) q))) (s + 3) D.2.1) (s + 4) D.2.2.1) (s + 5) D.2.2.2.1) (s + 6) D.2.2.2.2) (s + 4) = D.2.2.1 from (sr_ne (by omega)).trans ((sr_ne (by omega)).trans (sr_row _ _ _)))) (show (sr (sr (sr (sr (sr I s (un (un D.1 1 (dN (smI N n k) 8)) 4 (erF (smI N n k) q))) (s + 3) D.2.1) (s + 4) D.2.2.1) (s + 5) D.2.2.2.1) (s + 6) D.2.2.2.2) (s + 4) = D.2.2.1 from (sr_ne (by omega)).trans ((sr_ne (by omega)).trans (sr_row _ _ _)))) (show (sr (sr (sr (sr (sr I s (un (un D.1 1 (dN (smI N n k) 8)) 4 (erF (smI N n k) q))) (s + 3) D.2.1) (s + 4) D.2.2.1) (s + 5) D.2.2.2.1) (s + 6) D.2.2.2.2) (s + 5) = D.2.2.2.1 from (sr_ne (by omega)).trans (sr_row _ _ _))) (show (sr (sr (sr (sr (sr I s (un (un D.1 1 (dN (smI N n k) 8)) 4 (erF (smI N n k) q))) (s + 3) D.2.1) (s + 4) D.2.2.1) (s + 5) D.2.2.2.1) (s + 6) D.2.2.2.2) (s + 5) = D.2.2.2.1 from (sr_ne (by omega)).trans (sr_row _ _ _))) (show (sr (sr (sr (sr (sr I s (un (un D.1 1 (dN (smI N n k) 8)) 4 (erF (smI N n k) q))) (s + 3) D.2.1) (s + 4) D.2.2.1) (s + 5) D.2.2.2.1) (s + 6) D.2.2.2.2) (s + 6) = D.2.2.2.2 from sr_row _ _ _)) (show (sr (sr (sr (sr (sr I s (un (un D.1 1 (dN (smI N n k) 8)) 4 (erF (smI N n k) q))) (s + 3) D.2.1) (s + 4) D.2.2.1) (s + 5) D.2.2.2.1) (s + 6) D.2.2.2.2) (s + 6) = D.2.2.2.2 from sr_row _ _ _)).trans ((congrArg (fun X => sr X (s + 6) (cpyR D.2.2.2.2 (q + 1) D.2.2.2.2 q (n - k - 1 - q))) ((congrArg (fun X => sr X (s + 5) (cpyR D.2.2.2.1 (q + 1) D.2.2.2.1 q (n - k - 1 - q))) ((congrArg (fun X => sr X (s + 4) (cpyR D.2.2.1 (q + 1) D.2.2.1 q (n - k - 1 - q))) ((sr_comm (by omega)).trans (congrArg (fun J => sr J (s + 6) D.2.2.2.2) ((sr_comm (by omega)).trans (congrArg (fun J => sr J (s + 5) D.2.2.2.1) ((sr_comm (by omega)).trans (congrArg (fun J => sr J (s + 4) D.2.2.1) (sr_sr _ _ _ _)))))))).trans ((sr_comm (by omega)).trans (congrArg (fun J => sr J (s + 6) D.2.2.2.2) ((sr_comm (by omega)).trans (congrArg (fun J => sr J (s + 5) D.2.2.2.1) (sr_sr _ _ _ _))))))).trans ((sr_comm (by omega)).trans (congrArg (fun J => sr J (s + 6) D.2.2.2.2) (sr_sr _ _ _ _))))).trans (sr_sr _ _ _ _))) ?_
        refine r_iincN (pc := 74) (i := 3) (c := ((k + 1 : Nat) : Int)) (lv' := [_, _, _, _, _, _]) dX0_tellSample_74 rfl (by decide) (by unfold w32; omega) rfl ?_
        refine r_iincN (pc := 77) (i := 4) (c := ((k + 1 : Nat) : Int)) (lv' := [_, _, _, _, _, _]) dX0_tellSample_77 rfl (by decide) (by unfold w32; omega) rfl ?_
        refine r_goto (pc := 80) (tgt := 5) dX0_tellSample_80 rfl ?_
        refine Ev.weak (lv2 := [some (aR a), some (aR s), some (aR u), some (aI ((k + 1 : Nat) : Int)), some (aI ((k + 1 : Nat) : Int)), none]) ⟨Or.inr rfl, Or.inr rfl, Or.inr rfl, Or.inr rfl, Or.inr rfl, Or.inl rfl, trivial⟩ ?_
        exact ih (k + 1) (un (un D.1 1 (dN (smI N n k) 8)) 4 (erF (smI N n k) q), un D.2.1 0 ((n - k - 1 : Nat) : Int), cpyR D.2.2.1 (q + 1) D.2.2.1 q (n - k - 1 - q), cpyR D.2.2.2.1 (q + 1) D.2.2.2.1 q (n - k - 1 - q), cpyR D.2.2.2.2 (q + 1) D.2.2.2.2 q (n - k - 1 - q)) ⟨by omega, by omega, by rw [show n - (k + 1) = n - k - 1 by omega]; exact hst⟩ (by omega)
      · refine r_iconst (pc := 56) dX0_tellSample_56 (in32_of rfl) ?_
        refine r_goto (pc := 57) (tgt := 61) dX0_tellSample_57 rfl ?_
        refine r_iaddN (pc := 61) (c := (erF (smI N n k) q)) dX0_tellSample_61 (by have hke := kuA_er (J := sr (sr (sr (sr (sr I s (un D.1 1 (dN (smI N n k) 8))) (s + 3) D.2.1) (s + 4) D.2.2.1) (s + 5) D.2.2.2.1) (s + 6) D.2.2.2.2) (s := s) (M := smI N n k) hqz ((congrFun (show (sr (sr (sr (sr (sr I s (un D.1 1 (dN (smI N n k) 8))) (s + 3) D.2.1) (s + 4) D.2.2.1) (s + 5) D.2.2.2.1) (s + 6) D.2.2.2.2) (s + 4) = D.2.2.1 from (sr_ne (by omega)).trans ((sr_ne (by omega)).trans (sr_row _ _ _))) q).trans hcq.1) ((congrFun (show (sr (sr (sr (sr (sr I s (un D.1 1 (dN (smI N n k) 8))) (s + 3) D.2.1) (s + 4) D.2.2.1) (s + 5) D.2.2.2.1) (s + 6) D.2.2.2.2) (s + 5) = D.2.2.2.1 from (sr_ne (by omega)).trans (sr_row _ _ _)) q).trans hcq.2.1); have hk01 : kuA (sr (sr (sr (sr (sr I s (un D.1 1 (dN (smI N n k) 8))) (s + 3) D.2.1) (s + 4) D.2.2.1) (s + 5) D.2.2.2.1) (s + 6) D.2.2.2.2) s (n - k) (q : Int) = 0 ∨ kuA (sr (sr (sr (sr (sr I s (un D.1 1 (dN (smI N n k) 8))) (s + 3) D.2.1) (s + 4) D.2.2.1) (s + 5) D.2.2.2.1) (s + 6) D.2.2.2.2) s (n - k) (q : Int) = 1 := bi_01 _; have her := erF_rng (p := q) hX.2.2.1; unfold w32; omega) ?_
        refine r_putfi (pc := 62) cks dX0_tellSample_62 fl_X0_64 (pf_9_4 _ _) rfl (kS0 hS) (ltS0 hS) ?_
        refine r_mem (I2 := sr (sr (sr (sr (sr I s (un (un D.1 1 (dN (smI N n k) 8)) 4 (erF (smI N n k) q))) (s + 3) D.2.1) (s + 4) D.2.2.1) (s + 5) D.2.2.2.1) (s + 6) D.2.2.2.2) ((up2_row _ _ _ _).trans ((congrArg (fun fz_ => sr (sr (sr (sr (sr (sr I s (un D.1 1 (dN (smI N n k) 8))) (s + 3) D.2.1) (s + 4) D.2.2.1) (s + 5) D.2.2.2.1) (s + 6) D.2.2.2.2) s (un fz_ 4 (erF (smI N n k) q))) (show (sr (sr (sr (sr (sr I s (un D.1 1 (dN (smI N n k) 8))) (s + 3) D.2.1) (s + 4) D.2.2.1) (s + 5) D.2.2.2.1) (s + 6) D.2.2.2.2) s = un D.1 1 (dN (smI N n k) 8) from (sr_ne (by omega)).trans ((sr_ne (by omega)).trans ((sr_ne (by omega)).trans ((sr_ne (by omega)).trans (sr_row _ _ _)))))).trans ((sr_comm (by omega)).trans (congrArg (fun J => sr J (s + 6) D.2.2.2.2) ((sr_comm (by omega)).trans (congrArg (fun J => sr J (s + 5) D.2.2.2.1) ((sr_comm (by omega)).trans (congrArg (fun J => sr J (s + 4) D.2.2.1) ((sr_comm (by omega)).trans (congrArg (fun J => sr J (s + 3) D.2.1) (sr_sr _ _ _ _))))))))))) ?_
        refine r_aload_n (pc := 65) (i := 1) dX0_tellSample_65 rfl rfl ?_
        refine r_getfr (pc := 66) (b := s + 3) cks dX0_tellSample_66 fl_X0_45 rfl (kS0 hS) (ltS0 hS) (rS0_11 hS) ?_
        refine r_iload (pc := 69) (i := 5) dX0_tellSample_69 rfl ?_
        refine r_callV0 (pc := 71) (d - 1) [aI ((q : Nat) : Int)] dX0_tellSample_71 (CV.mk2 mk_X3_drop lk_X0_71) (RC.of (ltS (k := 3) hS (by omega)) (kS3 hS) (by decide) rfl) rfl rfl (by omega) (Nat.le_of_ble_eq_true rfl) (Nat.le_of_ble_eq_true rfl) (k_drop (n := n - k) (k := q) hS (by omega) ((congrFun (show (sr (sr (sr (sr (sr I s (un (un D.1 1 (dN (smI N n k) 8)) 4 (erF (smI N n k) q))) (s + 3) D.2.1) (s + 4) D.2.2.1) (s + 5) D.2.2.2.1) (s + 6) D.2.2.2.2) (s + 3) = D.2.1 from (sr_ne (by omega)).trans ((sr_ne (by omega)).trans ((sr_ne (by omega)).trans (sr_row _ _ _)))) 0).trans hP.2.2.2.1) (by omega) hqz ?_)
        refine ⟨rfl, fun _ => ?_⟩
        refine r_mem (I2 := sr (sr (sr (sr (sr I s (un (un D.1 1 (dN (smI N n k) 8)) 4 (erF (smI N n k) q))) (s + 3) (un D.2.1 0 ((n - k - 1 : Nat) : Int))) (s + 4) (cpyR D.2.2.1 (q + 1) D.2.2.1 q (n - k - 1 - q))) (s + 5) (cpyR D.2.2.2.1 (q + 1) D.2.2.2.1 q (n - k - 1 - q))) (s + 6) (cpyR D.2.2.2.2 (q + 1) D.2.2.2.2 q (n - k - 1 - q))) ((congr (congr (congr (congr (congr (congr (congrArg (fun v0_ v1_ v2_ v3_ v4_ v5_ v6_ => (sr (sr (sr (sr (sr (sr (sr (sr (sr I s (un (un D.1 1 (dN (smI N n k) 8)) 4 (erF (smI N n k) q))) (s + 3) D.2.1) (s + 4) D.2.2.1) (s + 5) D.2.2.2.1) (s + 6) D.2.2.2.2) (s + 3) (un v0_ 0 ((n - k - 1 : Nat) : Int))) (s + 4) (cpyR v1_ (q + 1) v2_ q (n - k - 1 - q))) (s + 5) (cpyR v3_ (q + 1) v4_ q (n - k - 1 - q))) (s + 6) (cpyR v5_ (q + 1) v6_ q (n - k - 1 - q)))) (show (sr (sr (sr (sr (sr I s (un (un D.1 1 (dN (smI N n k) 8)) 4 (erF (smI N n k) q))) (s + 3) D.2.1) (s + 4) D.2.2.1) (s + 5) D.2.2.2.1) (s + 6) D.2.2.2.2) (s + 3) = D.2.1 from (sr_ne (by omega)).trans ((sr_ne (by omega)).trans ((sr_ne (by omega)).trans (sr_row _ _ _))))) (show (sr (sr (sr (sr (sr I s (un (un D.1 1 (dN (smI N n k) 8)) 4 (erF (smI N n k) q))) (s + 3) D.2.1) (s + 4) D.2.2.1) (s + 5) D.2.2.2.1) (s + 6) D.2.2.2.2) (s + 4) = D.2.2.1 from (sr_ne (by omega)).trans ((sr_ne (by omega)).trans (sr_row _ _ _)))) (show (sr (sr (sr (sr (sr I s (un (un D.1 1 (dN (smI N n k) 8)) 4 (erF (smI N n k) q))) (s + 3) D.2.1) (s + 4) D.2.2.1) (s + 5) D.2.2.2.1) (s + 6) D.2.2.2.2) (s + 4) = D.2.2.1 from (sr_ne (by omega)).trans ((sr_ne (by omega)).trans (sr_row _ _ _)))) (show (sr (sr (sr (sr (sr I s (un (un D.1 1 (dN (smI N n k) 8)) 4 (erF (smI N n k) q))) (s + 3) D.2.1) (s + 4) D.2.2.1) (s + 5) D.2.2.2.1) (s + 6) D.2.2.2.2) (s + 5) = D.2.2.2.1 from (sr_ne (by omega)).trans (sr_row _ _ _))) (show (sr (sr (sr (sr (sr I s (un (un D.1 1 (dN (smI N n k) 8)) 4 (erF (smI N n k) q))) (s + 3) D.2.1) (s + 4) D.2.2.1) (s + 5) D.2.2.2.1) (s + 6) D.2.2.2.2) (s + 5) = D.2.2.2.1 from (sr_ne (by omega)).trans (sr_row _ _ _))) (show (sr (sr (sr (sr (sr I s (un (un D.1 1 (dN (smI N n k) 8)) 4 (erF (smI N n k) q))) (s + 3) D.2.1) (s + 4) D.2.2.1) (s + 5) D.2.2.2.1) (s + 6) D.2.2.2.2) (s + 6) = D.2.2.2.2 from sr_row _ _ _)) (show (sr (sr (sr (sr (sr I s (un (un D.1 1 (dN (smI N n k) 8)) 4 (erF (smI N n k) q))) (s + 3) D.2.1) (s + 4) D.2.2.1) (s + 5) D.2.2.2.1) (s + 6) D.2.2.2.2) (s + 6) = D.2.2.2.2 from sr_row _ _ _)).trans ((congrArg (fun X => sr X (s + 6) (cpyR D.2.2.2.2 (q + 1) D.2.2.2.2 q (n - k - 1 - q))) ((congrArg (fun X => sr X (s + 5) (cpyR D.2.2.2.1 (q + 1) D.2.2.2.1 q (n - k - 1 - q))) ((congrArg (fun X => sr X (s + 4) (cpyR D.2.2.1 (q + 1) D.2.2.1 q (n - k - 1 - q))) ((sr_comm (by omega)).trans (congrArg (fun J => sr J (s + 6) D.2.2.2.2) ((sr_comm (by omega)).trans (congrArg (fun J => sr J (s + 5) D.2.2.2.1) ((sr_comm (by omega)).trans (congrArg (fun J => sr J (s + 4) D.2.2.1) (sr_sr _ _ _ _)))))))).trans ((sr_comm (by omega)).trans (congrArg (fun J => sr J (s + 6) D.2.2.2.2) ((sr_comm (by omega)).trans (congrArg (fun J => sr J (s + 5) D.2.2.2.1) (sr_sr _ _ _ _))))))).trans ((sr_comm (by omega)).trans (congrArg (fun J => sr J (s + 6) D.2.2.2.2) (sr_sr _ _ _ _))))).trans (sr_sr _ _ _ _))) ?_
        refine r_iincN (pc := 74) (i := 3) (c := ((k + 1 : Nat) : Int)) (lv' := [_, _, _, _, _, _]) dX0_tellSample_74 rfl (by decide) (by unfold w32; omega) rfl ?_
        refine r_iincN (pc := 77) (i := 4) (c := ((k + 1 : Nat) : Int)) (lv' := [_, _, _, _, _, _]) dX0_tellSample_77 rfl (by decide) (by unfold w32; omega) rfl ?_
        refine r_goto (pc := 80) (tgt := 5) dX0_tellSample_80 rfl ?_
        refine Ev.weak (lv2 := [some (aR a), some (aR s), some (aR u), some (aI ((k + 1 : Nat) : Int)), some (aI ((k + 1 : Nat) : Int)), none]) ⟨Or.inr rfl, Or.inr rfl, Or.inr rfl, Or.inr rfl, Or.inr rfl, Or.inl rfl, trivial⟩ ?_
        exact ih (k + 1) (un (un D.1 1 (dN (smI N n k) 8)) 4 (erF (smI N n k) q), un D.2.1 0 ((n - k - 1 : Nat) : Int), cpyR D.2.2.1 (q + 1) D.2.2.1 q (n - k - 1 - q), cpyR D.2.2.2.1 (q + 1) D.2.2.2.1 q (n - k - 1 - q), cpyR D.2.2.2.2 (q + 1) D.2.2.2.2 q (n - k - 1 - q)) ⟨by omega, by omega, by rw [show n - (k + 1) = n - k - 1 by omega]; exact hst⟩ (by omega)
end C8

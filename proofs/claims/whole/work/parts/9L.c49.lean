section C49
variable {G : Gl} {d : Nat} {T : Sh} {I : Mi} {N : Nat → Int} {Q : Option AV → Sh → Mi → Prop}
theorem Oin_md {M : Nat → Int} {x : Nat} (hx : x < 256) (h : Oin M) : Oin (mdF M x) := fun j h1 h2 => by rw [md_lo (by omega) (by omega)]; exact h j h1 h2
theorem Oin_ask {M : Nat → Int} {p b m : Nat} (h : Oin M) : Oin (askF M p b m) := fun j h1 h2 => by rw [ak_lo (by omega) (by omega)]; exact h j h1 h2
theorem No2_hv {p : Nat} (hp : p < 6) : ∀ u M b r, No2 M → Oin M → b + r ≤ 256 → 1 ≤ r → No2 (hvS p u M b r) ∧ Oin (hvS p u M b r) := by
  intro u
  induction u with
  | zero =>
    intro M b r h1 h2 h3 h4
    have := (oP_rd (p := p) (k := b) h2 (by omega)).2
    exact ⟨No2_md this h1, Oin_md this h2⟩
  | succ u ih =>
    intro M b r h1 h2 h3 h4
    rw [hvS_succ]
    split
    · have := (oP_rd (p := p) (k := b) h2 (by omega)).2
      exact ⟨No2_md this h1, Oin_md this h2⟩
    · split
      · exact ih _ _ _ (No2_ask h1) (Oin_ask h2) (by omega) (by omega)
      · exact ih _ _ _ (No2_ask h1) (Oin_ask h2) (by omega) (by omega)
theorem No2_mn {B n q a : Nat} (hq : q < 6) (hn : n ≤ 256) (hB : 0 < B) (ha : a ≤ n) : ∀ u M, No2 M → Oin M → No2 (mnS B n q a u M) ∧ Oin (mnS B n q a u M) := by
  intro u
  induction u with
  | zero => intro M h1 h2; exact ⟨h1, h2⟩
  | succ u ih =>
    intro M h1 h2
    cases e : fdF M B n q a with
    | none => rw [mnS_none e]; exact ⟨h1, h2⟩
    | some t =>
      rw [mnS_some e]
      obtain ⟨g1, g2, g3, g4, _⟩ := fdP_ok (N := M) (n := n) (q := q) (a := a) hB (q + 1) (Nat.le_refl _) t e
      have g5 : t.2.2 < n := by unfold endO at g2; split at g2 <;> omega
      have hp : 0 < B * 2 ^ t.2.1 := Nat.mul_pos hB (Nat.two_pow_pos _)
      have hl : 0 < lnB n (B * 2 ^ t.2.1) t.2.2 ∧ t.2.2 + lnB n (B * 2 ^ t.2.1) t.2.2 ≤ n := by unfold lnB; omega
      have h := No2_hv (p := t.2.1) (by omega) 8 M t.2.2 (lnB n (B * 2 ^ t.2.1) t.2.2) h1 h2 (by omega) (by omega)
      exact ih _ h.1 h.2
theorem No2_ps {B n q : Nat} {M : Nat → Int} (hq : q < 6) (hn : n ≤ 256) (hB : 0 < B) (h1 : No2 M) (h2 : Oin M) : ∀ k, k ≤ nbk n (B * 2 ^ q) → No2 (psS B n q M k) ∧ Oin (psS B n q M k) := by
  intro k
  induction k with
  | zero => intro _; exact ⟨h1, h2⟩
  | succ k ih =>
    intro hk
    have h := ih (by omega)
    have hp : 0 < B * 2 ^ q := Nat.mul_pos hB (Nat.two_pow_pos _)
    have hlt := (nbk_lt hp).mp (show k < nbk n (B * 2 ^ q) by omega)
    have hl : 0 < lnB n (B * 2 ^ q) (k * (B * 2 ^ q)) ∧ k * (B * 2 ^ q) + lnB n (B * 2 ^ q) (k * (B * 2 ^ q)) ≤ n := by unfold lnB; omega
    rw [psS_succ]
    unfold psT
    split
    · have g := No2_hv (p := q) hq 8 _ (k * (B * 2 ^ q)) (lnB n (B * 2 ^ q) (k * (B * 2 ^ q))) (No2_ask (p := q) (b := k * (B * 2 ^ q)) (m := lnB n (B * 2 ^ q) (k * (B * 2 ^ q))) h.1) (Oin_ask h.2) (by omega) (by omega)
      exact No2_mn hq hn hB hl.2 256 _ g.1 g.2
    · exact ⟨No2_ask h.1, Oin_ask h.2⟩
theorem No2_psF {B q : Nat} {N : Nat → Int} (hB : 2 ≤ B) (hR : Rng N) (hq : N 2 = (q : Int)) (hq6 : q < 6) (h : No2 N) : No2 (psF B N) := by
  have hn := nN_le hR
  have hs := shF_ok (p := q) hR hq6 hn
  have h1 : No2 (shF N q (nN N)) := No2_lo h (sh_t hR hq6 hn) (fun k hk => hs.2.1 _ (by omega) (by omega))
  have h2 := No2_ps (B := B) hq6 hn (by omega) h1 (Rng_O hs.1) (nbk (nN N) (B * 2 ^ q)) (Nat.le_refl _)
  unfold psF
  rw [show (N 2).toNat = q by omega]
  exact No2_lo h2.1 (by unfold tN; rw [un_ne (by decide), un_ne (by decide)]) (fun k hk => by rw [un_ne (by omega), un_ne (by omega)])
theorem No2_pc {B q : Nat} {N : Nat → Int} (hB : 2 ≤ B) (hp : pOK N q) (h : No2 N) : ∀ k, q + k ≤ 6 → No2 (pcI B N k) := by
  intro k
  induction k with
  | zero => intro _; exact h
  | succ k ih =>
    intro hk
    have hpk := (pc_ok hB hp k (by omega)).1
    exact No2_psF hB hpk.1 hpk.2.1 (by omega) (ih (by omega))
theorem No2_nb {M : Nat → Int} {e : Nat} (h : No2 M) : ∀ j, No2 (nbM M e j) := by
  intro j
  induction j with
  | zero => exact No2_tl h (by decide +kernel)
  | succ j ih => exact No2_tl ih (by decide +kernel)
theorem No2_wn {N : Nat → Int} (h : No2 N) : ∀ e, e ≤ 32 → No2 (wnS N e) := by
  intro e
  induction e with
  | zero => intro _; exact h
  | succ e ih =>
    intro he
    have hi := ih (by omega)
    rw [wnS_succ]
    unfold wnT
    split
    · exact No2_tl hi (by decide +kernel)
    · have hv := nbV_3 (wnS N e) e
      exact No2_md (by omega) (No2_nb hi 3)
theorem No2_wnF {N : Nat → Int} {n : Nat} (hn : n ≤ 256) (h : No2 N) : No2 (wnF N n) :=
  No2_lo (No2_wn h (n / 8) (by omega)) (by unfold tN wnF; rw [un_ne (by decide), un_ne (by decide)]) (fun k hk => by unfold wnF; rw [un_ne (by omega), un_ne (by omega)])
theorem No2_0 {N : Nat → Int} (h : tN N = 0) : No2 N := fun k hk => absurd hk (by omega)
theorem LdOk_0 {N : Nat → Int} {q n : Nat} (h : tN N = 0) : LdOk N q n := fun k hk => absurd hk (by omega)
theorem PmO_0 {N : Nat → Int} (hR : Rng N) : PmO N 0 (nN N) := ⟨hR, nN_rd hR, nN_le hR, by decide, fun q hq => absurd hq (Nat.not_lt_zero q), fun q hq => absurd hq (Nat.not_lt_zero q), fun q hq => absurd hq (Nat.not_lt_zero q)⟩
theorem ga1_X {L X : Nat → Int} {sd : Int} {N : Nat → Int} (h1 : X 1 = sd) (hX : ∀ j, j ≠ 1 → X j = L j) : ga1 X (X 1) N = ga1 L sd N := by
  unfold ga1
  rw [h1, hX 0 (by decide), hX 2 (by decide), hX 3 (by decide)]
theorem plO1_X {L X : Nat → Int} {sd : Int} (hL : plOk L) (h1 : X 1 = sd) (hX : ∀ j, j ≠ 1 → X j = L j) (s0 : 0 ≤ sd) (s1 : sd < 2147483648) : plO1 X := by
  unfold plO1
  rw [h1, hX 0 (by decide), hX 2 (by decide), hX 3 (by decide), hX 4 (by decide), hX 5 (by decide), hX 6 (by decide), hX 7 (by decide), hX 8 (by decide)]
  exact ⟨hL.1, ⟨s0, s1⟩, hL.2.2⟩
theorem ga1_lo {L : Nat → Int} {sd : Int} {N : Nat → Int} : ga1 L sd N 2 = 0 ∧ ga1 L sd N 3 = 0 ∧ ga1 L sd N 6 = 0 ∧ tN (ga1 L sd N) = 0 := by
  have e : ∀ j, j = 2 ∨ j = 3 ∨ j = 6 → ga1 L sd N j = 0 := fun j hj => (bg_lo (by omega) (by omega) (by omega) (by omega)).trans (if_neg (by omega))
  exact ⟨e 2 (by omega), e 3 (by omega), e 6 (by omega), by unfold tN; rw [e 3 (by omega)]; rfl⟩
theorem sg_X {L X N : Nat → Int} (hL : plOk L) (hX : ∀ j, j ≠ 1 → X j = L j) : (sgV X N).toNat ≤ 256 := by
  unfold sgV
  have := hL.1
  rw [hX 0 (by decide)]
  split <;> omega
/-- the whole of a plan, done: what a State shows then -/
theorem ck_st {L : Nat → Int} {sd : Int} {N : Nat → Int} : (ga4 L sd N 0 = 6 ↔ gaC L sd N = 0) ∧ (ga4 L sd N 0 = 4 ↔ ¬ gaC L sd N = 0) := by
  unfold ga4 ckF gaC
  rw [un_at]
  by_cases g : isC (rwS (ga3 L sd N) 2580 (nN (ga3 L sd N) + (L 7).toNat - 1)) (nN (ga3 L sd N)) (L 7).toNat = 0
  · rw [if_pos g]; exact ⟨⟨fun _ => g, fun _ => rfl⟩, ⟨fun h => absurd h (by decide), fun h => absurd g h⟩⟩
  · rw [if_neg g]; exact ⟨⟨fun h => absurd h (by decide), fun h => absurd h g⟩, ⟨fun _ => g, fun _ => rfl⟩⟩
theorem k_runWhole {v u a m : Nat} {sd : Int} {L : Nat → Int} {s p o t c : Nat} (hS : ShS T s p o t c) (hv : TrO T v s u a m)  (hd : 6 ≤ d) (hLp : plOk L) (hL : ∀ j, j < 9 → j ≠ 1 → I (u + 1) j = L j) (hs0 : 0 ≤ sd) (hs1 : sd < 2147483648) (hq : ∀ (U : Sh) (K : Mi) (p2 o2 t2 c2 n : Nat), AcP T U I K s p o t c p2 o2 t2 c2 L ((gaR L sd N).2) (0 + (L 6).toNat) n u 9 → (∀ j, j < 9 → j ≠ 1 → K (u + 1) j = L j) → Q none U K) : EvE G mX10_runWhole d [aR v, aI sd] T I Q := by
  have hu := hv.2.1.1
  have ha := hv.2.1.2.1
  have hm := hv.2.1.2.2
  have hvn := hv.2.2
  have hm0 := hm.1
  have hs00 := hS.1
  obtain ⟨X, hXe⟩ : ∃ X, X = un L 1 sd := ⟨_, rfl⟩
  have hX1 : X 1 = sd := by rw [hXe, un_at]
  have hX : ∀ j, j ≠ 1 → X j = L j := fun j hj => by rw [hXe, un_ne hj]
  have g1 := ga_1 (N := N) hLp hs0 hs1
  have g1l := ga1_lo (L := L) (sd := sd) (N := N)
  have g2 := ga_2 (N := N) hLp hs0 hs1
  have g3 := ga_3 (N := N) hLp hs0 hs1
  have g3t := ga_3t (N := N) hLp hs0 hs1
  have g4 := ga_4 (N := N) hLp hs0 hs1
  have hpl := hLp
  unfold plOk at hpl
  refine EvE.mk (lv0 := [some (aR v), some (aI sd), none]) (Nat.le_of_ble_eq_true rfl) (by decide +kernel) rfl ?_
  refine r_aload_n (pc := 0) (i := 0) dX10_runWhole_0 rfl rfl ?_
  refine r_getfr (pc := 1) (b := u) cks dX10_runWhole_1 fl_X10_21 rfl hv.1.1 hv.1.2.1 hv.1.2.2.2.1 ?_
  refine r_iconst (pc := 4) dX10_runWhole_4 (in32_of rfl) ?_
  refine r_iload_n (pc := 5) (i := 1) dX10_runWhole_5 rfl rfl ?_
  refine r_callV0 (pc := 6) (d - 1) [aI 1, aI sd] dX10_runWhole_6 (CV.mk2 mk_X6_put lk_X10_88) (RC.of (ltP0 hu) (kP0 hu) (by decide) rfl) rfl rfl (by omega) (Nat.le_of_ble_eq_true rfl) (Nat.le_of_ble_eq_true rfl) (k_put (i := 1) (x := sd) hu (by decide) ?_)
  refine ⟨rfl, fun _ => ?_⟩
  refine r_mem (I2 := sr I (u + 1) (un (I (u + 1)) 1 sd)) ((congrArg (fun v0_ => (sr I (u + 1) (un v0_ 1 sd))) (show I (u + 1) = I (u + 1) from rfl)).trans (rfl)) ?_
  obtain ⟨K0, hK0⟩ : ∃ K0, K0 = sr I (u + 1) (un (I (u + 1)) 1 sd) := ⟨_, rfl⟩
  rw [← hK0]
  have hrow0 : ∀ j, j < 9 → K0 (u + 1) j = X j := fun j hj => by rw [hK0, sr_row]; by_cases g : j = 1; (rw [g, un_at, hX1]); rw [un_ne g, hX j g]; exact hL j hj g
  have hfr0 : ∀ b, b < u ∨ u + 9 ≤ b → K0 b = I b := fun b hb => by rw [hK0]; exact sr_ne (by omega)
  refine r_aload_n (pc := 9) (i := 0) dX10_runWhole_9 rfl rfl ?_
  refine r_getfr (pc := 10) (b := a) cks dX10_runWhole_10 fl_X10_28 rfl hv.1.1 hv.1.2.1 hv.1.2.2.2.2.1 ?_
  refine r_aload_n (pc := 13) (i := 0) dX10_runWhole_13 rfl rfl ?_
  refine r_getfr (pc := 14) (b := s) cks dX10_runWhole_14 fl_X10_12 rfl hv.1.1 hv.1.2.1 hv.1.2.2.1 ?_
  refine r_aload_n (pc := 17) (i := 0) dX10_runWhole_17 rfl rfl ?_
  refine r_getfr (pc := 18) (b := u) cks dX10_runWhole_18 fl_X10_21 rfl hv.1.1 hv.1.2.1 hv.1.2.2.2.1 ?_
  refine r_callV0 (pc := 21) (d - 1) [aR s, aR u] dX10_runWhole_21 (CV.mk2 mk_X0_drawSignals lk_X10_111) (RC.of (ltA0 ha) (kA0 ha) (by decide) rfl) rfl rfl (by omega) (Nat.le_of_ble_eq_true rfl) (Nat.le_of_ble_eq_true rfl) (k_drawSignals (a := a) (u := u) (L := X) (N := N) hS (by omega) hu (by omega) hrow0 (plO1_X hLp hX1 hX hs0 hs1) (fun K1 hf1 hst1 => ?_))
  refine ⟨rfl, fun _ => ?_⟩
  rw [ga1_X hX1 hX] at hst1
  have hrow1 : ∀ j, j < 9 → K1 (u + 1) j = X j := fun j hj => (congrFun (hf1 (u + 1) (by omega)) j).trans (hrow0 j hj)
  refine r_aload_n (pc := 24) (i := 0) dX10_runWhole_24 rfl rfl ?_
  refine r_getfr (pc := 25) (b := a) cks dX10_runWhole_25 fl_X10_28 rfl hv.1.1 hv.1.2.1 hv.1.2.2.2.2.1 ?_
  refine r_aload_n (pc := 28) (i := 0) dX10_runWhole_28 rfl rfl ?_
  refine r_getfr (pc := 29) (b := s) cks dX10_runWhole_29 fl_X10_12 rfl hv.1.1 hv.1.2.1 hv.1.2.2.1 ?_
  refine r_aload_n (pc := 32) (i := 0) dX10_runWhole_32 rfl rfl ?_
  refine r_getfr (pc := 33) (b := u) cks dX10_runWhole_33 fl_X10_21 rfl hv.1.1 hv.1.2.1 hv.1.2.2.2.1 ?_
  refine r_callV0 (pc := 36) (d - 1) [aR s, aR u] dX10_runWhole_36 (CV.mk2 mk_X0_tellSample lk_X10_115) (RC.of (ltA0 ha) (kA0 ha) (by decide) rfl) rfl rfl (by omega) (Nat.le_of_ble_eq_true rfl) (Nat.le_of_ble_eq_true rfl) (k_tellSample (a := a) (u := u) (n := nN (ga1 L sd N)) (sn := (L 4).toNat) (L := X) (N := ga1 L sd N) hS (by omega) hu (by omega) hrow1 (plO1_X hLp hX1 hX hs0 hs1) g1.1 (nN_rd g1.1) (nN_le g1.1) (by rw [hX 4 (by decide)]) g1.2.1 g1l.1 g1l.2.1 g1.2.2 g1l.2.2.1 hst1 (fun K2 hf2 hst2 => ?_))
  refine ⟨rfl, fun _ => ?_⟩
  have hst2 : StR X K2 s p o t (ga2 L sd N) := hst2
  have hrow2 : ∀ j, j < 9 → K2 (u + 1) j = X j := fun j hj => (congrFun (hf2 (u + 1) (by omega)) j).trans (hrow1 j hj)
  obtain ⟨n, hn⟩ : ∃ n, n = nN (ga2 L sd N) := ⟨_, rfl⟩
  have hP2 : PmO (ga2 L sd N) 0 n := by rw [hn]; exact PmO_0 g2.1.1
  have hn2 := hP2.2.2.1
  have hA2 : AcP T T I K2 s p o t c p o t c X (ga2 L sd N) 0 n u 9 := ⟨hS, ⟨Ext.id _ _ _, Or.inl rfl, Or.inl rfl, Or.inl rfl⟩, fun b b0 bs _ _ _ bz => (hf2 b bs).trans ((hf1 b bs).trans (hfr0 b bz)), hst2, by rw [g2.2.2.2.2.1]; exact Nat.zero_le _, hP2, LdOk_0 g2.2.2.2.2.1⟩
  refine r_iconst (pc := 39) dX10_runWhole_39 (in32_of rfl) ?_
  refine r_istore_n (pc := 40) (i := 2) (lv' := [_, _, _]) dX10_runWhole_40 rfl (by decide) rfl ?_
  refine Ev.weak (lv2 := [some (aR v), none, some (aI 0)]) ⟨Or.inr rfl, Or.inl rfl, Or.inr rfl, trivial⟩ ?_
  refine loop2 (fun (k : Nat) (E : WE) => k ≤ (L 6).toNat ∧ AcP T E.1 K2 E.2.1 s p o t c E.2.2.1 E.2.2.2.1 E.2.2.2.2.1 E.2.2.2.2.2 X (pcI (L 5).toNat (ga2 L sd N) k) (0 + k) n m 4) (fun (k : Nat) (E : WE) => (L 6).toNat - k) (fun (k : Nat) (E : WE) => [some (aR v), none, some (aI ((k : Nat) : Int))]) (fun (k : Nat) (E : WE) => E.1) (fun (k : Nat) (E : WE) => E.2.1) ?_ 0 (T, K2, p, o, t, c) ⟨Nat.zero_le _, AcP.id (N := ga2 L sd N) hS hst2 hA2.2.2.2.2.1 hP2 (LdOk_0 g2.2.2.2.2.1)⟩
  intro k E hP ih
  have hP : k ≤ (L 6).toNat ∧ AcP T E.1 K2 E.2.1 s p o t c E.2.2.1 E.2.2.2.1 E.2.2.2.2.1 E.2.2.2.2.2 X (pcI (L 5).toNat (ga2 L sd N) k) (0 + k) n m 4 := hP
  refine (?_ : Ev G mX10_runWhole d 41 [some (aR v), none, some (aI ((k : Nat) : Int))] [] E.1 E.2.1 Q)
  have hSE := hP.2.1
  have hvE := TrO_ext hv hP.2.2.1.1
  have huE := hvE.2.1.1
  have haE := hvE.2.1.2.1
  have hmE := hvE.2.1.2.2
  have hk6 : 0 + k ≤ 6 := by omega
  have hpk := pc_ok (B := (L 5).toNat) (by omega) g2.1 k hk6
  refine r_iload_n (pc := 41) (i := 2) dX10_runWhole_41 rfl rfl ?_
  refine r_bipush (pc := 42) dX10_runWhole_42 rfl (in32_of rfl) ?_
  refine r_icmp_ge (pc := 44) (tgt := 92) dX10_runWhole_44 rfl (fun c44 => ?_) (fun c44 => ?_)
  · have hkp : k = (L 6).toNat := by omega
    subst hkp
    have hA3 : AcP T E.1 I E.2.1 s p o t c E.2.2.1 E.2.2.2.1 E.2.2.2.2.1 E.2.2.2.2.2 X (ga3 L sd N) (0 + (L 6).toNat) n u 9 := hA2.tr (by omega) (hP.2.wd (Or.inl (by omega)) (Or.inl (by omega)))
    have hn3 : nN (ga3 L sd N) = n := hA3.2.2.2.2.2.1.nn
    have hrow3 : ∀ j, j < 9 → E.2.1 (u + 1) j = X j := fun j hj => (congrFun (hP.2.fr hS (by omega) (by omega) (by omega)) j).trans (hrow2 j hj)
    have hno3 : No2 (ga3 L sd N) := No2_pc (by omega) g2.1 (No2_0 g2.2.2.2.2.1) _ hk6
    refine r_aload_n (pc := 92) (i := 0) dX10_runWhole_92 rfl rfl ?_
    refine r_getfr (pc := 93) (b := a) cks dX10_runWhole_93 fl_X10_28 rfl hvE.1.1 hvE.1.2.1 hvE.1.2.2.2.2.1 ?_
    refine r_aload_n (pc := 96) (i := 0) dX10_runWhole_96 rfl rfl ?_
    refine r_getfr (pc := 97) (b := s) cks dX10_runWhole_97 fl_X10_12 rfl hvE.1.1 hvE.1.2.1 hvE.1.2.2.1 ?_
    refine r_aload_n (pc := 100) (i := 0) dX10_runWhole_100 rfl rfl ?_
    refine r_getfr (pc := 101) (b := u) cks dX10_runWhole_101 fl_X10_21 rfl hvE.1.1 hvE.1.2.1 hvE.1.2.2.2.1 ?_
    refine r_callV0 (pc := 104) (d - 1) [aR s, aR u] dX10_runWhole_104 (CV.mk2 mk_X0_compare lk_X10_118) (RC.of (ltA0 haE) (kA0 haE) (by decide) rfl) rfl rfl (by omega) (Nat.le_of_ble_eq_true rfl) (Nat.le_of_ble_eq_true rfl) (k_compare (a := a) (u := u) (n := n) (q := 0 + (L 6).toNat) (h := (L 7).toNat) (L := X) (N := ga3 L sd N) hSE (by omega) haE (by omega) huE hrow3 (by rw [hX 7 (by decide)]; omega) (by omega) (by omega) hA3.2.2.2.1 hA3.2.2.2.2.1 hA3.2.2.2.2.2.1 hA3.2.2.2.2.2.2 hno3 hpk.1.2.1 (pc_0 (by omega) g2.1 (by rw [g2.2.1]; decide) _ hk6) g3.2.2.2 (sg_X hLp hX) (by omega) (fun V J p4 o4 t4 c4 hC => ?_))
    refine ⟨rfl, fun _ => ?_⟩
    have hC0 := hC
    have hC : AcP E.1 V E.2.1 J s E.2.2.1 E.2.2.2.1 E.2.2.2.2.1 E.2.2.2.2.2 p4 o4 t4 c4 X (ga4 L sd N) (0 + (L 6).toNat) n a 3 := by have h := hC0; rw [← hn3] at h ⊢; exact h
    have hA4 : AcP T V I J s p o t c p4 o4 t4 c4 X (ga4 L sd N) (0 + (L 6).toNat) n u 9 := hA3.tr (by omega) (hC.wd (Or.inl (by omega)) (Or.inl (by omega)))
    have hrow4 : ∀ j, j < 9 → J (u + 1) j = X j := fun j hj => (congrFun (hC.fr hSE (by omega) (by omega) (by omega)) j).trans (hrow3 j hj)
    have hn4 : nN (ga4 L sd N) = n := hA4.2.2.2.2.2.1.nn
    have hSV := hA4.1
    have hvV := TrO_ext hv hA4.2.1.1
    have huV := hvV.2.1.1
    have haV := hvV.2.1.2.1
    have hmV := hvV.2.1.2.2
    refine r_aload_n (pc := 107) (i := 0) dX10_runWhole_107 rfl rfl ?_
    refine r_getfr (pc := 108) (b := s) cks dX10_runWhole_108 fl_X10_12 rfl hvV.1.1 hvV.1.2.1 hvV.1.2.2.1 ?_
    refine r_getfi (pc := 111) cks dX10_runWhole_111 fl_X10_95 rfl (kS0 hSV) (ltS0 hSV) ?_
    refine r_top (b := (ga4 L sd N) 0) (hA4.2.2.2.1.1.1) ?_
    refine r_iconst (pc := 114) dX10_runWhole_114 (in32_of rfl) ?_
    refine r_icmp_ne (pc := 115) (tgt := 133) dX10_runWhole_115 rfl (fun c115 => ?_) (fun c115 => ?_)
    · have hgc : gaC L sd N = 0 := Decidable.of_not_not (fun h => c115 (ck_st.2.mpr h))
      have hg : (gaR L sd N).2 = ga4 L sd N := by unfold gaR; rw [if_pos hgc]
      exact r_vret (pc := 133) dX10_runWhole_133 trivial (hq _ _ _ _ _ _ n (by rw [hg]; exact hA4.L (show L 0 = X 0 from (hX 0 (by decide)).symm)) (fun j hj j1 => (hrow4 j hj).trans (hX j j1)))
    · have c115 := Decidable.of_not_not c115
      have c115 : (ga4 L sd N) 0 = 4 := by omega
      have hck := ck_ok (N := ga3 L sd N) (n := n) (h := (L 7).toNat) hA3.2.2.2.2.2.1.1 hn2 (by omega) (by omega)
      have h4e : ga4 L sd N = ckF (ga3 L sd N) n (L 7).toNat := by rw [← hn3]; rfl
      have h4_2 : (ga4 L sd N) 2 = (ga3 L sd N) 2 := by rw [h4e]; exact hck.2.2.2 2 (by decide) (by decide) (by decide) (by decide) (by omega)
      have h4_6 : (ga4 L sd N) 6 = (ga3 L sd N) 6 := by rw [h4e]; exact hck.2.2.2 6 (by decide) (by decide) (by decide) (by decide) (by omega)
      refine r_aload_n (pc := 118) (i := 0) dX10_runWhole_118 rfl rfl ?_
      refine r_getfr (pc := 119) (b := a) cks dX10_runWhole_119 fl_X10_28 rfl hvV.1.1 hvV.1.2.1 hvV.1.2.2.2.2.1 ?_
      refine r_aload_n (pc := 122) (i := 0) dX10_runWhole_122 rfl rfl ?_
      refine r_getfr (pc := 123) (b := s) cks dX10_runWhole_123 fl_X10_12 rfl hvV.1.1 hvV.1.2.1 hvV.1.2.2.1 ?_
      refine r_aload_n (pc := 126) (i := 0) dX10_runWhole_126 rfl rfl ?_
      refine r_getfr (pc := 127) (b := u) cks dX10_runWhole_127 fl_X10_21 rfl hvV.1.1 hvV.1.2.1 hvV.1.2.2.2.1 ?_
      refine r_callV0 (pc := 130) (d - 1) [aR s, aR u] dX10_runWhole_130 (CV.mk2 mk_X0_drawFinal lk_X10_121) (RC.of (ltA0 haV) (kA0 haV) (by decide) rfl) rfl rfl (by omega) (Nat.le_of_ble_eq_true rfl) (Nat.le_of_ble_eq_true rfl) (k_drawFinal (a := a) (u := u) (n := n) (q := 0 + (L 6).toNat) (L := X) (N := ga4 L sd N) hSV (by omega) huV hrow4 (by rw [hX 8 (by decide)]; omega) hA4.2.2.2.1 hA4.2.2.2.2.1 hA4.2.2.2.2.2.1 hA4.2.2.2.2.2.2 (h4_2.trans hpk.1.2.1) (by rw [c115]; decide) (h4_6.trans g3.2.2.2) g4.2 (sg_X hLp hX) ?_ ?_)
      · intro hl0 K5 hA5
        refine ⟨rfl, fun _ => ?_⟩
        have hgc : ¬ gaC L sd N = 0 := ck_st.2.mp c115
        have hgl : gaL L sd N = lenS (ga4 L sd N) n (tN (ga4 L sd N)) (X 8) := by unfold gaL; rw [hn4, hX 8 (by decide)]
        have hg : (gaR L sd N).2 = un (ga4 L sd N) 0 6 := by unfold gaR; rw [if_neg hgc, if_pos (by rw [hgl]; exact hl0)]
        exact r_vret (pc := 133) dX10_runWhole_133 trivial (hq _ _ _ _ _ _ n (by rw [hg]; exact (hA4.tr (by omega) (hA5.wd (Or.inr rfl) (Or.inr rfl))).L (show L 0 = X 0 from (hX 0 (by decide)).symm)) (fun j hj j1 => (congrFun (hA5.fr hSV (by omega) (by omega) (by omega)) j).trans ((hrow4 j hj).trans (hX j j1))))
      · intro l hl1 hl2 K5 hA5
        refine ⟨rfl, fun _ => ?_⟩
        have hgc : ¬ gaC L sd N = 0 := ck_st.2.mp c115
        have hgl : gaL L sd N = lenS (ga4 L sd N) n (tN (ga4 L sd N)) (X 8) := by unfold gaL; rw [hn4, hX 8 (by decide)]
        have hg : (gaR L sd N).2 = shZ (ga4 L sd N) n l := by unfold gaR; rw [if_neg hgc, if_neg (by rw [hgl]; omega), hgl, hl1, hn4, Int.toNat_natCast]
        exact r_vret (pc := 133) dX10_runWhole_133 trivial (hq _ _ _ _ _ _ n (by rw [hg]; exact (hA4.tr (by omega) (hA5.wd (Or.inr rfl) (Or.inr rfl))).L (show L 0 = X 0 from (hX 0 (by decide)).symm)) (fun j hj j1 => (congrFun (hA5.fr hSV (by omega) (by omega) (by omega)) j).trans ((hrow4 j hj).trans (hX j j1))))
  · refine r_aload_n (pc := 47) (i := 0) dX10_runWhole_47 rfl rfl ?_
    refine r_getfr (pc := 48) (b := s) cks dX10_runWhole_48 fl_X10_12 rfl hvE.1.1 hvE.1.2.1 hvE.1.2.2.1 ?_
    refine r_getfi (pc := 51) cks dX10_runWhole_51 fl_X10_50 rfl (kS0 hSE) (ltS0 hSE) ?_
    refine r_top (b := ((k : Nat) : Int)) (hP.2.2.2.2.1.1.2.2.2.2.2.2.1.trans (hpk.1.2.1.trans (by omega))) ?_
    refine r_aload_n (pc := 54) (i := 0) dX10_runWhole_54 rfl rfl ?_
    refine r_getfr (pc := 55) (b := u) cks dX10_runWhole_55 fl_X10_21 rfl hvE.1.1 hvE.1.2.1 hvE.1.2.2.2.1 ?_
    refine r_bipush (pc := 58) dX10_runWhole_58 rfl (in32_of rfl) ?_
    refine r_callV1 (pc := 60) (d - 1) [aI 6] dX10_runWhole_60 (CV.mk2 mk_X6_number lk_X10_54) (RC.of (ltP0 huE) (kP0 huE) (by decide) rfl) rfl rfl (by omega) (Nat.le_of_ble_eq_true rfl) (Nat.le_of_ble_eq_true rfl) (k_num (L := X) huE 6 (by decide) (fun j hj => (congrFun (hP.2.fr hS (by omega) (by omega) (by omega)) j).trans (hrow2 j hj)) ?_)
    refine ⟨_, rfl, fun _ => ?_⟩
    refine r_top (b := (((L 6).toNat : Nat) : Int)) (by rw [hX 6 (by decide)]; omega) ?_
    refine r_icmp_ge (pc := 63) (tgt := 92) dX10_runWhole_63 rfl (fun c63 => ?_) (fun c63 => ?_)
    · have hkp : k = (L 6).toNat := by omega
      subst hkp
      have hA3 : AcP T E.1 I E.2.1 s p o t c E.2.2.1 E.2.2.2.1 E.2.2.2.2.1 E.2.2.2.2.2 X (ga3 L sd N) (0 + (L 6).toNat) n u 9 := hA2.tr (by omega) (hP.2.wd (Or.inl (by omega)) (Or.inl (by omega)))
      have hn3 : nN (ga3 L sd N) = n := hA3.2.2.2.2.2.1.nn
      have hrow3 : ∀ j, j < 9 → E.2.1 (u + 1) j = X j := fun j hj => (congrFun (hP.2.fr hS (by omega) (by omega) (by omega)) j).trans (hrow2 j hj)
      have hno3 : No2 (ga3 L sd N) := No2_pc (by omega) g2.1 (No2_0 g2.2.2.2.2.1) _ hk6
      refine r_aload_n (pc := 92) (i := 0) dX10_runWhole_92 rfl rfl ?_
      refine r_getfr (pc := 93) (b := a) cks dX10_runWhole_93 fl_X10_28 rfl hvE.1.1 hvE.1.2.1 hvE.1.2.2.2.2.1 ?_
      refine r_aload_n (pc := 96) (i := 0) dX10_runWhole_96 rfl rfl ?_
      refine r_getfr (pc := 97) (b := s) cks dX10_runWhole_97 fl_X10_12 rfl hvE.1.1 hvE.1.2.1 hvE.1.2.2.1 ?_
      refine r_aload_n (pc := 100) (i := 0) dX10_runWhole_100 rfl rfl ?_
      refine r_getfr (pc := 101) (b := u) cks dX10_runWhole_101 fl_X10_21 rfl hvE.1.1 hvE.1.2.1 hvE.1.2.2.2.1 ?_
      refine r_callV0 (pc := 104) (d - 1) [aR s, aR u] dX10_runWhole_104 (CV.mk2 mk_X0_compare lk_X10_118) (RC.of (ltA0 haE) (kA0 haE) (by decide) rfl) rfl rfl (by omega) (Nat.le_of_ble_eq_true rfl) (Nat.le_of_ble_eq_true rfl) (k_compare (a := a) (u := u) (n := n) (q := 0 + (L 6).toNat) (h := (L 7).toNat) (L := X) (N := ga3 L sd N) hSE (by omega) haE (by omega) huE hrow3 (by rw [hX 7 (by decide)]; omega) (by omega) (by omega) hA3.2.2.2.1 hA3.2.2.2.2.1 hA3.2.2.2.2.2.1 hA3.2.2.2.2.2.2 hno3 hpk.1.2.1 (pc_0 (by omega) g2.1 (by rw [g2.2.1]; decide) _ hk6) g3.2.2.2 (sg_X hLp hX) (by omega) (fun V J p4 o4 t4 c4 hC => ?_))
      refine ⟨rfl, fun _ => ?_⟩
      have hC0 := hC
      have hC : AcP E.1 V E.2.1 J s E.2.2.1 E.2.2.2.1 E.2.2.2.2.1 E.2.2.2.2.2 p4 o4 t4 c4 X (ga4 L sd N) (0 + (L 6).toNat) n a 3 := by have h := hC0; rw [← hn3] at h ⊢; exact h
      have hA4 : AcP T V I J s p o t c p4 o4 t4 c4 X (ga4 L sd N) (0 + (L 6).toNat) n u 9 := hA3.tr (by omega) (hC.wd (Or.inl (by omega)) (Or.inl (by omega)))
      have hrow4 : ∀ j, j < 9 → J (u + 1) j = X j := fun j hj => (congrFun (hC.fr hSE (by omega) (by omega) (by omega)) j).trans (hrow3 j hj)
      have hn4 : nN (ga4 L sd N) = n := hA4.2.2.2.2.2.1.nn
      have hSV := hA4.1
      have hvV := TrO_ext hv hA4.2.1.1
      have huV := hvV.2.1.1
      have haV := hvV.2.1.2.1
      have hmV := hvV.2.1.2.2
      refine r_aload_n (pc := 107) (i := 0) dX10_runWhole_107 rfl rfl ?_
      refine r_getfr (pc := 108) (b := s) cks dX10_runWhole_108 fl_X10_12 rfl hvV.1.1 hvV.1.2.1 hvV.1.2.2.1 ?_
      refine r_getfi (pc := 111) cks dX10_runWhole_111 fl_X10_95 rfl (kS0 hSV) (ltS0 hSV) ?_
      refine r_top (b := (ga4 L sd N) 0) (hA4.2.2.2.1.1.1) ?_
      refine r_iconst (pc := 114) dX10_runWhole_114 (in32_of rfl) ?_
      refine r_icmp_ne (pc := 115) (tgt := 133) dX10_runWhole_115 rfl (fun c115 => ?_) (fun c115 => ?_)
      · have hgc : gaC L sd N = 0 := Decidable.of_not_not (fun h => c115 (ck_st.2.mpr h))
        have hg : (gaR L sd N).2 = ga4 L sd N := by unfold gaR; rw [if_pos hgc]
        exact r_vret (pc := 133) dX10_runWhole_133 trivial (hq _ _ _ _ _ _ n (by rw [hg]; exact hA4.L (show L 0 = X 0 from (hX 0 (by decide)).symm)) (fun j hj j1 => (hrow4 j hj).trans (hX j j1)))
      · have c115 := Decidable.of_not_not c115
        have c115 : (ga4 L sd N) 0 = 4 := by omega
        have hck := ck_ok (N := ga3 L sd N) (n := n) (h := (L 7).toNat) hA3.2.2.2.2.2.1.1 hn2 (by omega) (by omega)
        have h4e : ga4 L sd N = ckF (ga3 L sd N) n (L 7).toNat := by rw [← hn3]; rfl
        have h4_2 : (ga4 L sd N) 2 = (ga3 L sd N) 2 := by rw [h4e]; exact hck.2.2.2 2 (by decide) (by decide) (by decide) (by decide) (by omega)
        have h4_6 : (ga4 L sd N) 6 = (ga3 L sd N) 6 := by rw [h4e]; exact hck.2.2.2 6 (by decide) (by decide) (by decide) (by decide) (by omega)
        refine r_aload_n (pc := 118) (i := 0) dX10_runWhole_118 rfl rfl ?_
        refine r_getfr (pc := 119) (b := a) cks dX10_runWhole_119 fl_X10_28 rfl hvV.1.1 hvV.1.2.1 hvV.1.2.2.2.2.1 ?_
        refine r_aload_n (pc := 122) (i := 0) dX10_runWhole_122 rfl rfl ?_
        refine r_getfr (pc := 123) (b := s) cks dX10_runWhole_123 fl_X10_12 rfl hvV.1.1 hvV.1.2.1 hvV.1.2.2.1 ?_
        refine r_aload_n (pc := 126) (i := 0) dX10_runWhole_126 rfl rfl ?_
        refine r_getfr (pc := 127) (b := u) cks dX10_runWhole_127 fl_X10_21 rfl hvV.1.1 hvV.1.2.1 hvV.1.2.2.2.1 ?_
        refine r_callV0 (pc := 130) (d - 1) [aR s, aR u] dX10_runWhole_130 (CV.mk2 mk_X0_drawFinal lk_X10_121) (RC.of (ltA0 haV) (kA0 haV) (by decide) rfl) rfl rfl (by omega) (Nat.le_of_ble_eq_true rfl) (Nat.le_of_ble_eq_true rfl) (k_drawFinal (a := a) (u := u) (n := n) (q := 0 + (L 6).toNat) (L := X) (N := ga4 L sd N) hSV (by omega) huV hrow4 (by rw [hX 8 (by decide)]; omega) hA4.2.2.2.1 hA4.2.2.2.2.1 hA4.2.2.2.2.2.1 hA4.2.2.2.2.2.2 (h4_2.trans hpk.1.2.1) (by rw [c115]; decide) (h4_6.trans g3.2.2.2) g4.2 (sg_X hLp hX) ?_ ?_)
        · intro hl0 K5 hA5
          refine ⟨rfl, fun _ => ?_⟩
          have hgc : ¬ gaC L sd N = 0 := ck_st.2.mp c115
          have hgl : gaL L sd N = lenS (ga4 L sd N) n (tN (ga4 L sd N)) (X 8) := by unfold gaL; rw [hn4, hX 8 (by decide)]
          have hg : (gaR L sd N).2 = un (ga4 L sd N) 0 6 := by unfold gaR; rw [if_neg hgc, if_pos (by rw [hgl]; exact hl0)]
          exact r_vret (pc := 133) dX10_runWhole_133 trivial (hq _ _ _ _ _ _ n (by rw [hg]; exact (hA4.tr (by omega) (hA5.wd (Or.inr rfl) (Or.inr rfl))).L (show L 0 = X 0 from (hX 0 (by decide)).symm)) (fun j hj j1 => (congrFun (hA5.fr hSV (by omega) (by omega) (by omega)) j).trans ((hrow4 j hj).trans (hX j j1))))
        · intro l hl1 hl2 K5 hA5
          refine ⟨rfl, fun _ => ?_⟩
          have hgc : ¬ gaC L sd N = 0 := ck_st.2.mp c115
          have hgl : gaL L sd N = lenS (ga4 L sd N) n (tN (ga4 L sd N)) (X 8) := by unfold gaL; rw [hn4, hX 8 (by decide)]
          have hg : (gaR L sd N).2 = shZ (ga4 L sd N) n l := by unfold gaR; rw [if_neg hgc, if_neg (by rw [hgl]; omega), hgl, hl1, hn4, Int.toNat_natCast]
          exact r_vret (pc := 133) dX10_runWhole_133 trivial (hq _ _ _ _ _ _ n (by rw [hg]; exact (hA4.tr (by omega) (hA5.wd (Or.inr rfl) (Or.inr rfl))).L (show L 0 = X 0 from (hX 0 (by decide)).symm)) (fun j hj j1 => (congrFun (hA5.fr hSV (by omega) (by omega) (by omega)) j).trans ((hrow4 j hj).trans (hX j j1))))
    · refine r_aload_n (pc := 66) (i := 0) dX10_runWhole_66 rfl rfl ?_
      refine r_getfr (pc := 67) (b := m) cks dX10_runWhole_67 fl_X10_35 rfl hvE.1.1 hvE.1.2.1 hvE.1.2.2.2.2.2 ?_
      refine r_aload_n (pc := 70) (i := 0) dX10_runWhole_70 rfl rfl ?_
      refine r_getfr (pc := 71) (b := s) cks dX10_runWhole_71 fl_X10_12 rfl hvE.1.1 hvE.1.2.1 hvE.1.2.2.1 ?_
      refine r_aload_n (pc := 74) (i := 0) dX10_runWhole_74 rfl rfl ?_
      refine r_getfr (pc := 75) (b := u) cks dX10_runWhole_75 fl_X10_21 rfl hvE.1.1 hvE.1.2.1 hvE.1.2.2.2.1 ?_
      refine r_iconst (pc := 78) dX10_runWhole_78 (in32_of rfl) ?_
      refine r_callV1 (pc := 79) (d - 1) [aI 5] dX10_runWhole_79 (CV.mk2 mk_X6_number lk_X10_54) (RC.of (ltP0 huE) (kP0 huE) (by decide) rfl) rfl rfl (by omega) (Nat.le_of_ble_eq_true rfl) (Nat.le_of_ble_eq_true rfl) (k_num (L := X) huE 5 (by decide) (fun j hj => (congrFun (hP.2.fr hS (by omega) (by omega) (by omega)) j).trans (hrow2 j hj)) ?_)
      refine ⟨_, rfl, fun _ => ?_⟩
      refine r_top (b := (((L 5).toNat : Nat) : Int)) (by rw [hX 5 (by decide)]; omega) ?_
      refine r_callV1 (pc := 82) (d - 1) [aR s, aI ((((L 5).toNat) : Nat) : Int)] dX10_runWhole_82 (CV.mk2 mk_X5_runPass lk_X10_58) (RC.of (ltD0 hmE) (kD0 hmE) (by decide) rfl) rfl rfl (by omega) (Nat.le_of_ble_eq_true rfl) (Nat.le_of_ble_eq_true rfl) (k_runPass (m := m) (n := n) (B := (L 5).toNat) (q := 0 + k) (L := X) (N := pcI (L 5).toNat (ga2 L sd N) k) hSE (by omega) hmE (by omega) hP.2.2.2.2.1 hP.2.2.2.2.2.1 hP.2.2.2.2.2.2.1 hP.2.2.2.2.2.2.2 hpk.1.2.1 (by omega) (pc_0 (by omega) g2.1 (by rw [g2.2.1]; decide) k hk6) (hpk.2.2.2.2.2.1.trans g2.2.2.2.2.2) (sg_X hLp hX) (by omega) (by omega) (pass_room hpk.1 (by omega) hn2 (by omega)) (fun U2 K3 p3 o3 t3 c3 hR => ?_))
      refine ⟨_, rfl, fun _ => ?_⟩
      refine r_pop (pc := 85) dX10_runWhole_85 rfl ?_
      refine r_iincN (pc := 86) (i := 2) (c := ((k + 1 : Nat) : Int)) (lv' := [_, _, _]) dX10_runWhole_86 rfl (by decide) (by unfold w32; omega) rfl ?_
      refine r_goto (pc := 89) (tgt := 41) dX10_runWhole_89 rfl ?_
      exact ih (k + 1) (U2, K3, p3, o3, t3, c3) ⟨by omega, hP.2.tr (by omega) (AcP.of hR)⟩ (by omega)
end C49

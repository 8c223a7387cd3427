section M42
variable {G : Gl} {d : Nat} {T : Sh} {I : Mi} {N : Nat → Int} {Q : Option AV → Sh → Mi → Prop}
/-- a plan's numbers lie as the document tells -/
def plOk (L : Nat → Int) : Prop := (2 ≤ L 0 ∧ L 0 ≤ 256) ∧ (0 ≤ L 1 ∧ L 1 ≤ 99999) ∧ (0 ≤ L 2 ∧ L 2 ≤ 500) ∧ (0 ≤ L 3 ∧ L 3 ≤ 100) ∧ (0 ≤ L 4 ∧ L 4 ≤ 128) ∧ (2 ≤ L 5 ∧ L 5 ≤ 64) ∧ (1 ≤ L 6 ∧ L 6 ≤ 6) ∧ (1 ≤ L 7 ∧ L 7 ≤ 30) ∧ (0 ≤ L 8 ∧ L 8 ≤ 50)
theorem bgT_lo {spy no : Int} {N : Nat → Int} {k j : Nat} (h1 : j < 20) (h2 : j ≠ 1) (h3 : j ≠ 8) : bgT spy no N k j = N j := by
  have e : snd1 N k spy no j = N j := snd1_ne h3 (by omega)
  unfold bgT
  split
  · unfold kadd
    rw [un_ne h2, un_ne (by omega), un_ne (by omega), un_ne (by omega)]
    exact e
  · exact e
theorem bgS_lo {spy no : Int} {N : Nat → Int} {j : Nat} (h1 : j < 20) (h2 : j ≠ 1) (h3 : j ≠ 8) : ∀ k, bgS spy no N k j = N j := by
  intro k
  induction k with
  | zero => rfl
  | succ k ih => rw [bgS_succ, bgT_lo h1 h2 h3]; exact ih
theorem bg_lo {sg spy no seed : Int} {N : Nat → Int} {j : Nat} (h1 : j < 20) (h2 : j ≠ 1) (h3 : j ≠ 8) (h4 : j ≠ 0) : bgF sg spy no seed N j = if j = 5 ∨ j = 10 ∨ j = 11 then -1 else 0 := by
  unfold bgF
  rw [bgS_lo h1 h2 h3]
  unfold bgM begins begN
  rw [un_ne h4, un_ne h3]
  unfold un
  by_cases a : j = 11
  · rw [if_pos a, if_pos (by omega)]
  · rw [if_neg a]
    by_cases b : j = 10
    · rw [if_pos b, if_pos (by omega)]
    · rw [if_neg b]
      by_cases c : j = 5
      · rw [if_pos c, if_pos (by omega)]
      · rw [if_neg c, if_neg (by omega)]; exact if_pos (by omega)
theorem bg_st {sg spy no seed : Int} {N : Nat → Int} : bgF sg spy no seed N 0 = 1 := by
  unfold bgF
  rw [bgS_lo (by decide) (by decide) (by decide)]
  unfold bgM
  rw [un_at]
theorem bg_R {sg spy no seed : Int} {N : Nat → Int} (h0 : 0 ≤ sg) (h1 : sg ≤ 256) (s0 : 0 ≤ seed) (s1 : seed < 2147483648) : Rng (bgF sg spy no seed N) := by
  unfold bgF
  exact (bgS_ok (Rng_bgM s0 s1) (bgM_n N seed) sg.toNat (by omega)).1
theorem sm_ok {N : Nat → Int} {n s : Nat} (hR : Rng N) (hn : N 1 = (n : Int)) (hn2 : n ≤ 256) (h4 : N 4 = 0) (hs : s ≤ 128) : Rng (smF N n s) ∧ smF N n s 0 = 2 ∧ 0 ≤ smF N n s 5 ∧ nN (smF N n s) = n - min s (n - 1) ∧ (0 ≤ smF N n s 4 ∧ smF N n s 4 ≤ (s : Int)) ∧ ∀ q, q ≠ 0 → q ≠ 1 → q ≠ 4 → q ≠ 5 → q ≠ 8 → ¬ (276 ≤ q ∧ q < 1044) → smF N n s q = N q := by
  obtain ⟨a, b, c, e⟩ := smI_ok hR hn hn2 h4 (min s (n - 1)) (by omega) (by omega)
  have hb := bdF_rng (e := smK N n s 4) (m := min s (n - 1)) c.1
  unfold smF
  refine ⟨Rng_un (Rng_un a (ok_5.mpr (by omega))) (ok_0.mpr (by omega)), un_at, ?_, ?_, ?_, ?_⟩
  · rw [un_ne (by decide), un_at]; exact hb.1
  · unfold nN; rw [un_ne (by decide), un_ne (by decide)]; unfold smK; rw [b]; omega
  · rw [un_ne (by decide), un_ne (by decide)]; unfold smK; omega
  · intro q q0 q1 q4 q5 q8 q9
    rw [un_ne q0, un_ne q5]
    exact e q q1 q4 q8 q9
theorem tlB_le : ∀ q : Nat, q ≤ 6 → ∀ w : Nat, w ≤ 8 → tlB q w + 30 ≤ 13608 := by decide
theorem ck_ok {N : Nat → Int} {n h : Nat} (hR : Rng N) (hn : n ≤ 256) (hh : h ≤ 30) (ht : tN N + h ≤ 13608) : Rng (ckF N n h) ∧ tN (ckF N n h) = tN N + h ∧ (ckF N n h 0 = 4 ∨ ckF N n h 0 = 6) ∧ ∀ j, j < 3902 → j ≠ 0 → j ≠ 3 → j ≠ 8 → ¬ (2580 ≤ j ∧ j < 2866) → ckF N n h j = N j := by
  obtain ⟨a, b⟩ := rwS_ok (r := 2580) hR (by decide) (n + h - 1) (by omega)
  have t0 : tN (rwS N 2580 (n + h - 1)) = tN N := by unfold tN; rw [b 3 (by decide) (by omega)]
  obtain ⟨c, e, f⟩ := ckS_ok (n := n) a h (by omega)
  unfold ckF
  refine ⟨Rng_un c (ok_0.mpr (by split <;> omega)), ?_, ?_, ?_⟩
  · unfold tN at e t0 ⊢; rw [un_ne (by decide), e]; omega
  · rw [un_at]; split
    · exact Or.inr rfl
    · exact Or.inl rfl
  · intro j j1 j2 j3 j4 j5
    rw [un_ne j2, f j j1 j3, b j j4 (by omega)]
/-- a plan done by itself -/
def ga1 (L : Nat → Int) (seed : Int) (N : Nat → Int) : Nat → Int := bgF (L 0) (L 3) (L 2) seed N
def ga2 (L : Nat → Int) (seed : Int) (N : Nat → Int) : Nat → Int := smF (ga1 L seed N) (nN (ga1 L seed N)) (L 4).toNat
def ga3 (L : Nat → Int) (seed : Int) (N : Nat → Int) : Nat → Int := pcI (L 5).toNat (ga2 L seed N) (L 6).toNat
def ga4 (L : Nat → Int) (seed : Int) (N : Nat → Int) : Nat → Int := ckF (ga3 L seed N) (nN (ga3 L seed N)) (L 7).toNat
def gaC (L : Nat → Int) (seed : Int) (N : Nat → Int) : Int := isC (rwS (ga3 L seed N) 2580 (nN (ga3 L seed N) + (L 7).toNat - 1)) (nN (ga3 L seed N)) (L 7).toNat
def gaL (L : Nat → Int) (seed : Int) (N : Nat → Int) : Int := lenS (ga4 L seed N) (nN (ga4 L seed N)) (tN (ga4 L seed N)) (L 8)
def gaR (L : Nat → Int) (seed : Int) (N : Nat → Int) : Int × (Nat → Int) :=
  if gaC L seed N = 0 then (0, ga4 L seed N)
  else if gaL L seed N < 1 then (0, un (ga4 L seed N) 0 6)
  else (1, shZ (ga4 L seed N) (nN (ga4 L seed N)) (gaL L seed N).toNat)
theorem ga_1 {L : Nat → Int} {seed : Int} {N : Nat → Int} (hL : plOk L) (s0 : 0 ≤ seed) (s1 : seed < 2147483648) : Rng (ga1 L seed N) ∧ ga1 L seed N 0 = 1 ∧ ga1 L seed N 4 = 0 := by
  obtain ⟨a, b⟩ := hL
  exact ⟨bg_R (by omega) a.2 s0 s1, bg_st, (bg_lo (by decide) (by decide) (by decide) (by decide)).trans (if_neg (by decide))⟩
theorem ga_2 {L : Nat → Int} {seed : Int} {N : Nat → Int} (hL : plOk L) (s0 : 0 ≤ seed) (s1 : seed < 2147483648) : pOK (ga2 L seed N) 0 ∧ ga2 L seed N 0 = 2 ∧ 0 ≤ ga2 L seed N 5 ∧ ga2 L seed N 12 = 0 ∧ tN (ga2 L seed N) = 0 ∧ ga2 L seed N 6 = 0 := by
  obtain ⟨a, b, c⟩ := ga_1 (N := N) hL s0 s1
  have h4 := hL.2.2.2.2.1
  obtain ⟨e1, e2, e3, e4, e5, e6⟩ := sm_ok (s := (L 4).toNat) a (nN_rd a) (nN_le a) c (by omega)
  have q2 : ga2 L seed N 2 = 0 := (e6 2 (by decide) (by decide) (by decide) (by decide) (by decide) (by omega)).trans ((bg_lo (by decide) (by decide) (by decide) (by decide)).trans (if_neg (by decide)))
  have q3 : ga2 L seed N 3 = 0 := (e6 3 (by decide) (by decide) (by decide) (by decide) (by decide) (by omega)).trans ((bg_lo (by decide) (by decide) (by decide) (by decide)).trans (if_neg (by decide)))
  have q12 : ga2 L seed N 12 = 0 := (e6 12 (by decide) (by decide) (by decide) (by decide) (by decide) (by omega)).trans ((bg_lo (by decide) (by decide) (by decide) (by decide)).trans (if_neg (by decide)))
  have q6 : ga2 L seed N 6 = 0 := (e6 6 (by decide) (by decide) (by decide) (by decide) (by decide) (by omega)).trans ((bg_lo (by decide) (by decide) (by decide) (by decide)).trans (if_neg (by decide)))
  have t0 : tN (ga2 L seed N) = 0 := by unfold tN; rw [q3]; rfl
  exact ⟨⟨e1, q2, by omega, fun p hp => absurd hp (Nat.not_lt_zero p), by rw [t0]; exact Nat.zero_le _⟩, e2, e3, q12, t0, q6⟩
theorem ga_3 {L : Nat → Int} {seed : Int} {N : Nat → Int} (hL : plOk L) (s0 : 0 ≤ seed) (s1 : seed < 2147483648) : pOK (ga3 L seed N) (L 6).toNat ∧ 0 ≤ ga3 L seed N 5 ∧ ga3 L seed N 12 = 0 ∧ ga3 L seed N 6 = 0 := by
  obtain ⟨a, b, c, e, f, g⟩ := ga_2 (N := N) hL s0 s1
  have h5 := hL.2.2.2.2.2.1
  have h6 := hL.2.2.2.2.2.2.1
  obtain ⟨x1, x2, x3, x4, x5, x6, x7, x8⟩ := pc_ok (B := (L 5).toNat) (by omega) a (L 6).toNat (by omega)
  rw [Nat.zero_add] at x1
  exact ⟨x1, by unfold ga3; rw [x5]; exact c, by unfold ga3; rw [x7]; exact e, by unfold ga3; rw [x6]; exact g⟩
theorem ga_3t {L : Nat → Int} {seed : Int} {N : Nat → Int} (hL : plOk L) (s0 : 0 ≤ seed) (s1 : seed < 2147483648) : tN (ga3 L seed N) + 30 ≤ 13608 := by
  obtain ⟨⟨a, b, c, e, f⟩, _⟩ := ga_3 (N := N) hL s0 s1
  have := tlB_le (L 6).toNat c (ga3 L seed N 12).toNat (by have := ok_12.mp (a 12); omega)
  omega
theorem ga_4 {L : Nat → Int} {seed : Int} {N : Nat → Int} (hL : plOk L) (s0 : 0 ≤ seed) (s1 : seed < 2147483648) : Rng (ga4 L seed N) ∧ 0 ≤ ga4 L seed N 5 := by
  obtain ⟨⟨a, b, c, e, f⟩, g, _⟩ := ga_3 (N := N) hL s0 s1
  have ht := ga_3t (N := N) hL s0 s1
  have h7 := hL.2.2.2.2.2.2.2.1
  obtain ⟨x1, x2, x3, x4⟩ := ck_ok (h := (L 7).toNat) a (nN_le a) (by omega) (by omega)
  exact ⟨x1, by unfold ga4; rw [x4 5 (by decide) (by decide) (by decide) (by decide) (by omega)]; exact g⟩
theorem FMK {I : Mi} {P W A H : Nat → Int} {c : Nat} (h : c ≠ 274 ∧ c ≠ 284 ∧ c ≠ 285 ∧ c ≠ 286) : (sr (sr (sr (sr I 286 P) 285 W) 284 A) 274 H) c = I c := by rw [sr_ne h.1, sr_ne h.2.1, sr_ne h.2.2.1, sr_ne h.2.2.2]
theorem c_bgL {seed : Int} {L : Nat → Int} (hT : ShM T) (hd : 2 ≤ d) (hI : I 280 = L) (hL : plOk L) (hs0 : 0 ≤ seed) (hs1 : seed < 2147483648) (hq : Q (some (aI ((nN (ga1 L seed N) : Nat) : Int))) T (sr I 283 (ga1 L seed N))) : EvE G mX12_beginsBy d [aR 274, aI seed] T (sr I 283 N) Q := by
  subst hI
  exact c_beginsBy hT hd (by have := hL.1; omega) hL.1.2 hs0 hs1 hq
theorem c_shL {n : Nat} {L : Nat → Int} (hT : ShM T) (hd : 2 ≤ d) (hI : I 280 = L) (hL : plOk L) (hn : nN N = n) (hR : Rng N) (hb : 0 ≤ N 5) (hq0 : lenS N n (tN N) (L 8) < 1 → Q (some (aI 0)) T (sr I 283 (un N 0 6))) (hq1 : ∀ Z : Nat, lenS N n (tN N) (L 8) = (Z : Int) → 1 ≤ Z → Q (some (aI (Z : Int))) T (sr I 283 (shZ N n Z))) : EvE G mX12_shortens d [aR 274] T (sr I 283 N) Q := by
  subst hI
  subst hn
  exact c_shortens hT hd (nN_rd hR) (nN_le hR) hR hb hL.2.2.2.2.2.2.2.2.1 hL.2.2.2.2.2.2.2.2.2 hq0 hq1
theorem c_goesAll {sd : Int} {L : Nat → Int} {P W A H : Nat → Int} (hT : ShM T) (hd : 6 ≤ d) (hI : I 280 = L) (hL : plOk L) (h17 : H 17 = -1) (hs0 : 0 ≤ sd) (hs1 : sd < 2147483648) (hq : ∀ K2 : Nat → Int, kpF H K2 → Q (some (aI (gaR L sd N).1)) T (sr (sr (sr (sr (sr I 286 P) 285 W) 284 A) 274 K2) 283 ((gaR L sd N).2))) : EvE G mX12_goesAll d [aR 274, aI sd] T (sr (sr (sr (sr (sr I 286 P) 285 W) 284 A) 274 H) 283 N) Q := by
  have g1 := ga_1 (N := N) hL hs0 hs1
  have g2 := ga_2 (N := N) hL hs0 hs1
  have g3 := ga_3 (N := N) hL hs0 hs1
  have g3t := ga_3t (N := N) hL hs0 hs1
  have g4 := ga_4 (N := N) hL hs0 hs1
  have hL0 := hL
  unfold plOk at hL0
  refine EvE.mk (lv0 := [some (aR 274), some (aI sd)]) (Nat.le_of_ble_eq_true rfl) (by decide +kernel) rfl ?_
  refine r_aload_n (pc := 0) (i := 0) dX12_goesAll_0 rfl rfl ?_
  refine r_iload_n (pc := 1) (i := 1) dX12_goesAll_1 rfl rfl ?_
  refine r_callV1 (pc := 2) (d - 1) [aI sd] dX12_goesAll_2 (CV.mk2 mk_X12_beginsBy lk_X12_152) (RC.of (ltM hT (by omega)) (kM274 hT) (by decide) rfl) rfl rfl (by omega) (Nat.le_of_ble_eq_true rfl) (Nat.le_of_ble_eq_true rfl) (c_bgL (L := L) hT (by omega) ((FMK (by decide)).trans hI) hL hs0 hs1 ?_)
  refine ⟨_, rfl, fun _ => ?_⟩
  refine r_pop (pc := 5) dX12_goesAll_5 rfl ?_
  refine r_aload_n (pc := 6) (i := 0) dX12_goesAll_6 rfl rfl ?_
  refine r_callV0 (pc := 7) (d - 1) [] dX12_goesAll_7 (CV.mk2 mk_X12_samples lk_X12_158) (RC.of (ltM hT (by omega)) (kM274 hT) (by decide) rfl) rfl rfl (by omega) (Nat.le_of_ble_eq_true rfl) (Nat.le_of_ble_eq_true rfl) (c_samples (n := nN (ga1 L sd N)) (s := (L 4).toNat) hT (by omega) (nN_rd g1.1) (nN_le g1.1) g1.1 g1.2.2 ((congrFun ((FMK (by decide)).trans hI) 4).trans (by omega)) (by omega) ?_)
  refine ⟨rfl, fun _ => ?_⟩
  refine loop2 (fun (i : Nat) (K : Nat → Int) => i ≤ (L 6).toNat ∧ kpF H K) (fun (i : Nat) (K : Nat → Int) => (L 6).toNat - i) (fun (i : Nat) (K : Nat → Int) => [some (aR 274), some (aI sd)]) (fun _ _ => T) (fun (i : Nat) (K : Nat → Int) => sr (sr (sr (sr (sr I 286 P) 285 W) 284 A) 274 K) 283 (pcI (L 5).toNat (ga2 L sd N) i)) ?_ 0 H ⟨Nat.zero_le _, kpF_id⟩
  intro i K hP ih
  have hP : i ≤ (L 6).toNat ∧ kpF H K := hP
  have hpi := pc_ok (B := (L 5).toNat) (by omega) g2.1 i (by omega)
  have hBk : blk K L = (((L 5).toNat : Nat) : Int) := by unfold blk; rw [hP.2 17 (by decide) (by decide), h17, if_pos (by decide)]; omega
  refine (?_ : Ev G mX12_goesAll d 10 [some (aR 274), some (aI sd)] [] T (sr (sr (sr (sr (sr I 286 P) 285 W) 284 A) 274 K) 283 (pcI (L 5).toNat (ga2 L sd N) i)) Q)
  refine r_aload_n (pc := 10) (i := 0) dX12_goesAll_10 rfl rfl ?_
  refine r_getfr (pc := 11) (b := 283) cks dX12_goesAll_11 fl_X12_37 rfl (kM274 hT) (ltM hT (by omega)) (rM11 hT) ?_
  refine r_iconst (pc := 14) dX12_goesAll_14 (in32_of rfl) ?_
  refine r_ild (pc := 15) (2) dX12_goesAll_15 (kM283 hT) (ltM hT (by omega)) (by omega) (by rw [lM283 hT]; omega) ?_
  refine r_top (b := (pcI (L 5).toNat (ga2 L sd N) i) 2) (sr_at _ _ _ _) ?_
  refine r_top (b := (i : Int)) (hpi.1.2.1.trans (by rw [Nat.zero_add])) ?_
  refine r_aload_n (pc := 16) (i := 0) dX12_goesAll_16 rfl rfl ?_
  refine r_getfr (pc := 17) (b := 280) cks dX12_goesAll_17 fl_X12_27 rfl (kM274 hT) (ltM hT (by omega)) (rM6 hT) ?_
  refine r_bipush (pc := 20) dX12_goesAll_20 rfl (in32_of rfl) ?_
  refine r_ild (pc := 22) (6) dX12_goesAll_22 (kM280 hT) (ltM hT (by omega)) (by omega) (by rw [lM280 hT]; omega) ?_
  refine r_top (b := I 280 6) ((congrFun (sr_ne (by decide)) _).trans ((congrFun (sr_ne (by decide)) _).trans ((congrFun (sr_ne (by decide)) _).trans ((congrFun (sr_ne (by decide)) _).trans ((congrFun (sr_ne (by decide)) _).trans (rfl)))))) ?_
  refine r_top (b := L 6) (congrFun hI 6) ?_
  refine r_icmp_ge (pc := 23) (tgt := 33) dX12_goesAll_23 rfl (fun c23 => ?_) (fun c23 => ?_)
  · have hie : i = (L 6).toNat := by omega
    subst hie
    refine r_mem (I2 := sr (sr (sr (sr (sr I 286 P) 285 W) 284 A) 274 K) 283 (ga3 L sd N)) rfl ?_
    refine r_aload_n (pc := 33) (i := 0) dX12_goesAll_33 rfl rfl ?_
    refine r_callV1 (pc := 34) (d - 1) [] dX12_goesAll_34 (CV.mk2 mk_X12_checks lk_X12_221) (RC.of (ltM hT (by omega)) (kM274 hT) (by decide) rfl) rfl rfl (by omega) (Nat.le_of_ble_eq_true rfl) (Nat.le_of_ble_eq_true rfl) (c_checks (n := nN (ga3 L sd N)) (h := (L 7).toNat) hT (by omega) (nN_rd g3.1.1) (nN_le g3.1.1) g3.1.1 ((congrFun ((FMK (by decide)).trans hI) 7).trans (by omega)) (by omega) (by omega) (by omega) ?_)
    refine ⟨_, rfl, fun _ => ?_⟩
    refine r_top (b := gaC L sd N) rfl ?_
    refine r_if_eq (pc := 37) (tgt := 51) dX12_goesAll_37 rfl (fun c37 => ?_) (fun c37 => ?_)
    · refine r_iconst (pc := 51) dX12_goesAll_51 (in32_of rfl) ?_
      have e : gaR L sd N = (0, ga4 L sd N) := by unfold gaR; rw [if_pos c37]
      exact r_iret (pc := 52) dX12_goesAll_52 (Or.inl rfl) (by have h := hq K hP.2; rw [e] at h; exact h)
    · refine r_aload_n (pc := 40) (i := 0) dX12_goesAll_40 rfl rfl ?_
      refine r_callV1 (pc := 41) (d - 1) [] dX12_goesAll_41 (CV.mk2 mk_X12_shortens lk_X12_224) (RC.of (ltM hT (by omega)) (kM274 hT) (by decide) rfl) rfl rfl (by omega) (Nat.le_of_ble_eq_true rfl) (Nat.le_of_ble_eq_true rfl) (c_shL (n := nN (ga4 L sd N)) (L := L) hT (by omega) ((FMK (by decide)).trans hI) hL rfl g4.1 g4.2 (fun hl => ?_) (fun Z hZ hZ1 => ?_))
      · refine ⟨_, rfl, fun _ => ?_⟩
        refine r_if_le (pc := 44) (tgt := 51) dX12_goesAll_44 rfl (fun c44 => ?_) (fun c44 => absurd (by omega) c44)
        refine r_iconst (pc := 51) dX12_goesAll_51 (in32_of rfl) ?_
        have e : gaR L sd N = (0, un (ga4 L sd N) 0 6) := by unfold gaR; rw [if_neg c37, if_pos (show gaL L sd N < 1 from hl)]
        exact r_iret (pc := 52) dX12_goesAll_52 (Or.inl rfl) (by have h := hq K hP.2; rw [e] at h; exact h)
      · refine ⟨_, rfl, fun _ => ?_⟩
        refine r_if_le (pc := 44) (tgt := 51) dX12_goesAll_44 rfl (fun c44 => absurd c44 (by omega)) (fun c44 => ?_)
        refine r_iconst (pc := 47) dX12_goesAll_47 (in32_of rfl) ?_
        refine r_goto (pc := 48) (tgt := 52) dX12_goesAll_48 rfl ?_
        have e : gaR L sd N = (1, shZ (ga4 L sd N) (nN (ga4 L sd N)) Z) := by unfold gaR; rw [if_neg c37, if_neg (show ¬ gaL L sd N < 1 from by rw [show gaL L sd N = (Z : Int) from hZ]; omega), show gaL L sd N = (Z : Int) from hZ, Int.toNat_natCast]
        exact r_iret (pc := 52) dX12_goesAll_52 (Or.inr rfl) (by have h := hq K hP.2; rw [e] at h; exact h)
  · refine r_aload_n (pc := 26) (i := 0) dX12_goesAll_26 rfl rfl ?_
    refine r_callV0 (pc := 27) (d - 1) [] dX12_goesAll_27 (CV.mk2 mk_X12_passes lk_X12_204) (RC.of (ltM hT (by omega)) (kM274 hT) (by decide) rfl) rfl rfl (by omega) (Nat.le_of_ble_eq_true rfl) (Nat.le_of_ble_eq_true rfl) (c_ps2 (B := (L 5).toNat) (q := 0 + i) (L := L) hT (by omega) hpi.1 (by omega) hI hBk (by omega) (by omega) (fun K2 hK2 => ?_))
    refine ⟨rfl, fun _ => ?_⟩
    refine r_goto (pc := 30) (tgt := 10) dX12_goesAll_30 rfl ?_
    exact ih (i + 1) K2 ⟨by omega, kpF_trans hP.2 hK2⟩ (by omega)
end M42

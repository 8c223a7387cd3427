section M43
variable {G : Gl} {d : Nat} {T : Sh} {I : Mi} {N : Nat → Int} {Q : Option AV → Sh → Mi → Prop}
def alF (M : Nat → Int) : Int := lakS M (M 6).toNat 0
theorem ga_R {L : Nat → Int} {seed : Int} {N : Nat → Int} (hL : plOk L) (s0 : 0 ≤ seed) (s1 : seed < 2147483648) : ((gaR L seed N).1 = 0 ∨ (gaR L seed N).1 = 1) ∧ (¬ (gaR L seed N).1 = 0 → 1 ≤ (gaR L seed N).2 6 ∧ (gaR L seed N).2 6 ≤ 256) := by
  obtain ⟨a, b⟩ := ga_4 (N := N) hL s0 s1
  have hn := nN_le a
  have h8 := hL.2.2.2.2.2.2.2.2
  have hl : gaL L seed N ≤ 256 := by
    have h0 : 0 ≤ 2 * ga4 L seed N 5 * (nN (ga4 L seed N) : Int) / 1000 := Int.ediv_nonneg (Int.mul_nonneg (by omega) (by omega)) (by decide)
    unfold gaL lenS
    omega
  unfold gaR
  by_cases g : gaC L seed N = 0
  · rw [if_pos g]; exact ⟨Or.inl rfl, fun h => absurd rfl h⟩
  · rw [if_neg g]
    by_cases g2 : gaL L seed N < 1
    · rw [if_pos g2]; exact ⟨Or.inl rfl, fun h => absurd rfl h⟩
    · rw [if_neg g2]
      refine ⟨Or.inr rfl, fun _ => ?_⟩
      have e : shZ (ga4 L seed N) (nN (ga4 L seed N)) (gaL L seed N).toNat 6 = ((gaL L seed N).toNat : Int) := by unfold shZ; rw [un_ne (by decide), un_at]
      show 1 ≤ shZ (ga4 L seed N) (nN (ga4 L seed N)) (gaL L seed N).toNat 6 ∧ shZ (ga4 L seed N) (nN (ga4 L seed N)) (gaL L seed N).toNat 6 ≤ 256
      rw [e]
      omega
def seM (L N : Nat → Int) : Nat → (Nat → Int)
  | 0 => N
  | i + 1 => (gaR L (L 1 + i) (seM L N i)).2
theorem seM_succ (L N : Nat → Int) (i : Nat) : seM L N (i + 1) = (gaR L (L 1 + i) (seM L N i)).2 := rfl
def seT (L N : Nat → Int) : Nat → Int × Int × Int
  | 0 => (0, 0, 0)
  | i + 1 => if (gaR L (L 1 + i) (seM L N i)).1 = 0 then seT L N i else ((seT L N i).1 + 1, (seT L N i).2.1 + (if alF (seM L N (i + 1)) = 0 then 1 else 0), (seT L N i).2.2 + seM L N (i + 1) 6)
theorem seT_succ (L N : Nat → Int) (i : Nat) : seT L N (i + 1) = if (gaR L (L 1 + i) (seM L N i)).1 = 0 then seT L N i else ((seT L N i).1 + 1, (seT L N i).2.1 + (if alF (seM L N (i + 1)) = 0 then 1 else 0), (seT L N i).2.2 + seM L N (i + 1) 6) := rfl
theorem seT_rng {L : Nat → Int} (hL : plOk L) (N : Nat → Int) : ∀ i, i ≤ 20 → (0 ≤ (seT L N i).1 ∧ (seT L N i).1 ≤ i) ∧ (0 ≤ (seT L N i).2.1 ∧ (seT L N i).2.1 ≤ i) ∧ (0 ≤ (seT L N i).2.2 ∧ (seT L N i).2.2 ≤ 256 * i) := by
  intro i
  induction i with
  | zero => intro _; refine ⟨⟨Int.le_refl 0, Int.le_refl 0⟩, ⟨Int.le_refl 0, Int.le_refl 0⟩, ⟨Int.le_refl 0, Int.le_refl 0⟩⟩
  | succ i ih =>
    intro hi
    have hL1 := hL.2.1
    obtain ⟨⟨a1, a2⟩, ⟨b1, b2⟩, ⟨c1, c2⟩⟩ := ih (by omega)
    have hr := (ga_R (seed := L 1 + i) (N := seM L N i) hL (by omega) (by omega)).2
    rw [seT_succ]
    by_cases g : (gaR L (L 1 + i) (seM L N i)).1 = 0
    · rw [if_pos g]; refine ⟨⟨a1, by omega⟩, ⟨b1, by omega⟩, ⟨c1, by omega⟩⟩
    · rw [if_neg g, seM_succ]
      have h2 := hr g
      refine ⟨⟨?_, ?_⟩, ⟨?_, ?_⟩, ⟨?_, ?_⟩⟩
      · show 0 ≤ (seT L N i).1 + 1; omega
      · show (seT L N i).1 + 1 ≤ _; omega
      · show 0 ≤ (seT L N i).2.1 + _; split <;> omega
      · show (seT L N i).2.1 + _ ≤ _; split <;> omega
      · show 0 ≤ (seT L N i).2.2 + _; omega
      · show (seT L N i).2.2 + _ ≤ _; omega
def sdOk (m w : Int) : Prop := (1 ≤ m ∧ m ≤ 20) ∧ (0 ≤ w ∧ w ≤ 2)
def sdV (L N : Nat → Int) (m w : Int) : Int := if w = 0 then (seT L N m.toNat).1 else if w = 1 then (seT L N m.toNat).2.1 else (seT L N m.toNat).2.2
/-- whether m seeds from the i-th on come to keys that are alike -/
def igF (L : Nat → Int) : Nat → Nat → (Nat → Int) → Int × (Nat → Int)
  | 0, _, N => (1, N)
  | u + 1, i, N => if (gaR L (L 1 + i) N).1 = 0 then (0, (gaR L (L 1 + i) N).2) else if alF (gaR L (L 1 + i) N).2 = 0 then (0, (gaR L (L 1 + i) N).2) else igF L u (i + 1) (gaR L (L 1 + i) N).2
theorem igF_succ (L : Nat → Int) (u i : Nat) (N : Nat → Int) : igF L (u + 1) i N = if (gaR L (L 1 + i) N).1 = 0 then (0, (gaR L (L 1 + i) N).2) else if alF (gaR L (L 1 + i) N).2 = 0 then (0, (gaR L (L 1 + i) N).2) else igF L u (i + 1) (gaR L (L 1 + i) N).2 := rfl
def nzP (L : Nat → Int) (j : Nat) : Nat → Int := un L 2 (500 - 10 * (j : Int))
/-- the greatest noise -/
def nzF (L : Nat → Int) (m : Nat) : Nat → Nat → (Nat → Int) → Int
  | 0, _, _ => -2
  | u + 1, j, N => if (igF (nzP L j) m 0 N).1 = 0 then nzF L m u (j + 1) (igF (nzP L j) m 0 N).2 else 500 - 10 * (j : Int)
theorem nzF_succ (L : Nat → Int) (m u j : Nat) (N : Nat → Int) : nzF L m (u + 1) j N = if (igF (nzP L j) m 0 N).1 = 0 then nzF L m u (j + 1) (igF (nzP L j) m 0 N).2 else 500 - 10 * (j : Int) := rfl
theorem nzP_ok {L : Nat → Int} (hL : plOk L) {j : Nat} (hj : j ≤ 50) : plOk (nzP L j) := by
  unfold plOk at hL ⊢
  unfold nzP
  rw [un_at, un_ne (by decide), un_ne (by decide), un_ne (by decide), un_ne (by decide), un_ne (by decide), un_ne (by decide), un_ne (by decide), un_ne (by decide)]
  omega
theorem nzP_1 (L : Nat → Int) (j : Nat) : nzP L j 1 = L 1 := un_ne (by decide)
theorem nzP_eq {L X : Nat → Int} (h : ∀ k, k ≠ 2 → X k = L k) (j : Nat) : un X 2 (500 - 10 * (j : Int)) = nzP L j := by
  funext k
  unfold nzP un
  split
  · rfl
  · rename_i g; exact h k g
theorem nzB_eq {L X : Nat → Int} (h : ∀ k, k ≠ 2 → X k = L k) : un X 2 (L 2) = L := by
  funext k
  unfold un
  split
  · rename_i g; rw [g]
  · rename_i g; exact h k g
theorem c_alk {P W A H : Nat → Int} (hT : ShM T) (h0 : 1 ≤ N 6) (h1 : N 6 ≤ 256) (hq : Q (some (aI (alF N))) T (FM I P W A H N)) : EvE G mX12_areLastAlike d [aR 274] T (FM I P W A H N) Q := c_areLastAlike (L := (N 6).toNat) hT (by omega) (by omega) hq
theorem c_seeds {m w : Int} {L : Nat → Int} {P W A H : Nat → Int} (hT : ShM T) (hd : 8 ≤ d) (hR : Rng N) (hI : I 280 = L) (hL : plOk L) (h17 : H 17 = -1) (hq0 : ¬ (sdOk m w) → Q (some (aI (-1))) T (sr (sr (sr (sr (sr I 286 P) 285 W) 284 A) 274 H) 283 N)) (hq1 : (sdOk m w) → ∀ A2 K2 N2 : Nat → Int, agN N N2 → kpF H K2 → Q (some (aI (sdV L N m w))) T (sr (sr (sr (sr (sr I 286 P) 285 W) 284 A2) 274 K2) 283 N2)) : EvE G mX12_seeds d [aR 274, aI m, aI w] T (sr (sr (sr (sr (sr I 286 P) 285 W) 284 A) 274 H) 283 N) Q := by
  refine EvE.mk (lv0 := [some (aR 274), some (aI m), some (aI w), none, none, none, none]) (Nat.le_of_ble_eq_true rfl) (by decide +kernel) rfl ?_
  refine r_iload_n (pc := 0) (i := 1) dX12_seeds_0 rfl rfl ?_
  refine r_i2l (pc := 1) dX12_seeds_1 ?_
  refine r_lconst (pc := 2) (z := 1) dX12_seeds_2 rfl (in64_of rfl) ?_
  refine r_ldc2 (pc := 3) (n := 20) dX12_seeds_3 cn_X12_314 (in64_of rfl) ?_
  refine r_callS1 (pc := 6) (d - 1) [aL m, aL 1, aL 20] dX12_seeds_6 (CS.mk2 mk_X12_isIn1 lk_X12_76) rfl rfl (by omega) (Nat.le_of_ble_eq_true rfl) (Nat.le_of_ble_eq_true rfl) (c_isIn1 ?_)
  refine ⟨_, rfl, fun _ => ?_⟩
  refine r_if_eq (pc := 9) (tgt := 24) dX12_seeds_9 rfl (fun c9 => ?_) (fun c9 => ?_)
  · have c9 := bi_if.mp c9
    refine r_iconst (pc := 24) dX12_seeds_24 (in32_of rfl) ?_
    exact r_iret (pc := 25) dX12_seeds_25 trivial (hq0 (fun h => by unfold sdOk at h; omega))
  · have c9 := bi_1 c9
    refine r_iload_n (pc := 12) (i := 2) dX12_seeds_12 rfl rfl ?_
    refine r_i2l (pc := 13) dX12_seeds_13 ?_
    refine r_lconst (pc := 14) (z := 0) dX12_seeds_14 rfl (in64_of rfl) ?_
    refine r_ldc2 (pc := 15) (n := 2) dX12_seeds_15 cn_X12_301 (in64_of rfl) ?_
    refine r_callS1 (pc := 18) (d - 1) [aL w, aL 0, aL 2] dX12_seeds_18 (CS.mk2 mk_X12_isIn1 lk_X12_76) rfl rfl (by omega) (Nat.le_of_ble_eq_true rfl) (Nat.le_of_ble_eq_true rfl) (c_isIn1 ?_)
    refine ⟨_, rfl, fun _ => ?_⟩
    refine r_if_ne (pc := 21) (tgt := 26) dX12_seeds_21 rfl (fun c21 => ?_) (fun c21 => ?_)
    · have c21 := bi_1 c21
      obtain ⟨m, rfl⟩ : ∃ e : Nat, m = (e : Int) := ⟨m.toNat, by omega⟩
      have hRA := Rng_ag hR (ag_cp N A)
      refine r_aload_n (pc := 26) (i := 0) dX12_seeds_26 rfl rfl ?_
      refine r_callV0 (pc := 27) (d - 1) [] dX12_seeds_27 (CV.mk2 mk_X12_keepsAside lk_X12_305) (RC.of (ltM hT (by omega)) (kM274 hT) (by decide) rfl) rfl rfl (by omega) (Nat.le_of_ble_eq_true rfl) (Nat.le_of_ble_eq_true rfl) (c_keepsAside hT (by omega) hR ?_)
      refine ⟨rfl, fun _ => ?_⟩
      refine r_iconst (pc := 30) dX12_seeds_30 (in32_of rfl) ?_
      refine r_istore_n (pc := 31) (i := 3) (lv' := [_, _, _, _, _, _, _]) dX12_seeds_31 rfl (by decide) rfl ?_
      refine r_iconst (pc := 32) dX12_seeds_32 (in32_of rfl) ?_
      refine r_istore (pc := 33) (i := 4) (lv' := [_, _, _, _, _, _, _]) dX12_seeds_33 (by decide) rfl ?_
      refine r_iconst (pc := 35) dX12_seeds_35 (in32_of rfl) ?_
      refine r_istore (pc := 36) (i := 5) (lv' := [_, _, _, _, _, _, _]) dX12_seeds_36 (by decide) rfl ?_
      refine r_iconst (pc := 38) dX12_seeds_38 (in32_of rfl) ?_
      refine r_istore (pc := 39) (i := 6) (lv' := [_, _, _, _, _, _, _]) dX12_seeds_39 (by decide) rfl ?_
      refine loop2 (fun (i : Nat) (K : Nat → Int) => i ≤ m ∧ kpF H K) (fun (i : Nat) (K : Nat → Int) => m - i) (fun (i : Nat) (K : Nat → Int) => [some (aR 274), some (aI ((m : Nat) : Int)), some (aI w), some (aI ((seT L N i).1)), some (aI ((seT L N i).2.1)), some (aI ((seT L N i).2.2)), some (aI ((i : Nat) : Int))]) (fun _ _ => T) (fun (i : Nat) (K : Nat → Int) => sr (sr (sr (sr (sr I 286 P) 285 W) 284 (cpyR N 0 A 0 (tN N + 3902))) 274 K) 283 (seM L N i)) ?_ 0 H ⟨Nat.zero_le _, kpF_id⟩
      intro i K hP ih
      have hP : i ≤ m ∧ kpF H K := hP
      have hL1 := hL.2.1
      have hgr0 := ga_R (seed := L 1 + i) (N := seM L N i) hL (by omega) (by omega)
      have hst := seT_rng hL N i (by omega)
      have hK7 : K 17 = -1 := (hP.2 17 (by decide) (by decide)).trans h17
      refine (?_ : Ev G mX12_seeds d 41 [some (aR 274), some (aI ((m : Nat) : Int)), some (aI w), some (aI ((seT L N i).1)), some (aI ((seT L N i).2.1)), some (aI ((seT L N i).2.2)), some (aI ((i : Nat) : Int))] [] T (sr (sr (sr (sr (sr I 286 P) 285 W) 284 (cpyR N 0 A 0 (tN N + 3902))) 274 K) 283 (seM L N i)) Q)
      refine r_iload (pc := 41) (i := 6) dX12_seeds_41 rfl ?_
      refine r_iload_n (pc := 43) (i := 1) dX12_seeds_43 rfl rfl ?_
      refine r_icmp_ge (pc := 44) (tgt := 104) dX12_seeds_44 rfl (fun c44 => ?_) (fun c44 => ?_)
      · refine r_aload_n (pc := 104) (i := 0) dX12_seeds_104 rfl rfl ?_
        refine r_callV0 (pc := 105) (d - 1) [] dX12_seeds_105 (CV.mk2 mk_X12_laysBack lk_X12_308) (RC.of (ltM hT (by omega)) (kM274 hT) (by decide) rfl) rfl rfl (by omega) (Nat.le_of_ble_eq_true rfl) (Nat.le_of_ble_eq_true rfl) (c_laysBack (A := (cpyR N 0 A 0 (tN N + 3902))) hT (by omega) hRA ?_)
        refine ⟨rfl, fun _ => ?_⟩
        refine r_iload_n (pc := 108) (i := 2) dX12_seeds_108 rfl rfl ?_
        refine r_if_ne (pc := 109) (tgt := 116) dX12_seeds_109 rfl (fun c109 => ?_) (fun c109 => ?_)
        · refine r_iload_n (pc := 116) (i := 2) dX12_seeds_116 rfl rfl ?_
          refine r_iconst (pc := 117) dX12_seeds_117 (in32_of rfl) ?_
          refine r_icmp_ne (pc := 118) (tgt := 126) dX12_seeds_118 rfl (fun c118 => ?_) (fun c118 => ?_)
          · refine r_iload (pc := 126) (i := 5) dX12_seeds_126 rfl ?_
            have hie : i = m := by omega
            subst hie
            exact r_iret (pc := 128) dX12_seeds_128 trivial (by have h := hq1 ⟨by omega, by omega⟩ (cpyR N 0 A 0 (tN N + 3902)) (K) (cpyR (cpyR N 0 A 0 (tN N + 3902)) 0 (seM L N i) 0 (tN (cpyR N 0 A 0 (tN N + 3902)) + 3902)) (ag_bk (ag_cp N A) _) hP.2; unfold sdV at h; rw [if_neg c109, if_neg c118, Int.toNat_natCast] at h; exact h)
          · have c118 := Decidable.of_not_not c118
            refine r_iload (pc := 121) (i := 4) dX12_seeds_121 rfl ?_
            refine r_goto (pc := 123) (tgt := 128) dX12_seeds_123 rfl ?_
            have hie : i = m := by omega
            subst hie
            exact r_iret (pc := 128) dX12_seeds_128 trivial (by have h := hq1 ⟨by omega, by omega⟩ (cpyR N 0 A 0 (tN N + 3902)) (K) (cpyR (cpyR N 0 A 0 (tN N + 3902)) 0 (seM L N i) 0 (tN (cpyR N 0 A 0 (tN N + 3902)) + 3902)) (ag_bk (ag_cp N A) _) hP.2; unfold sdV at h; rw [if_neg c109, if_pos c118, Int.toNat_natCast] at h; exact h)
        · have c109 := Decidable.of_not_not c109
          refine r_iload_n (pc := 112) (i := 3) dX12_seeds_112 rfl rfl ?_
          refine r_goto (pc := 113) (tgt := 128) dX12_seeds_113 rfl ?_
          have hie : i = m := by omega
          subst hie
          exact r_iret (pc := 128) dX12_seeds_128 trivial (by have h := hq1 ⟨by omega, by omega⟩ (cpyR N 0 A 0 (tN N + 3902)) (K) (cpyR (cpyR N 0 A 0 (tN N + 3902)) 0 (seM L N i) 0 (tN (cpyR N 0 A 0 (tN N + 3902)) + 3902)) (ag_bk (ag_cp N A) _) hP.2; unfold sdV at h; rw [if_pos c109, Int.toNat_natCast] at h; exact h)
      · refine r_aload_n (pc := 47) (i := 0) dX12_seeds_47 rfl rfl ?_
        refine r_aload_n (pc := 48) (i := 0) dX12_seeds_48 rfl rfl ?_
        refine r_getfr (pc := 49) (b := 280) cks dX12_seeds_49 fl_X12_27 rfl (kM274 hT) (ltM hT (by omega)) (rM6 hT) ?_
        refine r_iconst (pc := 52) dX12_seeds_52 (in32_of rfl) ?_
        refine r_ild (pc := 53) (1) dX12_seeds_53 (kM280 hT) (ltM hT (by omega)) (by omega) (by rw [lM280 hT]; omega) ?_
        refine r_top (b := I 280 1) ((congrFun (sr_ne (by decide)) _).trans ((congrFun (sr_ne (by decide)) _).trans ((congrFun (sr_ne (by decide)) _).trans ((congrFun (sr_ne (by decide)) _).trans ((congrFun (sr_ne (by decide)) _).trans (rfl)))))) ?_
        refine r_top (b := L 1) (congrFun hI 1) ?_
        refine r_iload (pc := 54) (i := 6) dX12_seeds_54 rfl ?_
        refine r_iaddN (pc := 56) (c := ((L 1) + ((i : Nat) : Int))) dX12_seeds_56 (by unfold w32; omega) ?_
        refine r_callV1 (pc := 57) (d - 1) [aI ((L 1) + ((i : Nat) : Int))] dX12_seeds_57 (CV.mk2 mk_X12_goesAll lk_X12_316) (RC.of (ltM hT (by omega)) (kM274 hT) (by decide) rfl) rfl rfl (by omega) (Nat.le_of_ble_eq_true rfl) (Nat.le_of_ble_eq_true rfl) (c_goesAll (sd := L 1 + i) (L := L) hT (by omega) hI hL hK7 (by omega) (by omega) (fun K2 hK2 => ?_))
        refine ⟨_, rfl, fun _ => ?_⟩
        refine r_if_ne (pc := 60) (tgt := 66) dX12_seeds_60 rfl (fun c60 => ?_) (fun c60 => ?_)
        · have hgr := hgr0.2 c60
          refine r_iincN (pc := 66) (i := 3) (c := (((seT L N i).1) + 1)) (lv' := [_, _, _, _, _, _, _]) dX12_seeds_66 rfl (by decide) (by unfold w32; omega) rfl ?_
          refine r_iload (pc := 69) (i := 4) dX12_seeds_69 rfl ?_
          refine r_aload_n (pc := 71) (i := 0) dX12_seeds_71 rfl rfl ?_
          refine r_callV1 (pc := 72) (d - 1) [] dX12_seeds_72 (CV.mk2 mk_X12_areLastAlike lk_X12_319) (RC.of (ltM hT (by omega)) (kM274 hT) (by decide) rfl) rfl rfl (by omega) (Nat.le_of_ble_eq_true rfl) (Nat.le_of_ble_eq_true rfl) (c_alk hT hgr.1 hgr.2 ?_)
          refine ⟨_, rfl, fun _ => ?_⟩
          refine r_if_eq (pc := 75) (tgt := 82) dX12_seeds_75 rfl (fun c75 => ?_) (fun c75 => ?_)
          · refine r_iconst (pc := 82) dX12_seeds_82 (in32_of rfl) ?_
            refine r_iaddN (pc := 83) (c := (((seT L N i).2.1) + 1)) dX12_seeds_83 (by unfold w32; omega) ?_
            refine r_istore (pc := 84) (i := 4) (lv' := [_, _, _, _, _, _, _]) dX12_seeds_84 (by decide) rfl ?_
            refine r_iload (pc := 86) (i := 5) dX12_seeds_86 rfl ?_
            refine r_aload_n (pc := 88) (i := 0) dX12_seeds_88 rfl rfl ?_
            refine r_getfr (pc := 89) (b := 283) cks dX12_seeds_89 fl_X12_37 rfl (kM274 hT) (ltM hT (by omega)) (rM11 hT) ?_
            refine r_bipush (pc := 92) dX12_seeds_92 rfl (in32_of rfl) ?_
            refine r_ild (pc := 94) (6) dX12_seeds_94 (kM283 hT) (ltM hT (by omega)) (by omega) (by rw [lM283 hT]; omega) ?_
            refine r_top (b := ((gaR L (L 1 + i) (seM L N i)).2) 6) (sr_at _ _ _ _) ?_
            refine r_iaddN (pc := 95) (c := (((seT L N i).2.2) + (((gaR L (L 1 + i) (seM L N i)).2) 6))) dX12_seeds_95 (by unfold w32; omega) ?_
            refine r_istore (pc := 96) (i := 5) (lv' := [_, _, _, _, _, _, _]) dX12_seeds_96 (by decide) rfl ?_
            refine r_iincN (pc := 98) (i := 6) (c := ((i + 1 : Nat) : Int)) (lv' := [_, _, _, _, _, _, _]) dX12_seeds_98 rfl (by decide) (by unfold w32; omega) rfl ?_
            refine r_goto (pc := 101) (tgt := 41) dX12_seeds_101 rfl ?_
            have hst2 : seT L N (i + 1) = ((seT L N i).1 + 1, (seT L N i).2.1 + 1, (seT L N i).2.2 + (gaR L (L 1 + i) (seM L N i)).2 6) := by rw [seT_succ, if_neg c60, if_pos (show alF (seM L N (i + 1)) = 0 from c75)]; rfl
            exact Ev.re (by rw [hst2]) rfl (ih (i + 1) K2 ⟨by omega, kpF_trans hP.2 hK2⟩ (by omega))
          · refine r_iconst (pc := 78) dX12_seeds_78 (in32_of rfl) ?_
            refine r_goto (pc := 79) (tgt := 83) dX12_seeds_79 rfl ?_
            refine r_iaddN (pc := 83) (c := ((seT L N i).2.1)) dX12_seeds_83 (by unfold w32; omega) ?_
            refine r_istore (pc := 84) (i := 4) (lv' := [_, _, _, _, _, _, _]) dX12_seeds_84 (by decide) rfl ?_
            refine r_iload (pc := 86) (i := 5) dX12_seeds_86 rfl ?_
            refine r_aload_n (pc := 88) (i := 0) dX12_seeds_88 rfl rfl ?_
            refine r_getfr (pc := 89) (b := 283) cks dX12_seeds_89 fl_X12_37 rfl (kM274 hT) (ltM hT (by omega)) (rM11 hT) ?_
            refine r_bipush (pc := 92) dX12_seeds_92 rfl (in32_of rfl) ?_
            refine r_ild (pc := 94) (6) dX12_seeds_94 (kM283 hT) (ltM hT (by omega)) (by omega) (by rw [lM283 hT]; omega) ?_
            refine r_top (b := ((gaR L (L 1 + i) (seM L N i)).2) 6) (sr_at _ _ _ _) ?_
            refine r_iaddN (pc := 95) (c := (((seT L N i).2.2) + (((gaR L (L 1 + i) (seM L N i)).2) 6))) dX12_seeds_95 (by unfold w32; omega) ?_
            refine r_istore (pc := 96) (i := 5) (lv' := [_, _, _, _, _, _, _]) dX12_seeds_96 (by decide) rfl ?_
            refine r_iincN (pc := 98) (i := 6) (c := ((i + 1 : Nat) : Int)) (lv' := [_, _, _, _, _, _, _]) dX12_seeds_98 rfl (by decide) (by unfold w32; omega) rfl ?_
            refine r_goto (pc := 101) (tgt := 41) dX12_seeds_101 rfl ?_
            have hst2 : seT L N (i + 1) = ((seT L N i).1 + 1, (seT L N i).2.1, (seT L N i).2.2 + (gaR L (L 1 + i) (seM L N i)).2 6) := by rw [seT_succ, if_neg c60, if_neg (show ¬ alF (seM L N (i + 1)) = 0 from c75)]; rw [Int.add_zero]; rfl
            exact Ev.re (by rw [hst2]) rfl (ih (i + 1) K2 ⟨by omega, kpF_trans hP.2 hK2⟩ (by omega))
        · have c60 := Decidable.of_not_not c60
          refine r_goto (pc := 63) (tgt := 98) dX12_seeds_63 rfl ?_
          refine r_iincN (pc := 98) (i := 6) (c := ((i + 1 : Nat) : Int)) (lv' := [_, _, _, _, _, _, _]) dX12_seeds_98 rfl (by decide) (by unfold w32; omega) rfl ?_
          refine r_goto (pc := 101) (tgt := 41) dX12_seeds_101 rfl ?_
          exact Ev.re (by rw [seT_succ, if_pos c60]) rfl (ih (i + 1) K2 ⟨by omega, kpF_trans hP.2 hK2⟩ (by omega))
    · have c21 := bi_if.mp (Decidable.of_not_not c21)
      refine r_iconst (pc := 24) dX12_seeds_24 (in32_of rfl) ?_
      exact r_iret (pc := 25) dX12_seeds_25 trivial (hq0 (fun h => by unfold sdOk at h; omega))
theorem c_isGoodBy {m : Nat} {L : Nat → Int} {P W A H : Nat → Int} (hT : ShM T) (hd : 7 ≤ d) (hm : m ≤ 20) (hI : I 280 = L) (hL : plOk L) (h17 : H 17 = -1) (hq : ∀ K2 : Nat → Int, kpF H K2 → Q (some (aI (igF L m 0 N).1)) T (sr (sr (sr (sr (sr I 286 P) 285 W) 284 A) 274 K2) 283 ((igF L m 0 N).2))) : EvE G mX12_isGoodBy d [aR 274, aI ((m : Nat) : Int)] T (sr (sr (sr (sr (sr I 286 P) 285 W) 284 A) 274 H) 283 N) Q := by
  refine EvE.mk (lv0 := [some (aR 274), some (aI ((m : Nat) : Int)), none]) (Nat.le_of_ble_eq_true rfl) (by decide +kernel) rfl ?_
  refine r_iconst (pc := 0) dX12_isGoodBy_0 (in32_of rfl) ?_
  refine r_istore_n (pc := 1) (i := 2) (lv' := [_, _, _]) dX12_isGoodBy_1 rfl (by decide) rfl ?_
  refine loop3 (fun (i : Nat) (K : Nat → Int) (M : Nat → Int) => i ≤ m ∧ igF L m 0 N = igF L (m - i) i M ∧ kpF H K) (fun (i : Nat) (K : Nat → Int) (M : Nat → Int) => m - i) (fun (i : Nat) (K : Nat → Int) (M : Nat → Int) => [some (aR 274), some (aI ((m : Nat) : Int)), some (aI ((i : Nat) : Int))]) (fun _ _ _ => T) (fun (i : Nat) (K : Nat → Int) (M : Nat → Int) => sr (sr (sr (sr (sr I 286 P) 285 W) 284 A) 274 K) 283 M) ?_ 0 H N ⟨Nat.zero_le _, rfl, kpF_id⟩
  intro i K M hP ih
  have hP : i ≤ m ∧ igF L m 0 N = igF L (m - i) i M ∧ kpF H K := hP
  have hL1 := hL.2.1
  have hgr0 := ga_R (seed := L 1 + i) (N := M) hL (by omega) (by omega)
  have hK7 : K 17 = -1 := (hP.2.2 17 (by decide) (by decide)).trans h17
  refine (?_ : Ev G mX12_isGoodBy d 2 [some (aR 274), some (aI ((m : Nat) : Int)), some (aI ((i : Nat) : Int))] [] T (sr (sr (sr (sr (sr I 286 P) 285 W) 284 A) 274 K) 283 M) Q)
  refine r_iload_n (pc := 2) (i := 2) dX12_isGoodBy_2 rfl rfl ?_
  refine r_iload_n (pc := 3) (i := 1) dX12_isGoodBy_3 rfl rfl ?_
  refine r_icmp_ge (pc := 4) (tgt := 37) dX12_isGoodBy_4 rfl (fun c4 => ?_) (fun c4 => ?_)
  · refine r_iconst (pc := 37) dX12_isGoodBy_37 (in32_of rfl) ?_
    have e : igF L m 0 N = (1, M) := by rw [hP.2.1, show m - i = 0 by omega]; rfl
    exact r_iret (pc := 38) dX12_isGoodBy_38 (Or.inr rfl) (by have h := hq _ hP.2.2; rw [e] at h; exact h)
  · refine r_aload_n (pc := 7) (i := 0) dX12_isGoodBy_7 rfl rfl ?_
    refine r_aload_n (pc := 8) (i := 0) dX12_isGoodBy_8 rfl rfl ?_
    refine r_getfr (pc := 9) (b := 280) cks dX12_isGoodBy_9 fl_X12_27 rfl (kM274 hT) (ltM hT (by omega)) (rM6 hT) ?_
    refine r_iconst (pc := 12) dX12_isGoodBy_12 (in32_of rfl) ?_
    refine r_ild (pc := 13) (1) dX12_isGoodBy_13 (kM280 hT) (ltM hT (by omega)) (by omega) (by rw [lM280 hT]; omega) ?_
    refine r_top (b := I 280 1) ((congrFun (sr_ne (by decide)) _).trans ((congrFun (sr_ne (by decide)) _).trans ((congrFun (sr_ne (by decide)) _).trans ((congrFun (sr_ne (by decide)) _).trans ((congrFun (sr_ne (by decide)) _).trans (rfl)))))) ?_
    refine r_top (b := L 1) (congrFun hI 1) ?_
    refine r_iload_n (pc := 14) (i := 2) dX12_isGoodBy_14 rfl rfl ?_
    refine r_iaddN (pc := 15) (c := ((L 1) + ((i : Nat) : Int))) dX12_isGoodBy_15 (by unfold w32; omega) ?_
    refine r_callV1 (pc := 16) (d - 1) [aI ((L 1) + ((i : Nat) : Int))] dX12_isGoodBy_16 (CV.mk2 mk_X12_goesAll lk_X12_316) (RC.of (ltM hT (by omega)) (kM274 hT) (by decide) rfl) rfl rfl (by omega) (Nat.le_of_ble_eq_true rfl) (Nat.le_of_ble_eq_true rfl) (c_goesAll (sd := L 1 + i) (L := L) hT (by omega) hI hL hK7 (by omega) (by omega) (fun K2 hK2 => ?_))
    refine ⟨_, rfl, fun _ => ?_⟩
    refine r_if_eq (pc := 19) (tgt := 29) dX12_isGoodBy_19 rfl (fun c19 => ?_) (fun c19 => ?_)
    · refine r_iconst (pc := 29) dX12_isGoodBy_29 (in32_of rfl) ?_
      have e : igF L m 0 N = (0, (gaR L (L 1 + i) (M)).2) := by rw [hP.2.1, show m - i = (m - (i + 1)) + 1 by omega, igF_succ, if_pos c19]
      exact r_iret (pc := 30) dX12_isGoodBy_30 (Or.inl rfl) (by have h := hq _ (kpF_trans hP.2.2 hK2); rw [e] at h; exact h)
    · have hgr := hgr0.2 c19
      refine r_aload_n (pc := 22) (i := 0) dX12_isGoodBy_22 rfl rfl ?_
      refine r_callV1 (pc := 23) (d - 1) [] dX12_isGoodBy_23 (CV.mk2 mk_X12_areLastAlike lk_X12_319) (RC.of (ltM hT (by omega)) (kM274 hT) (by decide) rfl) rfl rfl (by omega) (Nat.le_of_ble_eq_true rfl) (Nat.le_of_ble_eq_true rfl) (c_alk hT hgr.1 hgr.2 ?_)
      refine ⟨_, rfl, fun _ => ?_⟩
      refine r_if_ne (pc := 26) (tgt := 31) dX12_isGoodBy_26 rfl (fun c26 => ?_) (fun c26 => ?_)
      · refine r_iincN (pc := 31) (i := 2) (c := ((i + 1 : Nat) : Int)) (lv' := [_, _, _]) dX12_isGoodBy_31 rfl (by decide) (by unfold w32; omega) rfl ?_
        refine r_goto (pc := 34) (tgt := 2) dX12_isGoodBy_34 rfl ?_
        exact ih (i + 1) K2 (gaR L (L 1 + i) (M)).2 ⟨by omega, by rw [hP.2.1, show m - i = (m - (i + 1)) + 1 by omega, igF_succ, if_neg c19, if_neg c26], kpF_trans hP.2.2 hK2⟩ (by omega)
      · have c26 := Decidable.of_not_not c26
        refine r_iconst (pc := 29) dX12_isGoodBy_29 (in32_of rfl) ?_
        have e : igF L m 0 N = (0, (gaR L (L 1 + i) (M)).2) := by rw [hP.2.1, show m - i = (m - (i + 1)) + 1 by omega, igF_succ, if_neg c19, if_pos c26]
        exact r_iret (pc := 30) dX12_isGoodBy_30 (Or.inl rfl) (by have h := hq _ (kpF_trans hP.2.2 hK2); rw [e] at h; exact h)
end M43

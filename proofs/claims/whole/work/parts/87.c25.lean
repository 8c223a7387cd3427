section C25
variable {G : Gl} {d : Nat} {T : Sh} {I : Mi} {N : Nat → Int} {Q : Option AV → Sh → Mi → Prop}
/-- an array's first k cells are a row's from r on -/
def rowR (R M : Nat → Int) (r k : Nat) : Nat → Int := fun j => if j < k then M (r + j) else R j
theorem rowR_0 (R M : Nat → Int) (r : Nat) : rowR R M r 0 = R := funext fun j => if_neg (by omega)
theorem rowR_in {R M : Nat → Int} {r k j : Nat} (h : j < k) : rowR R M r k j = M (r + j) := if_pos h
theorem rowR_rw (R N : Nat → Int) {r k : Nat} (hr : 2580 ≤ r) : un (rowR R (rwS N r k) r k) k (drV (rwS N r k) 2) = rowR R (rwS N r (k + 1)) r (k + 1) := by
  funext j
  rw [rwS_succ]
  by_cases h : j = k
  · subst h
    rw [un_at, rowR_in (by omega), un_at]
  · rw [un_ne h]
    unfold rowR
    by_cases g : j < k
    · rw [if_pos g, if_pos (by omega), un_ne (by omega), dN_ne (by omega)]
    · rw [if_neg g, if_neg (by omega)]
theorem rw_8 {N : Nat → Int} {r k : Nat} (hr : 2580 ≤ r) : rwS N r (k + 1) 8 = dN (rwS N r k) 8 := by rw [rwS_succ, un_ne (by omega)]
theorem k_drawRow {x lx b r : Nat} {s p o t c : Nat} (hS : ShS T s p o t c) (hd : 1 ≤ d) (hkx : kd T x = 20) (hlx : x < nx T) (hnx : ln T x = lx) (hxs : x ≠ s) (hX : I s 1 = N 8) (hR : Rng N) (hr : 2580 ≤ r) (hb : b ≤ lx) (hrb : r + b ≤ 3902) (hl2 : lx ≤ 100000) (hq : Q none T (sr (sr I s (un (I s) 1 (rwS N r b 8))) x (rowR (I x) (rwS N r b) r b))) : EvE G mX0_drawRow d [aR s, aR x, aI ((b : Nat) : Int)] T I Q := by
  refine EvE.mk (lv0 := [some (aR s), some (aR x), some (aI ((b : Nat) : Int)), none]) (Nat.le_of_ble_eq_true rfl) (by decide +kernel) rfl ?_
  refine r_iconst (pc := 0) dX0_drawRow_0 (in32_of rfl) ?_
  refine r_istore_n (pc := 1) (i := 3) (lv' := [_, _, _, _]) dX0_drawRow_1 rfl (by decide) rfl ?_
  refine r_mem (I2 := sr I s (I s)) (((congrArg (fun f_ => sr I s f_) (show I s = I s from rfl)).symm.trans (sr_id _ _)).symm) ?_
  refine r_mem (I2 := sr (sr I s (I s)) x (I x)) (((congrArg (fun f_ => sr (sr I s (I s)) x f_) (show (sr I s (I s)) x = I x from (sr_ne (by omega)).trans (rfl))).symm.trans (sr_id _ _)).symm) ?_
  refine r_mem (I2 := sr (sr I s (un (I s) 1 (rwS N r 0 8))) x (rowR (I x) (rwS N r 0) r 0)) (by rw [un8_id (show I s 1 = rwS N r 0 8 from hX), rowR_0]) ?_
  refine loop1 (fun (k : Nat) => k ≤ b) (fun (k : Nat) => b - k) (fun (k : Nat) => [some (aR s), some (aR x), some (aI ((b : Nat) : Int)), some (aI ((k : Nat) : Int))]) (fun _ => T) (fun (k : Nat) => sr (sr I s (un (I s) 1 (rwS N r k 8))) x (rowR (I x) (rwS N r k) r k)) ?_ 0 (Nat.zero_le _)
  intro k hP ih
  have hP : k ≤ b := hP
  have hrk := rwS_ok (r := r) hR hr k (by omega)
  refine (?_ : Ev G mX0_drawRow d 2 [some (aR s), some (aR x), some (aI ((b : Nat) : Int)), some (aI ((k : Nat) : Int))] [] T (sr (sr I s (un (I s) 1 (rwS N r k 8))) x (rowR (I x) (rwS N r k) r k)) Q)
  refine r_iload_n (pc := 2) (i := 3) dX0_drawRow_2 rfl rfl ?_
  refine r_iload_n (pc := 3) (i := 2) dX0_drawRow_3 rfl rfl ?_
  refine r_icmp_ge (pc := 4) (tgt := 27) dX0_drawRow_4 rfl (fun c4 => ?_) (fun c4 => ?_)
  · exact r_vret (pc := 27) dX0_drawRow_27 trivial (by rw [show b = k by omega] at hq; exact hq)
  · refine r_iload_n (pc := 7) (i := 3) dX0_drawRow_7 rfl rfl ?_
    refine r_aload_n (pc := 8) (i := 1) dX0_drawRow_8 rfl rfl ?_
    refine r_alen (pc := 9) dX0_drawRow_9 (by rw [hkx]; omega) hlx ?_
    refine r_top (b := ((lx : Nat) : Int)) (by rw [hnx] <;> rfl) ?_
    refine r_icmp_ge (pc := 10) (tgt := 27) dX0_drawRow_10 rfl (fun c10 => absurd c10 (by omega)) (fun c10 => ?_)
    refine r_aload_n (pc := 13) (i := 1) dX0_drawRow_13 rfl rfl ?_
    refine r_iload_n (pc := 14) (i := 3) dX0_drawRow_14 rfl rfl ?_
    refine r_aload_n (pc := 15) (i := 0) dX0_drawRow_15 rfl rfl ?_
    refine r_iconst (pc := 16) dX0_drawRow_16 (in32_of rfl) ?_
    refine r_callV1 (pc := 17) (d - 1) [aI 2] dX0_drawRow_17 (CV.mk2 mk_X9_draw lk_X0_58) (RC.of (ltS0 hS) (kS0 hS) (by decide) rfl) rfl rfl (by omega) (Nat.le_of_ble_eq_true rfl) (Nat.le_of_ble_eq_true rfl) (k_drM (k := 2) (M := rwS N r k) hS ((congrFun (show (sr (sr I s (un (I s) 1 (rwS N r k 8))) x (rowR (I x) (rwS N r k) r k)) s = un (I s) 1 (rwS N r k 8) from (sr_ne (by omega)).trans (sr_row _ _ _)) 1).trans un_at) (Rng_x hrk.1) (by decide) (by decide) ?_)
    refine ⟨_, rfl, fun _ => ?_⟩
    refine r_mem (I2 := sr (sr I s (un (un (I s) 1 (rwS N r k 8)) 1 (dN (rwS N r k) 8))) x (rowR (I x) (rwS N r k) r k)) ((congrArg (fun v0_ => (sr (sr (sr I s (un (I s) 1 (rwS N r k 8))) x (rowR (I x) (rwS N r k) r k)) s (un v0_ 1 (dN (rwS N r k) 8)))) (show (sr (sr I s (un (I s) 1 (rwS N r k 8))) x (rowR (I x) (rwS N r k) r k)) s = un (I s) 1 (rwS N r k 8) from (sr_ne (by omega)).trans (sr_row _ _ _))).trans ((sr_comm (by omega)).trans (congrArg (fun J => sr J x (rowR (I x) (rwS N r k) r k)) (sr_sr _ _ _ _)))) ?_
    refine r_ist (pc := 20) (k) dX0_drawRow_20 hkx hlx rfl (by rw [hnx]; omega) ?_
    refine r_mem (I2 := sr (sr I s (un (un (I s) 1 (rwS N r k 8)) 1 (dN (rwS N r k) 8))) x (un (rowR (I x) (rwS N r k) r k) k (drV (rwS N r k) 2))) ((up2_row _ _ _ _).trans ((congrArg (fun fz_ => sr (sr (sr I s (un (un (I s) 1 (rwS N r k 8)) 1 (dN (rwS N r k) 8))) x (rowR (I x) (rwS N r k) r k)) x (un fz_ k (drV (rwS N r k) 2))) (show (sr (sr I s (un (un (I s) 1 (rwS N r k 8)) 1 (dN (rwS N r k) 8))) x (rowR (I x) (rwS N r k) r k)) x = rowR (I x) (rwS N r k) r k from sr_row _ _ _)).trans (sr_sr _ _ _ _))) ?_
    refine r_iincN (pc := 21) (i := 3) (c := ((k + 1 : Nat) : Int)) (lv' := [_, _, _, _]) dX0_drawRow_21 rfl (by decide) (by unfold w32; omega) rfl ?_
    refine r_goto (pc := 24) (tgt := 2) dX0_drawRow_24 rfl ?_
    exact Ev.re rfl (by rw [un_un, rw_8 hr, rowR_rw _ _ hr]) (ih (k + 1) (by omega) (by omega))
def rsW (f : Nat → Int) (W : Nat → Int) : Nat → (Nat → Int)
  | 0 => W
  | k + 1 => un (rsW f W k) (k / 64) (lro (rsW f W k (k / 64)) (lsl (f k) ((k % 64 : Nat) : Int)))
theorem rsW_succ (f : Nat → Int) (W : Nat → Int) (k : Nat) : rsW f W (k + 1) = un (rsW f W k) (k / 64) (lro (rsW f W k (k / 64)) (lsl (f k) ((k % 64 : Nat) : Int))) := rfl
theorem b64_01 {v : Int} (hv : v = 0 ∨ v = 1) (x q : Nat) : b64 (lsl v ((x % 64 : Nat) : Int)) (q % 64) = (decide (v = 1) && decide (x % 64 = q % 64)) := by
  rcases hv with h | h
  · subst h
    rw [b64_shl _ (by omega), b64_0]
    simp
  · subst h
    rw [b64_bit]
    simp
theorem b64_rsW {f : Nat → Int} {W : Nat → Int} {q : Nat} : ∀ k, (∀ i, i < k → f i = 0 ∨ f i = 1) → b64 (rsW f W k (q / 64)) (q % 64) = (b64 (W (q / 64)) (q % 64) || (decide (q < k) && decide (f q = 1))) := by
  intro k
  induction k with
  | zero => intro _; simp [rsW]
  | succ k ih =>
    intro h
    have ih := ih (fun i hi => h i (by omega))
    rw [rsW_succ]
    unfold un
    by_cases g : q / 64 = k / 64
    · rw [if_pos g, b64_or, ← g, ih, b64_01 (h k (by omega))]
      by_cases e : q = k
      · subst e
        have e1 : ¬ q < q := Nat.lt_irrefl q
        have e2 : q < q + 1 := Nat.lt_succ_self q
        simp [e1, e2]
      · have e1 : ¬ (k % 64 = q % 64) := by omega
        have e2 : (q < k + 1) = (q < k) := by apply propext; omega
        simp [e1, e2]
    · rw [if_neg g, ih]
      have e2 : (q < k + 1) = (q < k) := by apply propext; omega
      simp [e2]
theorem sb_lrS {N : Nat → Int} {r i : Nat} {S : Nat → Int} {q : Nat} : ∀ k, sb (lrS N r i S k) q = Bool.xor (sb S q) (decide (q < k) && decide (N (r + i + q) = 1)) := by
  intro k
  induction k with
  | zero => simp [lrS]
  | succ k ih =>
    rw [lrS_succ]
    by_cases g : N (r + i + k) = 1
    · rw [if_pos g, sb_adS, ih]
      by_cases e : q = k
      · subst e
        have e1 : ¬ q < q := Nat.lt_irrefl q
        have e2 : q < q + 1 := Nat.lt_succ_self q
        simp [e1, e2, g]
      · have e0 : ¬ k = q := fun h => e h.symm
        have e2 : (q < k + 1) = (q < k) := by apply propext; omega
        simp [e0, e2]
    · rw [if_neg g, ih]
      by_cases e : q = k
      · subst e
        simp [g]
      · have e2 : (q < k + 1) = (q < k) := by apply propext; omega
        simp [e2]
theorem k_setOfRow {x lx w i n : Nat} (hd : 1 ≤ d) (hkx : kd T x = 20) (hlx : x < nx T) (hnx : ln T x = lx) (hkw : kd T w = 23) (hlw : w < nx T) (hnw : ln T w = 4) (hxw : x ≠ w) (hn2 : n ≤ 256) (hin : i + n ≤ lx) (hl2 : lx ≤ 100000) (hq : Q none T (sr I w (rsW (fun j => I x (i + j)) (fiR (I w) 0 4) n))) : EvE G mX0_setOfRow d [aR x, aI ((i : Nat) : Int), aI ((n : Nat) : Int), aR w] T I Q := by
  refine EvE.mk (lv0 := [some (aR x), some (aI ((i : Nat) : Int)), some (aI ((n : Nat) : Int)), some (aR w), none]) (Nat.le_of_ble_eq_true rfl) (by decide +kernel) rfl ?_
  refine r_aload_n (pc := 0) (i := 3) dX0_setOfRow_0 rfl rfl ?_
  refine r_lconst (pc := 1) (z := 0) dX0_setOfRow_1 rfl (in64_of rfl) ?_
  refine r_callS0 (pc := 2) (d - 1) [aR w, aL 0] dX0_setOfRow_2 (CS.mk2 mk_J7_fill_d0a16 lk_X0_132) rfl rfl (by omega) (Nat.le_of_ble_eq_true rfl) (Nat.le_of_ble_eq_true rfl) (k_fillL (x := w) (lx := 4) hkw hlw hnw (by omega) ?_)
  refine ⟨rfl, fun _ => ?_⟩
  refine r_mem (I2 := sr I w (fiR (I w) 0 4)) ((congrArg (fun v0_ => (sr I w (fiR v0_ 0 4))) (show I w = I w from rfl)).trans (rfl)) ?_
  refine r_iconst (pc := 5) dX0_setOfRow_5 (in32_of rfl) ?_
  refine r_istore (pc := 6) (i := 4) (lv' := [_, _, _, _, _]) dX0_setOfRow_6 (by decide) rfl ?_
  refine loop1 (fun (k : Nat) => k ≤ n) (fun (k : Nat) => n - k) (fun (k : Nat) => [some (aR x), some (aI ((i : Nat) : Int)), some (aI ((n : Nat) : Int)), some (aR w), some (aI ((k : Nat) : Int))]) (fun _ => T) (fun (k : Nat) => sr I w (rsW (fun j => I x (i + j)) (fiR (I w) 0 4) k)) ?_ 0 (Nat.zero_le _)
  intro k hP ih
  have hP : k ≤ n := hP
  refine (?_ : Ev G mX0_setOfRow d 8 [some (aR x), some (aI ((i : Nat) : Int)), some (aI ((n : Nat) : Int)), some (aR w), some (aI ((k : Nat) : Int))] [] T (sr I w (rsW (fun j => I x (i + j)) (fiR (I w) 0 4) k)) Q)
  refine r_iload (pc := 8) (i := 4) dX0_setOfRow_8 rfl ?_
  refine r_iload_n (pc := 10) (i := 2) dX0_setOfRow_10 rfl rfl ?_
  refine r_icmp_ge (pc := 11) (tgt := 52) dX0_setOfRow_11 rfl (fun c11 => ?_) (fun c11 => ?_)
  · exact r_vret (pc := 52) dX0_setOfRow_52 trivial (by rw [show n = k by omega] at hq; exact hq)
  · refine r_iload_n (pc := 14) (i := 1) dX0_setOfRow_14 rfl rfl ?_
    refine r_iload (pc := 15) (i := 4) dX0_setOfRow_15 rfl ?_
    refine r_iaddN (pc := 17) (c := ((i + k : Nat) : Int)) dX0_setOfRow_17 (by unfold w32; omega) ?_
    refine r_aload_n (pc := 18) (i := 0) dX0_setOfRow_18 rfl rfl ?_
    refine r_alen (pc := 19) dX0_setOfRow_19 (by rw [hkx]; omega) hlx ?_
    refine r_top (b := ((lx : Nat) : Int)) (by rw [hnx] <;> rfl) ?_
    refine r_icmp_ge (pc := 20) (tgt := 52) dX0_setOfRow_20 rfl (fun c20 => absurd c20 (by omega)) (fun c20 => ?_)
    refine r_aload_n (pc := 23) (i := 3) dX0_setOfRow_23 rfl rfl ?_
    refine r_iload (pc := 24) (i := 4) dX0_setOfRow_24 rfl ?_
    refine r_bipush (pc := 26) dX0_setOfRow_26 rfl (in32_of rfl) ?_
    refine r_ishr (pc := 28) dX0_setOfRow_28 ?_
    refine r_top (b := (((k / 64) : Nat) : Int)) (isr_6 (by omega)) ?_
    refine r_dup2 (pc := 29) dX0_setOfRow_29 rfl rfl ?_
    refine r_lld (pc := 30) ((k / 64)) dX0_setOfRow_30 hkw hlw rfl (by rw [hnw]; omega) ?_
    refine r_topL (b := (rsW (fun j => I x (i + j)) (fiR (I w) 0 4) k) (k / 64)) (sr_at _ _ _ _) ?_
    refine r_aload_n (pc := 31) (i := 0) dX0_setOfRow_31 rfl rfl ?_
    refine r_iload_n (pc := 32) (i := 1) dX0_setOfRow_32 rfl rfl ?_
    refine r_iload (pc := 33) (i := 4) dX0_setOfRow_33 rfl ?_
    refine r_iaddN (pc := 35) (c := ((i + k : Nat) : Int)) dX0_setOfRow_35 (by unfold w32; omega) ?_
    refine r_ild (pc := 36) (i + k) dX0_setOfRow_36 hkx hlx rfl (by rw [hnx]; omega) ?_
    refine r_top (b := I x (i + k)) ((congrFun (sr_ne (by omega)) _).trans (rfl)) ?_
    refine r_i2l (pc := 37) dX0_setOfRow_37 ?_
    refine r_iload (pc := 38) (i := 4) dX0_setOfRow_38 rfl ?_
    refine r_bipush (pc := 40) dX0_setOfRow_40 rfl (in32_of rfl) ?_
    refine r_iand (pc := 42) dX0_setOfRow_42 ?_
    refine r_top (b := (((k % 64) : Nat) : Int)) (ian_63 (by omega)) ?_
    refine r_lshl (pc := 43) dX0_setOfRow_43 ?_
    refine r_lor (pc := 44) dX0_setOfRow_44 ?_
    refine r_lst (pc := 45) ((k / 64)) dX0_setOfRow_45 hkw hlw rfl (by rw [hnw]; omega) ?_
    refine r_mem (I2 := sr I w (un (rsW (fun j => I x (i + j)) (fiR (I w) 0 4) k) (k / 64) (lro ((rsW (fun j => I x (i + j)) (fiR (I w) 0 4) k) (k / 64)) (lsl (I x (i + k)) (((k % 64) : Nat) : Int))))) ((up2_row _ _ _ _).trans ((congrArg (fun fz_ => sr (sr I w (rsW (fun j => I x (i + j)) (fiR (I w) 0 4) k)) w (un fz_ (k / 64) (lro ((rsW (fun j => I x (i + j)) (fiR (I w) 0 4) k) (k / 64)) (lsl (I x (i + k)) (((k % 64) : Nat) : Int))))) (show (sr I w (rsW (fun j => I x (i + j)) (fiR (I w) 0 4) k)) w = rsW (fun j => I x (i + j)) (fiR (I w) 0 4) k from sr_row _ _ _)).trans (sr_sr _ _ _ _))) ?_
    refine r_iincN (pc := 46) (i := 4) (c := ((k + 1 : Nat) : Int)) (lv' := [_, _, _, _, _]) dX0_setOfRow_46 rfl (by decide) (by unfold w32; omega) rfl ?_
    refine r_goto (pc := 49) (tgt := 8) dX0_setOfRow_49 rfl ?_
    exact Ev.re rfl (by rw [rsW_succ]) (ih (k + 1) (by omega) (by omega))
end C25

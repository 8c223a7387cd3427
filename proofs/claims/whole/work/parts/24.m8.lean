section M8
variable {G : Gl} {d : Nat} {T : Sh} {I : Mi} {N : Nat → Int} {Q : Option AV → Sh → Mi → Prop}
abbrev F3 : Type := Option (Nat × Nat × Nat)
def bst : F3 → Nat
  | none => 257
  | some t => t.1
def okF (o : F3) (fp fb : Int) : Prop := ∀ t, o = some t → fp = (t.2.1 : Int) ∧ fb = (t.2.2 : Int)
def nbk (e s : Nat) : Nat := (e + s - 1) / s
theorem nbk_lt {e s j : Nat} (hs : 0 < s) : j < nbk e s ↔ j * s < e := by
  unfold nbk
  rw [Nat.lt_iff_add_one_le, Nat.le_div_iff_mul_le hs, Nat.succ_mul]
  omega
def lnB (n s b : Nat) : Nat := min (n - b) s
def fdT (N : Nat → Int) (B n p b : Nat) (o : F3) : F3 := if bst o ≤ lnB n (B * 2 ^ p) b then o else if ukO N p b (lnB n (B * 2 ^ p) b) = 1 then some (lnB n (B * 2 ^ p) b, p, b) else o
def fdR (N : Nat → Int) (B n p : Nat) (o : F3) : Nat → F3
  | 0 => o
  | j + 1 => fdT N B n p (j * (B * 2 ^ p)) (fdR N B n p o j)
theorem fdR_succ (N : Nat → Int) (B n p : Nat) (o : F3) (j : Nat) : fdR N B n p o (j + 1) = fdT N B n p (j * (B * 2 ^ p)) (fdR N B n p o j) := rfl
def endO (n q a p : Nat) : Nat := if p < q then n else a
def fdP (N : Nat → Int) (B n q a : Nat) : Nat → F3
  | 0 => none
  | p + 1 => fdR N B n p (fdP N B n q a p) (nbk (endO n q a p) (B * 2 ^ p))
theorem fdP_succ (N : Nat → Int) (B n q a p : Nat) : fdP N B n q a (p + 1) = fdR N B n p (fdP N B n q a p) (nbk (endO n q a p) (B * 2 ^ p)) := rfl
def fdF (N : Nat → Int) (B n q a : Nat) : F3 := fdP N B n q a (q + 1)
/-- what a finding is: a run of the length that it should have, unlike, among those asked -/
def fdOk (N : Nat → Int) (B n q a : Nat) (o : F3) : Prop := ∀ t, o = some t → t.2.1 ≤ q ∧ t.2.2 < endO n q a t.2.1 ∧ t.1 = lnB n (B * 2 ^ t.2.1) t.2.2 ∧ ukO N t.2.1 t.2.2 t.1 = 1 ∧ ∃ j, t.2.2 = j * (B * 2 ^ t.2.1)
theorem fdR_ok {N : Nat → Int} {B n q a p : Nat} {o : F3} (hB : 0 < B) (hp : p ≤ q) (h : fdOk N B n q a o) : ∀ j, j ≤ nbk (endO n q a p) (B * 2 ^ p) → fdOk N B n q a (fdR N B n p o j) := by
  intro j
  induction j with
  | zero => intro _; exact h
  | succ j ih =>
    intro hj
    have h0 := ih (by omega)
    have hj2 := (nbk_lt (Nat.mul_pos hB (Nat.two_pow_pos p))).mp (show j < nbk (endO n q a p) (B * 2 ^ p) by omega)
    rw [fdR_succ]
    unfold fdT
    split
    · exact h0
    · by_cases g : ukO N p (j * (B * 2 ^ p)) (lnB n (B * 2 ^ p) (j * (B * 2 ^ p))) = 1
      · rw [if_pos g]
        intro t ht
        obtain rfl := Option.some.inj ht
        exact ⟨hp, hj2, rfl, g, j, rfl⟩
      · rw [if_neg g]
        exact h0
theorem fdP_ok {N : Nat → Int} {B n q a : Nat} (hB : 0 < B) : ∀ p, p ≤ q + 1 → fdOk N B n q a (fdP N B n q a p) := by
  intro p
  induction p with
  | zero => intro _ t ht; exact absurd ht (by unfold fdP; simp)
  | succ p ih => intro hp; rw [fdP_succ]; exact fdR_ok hB (by omega) (ih (by omega)) _ (Nat.le_refl _)
theorem bst_le {N : Nat → Int} {B n q a : Nat} {o : F3} (hn : n ≤ 256) (h : fdOk N B n q a o) : bst o ≤ 257 := by
  cases o with
  | none => exact Nat.le_refl _
  | some t => have := (h t rfl).2.2.1; unfold lnB at this; show t.1 ≤ 257; omega
def bkH (I : Mi) (H : Nat → Int) : Int := if H 17 < 0 then I 280 5 else H 17
theorem bkI_H {I : Mi} {H : Nat → Int} {fp fb : Int} : bkI (sr I 274 (un (un H 18 fp) 19 fb)) = bkH I H := rfl
theorem bkI_H0 {I : Mi} {H : Nat → Int} : bkI (sr I 274 H) = bkH I H := rfl
theorem un2_id (H : Nat → Int) : un (un H 18 (H 18)) 19 (H 19) = H := by
  funext j
  unfold un
  split
  · rename_i e; rw [e]
  · split
    · rename_i e; rw [e]
    · rfl
theorem un2_2 (H : Nat → Int) (a b c e : Int) : un (un (un (un H 18 a) 19 b) 18 c) 19 e = un (un H 18 c) 19 e := by
  funext j
  unfold un
  split
  · rfl
  · split
    · rfl
    · rfl
theorem sz_le {B p : Nat} (hB : B ≤ 64) (hp : p < 6) : B * 2 ^ p ≤ 2048 := Nat.mul_le_mul hB (Nat.pow_le_pow_right (by decide) (show p ≤ 5 by omega))
theorem c_finds {n B q a : Nat} {H : Nat → Int} (hT : ShM T) (hd : 3 ≤ d) (hn : N 1 = (n : Int)) (hn2 : n ≤ 256) (hB : bkH I H = (B : Int)) (hB1 : 0 < B) (hB2 : B ≤ 64) (hR : Rng N) (hq6 : q < 6) (ha : a ≤ n) (hq : ∀ fp fb, okF (fdF N B n q a) fp fb → Q (some (aI (bi (bst (fdF N B n q a) ≤ 256)))) T (sr (sr I 274 (un (un H 18 fp) 19 fb)) 283 N)) : EvE G mX12_finds d [aR 274, aI ((q : Nat) : Int), aI ((a : Nat) : Int)] T (sr (sr I 274 H) 283 N) Q := by
  refine EvE.mk (lv0 := [some (aR 274), some (aI ((q : Nat) : Int)), some (aI ((a : Nat) : Int)), none, none, none, none, none]) (Nat.le_of_ble_eq_true rfl) (by decide +kernel) rfl ?_
  refine r_sipush (pc := 0) dX12_finds_0 rfl (in32_of rfl) ?_
  refine r_istore_n (pc := 3) (i := 3) (lv' := [_, _, _, _, _, _, _, _]) dX12_finds_3 rfl (by decide) rfl ?_
  refine r_iconst (pc := 4) dX12_finds_4 (in32_of rfl) ?_
  refine r_istore (pc := 5) (i := 4) (lv' := [_, _, _, _, _, _, _, _]) dX12_finds_5 (by decide) rfl ?_
  refine r_mem (I2 := sr (sr I 274 (un (un H 18 (H 18)) 19 (H 19))) 283 N) (by rw [un2_id]) ?_
  refine loop3 (fun (p : Nat) (fp : Int) (fb : Int) => p ≤ q + 1 ∧ okF (fdP N B n q a p) fp fb) (fun (p : Nat) (fp : Int) (fb : Int) => q + 1 - p) (fun (p : Nat) (fp : Int) (fb : Int) => [some (aR 274), some (aI ((q : Nat) : Int)), some (aI ((a : Nat) : Int)), some (aI (((bst (fdP N B n q a p)) : Nat) : Int)), some (aI ((p : Nat) : Int)), none, none, none]) (fun _ _ _ => T) (fun (p : Nat) (fp : Int) (fb : Int) => sr (sr I 274 (un (un H 18 fp) 19 fb)) 283 N) ?_ 0 (H 18) (H 19) ⟨Nat.zero_le _, fun t ht => absurd ht (by unfold fdP; simp)⟩
  intro p fp fb hP ih
  have hP : p ≤ q + 1 ∧ okF (fdP N B n q a p) fp fb := hP
  have hop := fdP_ok (N := N) (n := n) (q := q) (a := a) hB1 p hP.1
  have hbp := bst_le hn2 hop
  refine (?_ : Ev G mX12_finds d 7 [some (aR 274), some (aI ((q : Nat) : Int)), some (aI ((a : Nat) : Int)), some (aI (((bst (fdP N B n q a p)) : Nat) : Int)), some (aI ((p : Nat) : Int)), none, none, none] [] T (sr (sr I 274 (un (un H 18 fp) 19 fb)) 283 N) Q)
  refine r_iload (pc := 7) (i := 4) dX12_finds_7 rfl ?_
  refine r_iload_n (pc := 9) (i := 1) dX12_finds_9 rfl rfl ?_
  refine r_icmp_gt (pc := 10) (tgt := 108) dX12_finds_10 rfl (fun c10 => ?_) (fun c10 => ?_)
  · refine r_iload_n (pc := 108) (i := 3) dX12_finds_108 rfl rfl ?_
    refine r_sipush (pc := 109) dX12_finds_109 rfl (in32_of rfl) ?_
    refine r_icmp_gt (pc := 112) (tgt := 119) dX12_finds_112 rfl (fun c112 => ?_) (fun c112 => ?_)
    · refine r_iconst (pc := 119) dX12_finds_119 (in32_of rfl) ?_
      exact r_iret (pc := 120) dX12_finds_120 (Or.inl rfl) (by have h := hq fp fb (by rw [show fdF N B n q a = fdP N B n q a p by unfold fdF; rw [show q + 1 = p by omega]]; exact hP.2); rw [show fdF N B n q a = fdP N B n q a p by unfold fdF; rw [show q + 1 = p by omega]] at h; rw [bi_f (by omega)] at h; exact h)
    · refine r_iconst (pc := 115) dX12_finds_115 (in32_of rfl) ?_
      refine r_goto (pc := 116) (tgt := 120) dX12_finds_116 rfl ?_
      exact r_iret (pc := 120) dX12_finds_120 (Or.inr rfl) (by have h := hq fp fb (by rw [show fdF N B n q a = fdP N B n q a p by unfold fdF; rw [show q + 1 = p by omega]]; exact hP.2); rw [show fdF N B n q a = fdP N B n q a p by unfold fdF; rw [show q + 1 = p by omega]] at h; rw [bi_t (by omega)] at h; exact h)
  · refine r_iload (pc := 13) (i := 4) dX12_finds_13 rfl ?_
    refine r_iload_n (pc := 15) (i := 1) dX12_finds_15 rfl rfl ?_
    refine r_icmp_ge (pc := 16) (tgt := 28) dX12_finds_16 rfl (fun c16 => ?_) (fun c16 => ?_)
    · refine r_iload_n (pc := 28) (i := 2) dX12_finds_28 rfl rfl ?_
      refine r_istore (pc := 29) (i := 5) (lv' := [_, _, _, _, _, _, _, _]) dX12_finds_29 (by decide) rfl ?_
      refine Ev.re (lv2 := [some (aR 274), some (aI ((q : Nat) : Int)), some (aI ((a : Nat) : Int)), some (aI (((bst (fdP N B n q a p)) : Nat) : Int)), some (aI ((p : Nat) : Int)), some (aI (((endO n q a p) : Nat) : Int)), none, none]) (I2 := sr (sr I 274 (un (un H 18 fp) 19 fb)) 283 N) (by rw [show endO n q a p = a from if_neg (by omega)]) rfl ?_
      refine r_iconst (pc := 31) dX12_finds_31 (in32_of rfl) ?_
      refine r_istore (pc := 32) (i := 6) (lv' := [_, _, _, _, _, _, _, _]) dX12_finds_32 (by decide) rfl ?_
      refine Ev.re (lv2 := [some (aR 274), some (aI ((q : Nat) : Int)), some (aI ((a : Nat) : Int)), some (aI (((bst (fdP N B n q a p)) : Nat) : Int)), some (aI ((p : Nat) : Int)), some (aI (((endO n q a p) : Nat) : Int)), some (aI ((0 * (B * 2 ^ p) : Nat) : Int)), none]) (I2 := sr (sr I 274 (un (un H 18 fp) 19 fb)) 283 N) (by rw [Nat.zero_mul]; rfl) rfl ?_
      refine loop3 (fun (j : Nat) (fp : Int) (fb : Int) => j ≤ nbk (endO n q a p) (B * 2 ^ p) ∧ okF (fdR N B n p (fdP N B n q a p) j) fp fb) (fun (j : Nat) (fp : Int) (fb : Int) => nbk (endO n q a p) (B * 2 ^ p) - j) (fun (j : Nat) (fp : Int) (fb : Int) => [some (aR 274), some (aI ((q : Nat) : Int)), some (aI ((a : Nat) : Int)), some (aI (((bst (fdR N B n p (fdP N B n q a p) j)) : Nat) : Int)), some (aI ((p : Nat) : Int)), some (aI (((endO n q a p) : Nat) : Int)), some (aI (((j * (B * 2 ^ p)) : Nat) : Int)), none]) (fun _ _ _ => T) (fun (j : Nat) (fp : Int) (fb : Int) => sr (sr I 274 (un (un H 18 fp) 19 fb)) 283 N) ?_ 0 fp fb ⟨Nat.zero_le _, hP.2⟩
      intro j fp fb hPi ihi
      have hPi : j ≤ nbk (endO n q a p) (B * 2 ^ p) ∧ okF (fdR N B n p (fdP N B n q a p) j) fp fb := hPi
      have hoj := fdR_ok (N := N) (n := n) (q := q) (a := a) (p := p) hB1 (by omega) (fdP_ok hB1 p hP.1) j hPi.1
      have hbj := bst_le hn2 hoj
      have hln : lnB n (B * 2 ^ p) (j * (B * 2 ^ p)) = min (n - j * (B * 2 ^ p)) (B * 2 ^ p) := rfl
      have hsz := sz_le (p := p) hB2 (by omega)
      have hsp : 0 < B * 2 ^ p := Nat.mul_pos hB1 (Nat.two_pow_pos p)
      have hnb := nbk_lt (e := endO n q a p) (j := j) hsp
      have hend : endO n q a p ≤ n := by unfold endO; split <;> omega
      have hjb : j * (B * 2 ^ p) ≤ 256 + 2048 := by
            rcases Nat.eq_zero_or_pos j with h | h
            · rw [h, Nat.zero_mul]; omega
            · have := (nbk_lt (e := endO n q a p) (j := j - 1) hsp).mp (by omega); have e : j * (B * 2 ^ p) = (j - 1) * (B * 2 ^ p) + B * 2 ^ p := by rw [← Nat.succ_mul, show (j - 1).succ = j by omega]
              omega
      refine (?_ : Ev G mX12_finds d 34 [some (aR 274), some (aI ((q : Nat) : Int)), some (aI ((a : Nat) : Int)), some (aI (((bst (fdR N B n p (fdP N B n q a p) j)) : Nat) : Int)), some (aI ((p : Nat) : Int)), some (aI (((endO n q a p) : Nat) : Int)), some (aI (((j * (B * 2 ^ p)) : Nat) : Int)), none] [] T (sr (sr I 274 (un (un H 18 fp) 19 fb)) 283 N) Q)
      refine r_iload (pc := 34) (i := 6) dX12_finds_34 rfl ?_
      refine r_iload (pc := 36) (i := 5) dX12_finds_36 rfl ?_
      refine r_icmp_ge (pc := 38) (tgt := 102) dX12_finds_38 rfl (fun c38 => ?_) (fun c38 => ?_)
      · refine r_iincN (pc := 102) (i := 4) (c := ((p + 1 : Nat) : Int)) (lv' := [_, _, _, _, _, _, _, _]) dX12_finds_102 rfl (by decide) (by unfold w32; omega) rfl ?_
        refine r_goto (pc := 105) (tgt := 7) dX12_finds_105 rfl ?_
        refine Ev.weak (lv2 := [some (aR 274), some (aI ((q : Nat) : Int)), some (aI ((a : Nat) : Int)), some (aI (((bst (fdR N B n p (fdP N B n q a p) j)) : Nat) : Int)), some (aI ((p + 1 : Nat) : Int)), none, none, none]) ⟨Or.inr rfl, Or.inr rfl, Or.inr rfl, Or.inr rfl, Or.inr rfl, Or.inl rfl, Or.inl rfl, Or.inl rfl, trivial⟩ ?_
        have hu : fdP N B n q a (p + 1) = (fdR N B n p (fdP N B n q a p) j) := by rw [fdP_succ, show nbk (endO n q a p) (B * 2 ^ p) = j by omega]
        exact Ev.re (by rw [hu]) rfl (ih (p + 1) fp fb ⟨by omega, by rw [hu]; exact hPi.2⟩ (by omega))
      · refine r_aload_n (pc := 41) (i := 0) dX12_finds_41 rfl rfl ?_
        refine r_iload (pc := 42) (i := 4) dX12_finds_42 rfl ?_
        refine r_iload (pc := 44) (i := 6) dX12_finds_44 rfl ?_
        refine r_callV1 (pc := 46) (d - 1) [aI ((p : Nat) : Int), aI (((j * (B * 2 ^ p)) : Nat) : Int)] dX12_finds_46 (CV.mk2 mk_X12_longOf lk_X12_182) (RC.of (ltM hT (by omega)) (kM274 hT) (by decide) rfl) rfl rfl (by omega) (Nat.le_of_ble_eq_true rfl) (Nat.le_of_ble_eq_true rfl) (c_longOf (p := p) (b := (j * (B * 2 ^ p))) hT (by omega) hn hn2 (bkI_H.trans hB) hB2 (by omega) (by omega) ?_)
        refine ⟨_, rfl, fun _ => ?_⟩
        refine r_istore (pc := 49) (i := 7) (lv' := [_, _, _, _, _, _, _, _]) dX12_finds_49 (by decide) rfl ?_
        refine r_iload (pc := 51) (i := 7) dX12_finds_51 rfl ?_
        refine r_iload_n (pc := 53) (i := 3) dX12_finds_53 rfl rfl ?_
        refine r_icmp_ge (pc := 54) (tgt := 88) dX12_finds_54 rfl (fun c54 => ?_) (fun c54 => ?_)
        · refine r_iload (pc := 88) (i := 6) dX12_finds_88 rfl ?_
          refine r_aload_n (pc := 90) (i := 0) dX12_finds_90 rfl rfl ?_
          refine r_iload (pc := 91) (i := 4) dX12_finds_91 rfl ?_
          refine r_callV1 (pc := 93) (d - 1) [aI ((p : Nat) : Int)] dX12_finds_93 (CV.mk2 mk_X12_blockOf lk_X12_179) (RC.of (ltM hT (by omega)) (kM274 hT) (by decide) rfl) rfl rfl (by omega) (Nat.le_of_ble_eq_true rfl) (Nat.le_of_ble_eq_true rfl) (c_blockOf (p := p) hT (bkI_H.trans hB) hB2 (by omega) ?_)
          refine ⟨_, rfl, fun _ => ?_⟩
          refine r_iaddN (pc := 96) (c := (((j * (B * 2 ^ p)) + (B * 2 ^ p) : Nat) : Int)) dX12_finds_96 (by unfold w32; omega) ?_
          refine r_istore (pc := 97) (i := 6) (lv' := [_, _, _, _, _, _, _, _]) dX12_finds_97 (by decide) rfl ?_
          refine r_goto (pc := 99) (tgt := 34) dX12_finds_99 rfl ?_
          refine Ev.weak (lv2 := [some (aR 274), some (aI ((q : Nat) : Int)), some (aI ((a : Nat) : Int)), some (aI (((bst (fdR N B n p (fdP N B n q a p) j)) : Nat) : Int)), some (aI ((p : Nat) : Int)), some (aI (((endO n q a p) : Nat) : Int)), some (aI (((j * (B * 2 ^ p)) + (B * 2 ^ p) : Nat) : Int)), none]) ⟨Or.inr rfl, Or.inr rfl, Or.inr rfl, Or.inr rfl, Or.inr rfl, Or.inr rfl, Or.inr rfl, Or.inl rfl, trivial⟩ ?_
          have hu : fdR N B n p (fdP N B n q a p) (j + 1) = _ := (fdR_succ _ _ _ _ _ _).trans (show fdT N B n p (j * (B * 2 ^ p)) (fdR N B n p (fdP N B n q a p) j) = (fdR N B n p (fdP N B n q a p) j) from if_pos (by omega))
          exact Ev.re (by rw [hu, Nat.succ_mul]; try rfl) rfl (ihi (j + 1) fp fb ⟨by omega, by rw [hu]; exact hPi.2⟩ (by omega))
        · refine r_aload_n (pc := 57) (i := 0) dX12_finds_57 rfl rfl ?_
          refine r_iload (pc := 58) (i := 4) dX12_finds_58 rfl ?_
          refine r_iload (pc := 60) (i := 6) dX12_finds_60 rfl ?_
          refine r_iload (pc := 62) (i := 7) dX12_finds_62 rfl ?_
          refine r_callV1 (pc := 64) (d - 1) [aI ((p : Nat) : Int), aI (((j * (B * 2 ^ p)) : Nat) : Int), aI (((lnB n (B * 2 ^ p) (j * (B * 2 ^ p))) : Nat) : Int)] dX12_finds_64 (CV.mk2 mk_X12_isUnlike lk_X12_169) (RC.of (ltM hT (by omega)) (kM274 hT) (by decide) rfl) rfl rfl (by omega) (Nat.le_of_ble_eq_true rfl) (Nat.le_of_ble_eq_true rfl) (c_isUnlike (p := p) (b := (j * (B * 2 ^ p))) (m := (lnB n (B * 2 ^ p) (j * (B * 2 ^ p)))) hT (by omega) (Rng_O hR) (by omega) (by unfold lnB; omega) ?_)
          refine ⟨_, rfl, fun _ => ?_⟩
          refine r_if_ne (pc := 67) (tgt := 73) dX12_finds_67 rfl (fun c67 => ?_) (fun c67 => ?_)
          · have c67 : ¬ ukO N p (j * (B * 2 ^ p)) (lnB n (B * 2 ^ p) (j * (B * 2 ^ p))) = 0 := c67
            refine r_iload (pc := 73) (i := 7) dX12_finds_73 rfl ?_
            refine r_istore_n (pc := 75) (i := 3) (lv' := [_, _, _, _, _, _, _, _]) dX12_finds_75 rfl (by decide) rfl ?_
            refine r_aload_n (pc := 76) (i := 0) dX12_finds_76 rfl rfl ?_
            refine r_iload (pc := 77) (i := 4) dX12_finds_77 rfl ?_
            refine r_putfi (pc := 79) cks dX12_finds_79 fl_X12_185 (pf_12_18 _ _) rfl (kM274 hT) (ltM hT (by omega)) ?_
            refine r_mem (I2 := sr (sr I 274 (un (un (un H 18 fp) 19 fb) 18 ((p : Nat) : Int))) 283 N) (by rw [up2_sr_ne (by decide), up2_sr]) ?_
            refine r_aload_n (pc := 82) (i := 0) dX12_finds_82 rfl rfl ?_
            refine r_iload (pc := 83) (i := 6) dX12_finds_83 rfl ?_
            refine r_putfi (pc := 85) cks dX12_finds_85 fl_X12_188 (pf_12_19 _ _) rfl (kM274 hT) (ltM hT (by omega)) ?_
            refine r_mem (I2 := sr (sr I 274 (un (un (un (un H 18 fp) 19 fb) 18 ((p : Nat) : Int)) 19 (((j * (B * 2 ^ p)) : Nat) : Int))) 283 N) (by rw [up2_sr_ne (by decide), up2_sr]) ?_
            refine r_iload (pc := 88) (i := 6) dX12_finds_88 rfl ?_
            refine r_aload_n (pc := 90) (i := 0) dX12_finds_90 rfl rfl ?_
            refine r_iload (pc := 91) (i := 4) dX12_finds_91 rfl ?_
            refine r_callV1 (pc := 93) (d - 1) [aI ((p : Nat) : Int)] dX12_finds_93 (CV.mk2 mk_X12_blockOf lk_X12_179) (RC.of (ltM hT (by omega)) (kM274 hT) (by decide) rfl) rfl rfl (by omega) (Nat.le_of_ble_eq_true rfl) (Nat.le_of_ble_eq_true rfl) (c_blockOf (p := p) hT (bkI_H.trans hB) hB2 (by omega) ?_)
            refine ⟨_, rfl, fun _ => ?_⟩
            refine r_iaddN (pc := 96) (c := (((j * (B * 2 ^ p)) + (B * 2 ^ p) : Nat) : Int)) dX12_finds_96 (by unfold w32; omega) ?_
            refine r_istore (pc := 97) (i := 6) (lv' := [_, _, _, _, _, _, _, _]) dX12_finds_97 (by decide) rfl ?_
            refine r_goto (pc := 99) (tgt := 34) dX12_finds_99 rfl ?_
            refine Ev.weak (lv2 := [some (aR 274), some (aI ((q : Nat) : Int)), some (aI ((a : Nat) : Int)), some (aI (((lnB n (B * 2 ^ p) (j * (B * 2 ^ p))) : Nat) : Int)), some (aI ((p : Nat) : Int)), some (aI (((endO n q a p) : Nat) : Int)), some (aI (((j * (B * 2 ^ p)) + (B * 2 ^ p) : Nat) : Int)), none]) ⟨Or.inr rfl, Or.inr rfl, Or.inr rfl, Or.inr rfl, Or.inr rfl, Or.inr rfl, Or.inr rfl, Or.inl rfl, trivial⟩ ?_
            refine r_mem (I2 := sr (sr I 274 (un (un H 18 (p : Int)) 19 ((j * (B * 2 ^ p) : Nat) : Int))) 283 N) (by rw [un2_2]) ?_
            have hu : fdR N B n p (fdP N B n q a p) (j + 1) = _ := (fdR_succ _ _ _ _ _ _).trans (show fdT N B n p (j * (B * 2 ^ p)) (fdR N B n p (fdP N B n q a p) j) = some (lnB n (B * 2 ^ p) (j * (B * 2 ^ p)), p, j * (B * 2 ^ p)) from (if_neg (by omega)).trans (if_pos (ukO_n0 c67)))
            exact Ev.re (by rw [hu, Nat.succ_mul]; try rfl) rfl (ihi (j + 1) (p : Int) ((j * (B * 2 ^ p) : Nat) : Int) ⟨by omega, by rw [hu]; exact (fun t ht => by obtain rfl := Option.some.inj ht; exact ⟨rfl, rfl⟩)⟩ (by omega))
          · have c67 := Decidable.of_not_not c67
            have c67 : ukO N p (j * (B * 2 ^ p)) (lnB n (B * 2 ^ p) (j * (B * 2 ^ p))) = 0 := c67
            refine r_goto (pc := 70) (tgt := 88) dX12_finds_70 rfl ?_
            refine r_iload (pc := 88) (i := 6) dX12_finds_88 rfl ?_
            refine r_aload_n (pc := 90) (i := 0) dX12_finds_90 rfl rfl ?_
            refine r_iload (pc := 91) (i := 4) dX12_finds_91 rfl ?_
            refine r_callV1 (pc := 93) (d - 1) [aI ((p : Nat) : Int)] dX12_finds_93 (CV.mk2 mk_X12_blockOf lk_X12_179) (RC.of (ltM hT (by omega)) (kM274 hT) (by decide) rfl) rfl rfl (by omega) (Nat.le_of_ble_eq_true rfl) (Nat.le_of_ble_eq_true rfl) (c_blockOf (p := p) hT (bkI_H.trans hB) hB2 (by omega) ?_)
            refine ⟨_, rfl, fun _ => ?_⟩
            refine r_iaddN (pc := 96) (c := (((j * (B * 2 ^ p)) + (B * 2 ^ p) : Nat) : Int)) dX12_finds_96 (by unfold w32; omega) ?_
            refine r_istore (pc := 97) (i := 6) (lv' := [_, _, _, _, _, _, _, _]) dX12_finds_97 (by decide) rfl ?_
            refine r_goto (pc := 99) (tgt := 34) dX12_finds_99 rfl ?_
            refine Ev.weak (lv2 := [some (aR 274), some (aI ((q : Nat) : Int)), some (aI ((a : Nat) : Int)), some (aI (((bst (fdR N B n p (fdP N B n q a p) j)) : Nat) : Int)), some (aI ((p : Nat) : Int)), some (aI (((endO n q a p) : Nat) : Int)), some (aI (((j * (B * 2 ^ p)) + (B * 2 ^ p) : Nat) : Int)), none]) ⟨Or.inr rfl, Or.inr rfl, Or.inr rfl, Or.inr rfl, Or.inr rfl, Or.inr rfl, Or.inr rfl, Or.inl rfl, trivial⟩ ?_
            have hu : fdR N B n p (fdP N B n q a p) (j + 1) = _ := (fdR_succ _ _ _ _ _ _).trans (show fdT N B n p (j * (B * 2 ^ p)) (fdR N B n p (fdP N B n q a p) j) = (fdR N B n p (fdP N B n q a p) j) from (if_neg (by omega)).trans (if_neg (by omega)))
            exact Ev.re (by rw [hu, Nat.succ_mul]; try rfl) rfl (ihi (j + 1) fp fb ⟨by omega, by rw [hu]; exact hPi.2⟩ (by omega))
    · refine r_aload_n (pc := 19) (i := 0) dX12_finds_19 rfl rfl ?_
      refine r_getfr (pc := 20) (b := 283) cks dX12_finds_20 fl_X12_37 rfl (kM274 hT) (ltM hT (by omega)) (rM11 hT) ?_
      refine r_iconst (pc := 23) dX12_finds_23 (in32_of rfl) ?_
      refine r_ild (pc := 24) (1) dX12_finds_24 (kM283 hT) (ltM hT (by omega)) (by omega) (by rw [lM283 hT]; omega) ?_
      refine r_top (b := N 1) (sr_at _ _ _ _) ?_
      refine r_top (b := ((n : Nat) : Int)) (hn) ?_
      refine r_goto (pc := 25) (tgt := 29) dX12_finds_25 rfl ?_
      refine r_istore (pc := 29) (i := 5) (lv' := [_, _, _, _, _, _, _, _]) dX12_finds_29 (by decide) rfl ?_
      refine Ev.re (lv2 := [some (aR 274), some (aI ((q : Nat) : Int)), some (aI ((a : Nat) : Int)), some (aI (((bst (fdP N B n q a p)) : Nat) : Int)), some (aI ((p : Nat) : Int)), some (aI (((endO n q a p) : Nat) : Int)), none, none]) (I2 := sr (sr I 274 (un (un H 18 fp) 19 fb)) 283 N) (by rw [show endO n q a p = n from if_pos (by omega)]) rfl ?_
      refine r_iconst (pc := 31) dX12_finds_31 (in32_of rfl) ?_
      refine r_istore (pc := 32) (i := 6) (lv' := [_, _, _, _, _, _, _, _]) dX12_finds_32 (by decide) rfl ?_
      refine Ev.re (lv2 := [some (aR 274), some (aI ((q : Nat) : Int)), some (aI ((a : Nat) : Int)), some (aI (((bst (fdP N B n q a p)) : Nat) : Int)), some (aI ((p : Nat) : Int)), some (aI (((endO n q a p) : Nat) : Int)), some (aI ((0 * (B * 2 ^ p) : Nat) : Int)), none]) (I2 := sr (sr I 274 (un (un H 18 fp) 19 fb)) 283 N) (by rw [Nat.zero_mul]; rfl) rfl ?_
      refine loop3 (fun (j : Nat) (fp : Int) (fb : Int) => j ≤ nbk (endO n q a p) (B * 2 ^ p) ∧ okF (fdR N B n p (fdP N B n q a p) j) fp fb) (fun (j : Nat) (fp : Int) (fb : Int) => nbk (endO n q a p) (B * 2 ^ p) - j) (fun (j : Nat) (fp : Int) (fb : Int) => [some (aR 274), some (aI ((q : Nat) : Int)), some (aI ((a : Nat) : Int)), some (aI (((bst (fdR N B n p (fdP N B n q a p) j)) : Nat) : Int)), some (aI ((p : Nat) : Int)), some (aI (((endO n q a p) : Nat) : Int)), some (aI (((j * (B * 2 ^ p)) : Nat) : Int)), none]) (fun _ _ _ => T) (fun (j : Nat) (fp : Int) (fb : Int) => sr (sr I 274 (un (un H 18 fp) 19 fb)) 283 N) ?_ 0 fp fb ⟨Nat.zero_le _, hP.2⟩
      intro j fp fb hPi ihi
      have hPi : j ≤ nbk (endO n q a p) (B * 2 ^ p) ∧ okF (fdR N B n p (fdP N B n q a p) j) fp fb := hPi
      have hoj := fdR_ok (N := N) (n := n) (q := q) (a := a) (p := p) hB1 (by omega) (fdP_ok hB1 p hP.1) j hPi.1
      have hbj := bst_le hn2 hoj
      have hln : lnB n (B * 2 ^ p) (j * (B * 2 ^ p)) = min (n - j * (B * 2 ^ p)) (B * 2 ^ p) := rfl
      have hsz := sz_le (p := p) hB2 (by omega)
      have hsp : 0 < B * 2 ^ p := Nat.mul_pos hB1 (Nat.two_pow_pos p)
      have hnb := nbk_lt (e := endO n q a p) (j := j) hsp
      have hend : endO n q a p ≤ n := by unfold endO; split <;> omega
      have hjb : j * (B * 2 ^ p) ≤ 256 + 2048 := by
            rcases Nat.eq_zero_or_pos j with h | h
            · rw [h, Nat.zero_mul]; omega
            · have := (nbk_lt (e := endO n q a p) (j := j - 1) hsp).mp (by omega); have e : j * (B * 2 ^ p) = (j - 1) * (B * 2 ^ p) + B * 2 ^ p := by rw [← Nat.succ_mul, show (j - 1).succ = j by omega]
              omega
      refine (?_ : Ev G mX12_finds d 34 [some (aR 274), some (aI ((q : Nat) : Int)), some (aI ((a : Nat) : Int)), some (aI (((bst (fdR N B n p (fdP N B n q a p) j)) : Nat) : Int)), some (aI ((p : Nat) : Int)), some (aI (((endO n q a p) : Nat) : Int)), some (aI (((j * (B * 2 ^ p)) : Nat) : Int)), none] [] T (sr (sr I 274 (un (un H 18 fp) 19 fb)) 283 N) Q)
      refine r_iload (pc := 34) (i := 6) dX12_finds_34 rfl ?_
      refine r_iload (pc := 36) (i := 5) dX12_finds_36 rfl ?_
      refine r_icmp_ge (pc := 38) (tgt := 102) dX12_finds_38 rfl (fun c38 => ?_) (fun c38 => ?_)
      · refine r_iincN (pc := 102) (i := 4) (c := ((p + 1 : Nat) : Int)) (lv' := [_, _, _, _, _, _, _, _]) dX12_finds_102 rfl (by decide) (by unfold w32; omega) rfl ?_
        refine r_goto (pc := 105) (tgt := 7) dX12_finds_105 rfl ?_
        refine Ev.weak (lv2 := [some (aR 274), some (aI ((q : Nat) : Int)), some (aI ((a : Nat) : Int)), some (aI (((bst (fdR N B n p (fdP N B n q a p) j)) : Nat) : Int)), some (aI ((p + 1 : Nat) : Int)), none, none, none]) ⟨Or.inr rfl, Or.inr rfl, Or.inr rfl, Or.inr rfl, Or.inr rfl, Or.inl rfl, Or.inl rfl, Or.inl rfl, trivial⟩ ?_
        have hu : fdP N B n q a (p + 1) = (fdR N B n p (fdP N B n q a p) j) := by rw [fdP_succ, show nbk (endO n q a p) (B * 2 ^ p) = j by omega]
        exact Ev.re (by rw [hu]) rfl (ih (p + 1) fp fb ⟨by omega, by rw [hu]; exact hPi.2⟩ (by omega))
      · refine r_aload_n (pc := 41) (i := 0) dX12_finds_41 rfl rfl ?_
        refine r_iload (pc := 42) (i := 4) dX12_finds_42 rfl ?_
        refine r_iload (pc := 44) (i := 6) dX12_finds_44 rfl ?_
        refine r_callV1 (pc := 46) (d - 1) [aI ((p : Nat) : Int), aI (((j * (B * 2 ^ p)) : Nat) : Int)] dX12_finds_46 (CV.mk2 mk_X12_longOf lk_X12_182) (RC.of (ltM hT (by omega)) (kM274 hT) (by decide) rfl) rfl rfl (by omega) (Nat.le_of_ble_eq_true rfl) (Nat.le_of_ble_eq_true rfl) (c_longOf (p := p) (b := (j * (B * 2 ^ p))) hT (by omega) hn hn2 (bkI_H.trans hB) hB2 (by omega) (by omega) ?_)
        refine ⟨_, rfl, fun _ => ?_⟩
        refine r_istore (pc := 49) (i := 7) (lv' := [_, _, _, _, _, _, _, _]) dX12_finds_49 (by decide) rfl ?_
        refine r_iload (pc := 51) (i := 7) dX12_finds_51 rfl ?_
        refine r_iload_n (pc := 53) (i := 3) dX12_finds_53 rfl rfl ?_
        refine r_icmp_ge (pc := 54) (tgt := 88) dX12_finds_54 rfl (fun c54 => ?_) (fun c54 => ?_)
        · refine r_iload (pc := 88) (i := 6) dX12_finds_88 rfl ?_
          refine r_aload_n (pc := 90) (i := 0) dX12_finds_90 rfl rfl ?_
          refine r_iload (pc := 91) (i := 4) dX12_finds_91 rfl ?_
          refine r_callV1 (pc := 93) (d - 1) [aI ((p : Nat) : Int)] dX12_finds_93 (CV.mk2 mk_X12_blockOf lk_X12_179) (RC.of (ltM hT (by omega)) (kM274 hT) (by decide) rfl) rfl rfl (by omega) (Nat.le_of_ble_eq_true rfl) (Nat.le_of_ble_eq_true rfl) (c_blockOf (p := p) hT (bkI_H.trans hB) hB2 (by omega) ?_)
          refine ⟨_, rfl, fun _ => ?_⟩
          refine r_iaddN (pc := 96) (c := (((j * (B * 2 ^ p)) + (B * 2 ^ p) : Nat) : Int)) dX12_finds_96 (by unfold w32; omega) ?_
          refine r_istore (pc := 97) (i := 6) (lv' := [_, _, _, _, _, _, _, _]) dX12_finds_97 (by decide) rfl ?_
          refine r_goto (pc := 99) (tgt := 34) dX12_finds_99 rfl ?_
          refine Ev.weak (lv2 := [some (aR 274), some (aI ((q : Nat) : Int)), some (aI ((a : Nat) : Int)), some (aI (((bst (fdR N B n p (fdP N B n q a p) j)) : Nat) : Int)), some (aI ((p : Nat) : Int)), some (aI (((endO n q a p) : Nat) : Int)), some (aI (((j * (B * 2 ^ p)) + (B * 2 ^ p) : Nat) : Int)), none]) ⟨Or.inr rfl, Or.inr rfl, Or.inr rfl, Or.inr rfl, Or.inr rfl, Or.inr rfl, Or.inr rfl, Or.inl rfl, trivial⟩ ?_
          have hu : fdR N B n p (fdP N B n q a p) (j + 1) = _ := (fdR_succ _ _ _ _ _ _).trans (show fdT N B n p (j * (B * 2 ^ p)) (fdR N B n p (fdP N B n q a p) j) = (fdR N B n p (fdP N B n q a p) j) from if_pos (by omega))
          exact Ev.re (by rw [hu, Nat.succ_mul]; try rfl) rfl (ihi (j + 1) fp fb ⟨by omega, by rw [hu]; exact hPi.2⟩ (by omega))
        · refine r_aload_n (pc := 57) (i := 0) dX12_finds_57 rfl rfl ?_
          refine r_iload (pc := 58) (i := 4) dX12_finds_58 rfl ?_
          refine r_iload (pc := 60) (i := 6) dX12_finds_60 rfl ?_
          refine r_iload (pc := 62) (i := 7) dX12_finds_62 rfl ?_
          refine r_callV1 (pc := 64) (d - 1) [aI ((p : Nat) : Int), aI (((j * (B * 2 ^ p)) : Nat) : Int), aI (((lnB n (B * 2 ^ p) (j * (B * 2 ^ p))) : Nat) : Int)] dX12_finds_64 (CV.mk2 mk_X12_isUnlike lk_X12_169) (RC.of (ltM hT (by omega)) (kM274 hT) (by decide) rfl) rfl rfl (by omega) (Nat.le_of_ble_eq_true rfl) (Nat.le_of_ble_eq_true rfl) (c_isUnlike (p := p) (b := (j * (B * 2 ^ p))) (m := (lnB n (B * 2 ^ p) (j * (B * 2 ^ p)))) hT (by omega) (Rng_O hR) (by omega) (by unfold lnB; omega) ?_)
          refine ⟨_, rfl, fun _ => ?_⟩
          refine r_if_ne (pc := 67) (tgt := 73) dX12_finds_67 rfl (fun c67 => ?_) (fun c67 => ?_)
          · have c67 : ¬ ukO N p (j * (B * 2 ^ p)) (lnB n (B * 2 ^ p) (j * (B * 2 ^ p))) = 0 := c67
            refine r_iload (pc := 73) (i := 7) dX12_finds_73 rfl ?_
            refine r_istore_n (pc := 75) (i := 3) (lv' := [_, _, _, _, _, _, _, _]) dX12_finds_75 rfl (by decide) rfl ?_
            refine r_aload_n (pc := 76) (i := 0) dX12_finds_76 rfl rfl ?_
            refine r_iload (pc := 77) (i := 4) dX12_finds_77 rfl ?_
            refine r_putfi (pc := 79) cks dX12_finds_79 fl_X12_185 (pf_12_18 _ _) rfl (kM274 hT) (ltM hT (by omega)) ?_
            refine r_mem (I2 := sr (sr I 274 (un (un (un H 18 fp) 19 fb) 18 ((p : Nat) : Int))) 283 N) (by rw [up2_sr_ne (by decide), up2_sr]) ?_
            refine r_aload_n (pc := 82) (i := 0) dX12_finds_82 rfl rfl ?_
            refine r_iload (pc := 83) (i := 6) dX12_finds_83 rfl ?_
            refine r_putfi (pc := 85) cks dX12_finds_85 fl_X12_188 (pf_12_19 _ _) rfl (kM274 hT) (ltM hT (by omega)) ?_
            refine r_mem (I2 := sr (sr I 274 (un (un (un (un H 18 fp) 19 fb) 18 ((p : Nat) : Int)) 19 (((j * (B * 2 ^ p)) : Nat) : Int))) 283 N) (by rw [up2_sr_ne (by decide), up2_sr]) ?_
            refine r_iload (pc := 88) (i := 6) dX12_finds_88 rfl ?_
            refine r_aload_n (pc := 90) (i := 0) dX12_finds_90 rfl rfl ?_
            refine r_iload (pc := 91) (i := 4) dX12_finds_91 rfl ?_
            refine r_callV1 (pc := 93) (d - 1) [aI ((p : Nat) : Int)] dX12_finds_93 (CV.mk2 mk_X12_blockOf lk_X12_179) (RC.of (ltM hT (by omega)) (kM274 hT) (by decide) rfl) rfl rfl (by omega) (Nat.le_of_ble_eq_true rfl) (Nat.le_of_ble_eq_true rfl) (c_blockOf (p := p) hT (bkI_H.trans hB) hB2 (by omega) ?_)
            refine ⟨_, rfl, fun _ => ?_⟩
            refine r_iaddN (pc := 96) (c := (((j * (B * 2 ^ p)) + (B * 2 ^ p) : Nat) : Int)) dX12_finds_96 (by unfold w32; omega) ?_
            refine r_istore (pc := 97) (i := 6) (lv' := [_, _, _, _, _, _, _, _]) dX12_finds_97 (by decide) rfl ?_
            refine r_goto (pc := 99) (tgt := 34) dX12_finds_99 rfl ?_
            refine Ev.weak (lv2 := [some (aR 274), some (aI ((q : Nat) : Int)), some (aI ((a : Nat) : Int)), some (aI (((lnB n (B * 2 ^ p) (j * (B * 2 ^ p))) : Nat) : Int)), some (aI ((p : Nat) : Int)), some (aI (((endO n q a p) : Nat) : Int)), some (aI (((j * (B * 2 ^ p)) + (B * 2 ^ p) : Nat) : Int)), none]) ⟨Or.inr rfl, Or.inr rfl, Or.inr rfl, Or.inr rfl, Or.inr rfl, Or.inr rfl, Or.inr rfl, Or.inl rfl, trivial⟩ ?_
            refine r_mem (I2 := sr (sr I 274 (un (un H 18 (p : Int)) 19 ((j * (B * 2 ^ p) : Nat) : Int))) 283 N) (by rw [un2_2]) ?_
            have hu : fdR N B n p (fdP N B n q a p) (j + 1) = _ := (fdR_succ _ _ _ _ _ _).trans (show fdT N B n p (j * (B * 2 ^ p)) (fdR N B n p (fdP N B n q a p) j) = some (lnB n (B * 2 ^ p) (j * (B * 2 ^ p)), p, j * (B * 2 ^ p)) from (if_neg (by omega)).trans (if_pos (ukO_n0 c67)))
            exact Ev.re (by rw [hu, Nat.succ_mul]; try rfl) rfl (ihi (j + 1) (p : Int) ((j * (B * 2 ^ p) : Nat) : Int) ⟨by omega, by rw [hu]; exact (fun t ht => by obtain rfl := Option.some.inj ht; exact ⟨rfl, rfl⟩)⟩ (by omega))
          · have c67 := Decidable.of_not_not c67
            have c67 : ukO N p (j * (B * 2 ^ p)) (lnB n (B * 2 ^ p) (j * (B * 2 ^ p))) = 0 := c67
            refine r_goto (pc := 70) (tgt := 88) dX12_finds_70 rfl ?_
            refine r_iload (pc := 88) (i := 6) dX12_finds_88 rfl ?_
            refine r_aload_n (pc := 90) (i := 0) dX12_finds_90 rfl rfl ?_
            refine r_iload (pc := 91) (i := 4) dX12_finds_91 rfl ?_
            refine r_callV1 (pc := 93) (d - 1) [aI ((p : Nat) : Int)] dX12_finds_93 (CV.mk2 mk_X12_blockOf lk_X12_179) (RC.of (ltM hT (by omega)) (kM274 hT) (by decide) rfl) rfl rfl (by omega) (Nat.le_of_ble_eq_true rfl) (Nat.le_of_ble_eq_true rfl) (c_blockOf (p := p) hT (bkI_H.trans hB) hB2 (by omega) ?_)
            refine ⟨_, rfl, fun _ => ?_⟩
            refine r_iaddN (pc := 96) (c := (((j * (B * 2 ^ p)) + (B * 2 ^ p) : Nat) : Int)) dX12_finds_96 (by unfold w32; omega) ?_
            refine r_istore (pc := 97) (i := 6) (lv' := [_, _, _, _, _, _, _, _]) dX12_finds_97 (by decide) rfl ?_
            refine r_goto (pc := 99) (tgt := 34) dX12_finds_99 rfl ?_
            refine Ev.weak (lv2 := [some (aR 274), some (aI ((q : Nat) : Int)), some (aI ((a : Nat) : Int)), some (aI (((bst (fdR N B n p (fdP N B n q a p) j)) : Nat) : Int)), some (aI ((p : Nat) : Int)), some (aI (((endO n q a p) : Nat) : Int)), some (aI (((j * (B * 2 ^ p)) + (B * 2 ^ p) : Nat) : Int)), none]) ⟨Or.inr rfl, Or.inr rfl, Or.inr rfl, Or.inr rfl, Or.inr rfl, Or.inr rfl, Or.inr rfl, Or.inl rfl, trivial⟩ ?_
            have hu : fdR N B n p (fdP N B n q a p) (j + 1) = _ := (fdR_succ _ _ _ _ _ _).trans (show fdT N B n p (j * (B * 2 ^ p)) (fdR N B n p (fdP N B n q a p) j) = (fdR N B n p (fdP N B n q a p) j) from (if_neg (by omega)).trans (if_neg (by omega)))
            exact Ev.re (by rw [hu, Nat.succ_mul]; try rfl) rfl (ihi (j + 1) fp fb ⟨by omega, by rw [hu]; exact hPi.2⟩ (by omega))
end M8

section C52
variable {G : Gl} {d : Nat} {T : Sh} {I : Mi} {N : Nat → Int} {Q : Option AV → Sh → Mi → Prop}
/-- the reader: the object r, its result r + 1 (numbers r + 2), told r + 3; its text is x -/
def ShR (T : Sh) (r x : Nat) : Prop := (r + 4 ≤ 291 ∧ 291 ≤ nx T) ∧ kd T r = 7 ∧ (kd T (r + 3) = 20 ∧ ln T (r + 3) = 9) ∧ (rf T r 0 = some (r + 1) ∧ rf T r 1 = some (r + 3) ∧ rf T r 2 = some x) ∧ ShP T (r + 1) ∧ kd T x = 20 ∧ ln T x = 200 ∧ x < nx T
theorem bA_rng {B : Nat → Int} {tp k : Nat} (h : k < tp) : 0 ≤ bA B tp k ∧ bA B tp k ≤ 255 := by
  unfold bA
  rw [if_pos h]
  obtain ⟨r, h1, h2⟩ := ian_ex (B k) (m := 255) (by decide)
  have e : ian (B k) 255 = (r : Int) := h1
  rw [e]
  omega
theorem bA_out {B : Nat → Int} {tp k : Nat} (h : tp ≤ k) : bA B tp k = -1 := by unfold bA; rw [if_neg (by omega)]
theorem skS_B (B : Nat → Int) (tp : Nat) : ∀ u a, skS B tp u a = skB (bA B tp) 32 32 u a := by
  intro u
  induction u with
  | zero => intro a; rfl
  | succ u ih =>
    intro a
    rw [skS_succ, skB_succ, ih]
    by_cases g : bA B tp a = 32
    · rw [if_pos g, if_pos (by omega)]
    · rw [if_neg g, if_neg (by omega)]
theorem skB_spec {f : Nat → Int} {lo hi : Int} : ∀ u a, (∀ j, a ≤ j → j < skB f lo hi u a → lo ≤ f j ∧ f j ≤ hi) ∧ ((∀ j, a + u ≤ j → ¬ (lo ≤ f j ∧ f j ≤ hi)) → ¬ (lo ≤ f (skB f lo hi u a) ∧ f (skB f lo hi u a) ≤ hi)) := by
  intro u
  induction u with
  | zero => intro a; exact ⟨fun j h1 h2 => absurd h2 (by show ¬ j < a; omega), fun h => h a (by omega)⟩
  | succ u ih =>
    intro a
    rw [skB_succ]
    by_cases g : lo ≤ f a ∧ f a ≤ hi
    · rw [if_pos g]
      obtain ⟨i1, i2⟩ := ih (a + 1)
      refine ⟨fun j h1 h2 => ?_, fun h => i2 (fun j hj => h j (by omega))⟩
      by_cases e : j = a
      · rw [e]; exact g
      · exact i1 j (by omega) h2
    · rw [if_neg g]
      exact ⟨fun j h1 h2 => absurd h2 (by omega), fun _ => g⟩
theorem wIs_iff {B : Nat → Int} {tp b e w : Nat} (hw : w < 9) (hb : b ≤ tp) (he : skB (bA B tp) 97 122 (tp - b) b = e) : wIs (bA B tp) b w ↔ (e - b = wdL w ∧ ∀ q, q < wdL w → bA B tp (b + q) = wdT (8 * w + q)) := by
  obtain ⟨s1, s2⟩ := skB_spec (f := bA B tp) (lo := 97) (hi := 122) (tp - b) b
  rw [he] at s1 s2
  have s3 := s2 (fun j hj => by rw [bA_out (by omega)]; omega)
  have hge := skB_ge (bA B tp) 97 122 (tp - b) b
  rw [he] at hge
  constructor
  · rintro ⟨h1, h2⟩
    refine ⟨?_, h1⟩
    rcases Nat.lt_trichotomy (e - b) (wdL w) with g | g | g
    · have h3 := h1 (e - b) g
      rw [show b + (e - b) = e by omega] at h3
      have h4 := sy_fact w hw (e - b) g
      exact absurd (by rw [h3]; exact h4.2) s3
    · exact g
    · exact absurd (s1 (b + wdL w) (by omega) (by omega)) h2
  · rintro ⟨h1, h2⟩
    refine ⟨h2, ?_⟩
    rw [← h1, show b + (e - b) = e by omega]
    exact s3
theorem dig_iff {B : Nat → Int} {tp b : Nat} (hb : b ≤ tp) : skB (bA B tp) 48 57 (tp - b) b = b ↔ ¬ (48 ≤ bA B tp b ∧ bA B tp b ≤ 57) := by
  by_cases g : 48 ≤ bA B tp b ∧ bA B tp b ≤ 57
  · have hlt : b < tp := by
      refine Nat.lt_of_not_le (fun h => ?_)
      rw [bA_out h] at g
      omega
    rw [show tp - b = (tp - b - 1) + 1 by omega, skB_succ, if_pos g]
    have := skB_ge (bA B tp) 48 57 (tp - b - 1) (b + 1)
    exact ⟨fun h => by omega, fun h => absurd g h⟩
  · refine ⟨fun _ => g, fun _ => ?_⟩
    by_cases h : b < tp
    · rw [show tp - b = (tp - b - 1) + 1 by omega, skB_succ, if_neg g]
    · rw [show tp - b = 0 by omega]; rfl
/-- at most a million -/
def nmM (x : Int) : Int := if x ≤ 1000000 then x else 1000000
def eLo (w : Nat) : Int := eLeast w
theorem dv_end {f : Nat → Int} {k : Nat} {X : Int} (h : ¬ (48 ≤ f k ∧ f k ≤ 57)) : ∀ u, dvF f u k X = X
  | 0 => rfl
  | u + 1 => by rw [dvF_succ, if_neg h]
theorem eL_in : ∀ w : Nat, w < 9 → in32 (eLeast w) ∧ in32 (eMost w) ∧ eMost w ≤ 99999 := by unfold in32; decide
theorem k_skip {tp a : Nat} {lo hi : Int} {B : Nat → Int} {r x : Nat} (hr : ShR T r x) (htp : I r 3 = (tp : Int)) (htp2 : tp ≤ 200) (hB : ∀ k, k < tp → I x k = bA B tp k) (hxr : x ≠ r) (ha : I r 4 = (a : Int)) (ha2 : a ≤ tp) (hq : Q none T (sr I r (un (I r) 4 ((skB (bA B tp) lo hi (tp - a) a : Nat) : Int)))) : EvE G mX7_skipBetween d [aR r, aI lo, aI hi] T I Q := by
  refine EvE.mk (lv0 := [some (aR r), some (aI lo), some (aI hi)]) (Nat.le_of_ble_eq_true rfl) (by decide +kernel) rfl ?_
  refine r_mem (I2 := sr I r (un (I r) 4 ((a : Nat) : Int))) (by rw [un_same ha, sr_id]) ?_
  refine loop1 (fun (b : Nat) => (a ≤ b ∧ b ≤ tp) ∧ skB (bA B tp) lo hi (tp - b) b = skB (bA B tp) lo hi (tp - a) a) (fun (b : Nat) => tp - b) (fun (b : Nat) => [some (aR r), some (aI lo), some (aI hi)]) (fun _ => T) (fun (b : Nat) => sr I r (un (I r) 4 ((b : Nat) : Int))) ?_ a ⟨⟨Nat.le_refl _, ha2⟩, rfl⟩
  intro b hP ih
  have hP : (a ≤ b ∧ b ≤ tp) ∧ skB (bA B tp) lo hi (tp - b) b = skB (bA B tp) lo hi (tp - a) a := hP
  refine (?_ : Ev G mX7_skipBetween d 0 [some (aR r), some (aI lo), some (aI hi)] [] T (sr I r (un (I r) 4 ((b : Nat) : Int))) Q)
  refine r_aload_n (pc := 0) (i := 0) dX7_skipBetween_0 rfl rfl ?_
  refine r_getfi (pc := 1) cks dX7_skipBetween_1 fl_X7_29 rfl hr.2.1 (by have := hr.1; omega) ?_
  refine r_top (b := (un (I r) 4 ((b : Nat) : Int)) 4) (sr_at _ _ _ _) ?_
  refine r_top (b := ((b : Nat) : Int)) (un_at) ?_
  refine r_aload_n (pc := 4) (i := 0) dX7_skipBetween_4 rfl rfl ?_
  refine r_getfi (pc := 5) cks dX7_skipBetween_5 fl_X7_25 rfl hr.2.1 (by have := hr.1; omega) ?_
  refine r_top (b := (un (I r) 4 ((b : Nat) : Int)) 3) (sr_at _ _ _ _) ?_
  refine r_top (b := ((tp : Nat) : Int)) ((un_ne (by decide)).trans htp) ?_
  refine r_icmp_ge (pc := 8) (tgt := 50) dX7_skipBetween_8 rfl (fun c8 => ?_) (fun c8 => ?_)
  · have hz := hP.2
    rw [show tp - b = 0 by omega, show skB (bA B tp) lo hi 0 b = b from rfl] at hz
    exact r_vret (pc := 50) dX7_skipBetween_50 trivial (by rw [← hz] at hq; exact hq)
  · refine r_aload_n (pc := 11) (i := 0) dX7_skipBetween_11 rfl rfl ?_
    refine r_getfr (pc := 12) (b := x) cks dX7_skipBetween_12 fl_X7_22 rfl hr.2.1 (by have := hr.1; omega) hr.2.2.2.1.2.2 ?_
    refine r_aload_n (pc := 15) (i := 0) dX7_skipBetween_15 rfl rfl ?_
    refine r_getfi (pc := 16) cks dX7_skipBetween_16 fl_X7_29 rfl hr.2.1 (by have := hr.1; omega) ?_
    refine r_top (b := (un (I r) 4 ((b : Nat) : Int)) 4) (sr_at _ _ _ _) ?_
    refine r_top (b := ((b : Nat) : Int)) (un_at) ?_
    refine r_ild (pc := 19) (b) dX7_skipBetween_19 hr.2.2.2.2.2.1 hr.2.2.2.2.2.2.2 rfl (by rw [hr.2.2.2.2.2.2.1]; omega) ?_
    refine r_top (b := I x b) ((congrFun (sr_ne hxr) _).trans (rfl)) ?_
    refine r_top (b := bA B tp b) (hB b (by omega)) ?_
    refine r_iload_n (pc := 20) (i := 1) dX7_skipBetween_20 rfl rfl ?_
    refine r_icmp_lt (pc := 21) (tgt := 50) dX7_skipBetween_21 rfl (fun c21 => ?_) (fun c21 => ?_)
    · have hz := hP.2
      rw [show tp - b = (tp - (b + 1)) + 1 by omega, skB_succ, if_neg (by omega)] at hz
      exact r_vret (pc := 50) dX7_skipBetween_50 trivial (by rw [← hz] at hq; exact hq)
    · refine r_aload_n (pc := 24) (i := 0) dX7_skipBetween_24 rfl rfl ?_
      refine r_getfr (pc := 25) (b := x) cks dX7_skipBetween_25 fl_X7_22 rfl hr.2.1 (by have := hr.1; omega) hr.2.2.2.1.2.2 ?_
      refine r_aload_n (pc := 28) (i := 0) dX7_skipBetween_28 rfl rfl ?_
      refine r_getfi (pc := 29) cks dX7_skipBetween_29 fl_X7_29 rfl hr.2.1 (by have := hr.1; omega) ?_
      refine r_top (b := (un (I r) 4 ((b : Nat) : Int)) 4) (sr_at _ _ _ _) ?_
      refine r_top (b := ((b : Nat) : Int)) (un_at) ?_
      refine r_ild (pc := 32) (b) dX7_skipBetween_32 hr.2.2.2.2.2.1 hr.2.2.2.2.2.2.2 rfl (by rw [hr.2.2.2.2.2.2.1]; omega) ?_
      refine r_top (b := I x b) ((congrFun (sr_ne hxr) _).trans (rfl)) ?_
      refine r_top (b := bA B tp b) (hB b (by omega)) ?_
      refine r_iload_n (pc := 33) (i := 2) dX7_skipBetween_33 rfl rfl ?_
      refine r_icmp_gt (pc := 34) (tgt := 50) dX7_skipBetween_34 rfl (fun c34 => ?_) (fun c34 => ?_)
      · have hz := hP.2
        rw [show tp - b = (tp - (b + 1)) + 1 by omega, skB_succ, if_neg (by omega)] at hz
        exact r_vret (pc := 50) dX7_skipBetween_50 trivial (by rw [← hz] at hq; exact hq)
      · refine r_aload_n (pc := 37) (i := 0) dX7_skipBetween_37 rfl rfl ?_
        refine r_dup (pc := 38) dX7_skipBetween_38 rfl ?_
        refine r_getfi (pc := 39) cks dX7_skipBetween_39 fl_X7_29 rfl hr.2.1 (by have := hr.1; omega) ?_
        refine r_top (b := (un (I r) 4 ((b : Nat) : Int)) 4) (sr_at _ _ _ _) ?_
        refine r_top (b := ((b : Nat) : Int)) (un_at) ?_
        refine r_iconst (pc := 42) dX7_skipBetween_42 (in32_of rfl) ?_
        refine r_iaddN (pc := 43) (c := ((b + 1 : Nat) : Int)) dX7_skipBetween_43 (by unfold w32; omega) ?_
        refine r_putfi (pc := 44) cks dX7_skipBetween_44 fl_X7_29 (pf_7_4 _ _) rfl hr.2.1 (by have := hr.1; omega) ?_
        refine r_mem (I2 := sr I r (un (un (I r) 4 ((b : Nat) : Int)) 4 ((b + 1 : Nat) : Int))) ((up2_row _ _ _ _).trans ((congrArg (fun fz_ => sr (sr I r (un (I r) 4 ((b : Nat) : Int))) r (un fz_ 4 ((b + 1 : Nat) : Int))) (show (sr I r (un (I r) 4 ((b : Nat) : Int))) r = un (I r) 4 ((b : Nat) : Int) from sr_row _ _ _)).trans (sr_sr _ _ _ _))) ?_
        refine r_goto (pc := 47) (tgt := 0) dX7_skipBetween_47 rfl ?_
        have hz := hP.2
        rw [show tp - b = (tp - (b + 1)) + 1 by omega, skB_succ, if_pos (by omega)] at hz
        exact Ev.re rfl (by rw [un_un]) (ih (b + 1) ⟨⟨by omega, by omega⟩, hz⟩ (by omega))
theorem k_blanks {tp a : Nat} {B : Nat → Int} {r x : Nat} (hr : ShR T r x) (hd : 1 ≤ d) (htp : I r 3 = (tp : Int)) (htp2 : tp ≤ 200) (hB : ∀ k, k < tp → I x k = bA B tp k) (hxr : x ≠ r) (ha : I r 4 = (a : Int)) (ha2 : a ≤ tp) (hq : Q none T (sr I r (un (I r) 4 ((sA B tp a : Nat) : Int)))) : EvE G mX7_skipBlanks d [aR r] T I Q := by
  refine EvE.mk (lv0 := [some (aR r)]) (Nat.le_of_ble_eq_true rfl) (by decide +kernel) rfl ?_
  refine r_aload_n (pc := 0) (i := 0) dX7_skipBlanks_0 rfl rfl ?_
  refine r_bipush (pc := 1) dX7_skipBlanks_1 rfl (in32_of rfl) ?_
  refine r_bipush (pc := 3) dX7_skipBlanks_3 rfl (in32_of rfl) ?_
  refine r_callV0 (pc := 5) (d - 1) [aI 32, aI 32] dX7_skipBlanks_5 (CV.mk2 mk_X7_skipBetween lk_X7_57) (RC.of (by have := hr.1; omega) hr.2.1 (by decide) rfl) rfl rfl (by omega) (Nat.le_of_ble_eq_true rfl) (Nat.le_of_ble_eq_true rfl) (k_skip (tp := tp) (a := a) (B := B) hr htp htp2 hB hxr ha ha2 ?_)
  refine ⟨rfl, fun _ => ?_⟩
  exact r_vret (pc := 8) dX7_skipBlanks_8 trivial (by rw [← skS_B]; exact hq)
theorem k_faultAt {pl kk : Nat} (hp : pl ≤ 1000) (hk : kk ≤ 7) (hq : Q (some (aI ((8 * pl + kk : Nat) : Int))) T I) : EvE G mX7_faultAt d [aI ((pl : Nat) : Int), aI ((kk : Nat) : Int)] T I Q := by
  refine EvE.mk (lv0 := [some (aI ((pl : Nat) : Int)), some (aI ((kk : Nat) : Int))]) (Nat.le_of_ble_eq_true rfl) (by decide +kernel) rfl ?_
  refine r_bipush (pc := 0) dX7_faultAt_0 rfl (in32_of rfl) ?_
  refine r_iload_n (pc := 2) (i := 0) dX7_faultAt_2 rfl rfl ?_
  refine r_imulN (pc := 3) (c := ((8 * pl : Nat) : Int)) dX7_faultAt_3 (by unfold w32; omega) ?_
  refine r_iload_n (pc := 4) (i := 1) dX7_faultAt_4 rfl rfl ?_
  refine r_iaddN (pc := 5) (c := ((8 * pl + kk : Nat) : Int)) dX7_faultAt_5 (by unfold w32; omega) ?_
  exact r_iret (pc := 6) dX7_faultAt_6 trivial hq
theorem k_wordOf {w : Nat} (hw : w < 9) (hq : Q (some (aE (4 + w))) T I) : EvE G mX7_wordOf d [aI ((w : Nat) : Int)] T I Q := by
  refine EvE.mk (lv0 := [some (aI ((w : Nat) : Int))]) (Nat.le_of_ble_eq_true rfl) (by decide +kernel) rfl ?_
  refine r_iload_n (pc := 0) (i := 0) dX7_wordOf_0 rfl rfl ?_
  have : w = 0 ∨ w = 1 ∨ w = 2 ∨ w = 3 ∨ w = 4 ∨ w = 5 ∨ w = 6 ∨ w = 7 ∨ w = 8 := by omega
  rcases this with rfl | rfl | rfl | rfl | rfl | rfl | rfl | rfl | rfl
  · refine r_tsw_in (pc := 1) (tgt := 48) dX7_wordOf_1 (by decide) (by decide) rfl rfl ?_
    refine r_ldcS (pc := 48) (i := 0) (by decide) rfl dX7_wordOf_48 ?_
    exact r_aret (pc := 50) dX7_wordOf_50 trivial hq
  · refine r_tsw_in (pc := 1) (tgt := 51) dX7_wordOf_1 (by decide) (by decide) rfl rfl ?_
    refine r_ldcS (pc := 51) (i := 1) (by decide) rfl dX7_wordOf_51 ?_
    exact r_aret (pc := 53) dX7_wordOf_53 trivial hq
  · refine r_tsw_in (pc := 1) (tgt := 54) dX7_wordOf_1 (by decide) (by decide) rfl rfl ?_
    refine r_ldcS (pc := 54) (i := 2) (by decide) rfl dX7_wordOf_54 ?_
    exact r_aret (pc := 56) dX7_wordOf_56 trivial hq
  · refine r_tsw_in (pc := 1) (tgt := 57) dX7_wordOf_1 (by decide) (by decide) rfl rfl ?_
    refine r_ldcS (pc := 57) (i := 3) (by decide) rfl dX7_wordOf_57 ?_
    exact r_aret (pc := 59) dX7_wordOf_59 trivial hq
  · refine r_tsw_in (pc := 1) (tgt := 60) dX7_wordOf_1 (by decide) (by decide) rfl rfl ?_
    refine r_ldcS (pc := 60) (i := 4) (by decide) rfl dX7_wordOf_60 ?_
    exact r_aret (pc := 62) dX7_wordOf_62 trivial hq
  · refine r_tsw_in (pc := 1) (tgt := 63) dX7_wordOf_1 (by decide) (by decide) rfl rfl ?_
    refine r_ldcS (pc := 63) (i := 5) (by decide) rfl dX7_wordOf_63 ?_
    exact r_aret (pc := 65) dX7_wordOf_65 trivial hq
  · refine r_tsw_in (pc := 1) (tgt := 66) dX7_wordOf_1 (by decide) (by decide) rfl rfl ?_
    refine r_ldcS (pc := 66) (i := 6) (by decide) rfl dX7_wordOf_66 ?_
    exact r_aret (pc := 68) dX7_wordOf_68 trivial hq
  · refine r_tsw_in (pc := 1) (tgt := 69) dX7_wordOf_1 (by decide) (by decide) rfl rfl ?_
    refine r_ldcS (pc := 69) (i := 7) (by decide) rfl dX7_wordOf_69 ?_
    exact r_aret (pc := 71) dX7_wordOf_71 trivial hq
  · refine r_tsw_out (pc := 1) (tgt := 72) dX7_wordOf_1 (Or.inr (by decide)) rfl ?_
    refine r_ldcS (pc := 72) (i := 8) (by decide) rfl dX7_wordOf_72 ?_
    exact r_aret (pc := 74) dX7_wordOf_74 trivial hq
theorem k_isAlong {i b e tp : Nat} {B : Nat → Int} (hi : i < 9) {r x : Nat} (hr : ShR T r x) (hd : 4 ≤ d) (htp2 : tp ≤ 200) (hB : ∀ k, k < tp → I x k = bA B tp k) (hbe : b ≤ e) (he : e ≤ tp) (hq : Q (some (aI (if e - b = wdL i ∧ ∀ q, q < wdL i → bA B tp (b + q) = wdT (8 * i + q) then 1 else 0))) T I) : EvE G mX7_isAlong d [aR r, aE (4 + i), aI ((b : Nat) : Int), aI ((e : Nat) : Int)] T I Q := by
  have hw7 := (sl_fact i hi).2.2
  refine EvE.mk (lv0 := [some (aR r), some (aE (4 + i)), some (aI ((b : Nat) : Int)), some (aI ((e : Nat) : Int)), none]) (Nat.le_of_ble_eq_true rfl) (by decide +kernel) rfl ?_
  refine r_aload_nE (pc := 0) (i := 1) dX7_isAlong_0 rfl rfl ?_
  refine r_callX1 (pc := 1) (d - 1) hi [] dX7_isAlong_1 (CV.mk2 mk_J0_length_8abf5 lk_X7_85) rfl rfl rfl (by omega) (Nat.le_of_ble_eq_true rfl) (Nat.le_of_ble_eq_true rfl) (k_slen (i := i) hi (by omega) ?_)
  refine ⟨_, rfl, fun _ => ?_⟩
  refine r_iload_n (pc := 4) (i := 3) dX7_isAlong_4 rfl rfl ?_
  refine r_iload_n (pc := 5) (i := 2) dX7_isAlong_5 rfl rfl ?_
  refine r_isubN (pc := 6) (c := (((e : Nat) : Int) - ((b : Nat) : Int))) dX7_isAlong_6 (by unfold w32; omega) ?_
  refine r_icmp_eq (pc := 7) (tgt := 12) dX7_isAlong_7 rfl (fun c7 => ?_) (fun c7 => ?_)
  · refine r_iconst (pc := 12) dX7_isAlong_12 (in32_of rfl) ?_
    refine r_istore (pc := 13) (i := 4) (lv' := [_, _, _, _, _]) dX7_isAlong_13 (by decide) rfl ?_
    refine loop1 (fun (q : Nat) => q ≤ wdL i ∧ ∀ y, y < q → bA B tp (b + y) = wdT (8 * i + y)) (fun (q : Nat) => wdL i - q) (fun (q : Nat) => [some (aR r), some (aE (4 + i)), some (aI ((b : Nat) : Int)), some (aI ((e : Nat) : Int)), some (aI ((q : Nat) : Int))]) (fun _ => T) (fun (q : Nat) => I) ?_ 0 ⟨Nat.zero_le _, fun y hy => absurd hy (Nat.not_lt_zero y)⟩
    intro q hP ih
    have hP : q ≤ wdL i ∧ ∀ y, y < q → bA B tp (b + y) = wdT (8 * i + y) := hP
    refine (?_ : Ev G mX7_isAlong d 15 [some (aR r), some (aE (4 + i)), some (aI ((b : Nat) : Int)), some (aI ((e : Nat) : Int)), some (aI ((q : Nat) : Int))] [] T I Q)
    refine r_iload (pc := 15) (i := 4) dX7_isAlong_15 rfl ?_
    refine r_aload_nE (pc := 17) (i := 1) dX7_isAlong_17 rfl rfl ?_
    refine r_callX1 (pc := 18) (d - 1) hi [] dX7_isAlong_18 (CV.mk2 mk_J0_length_8abf5 lk_X7_85) rfl rfl rfl (by omega) (Nat.le_of_ble_eq_true rfl) (Nat.le_of_ble_eq_true rfl) (k_slen (i := i) hi (by omega) ?_)
    refine ⟨_, rfl, fun _ => ?_⟩
    refine r_icmp_ge (pc := 21) (tgt := 50) dX7_isAlong_21 rfl (fun c21 => ?_) (fun c21 => ?_)
    · refine r_iconst (pc := 50) dX7_isAlong_50 (in32_of rfl) ?_
      exact r_iret (pc := 51) dX7_isAlong_51 (Or.inr rfl) (by rw [if_pos ⟨by omega, fun y hy => hP.2 y (by omega)⟩] at hq; exact hq)
    · refine r_aload_n (pc := 24) (i := 0) dX7_isAlong_24 rfl rfl ?_
      refine r_getfr (pc := 25) (b := x) cks dX7_isAlong_25 fl_X7_22 rfl hr.2.1 (by have := hr.1; omega) hr.2.2.2.1.2.2 ?_
      refine r_iload_n (pc := 28) (i := 2) dX7_isAlong_28 rfl rfl ?_
      refine r_iload (pc := 29) (i := 4) dX7_isAlong_29 rfl ?_
      refine r_iaddN (pc := 31) (c := ((b + q : Nat) : Int)) dX7_isAlong_31 (by unfold w32; omega) ?_
      refine r_ild (pc := 32) (b + q) dX7_isAlong_32 hr.2.2.2.2.2.1 hr.2.2.2.2.2.2.2 rfl (by rw [hr.2.2.2.2.2.2.1]; omega) ?_
      refine r_top (b := bA B tp (b + q)) (hB (b + q) (by omega)) ?_
      refine r_aload_nE (pc := 33) (i := 1) dX7_isAlong_33 rfl rfl ?_
      refine r_iload (pc := 34) (i := 4) dX7_isAlong_34 rfl ?_
      refine r_callX1 (pc := 36) (d - 1) hi [aI ((q : Nat) : Int)] dX7_isAlong_36 (CV.mk2 mk_J0_charAt_5068e lk_X7_89) rfl rfl rfl (by omega) (Nat.le_of_ble_eq_true rfl) (Nat.le_of_ble_eq_true rfl) (k_charAt (i := i) (j := q) hi (by omega) (by omega) ?_)
      refine ⟨_, rfl, fun _ => ?_⟩
      refine r_icmp_eq (pc := 39) (tgt := 44) dX7_isAlong_39 rfl (fun c39 => ?_) (fun c39 => ?_)
      · refine r_iincN (pc := 44) (i := 4) (c := ((q + 1 : Nat) : Int)) (lv' := [_, _, _, _, _]) dX7_isAlong_44 rfl (by decide) (by unfold w32; omega) rfl ?_
        refine r_goto (pc := 47) (tgt := 15) dX7_isAlong_47 rfl ?_
        exact ih (q + 1) ⟨by omega, fun y hy => by by_cases g : y = q; (rw [g]; omega); exact hP.2 y (by omega)⟩ (by omega)
      · refine r_iconst (pc := 42) dX7_isAlong_42 (in32_of rfl) ?_
        exact r_iret (pc := 43) dX7_isAlong_43 (Or.inl rfl) (by rw [if_neg (fun h => c39 (by have h2 := h.2 q (by omega); omega))] at hq; exact hq)
  · refine r_iconst (pc := 10) dX7_isAlong_10 (in32_of rfl) ?_
    exact r_iret (pc := 11) dX7_isAlong_11 (Or.inl rfl) (by rw [if_neg (fun h => c7 (by omega))] at hq; exact hq)
theorem k_wordAlong {b e tp : Nat} {B : Nat → Int} {r x : Nat} (hr : ShR T r x) (hd : 5 ≤ d) (htp2 : tp ≤ 200) (hB : ∀ k, k < tp → I x k = bA B tp k) (hbe : b ≤ e) (he : e ≤ tp) (hen : skB (bA B tp) 97 122 (tp - b) b = e) (hq : Q (some (aI (wdF (bA B tp) b 9 0))) T I) : EvE G mX7_wordAlong d [aR r, aI ((b : Nat) : Int), aI ((e : Nat) : Int)] T I Q := by
  refine EvE.mk (lv0 := [some (aR r), some (aI ((b : Nat) : Int)), some (aI ((e : Nat) : Int)), none]) (Nat.le_of_ble_eq_true rfl) (by decide +kernel) rfl ?_
  refine r_iconst (pc := 0) dX7_wordAlong_0 (in32_of rfl) ?_
  refine r_istore_n (pc := 1) (i := 3) (lv' := [_, _, _, _]) dX7_wordAlong_1 rfl (by decide) rfl ?_
  refine loop1 (fun (w : Nat) => w ≤ 9 ∧ wdF (bA B tp) b (9 - w) w = wdF (bA B tp) b 9 0) (fun (w : Nat) => 9 - w) (fun (w : Nat) => [some (aR r), some (aI ((b : Nat) : Int)), some (aI ((e : Nat) : Int)), some (aI ((w : Nat) : Int))]) (fun _ => T) (fun (w : Nat) => I) ?_ 0 ⟨Nat.zero_le _, rfl⟩
  intro w hP ih
  have hP : w ≤ 9 ∧ wdF (bA B tp) b (9 - w) w = wdF (bA B tp) b 9 0 := hP
  refine (?_ : Ev G mX7_wordAlong d 2 [some (aR r), some (aI ((b : Nat) : Int)), some (aI ((e : Nat) : Int)), some (aI ((w : Nat) : Int))] [] T I Q)
  refine r_iload_n (pc := 2) (i := 3) dX7_wordAlong_2 rfl rfl ?_
  refine r_bipush (pc := 3) dX7_wordAlong_3 rfl (in32_of rfl) ?_
  refine r_icmp_ge (pc := 5) (tgt := 29) dX7_wordAlong_5 rfl (fun c5 => ?_) (fun c5 => ?_)
  · refine r_iconst (pc := 29) dX7_wordAlong_29 (in32_of rfl) ?_
    have hz := hP.2
    rw [show 9 - w = 0 by omega, show wdF (bA B tp) b 0 w = -1 from rfl] at hz
    exact r_iret (pc := 30) dX7_wordAlong_30 trivial (by rw [← hz] at hq; exact hq)
  · refine r_aload_n (pc := 8) (i := 0) dX7_wordAlong_8 rfl rfl ?_
    refine r_iload_n (pc := 9) (i := 3) dX7_wordAlong_9 rfl rfl ?_
    refine r_callS1 (pc := 10) (d - 1) [aI ((w : Nat) : Int)] dX7_wordAlong_10 (CS.mk2 mk_X7_wordOf lk_X7_77) rfl rfl (by omega) (Nat.le_of_ble_eq_true rfl) (Nat.le_of_ble_eq_true rfl) (k_wordOf (w := w) (by omega) ?_)
    refine ⟨_, rfl, fun _ => ?_⟩
    refine r_iload_n (pc := 13) (i := 1) dX7_wordAlong_13 rfl rfl ?_
    refine r_iload_n (pc := 14) (i := 2) dX7_wordAlong_14 rfl rfl ?_
    refine r_callV1 (pc := 15) (d - 1) [aE (4 + w), aI ((b : Nat) : Int), aI ((e : Nat) : Int)] dX7_wordAlong_15 (CV.mk2 mk_X7_isAlong lk_X7_81) (RC.of (by have := hr.1; omega) hr.2.1 (by decide) rfl) rfl rfl (by omega) (Nat.le_of_ble_eq_true rfl) (Nat.le_of_ble_eq_true rfl) (k_isAlong (i := w) (b := b) (e := e) (tp := tp) (B := B) (by omega) hr (by omega) htp2 hB hbe he ?_)
    refine ⟨_, rfl, fun _ => ?_⟩
    refine r_if_eq (pc := 18) (tgt := 23) dX7_wordAlong_18 rfl (fun c18 => ?_) (fun c18 => ?_)
    · refine r_iincN (pc := 23) (i := 3) (c := ((w + 1 : Nat) : Int)) (lv' := [_, _, _, _]) dX7_wordAlong_23 rfl (by decide) (by unfold w32; omega) rfl ?_
      refine r_goto (pc := 26) (tgt := 2) dX7_wordAlong_26 rfl ?_
      have hz := hP.2
      rw [show 9 - w = (9 - (w + 1)) + 1 by omega, wdF_succ, if_neg (fun h => absurd c18 (by rw [if_pos ((wIs_iff (by omega) (by omega) hen).mp h)]; decide))] at hz
      exact ih (w + 1) ⟨by omega, hz⟩ (by omega)
    · refine r_iload_n (pc := 21) (i := 3) dX7_wordAlong_21 rfl rfl ?_
      have hz := hP.2
      rw [show 9 - w = (9 - (w + 1)) + 1 by omega, wdF_succ, if_pos ((wIs_iff (by omega) (by omega) hen).mpr (Decidable.of_not_not (fun h => c18 (if_neg h))))] at hz
      exact r_iret (pc := 22) dX7_wordAlong_22 trivial (by rw [← hz] at hq; exact hq)
theorem k_numAlong {b e tp : Nat} {B : Nat → Int} {r x : Nat} (hr : ShR T r x) (hd : 1 ≤ d) (htp2 : tp ≤ 200) (hB : ∀ k, k < tp → I x k = bA B tp k) (hbe : b ≤ e) (he : e ≤ tp) (hen : skB (bA B tp) 48 57 (tp - b) b = e) (hq : Q (some (aI (nmM (dvF (bA B tp) (tp - b) b 0)))) T I) : EvE G mX7_numberAlong d [aR r, aI ((b : Nat) : Int), aI ((e : Nat) : Int)] T I Q := by
  obtain ⟨hrun, hnd0⟩ := skB_spec (f := bA B tp) (lo := 48) (hi := 57) (tp - b) b
  rw [hen] at hrun hnd0
  have hnd := hnd0 (fun j hj => by rw [bA_out (by omega)]; omega)
  refine EvE.mk (lv0 := [some (aR r), some (aI ((b : Nat) : Int)), some (aI ((e : Nat) : Int)), none, none]) (Nat.le_of_ble_eq_true rfl) (by decide +kernel) rfl ?_
  refine r_iconst (pc := 0) dX7_numberAlong_0 (in32_of rfl) ?_
  refine r_istore_n (pc := 1) (i := 3) (lv' := [_, _, _, _, _]) dX7_numberAlong_1 rfl (by decide) rfl ?_
  refine r_iload_n (pc := 2) (i := 1) dX7_numberAlong_2 rfl rfl ?_
  refine r_istore (pc := 3) (i := 4) (lv' := [_, _, _, _, _]) dX7_numberAlong_3 (by decide) rfl ?_
  refine loop2 (fun (k : Nat) (X : Int) => (b ≤ k ∧ k ≤ e) ∧ 0 ≤ X ∧ dvF (bA B tp) (tp - k) k X = dvF (bA B tp) (tp - b) b 0) (fun (k : Nat) (X : Int) => e - k) (fun (k : Nat) (X : Int) => [some (aR r), some (aI ((b : Nat) : Int)), some (aI ((e : Nat) : Int)), some (aI (nmM X)), some (aI ((k : Nat) : Int))]) (fun _ _ => T) (fun (k : Nat) (X : Int) => I) ?_ b 0 ⟨⟨Nat.le_refl _, hbe⟩, by decide, rfl⟩
  intro k X hP ih
  have hP : (b ≤ k ∧ k ≤ e) ∧ 0 ≤ X ∧ dvF (bA B tp) (tp - k) k X = dvF (bA B tp) (tp - b) b 0 := hP
  have hnm : 0 ≤ nmM X ∧ nmM X ≤ 1000000 := by unfold nmM; split <;> omega
  refine (?_ : Ev G mX7_numberAlong d 5 [some (aR r), some (aI ((b : Nat) : Int)), some (aI ((e : Nat) : Int)), some (aI (nmM X)), some (aI ((k : Nat) : Int))] [] T I Q)
  refine r_iload (pc := 5) (i := 4) dX7_numberAlong_5 rfl ?_
  refine r_iload_n (pc := 7) (i := 2) dX7_numberAlong_7 rfl rfl ?_
  refine r_icmp_ge (pc := 8) (tgt := 38) dX7_numberAlong_8 rfl (fun c8 => ?_) (fun c8 => ?_)
  · refine r_iload_n (pc := 38) (i := 3) dX7_numberAlong_38 rfl rfl ?_
    have hz := hP.2.2
    have hke : k = e := by omega
    subst hke
    have hst : dvF (bA B tp) (tp - k) k X = X := dv_end hnd _
    rw [hst] at hz
    exact r_iret (pc := 39) dX7_numberAlong_39 trivial (by rw [← hz] at hq; exact hq)
  · have hdg := hrun k (by omega) (by omega)
    refine r_bipush (pc := 11) dX7_numberAlong_11 rfl (in32_of rfl) ?_
    refine r_iload_n (pc := 13) (i := 3) dX7_numberAlong_13 rfl rfl ?_
    refine r_imulN (pc := 14) (c := (10 * nmM X)) dX7_numberAlong_14 (by unfold w32; omega) ?_
    refine r_aload_n (pc := 15) (i := 0) dX7_numberAlong_15 rfl rfl ?_
    refine r_getfr (pc := 16) (b := x) cks dX7_numberAlong_16 fl_X7_22 rfl hr.2.1 (by have := hr.1; omega) hr.2.2.2.1.2.2 ?_
    refine r_iload (pc := 19) (i := 4) dX7_numberAlong_19 rfl ?_
    refine r_ild (pc := 21) (k) dX7_numberAlong_21 hr.2.2.2.2.2.1 hr.2.2.2.2.2.2.2 rfl (by rw [hr.2.2.2.2.2.2.1]; omega) ?_
    refine r_top (b := bA B tp k) (hB k (by omega)) ?_
    refine r_iaddN (pc := 22) (c := ((10 * nmM X) + (bA B tp k))) dX7_numberAlong_22 (by unfold w32; omega) ?_
    refine r_bipush (pc := 23) dX7_numberAlong_23 rfl (in32_of rfl) ?_
    refine r_isubN (pc := 25) (c := ((10 * nmM X) + (bA B tp k) - 48)) dX7_numberAlong_25 (by unfold w32; omega) ?_
    refine r_ldc (pc := 26) (n := 1000000) dX7_numberAlong_26 cn_X7_93 (in32_of rfl) ?_
    refine r_min (pc := 28) dX7_numberAlong_28 (by omega) ml_X7_32 (Nat.le_of_ble_eq_true rfl) ?_
    refine r_top (b := (nmM (if 999999 < X then X else 10 * X + bA B tp k - 48))) (by unfold nmM; split <;> split <;> (try split) <;> (try split) <;> omega) ?_
    refine r_istore_n (pc := 31) (i := 3) (lv' := [_, _, _, _, _]) dX7_numberAlong_31 rfl (by decide) rfl ?_
    refine r_iincN (pc := 32) (i := 4) (c := ((k + 1 : Nat) : Int)) (lv' := [_, _, _, _, _]) dX7_numberAlong_32 rfl (by decide) (by unfold w32; omega) rfl ?_
    refine r_goto (pc := 35) (tgt := 5) dX7_numberAlong_35 rfl ?_
    have hz := hP.2.2
    rw [show tp - k = (tp - (k + 1)) + 1 by omega, dvF_succ, if_pos hdg] at hz
    exact ih (k + 1) (if 999999 < X then X else 10 * X + bA B tp k - 48) ⟨⟨by omega, by omega⟩, by split <;> omega, hz⟩ (by omega)
end C52

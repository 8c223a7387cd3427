section C58
variable {G : Gl} {d : Nat} {T : Sh} {I : Mi} {N : Nat → Int} {Q : Option AV → Sh → Mi → Prop}
theorem k_isMending {A : AN} {L : Nat → Int} {p o t c q n : Nat} (hK : KSh T A) (hS : ShS T 9 p o t c) (hst : StR L I 9 p o t N) (htc : tN N ≤ c) (hNo : NOk N q n) (hq : Q (some (aI (bi (N 0 = 2 ∨ N 0 = 3)))) T I) : EvE G mX11_isMending d [aR 0] T I Q := by
  have hn2 := hNo.1.2.2.1
  have h6r := ok_6.mp (hNo.1.1 6)
  refine EvE.mk (lv0 := [some (aR 0)]) (Nat.le_of_ble_eq_true rfl) (by decide +kernel) rfl ?_
  refine r_aload_n (pc := 0) (i := 0) dX11_isMending_0 rfl rfl ?_
  refine r_getfr (pc := 1) (b := 9) cks dX11_isMending_1 fl_X11_34 rfl (kK0 hK) (ltK hK (by decide)) (rK0_4 hK) ?_
  refine r_getfi (pc := 4) cks dX11_isMending_4 fl_X11_126 rfl (kS0 hS) (ltS0 hS) ?_
  refine r_top (b := N 0) (hst.1.1) ?_
  refine r_iconst (pc := 7) dX11_isMending_7 (in32_of rfl) ?_
  refine r_icmp_eq (pc := 8) (tgt := 22) dX11_isMending_8 rfl (fun c8 => ?_) (fun c8 => ?_)
  · refine r_iconst (pc := 22) dX11_isMending_22 (in32_of rfl) ?_
    refine r_goto (pc := 23) (tgt := 27) dX11_isMending_23 rfl ?_
    exact r_iret (pc := 27) dX11_isMending_27 (Or.inr rfl) (by rw [show bi (N 0 = 2 ∨ N 0 = 3) = 1 from bi_t (by omega)] at hq; exact hq)
  · refine r_aload_n (pc := 11) (i := 0) dX11_isMending_11 rfl rfl ?_
    refine r_getfr (pc := 12) (b := 9) cks dX11_isMending_12 fl_X11_34 rfl (kK0 hK) (ltK hK (by decide)) (rK0_4 hK) ?_
    refine r_getfi (pc := 15) cks dX11_isMending_15 fl_X11_126 rfl (kS0 hS) (ltS0 hS) ?_
    refine r_top (b := N 0) (hst.1.1) ?_
    refine r_iconst (pc := 18) dX11_isMending_18 (in32_of rfl) ?_
    refine r_icmp_ne (pc := 19) (tgt := 26) dX11_isMending_19 rfl (fun c19 => ?_) (fun c19 => ?_)
    · refine r_iconst (pc := 26) dX11_isMending_26 (in32_of rfl) ?_
      exact r_iret (pc := 27) dX11_isMending_27 (Or.inl rfl) (by rw [show bi (N 0 = 2 ∨ N 0 = 3) = 0 from bi_f (by omega)] at hq; exact hq)
    · have c19 := Decidable.of_not_not c19
      refine r_iconst (pc := 22) dX11_isMending_22 (in32_of rfl) ?_
      refine r_goto (pc := 23) (tgt := 27) dX11_isMending_23 rfl ?_
      exact r_iret (pc := 27) dX11_isMending_27 (Or.inr rfl) (by rw [show bi (N 0 = 2 ∨ N 0 = 3) = 1 from bi_t (by omega)] at hq; exact hq)
def sigB (L N : Nat → Int) (s w : Int) : Int := if (0 ≤ s ∧ s ≤ sgV L N - 1) ∧ (0 ≤ w ∧ w ≤ 5) then (if w = 5 then siS N s else ofS N s w) else -1
theorem smS_cn (S : Nat → Int) : ∀ m, smS S m = cnB (sb S) m := by
  intro m
  induction m with
  | zero => rfl
  | succ m ih =>
    show smS S m + (if inS S m = 1 then 1 else 0) = cnB (sb S) m + (if sb S m = true then 1 else 0)
    rw [ih]
    by_cases g : sb S m = true
    · rw [if_pos g, if_pos (inS_1.mpr g)]
    · rw [if_neg g, if_neg (fun h => g (inS_1.mp h))]
theorem cn_hi {f : Nat → Bool} {n : Nat} : ∀ m, n ≤ m → (∀ q, n ≤ q → q < m → f q = false) → cnB f m = cnB f n := by
  intro m
  induction m with
  | zero => intro h _; rw [show n = 0 by omega]
  | succ m ih =>
    intro h hf
    by_cases g : n = m + 1
    · rw [g]
    · show cnB f m + (if f m = true then 1 else 0) = cnB f n
      rw [hf m (by omega) (by omega), ih (by omega) (fun q h1 h2 => hf q h1 (by omega))]
      rfl
theorem ls_lsB {S : Nat → Int} {f : Nat → Bool} {n : Nat} (hf : ∀ q, q < 256 → f q = sb S q) (hn : n ≤ 256) (hh : hiP S n) : ∀ u k, k + u = n → lsB f (256 - k) k = lsS S n u k := by
  intro u
  induction u with
  | zero =>
    intro k hk
    have key : ∀ v j, n ≤ j → j + v ≤ 256 → lsB f v j = -1 := by
      intro v
      induction v with
      | zero => intro j _ _; rfl
      | succ v ih =>
        intro j h1 h2
        rw [lsB_succ, if_neg (by rw [hf j (by omega), hh j (by omega) h1]; decide)]
        exact ih (j + 1) (by omega) (by omega)
    exact key (256 - k) k (by omega) (by omega)
  | succ u ih =>
    intro k hk
    rw [show 256 - k = (256 - (k + 1)) + 1 by omega, lsB_succ, lsS_succ, hf k (by omega)]
    by_cases g : sb S k = true
    · rw [if_pos g, if_pos (inS_1.mpr g)]
    · rw [if_neg g, if_neg (fun h => g (inS_1.mp h))]
      exact ih (k + 1) (by omega)
theorem stB_sb {L : Nat → Int} {I : Mi} {s p o t q n k : Nat} {N X : Nat → Int} (h : StR L I s p o t N) (hNo : NOk N q n) (hk : k < tN N) : ∀ x, x < 256 → stB I t k x = sb (stF N n k X) x := fun x hx => by
  rw [stF_sb hx hNo.1.nn]
  exact (h.2.2.2.2.1.2 k hk).2.2 x hx
theorem kn_sp {I : Mi} {s n : Nat} {N : Nat → Int} (hn : n ≤ 256) (h : ∀ k, k < n → I (s + 6) k = spI N k) : knS I s n = ((spM N n : Nat) : Int) := by
  have key : ∀ m, m ≤ n → knS I s m = ((spM N m : Nat) : Int) ∧ spM N m ≤ m := by
    intro m
    induction m with
    | zero => intro _; exact ⟨rfl, Nat.le_refl _⟩
    | succ m ih =>
      intro hm
      obtain ⟨i1, i2⟩ := ih (by omega)
      have h01 : spI N m = 0 ∨ spI N m = 1 := bi_01 _
      rw [knS_succ, i1, h m (by omega)]
      show w32 _ = ((spM N m + (spI N m).toNat : Nat) : Int) ∧ spM N m + (spI N m).toNat ≤ m + 1
      unfold w32
      constructor <;> omega
  exact (key n (Nat.le_refl _)).1
theorem sg_v {L N : Nat → Int} {k : Nat} {w v : Int} (hR : Rng N) (hk : k < 256) (hw0 : 0 ≤ w) (hw1 : w ≤ 5) (hmk : v = mkC (N (k + 20))) (hs : ((k : Nat) : Int) ≤ sgV L N - 1) : sigB L N ((k : Nat) : Int) w = ian (isr v w) 1 := by
  unfold sigB
  rw [if_pos ⟨⟨by omega, hs⟩, hw0, hw1⟩, hmk]
  by_cases g : w = 5
  · subst g; rw [if_pos rfl]; exact (mk_5 hR hk).symm
  · rw [if_neg g]
    obtain ⟨x, rfl⟩ : ∃ x : Nat, w = (x : Int) := ⟨w.toNat, by omega⟩
    exact (mk_w hR hk x (by omega)).symm
theorem k_signal {A : AN} {L : Nat → Int} {p o t c q n : Nat} (hK : KSh T A) (hS : ShS T 9 p o t c) {s w : Int} (hd : 1 ≤ d) (hst : StR L I 9 p o t N) (htc : tN N ≤ c) (hNo : NOk N q n) (hsg : 0 ≤ sgV L N ∧ sgV L N ≤ 256) (hq : Q (some (aI (sigB L N s w))) T I) : EvE G mX11_signal d [aR 0, aI s, aI w] T I Q := by
  have hn2 := hNo.1.2.2.1
  have h6r := ok_6.mp (hNo.1.1 6)
  refine EvE.mk (lv0 := [some (aR 0), some (aI s), some (aI w)]) (Nat.le_of_ble_eq_true rfl) (by decide +kernel) rfl ?_
  refine r_iload_n (pc := 0) (i := 1) dX11_signal_0 rfl rfl ?_
  refine r_if_lt (pc := 1) (tgt := 24) dX11_signal_1 rfl (fun c1 => ?_) (fun c1 => ?_)
  · refine r_iconst (pc := 24) dX11_signal_24 (in32_of rfl) ?_
    exact r_iret (pc := 25) dX11_signal_25 trivial (by rw [show sigB L N s w = -1 from if_neg (by omega)] at hq; exact hq)
  · refine r_iload_n (pc := 4) (i := 1) dX11_signal_4 rfl rfl ?_
    refine r_aload_n (pc := 5) (i := 0) dX11_signal_5 rfl rfl ?_
    refine r_getfr (pc := 6) (b := 9) cks dX11_signal_6 fl_X11_34 rfl (kK0 hK) (ltK hK (by decide)) (rK0_4 hK) ?_
    refine r_getfi (pc := 9) cks dX11_signal_9 fl_X11_191 rfl (kS0 hS) (ltS0 hS) ?_
    refine r_top (b := sgV L N) (hst.1.2.2.1) ?_
    refine r_icmp_ge (pc := 12) (tgt := 24) dX11_signal_12 rfl (fun c12 => ?_) (fun c12 => ?_)
    · refine r_iconst (pc := 24) dX11_signal_24 (in32_of rfl) ?_
      exact r_iret (pc := 25) dX11_signal_25 trivial (by rw [show sigB L N s w = -1 from if_neg (by omega)] at hq; exact hq)
    · refine r_iload_n (pc := 15) (i := 2) dX11_signal_15 rfl rfl ?_
      refine r_if_lt (pc := 16) (tgt := 24) dX11_signal_16 rfl (fun c16 => ?_) (fun c16 => ?_)
      · refine r_iconst (pc := 24) dX11_signal_24 (in32_of rfl) ?_
        exact r_iret (pc := 25) dX11_signal_25 trivial (by rw [show sigB L N s w = -1 from if_neg (by omega)] at hq; exact hq)
      · refine r_iload_n (pc := 19) (i := 2) dX11_signal_19 rfl rfl ?_
        refine r_iconst (pc := 20) dX11_signal_20 (in32_of rfl) ?_
        refine r_icmp_le (pc := 21) (tgt := 26) dX11_signal_21 rfl (fun c21 => ?_) (fun c21 => ?_)
        · obtain ⟨k, rfl⟩ : ∃ e : Nat, s = (e : Int) := ⟨s.toNat, by omega⟩
          have hk256 : k < 256 := by have := hsg; omega
          refine r_aload_n (pc := 26) (i := 0) dX11_signal_26 rfl rfl ?_
          refine r_getfr (pc := 27) (b := 9) cks dX11_signal_27 fl_X11_34 rfl (kK0 hK) (ltK hK (by decide)) (rK0_4 hK) ?_
          refine r_iload_n (pc := 30) (i := 1) dX11_signal_30 rfl rfl ?_
          refine r_iload_n (pc := 31) (i := 2) dX11_signal_31 rfl rfl ?_
          refine r_callV1 (pc := 32) (d - 1) [aI ((k : Nat) : Int), aI w] dX11_signal_32 (CV.mk2 mk_X9_mark lk_X11_194) (RC.of (ltS0 hS) (kS0 hS) (by decide) rfl) rfl rfl (by omega) (Nat.le_of_ble_eq_true rfl) (Nat.le_of_ble_eq_true rfl) (k_mark (k := k) hS hk256 ?_)
          refine ⟨_, rfl, fun _ => ?_⟩
          have hmk : I (9 + 1) k = mkC (N (k + 20)) := hst.2.1 k (by omega)
          have hv : sigB L N ((k : Nat) : Int) w = ian (isr (I (9 + 1) k) w) 1 := sg_v hNo.1.1 hk256 (by omega) (by omega) hmk (by omega)
          exact r_iret (pc := 35) dX11_signal_35 trivial (by rw [hv] at hq; exact hq)
        · refine r_iconst (pc := 24) dX11_signal_24 (in32_of rfl) ?_
          exact r_iret (pc := 25) dX11_signal_25 trivial (by rw [show sigB L N s w = -1 from if_neg (by omega)] at hq; exact hq)
theorem k_key {A : AN} {L : Nat → Int} {p o t c q n : Nat} (hK : KSh T A) (hS : ShS T 9 p o t c) {s x : Int} (hd : 1 ≤ d) (hst : StR L I 9 p o t N) (htc : tN N ≤ c) (hNo : NOk N q n) (hq : Q (some (aI (keyA N n s x))) T I) : EvE G mX11_key d [aR 0, aI s, aI x] T I Q := by
  have hn2 := hNo.1.2.2.1
  have h6r := ok_6.mp (hNo.1.1 6)
  refine EvE.mk (lv0 := [some (aR 0), some (aI s), some (aI x)]) (Nat.le_of_ble_eq_true rfl) (by decide +kernel) rfl ?_
  refine r_iload_n (pc := 0) (i := 1) dX11_key_0 rfl rfl ?_
  refine r_if_lt (pc := 1) (tgt := 23) dX11_key_1 rfl (fun c1 => ?_) (fun c1 => ?_)
  · refine r_iconst (pc := 23) dX11_key_23 (in32_of rfl) ?_
    exact r_iret (pc := 24) dX11_key_24 trivial (by rw [show keyA N n s x = (-1) from by unfold keyA; (repeat' split) <;> first | rfl | omega | (rw [Int.toNat_natCast]) | (exfalso; omega)] at hq; exact hq)
  · refine r_iload_n (pc := 4) (i := 1) dX11_key_4 rfl rfl ?_
    refine r_iconst (pc := 5) dX11_key_5 (in32_of rfl) ?_
    refine r_icmp_gt (pc := 6) (tgt := 23) dX11_key_6 rfl (fun c6 => ?_) (fun c6 => ?_)
    · refine r_iconst (pc := 23) dX11_key_23 (in32_of rfl) ?_
      exact r_iret (pc := 24) dX11_key_24 trivial (by rw [show keyA N n s x = (-1) from by unfold keyA; (repeat' split) <;> first | rfl | omega | (rw [Int.toNat_natCast]) | (exfalso; omega)] at hq; exact hq)
    · refine r_aload_n (pc := 9) (i := 0) dX11_key_9 rfl rfl ?_
      refine r_getfr (pc := 10) (b := 9) cks dX11_key_10 fl_X11_34 rfl (kK0 hK) (ltK hK (by decide)) (rK0_4 hK) ?_
      refine r_getfr (pc := 13) (b := 9 + 3) cks dX11_key_13 fl_X11_117 rfl (kS0 hS) (ltS0 hS) (rS0_11 hS) ?_
      refine r_iload_n (pc := 16) (i := 2) dX11_key_16 rfl rfl ?_
      refine r_callV1 (pc := 17) (d - 1) [aI x] dX11_key_17 (CV.mk2 mk_X3_has lk_X11_175) (RC.of (ltS (k := 3) hS (by omega)) (kS3 hS) (by decide) rfl) rfl rfl (by omega) (Nat.le_of_ble_eq_true rfl) (Nat.le_of_ble_eq_true rfl) (k_has (n := n) hS (hst.2.2.2.1.1.trans hNo.1.2.1) hn2 ?_)
      refine ⟨_, rfl, fun _ => ?_⟩
      refine r_if_ne (pc := 20) (tgt := 25) dX11_key_20 rfl (fun c20 => ?_) (fun c20 => ?_)
      · have c20 := bi_1 c20
        obtain ⟨k, rfl⟩ : ∃ e : Nat, x = (e : Int) := ⟨(x).toNat, by omega⟩
        refine r_iload_n (pc := 25) (i := 1) dX11_key_25 rfl rfl ?_
        refine r_if_ne (pc := 26) (tgt := 44) dX11_key_26 rfl (fun c26 => ?_) (fun c26 => ?_)
        · refine r_aload_n (pc := 44) (i := 0) dX11_key_44 rfl rfl ?_
          refine r_getfr (pc := 45) (b := 9) cks dX11_key_45 fl_X11_34 rfl (kK0 hK) (ltK hK (by decide)) (rK0_4 hK) ?_
          refine r_getfr (pc := 48) (b := 9 + 3) cks dX11_key_48 fl_X11_117 rfl (kS0 hS) (ltS0 hS) (rS0_11 hS) ?_
          refine r_getfr (pc := 51) (b := 9 + 5) cks dX11_key_51 fl_X11_201 rfl (kS3 hS) (ltS (k := 3) hS (by omega)) (rS3_2 hS) ?_
          refine r_iload_n (pc := 54) (i := 2) dX11_key_54 rfl rfl ?_
          refine r_ild (pc := 55) (k) dX11_key_55 (kS5 hS) (ltS (k := 5) hS (by omega)) rfl (by rw [lS5 hS]; omega) ?_
          refine r_top (b := N (k + 532)) ((hst.2.2.2.1.2 k (by rw [hNo.1.nn]; omega)).2.1) ?_
          exact r_iret (pc := 56) dX11_key_56 trivial (by rw [show keyA N n s ((k : Nat) : Int) = (N (k + 532)) from by unfold keyA; (repeat' split) <;> first | rfl | omega | (rw [Int.toNat_natCast]) | (exfalso; omega)] at hq; exact hq)
        · have c26 := Decidable.of_not_not c26
          refine r_aload_n (pc := 29) (i := 0) dX11_key_29 rfl rfl ?_
          refine r_getfr (pc := 30) (b := 9) cks dX11_key_30 fl_X11_34 rfl (kK0 hK) (ltK hK (by decide)) (rK0_4 hK) ?_
          refine r_getfr (pc := 33) (b := 9 + 3) cks dX11_key_33 fl_X11_117 rfl (kS0 hS) (ltS0 hS) (rS0_11 hS) ?_
          refine r_getfr (pc := 36) (b := 9 + 4) cks dX11_key_36 fl_X11_198 rfl (kS3 hS) (ltS (k := 3) hS (by omega)) (rS3_1 hS) ?_
          refine r_iload_n (pc := 39) (i := 2) dX11_key_39 rfl rfl ?_
          refine r_ild (pc := 40) (k) dX11_key_40 (kS4 hS) (ltS (k := 4) hS (by omega)) rfl (by rw [lS4 hS]; omega) ?_
          refine r_top (b := N (k + 276)) ((hst.2.2.2.1.2 k (by rw [hNo.1.nn]; omega)).1) ?_
          refine r_goto (pc := 41) (tgt := 56) dX11_key_41 rfl ?_
          exact r_iret (pc := 56) dX11_key_56 trivial (by rw [show keyA N n s ((k : Nat) : Int) = (N (k + 276)) from by unfold keyA; (repeat' split) <;> first | rfl | omega | (rw [Int.toNat_natCast]) | (exfalso; omega)] at hq; exact hq)
      · have c20 := bi_if.mp (Decidable.of_not_not c20)
        refine r_iconst (pc := 23) dX11_key_23 (in32_of rfl) ?_
        exact r_iret (pc := 24) dX11_key_24 trivial (by rw [show keyA N n s x = (-1) from by unfold keyA; (repeat' split) <;> first | rfl | omega | (rw [Int.toNat_natCast]) | (exfalso; omega)] at hq; exact hq)
theorem k_order {A : AN} {L : Nat → Int} {p o t c q n : Nat} (hK : KSh T A) (hS : ShS T 9 p o t c) {s x : Int} (hd : 1 ≤ d) (hst : StR L I 9 p o t N) (htc : tN N ≤ c) (hNo : NOk N q n) (hq : Q (some (aI (ordA N n s x))) T I) : EvE G mX11_order d [aR 0, aI s, aI x] T I Q := by
  have hn2 := hNo.1.2.2.1
  have h6r := ok_6.mp (hNo.1.1 6)
  have hq6 := hNo.1.2.2.2.1
  have hN2 := hNo.2.2.1
  refine EvE.mk (lv0 := [some (aR 0), some (aI s), some (aI x)]) (Nat.le_of_ble_eq_true rfl) (by decide +kernel) rfl ?_
  refine r_aload_n (pc := 0) (i := 0) dX11_order_0 rfl rfl ?_
  refine r_getfr (pc := 1) (b := 9) cks dX11_order_1 fl_X11_34 rfl (kK0 hK) (ltK hK (by decide)) (rK0_4 hK) ?_
  refine r_iload_n (pc := 4) (i := 1) dX11_order_4 rfl rfl ?_
  refine r_callV1 (pc := 5) (d - 1) [aI s] dX11_order_5 (CV.mk2 mk_X9_hasDone lk_X11_204) (RC.of (ltS0 hS) (kS0 hS) (by decide) rfl) rfl rfl (by omega) (Nat.le_of_ble_eq_true rfl) (Nat.le_of_ble_eq_true rfl) (k_hasDone hS ?_)
  refine ⟨_, rfl, fun _ => ?_⟩
  refine r_top (b := bi (0 ≤ s ∧ s < N 2)) (by rw [hst.1.2.2.2.2.2.2.1]) ?_
  refine r_if_eq (pc := 8) (tgt := 25) dX11_order_8 rfl (fun c8 => ?_) (fun c8 => ?_)
  · have c8 := bi_if.mp c8
    refine r_iconst (pc := 25) dX11_order_25 (in32_of rfl) ?_
    exact r_iret (pc := 26) dX11_order_26 trivial (by rw [show ordA N n s x = -1 from by unfold ordA; rw [if_neg (by omega)]] at hq; exact hq)
  · have c8 := bi_1 c8
    refine r_aload_n (pc := 11) (i := 0) dX11_order_11 rfl rfl ?_
    refine r_getfr (pc := 12) (b := 9) cks dX11_order_12 fl_X11_34 rfl (kK0 hK) (ltK hK (by decide)) (rK0_4 hK) ?_
    refine r_getfr (pc := 15) (b := 9 + 3) cks dX11_order_15 fl_X11_117 rfl (kS0 hS) (ltS0 hS) (rS0_11 hS) ?_
    refine r_iload_n (pc := 18) (i := 2) dX11_order_18 rfl rfl ?_
    refine r_callV1 (pc := 19) (d - 1) [aI x] dX11_order_19 (CV.mk2 mk_X3_has lk_X11_175) (RC.of (ltS (k := 3) hS (by omega)) (kS3 hS) (by decide) rfl) rfl rfl (by omega) (Nat.le_of_ble_eq_true rfl) (Nat.le_of_ble_eq_true rfl) (k_has (n := n) hS (hst.2.2.2.1.1.trans hNo.1.2.1) hn2 ?_)
    refine ⟨_, rfl, fun _ => ?_⟩
    refine r_if_ne (pc := 22) (tgt := 27) dX11_order_22 rfl (fun c22 => ?_) (fun c22 => ?_)
    · have c22 := bi_1 c22
      obtain ⟨y, rfl⟩ : ∃ e : Nat, s = (e : Int) := ⟨(s).toNat, by omega⟩
      obtain ⟨k, rfl⟩ : ∃ e : Nat, x = (e : Int) := ⟨(x).toNat, by omega⟩
      refine r_aload_n (pc := 27) (i := 0) dX11_order_27 rfl rfl ?_
      refine r_getfr (pc := 28) (b := 9) cks dX11_order_28 fl_X11_34 rfl (kK0 hK) (ltK hK (by decide)) (rK0_4 hK) ?_
      refine r_iload_n (pc := 31) (i := 1) dX11_order_31 rfl rfl ?_
      refine r_iload_n (pc := 32) (i := 2) dX11_order_32 rfl rfl ?_
      refine r_callV1 (pc := 33) (d - 1) [aI ((y : Nat) : Int), aI ((k : Nat) : Int)] dX11_order_33 (CV.mk2 mk_X9_ordered lk_X11_207) (RC.of (ltS0 hS) (kS0 hS) (by decide) rfl) rfl rfl (by omega) (Nat.le_of_ble_eq_true rfl) (Nat.le_of_ble_eq_true rfl) (k_ordered (q := y) (k := k) hS (by omega) ?_)
      refine ⟨_, rfl, fun _ => ?_⟩
      refine r_top (b := N (256 * y + k + 1044)) (hst.2.2.1 y (by omega) k (by rw [hNo.1.nn]; omega)) ?_
      exact r_iret (pc := 36) dX11_order_36 trivial (by rw [show ordA N n ((y : Nat) : Int) ((k : Nat) : Int) = N (256 * y + k + 1044) from by unfold ordA; rw [if_pos (by omega)]; rfl] at hq; exact hq)
    · have c22 := bi_if.mp (Decidable.of_not_not c22)
      refine r_iconst (pc := 25) dX11_order_25 (in32_of rfl) ?_
      exact r_iret (pc := 26) dX11_order_26 trivial (by rw [show ordA N n s x = -1 from by unfold ordA; rw [if_neg (by omega)]] at hq; exact hq)
theorem k_last {A : AN} {L : Nat → Int} {p o t c q n : Nat} (hK : KSh T A) (hS : ShS T 9 p o t c) {s x : Int} (hst : StR L I 9 p o t N) (htc : tN N ≤ c) (hNo : NOk N q n) (hq : Q (some (aI (lstA N s x))) T I) : EvE G mX11_last d [aR 0, aI s, aI x] T I Q := by
  have hn2 := hNo.1.2.2.1
  have h6r := ok_6.mp (hNo.1.1 6)
  refine EvE.mk (lv0 := [some (aR 0), some (aI s), some (aI x)]) (Nat.le_of_ble_eq_true rfl) (by decide +kernel) rfl ?_
  refine r_iload_n (pc := 0) (i := 1) dX11_last_0 rfl rfl ?_
  refine r_if_lt (pc := 1) (tgt := 27) dX11_last_1 rfl (fun c1 => ?_) (fun c1 => ?_)
  · refine r_iconst (pc := 27) dX11_last_27 (in32_of rfl) ?_
    exact r_iret (pc := 28) dX11_last_28 trivial (by rw [show lstA N s x = (-1) from by unfold lstA; (repeat' split) <;> first | rfl | omega | (exfalso; omega)] at hq; exact hq)
  · refine r_iload_n (pc := 4) (i := 1) dX11_last_4 rfl rfl ?_
    refine r_iconst (pc := 5) dX11_last_5 (in32_of rfl) ?_
    refine r_icmp_gt (pc := 6) (tgt := 27) dX11_last_6 rfl (fun c6 => ?_) (fun c6 => ?_)
    · refine r_iconst (pc := 27) dX11_last_27 (in32_of rfl) ?_
      exact r_iret (pc := 28) dX11_last_28 trivial (by rw [show lstA N s x = (-1) from by unfold lstA; (repeat' split) <;> first | rfl | omega | (exfalso; omega)] at hq; exact hq)
    · refine r_iload_n (pc := 9) (i := 2) dX11_last_9 rfl rfl ?_
      refine r_if_lt (pc := 10) (tgt := 27) dX11_last_10 rfl (fun c10 => ?_) (fun c10 => ?_)
      · refine r_iconst (pc := 27) dX11_last_27 (in32_of rfl) ?_
        exact r_iret (pc := 28) dX11_last_28 trivial (by rw [show lstA N s x = (-1) from by unfold lstA; (repeat' split) <;> first | rfl | omega | (exfalso; omega)] at hq; exact hq)
      · refine r_iload_n (pc := 13) (i := 2) dX11_last_13 rfl rfl ?_
        refine r_aload_n (pc := 14) (i := 0) dX11_last_14 rfl rfl ?_
        refine r_getfr (pc := 15) (b := 9) cks dX11_last_15 fl_X11_34 rfl (kK0 hK) (ltK hK (by decide)) (rK0_4 hK) ?_
        refine r_getfr (pc := 18) (b := 9 + 11) cks dX11_last_18 fl_X11_159 rfl (kS0 hS) (ltS0 hS) (rS0_13 hS) ?_
        refine r_getfi (pc := 21) cks dX11_last_21 fl_X11_163 rfl (kS11 hS) (ltS (k := 11) hS (by omega)) ?_
        refine r_top (b := N 6) (hst.2.2.2.2.2.1) ?_
        refine r_icmp_lt (pc := 24) (tgt := 29) dX11_last_24 rfl (fun c24 => ?_) (fun c24 => ?_)
        · obtain ⟨k, rfl⟩ : ∃ e : Nat, x = (e : Int) := ⟨(x).toNat, by omega⟩
          refine r_iload_n (pc := 29) (i := 1) dX11_last_29 rfl rfl ?_
          refine r_if_ne (pc := 30) (tgt := 48) dX11_last_30 rfl (fun c30 => ?_) (fun c30 => ?_)
          · refine r_aload_n (pc := 48) (i := 0) dX11_last_48 rfl rfl ?_
            refine r_getfr (pc := 49) (b := 9) cks dX11_last_49 fl_X11_34 rfl (kK0 hK) (ltK hK (by decide)) (rK0_4 hK) ?_
            refine r_getfr (pc := 52) (b := 9 + 11) cks dX11_last_52 fl_X11_159 rfl (kS0 hS) (ltS0 hS) (rS0_13 hS) ?_
            refine r_getfr (pc := 55) (b := 9 + 14) cks dX11_last_55 fl_X11_234 rfl (kS11 hS) (ltS (k := 11) hS (by omega)) (rS11_3 hS) ?_
            refine r_iload_n (pc := 58) (i := 2) dX11_last_58 rfl rfl ?_
            refine r_ild (pc := 59) (k) dX11_last_59 (kS14 hS) (ltS (k := 14) hS (by omega)) rfl (by rw [lS14 hS]; omega) ?_
            refine r_top (b := N (k + 3646)) ((hst.2.2.2.2.2.2.2.2.2.1 k (by omega)).2) ?_
            exact r_iret (pc := 60) dX11_last_60 trivial (by rw [show lstA N s ((k : Nat) : Int) = (N (k + 3646)) from by unfold lstA; (repeat' split) <;> first | rfl | omega | (exfalso; omega)] at hq; exact hq)
          · have c30 := Decidable.of_not_not c30
            refine r_aload_n (pc := 33) (i := 0) dX11_last_33 rfl rfl ?_
            refine r_getfr (pc := 34) (b := 9) cks dX11_last_34 fl_X11_34 rfl (kK0 hK) (ltK hK (by decide)) (rK0_4 hK) ?_
            refine r_getfr (pc := 37) (b := 9 + 11) cks dX11_last_37 fl_X11_159 rfl (kS0 hS) (ltS0 hS) (rS0_13 hS) ?_
            refine r_getfr (pc := 40) (b := 9 + 13) cks dX11_last_40 fl_X11_233 rfl (kS11 hS) (ltS (k := 11) hS (by omega)) (rS11_2 hS) ?_
            refine r_iload_n (pc := 43) (i := 2) dX11_last_43 rfl rfl ?_
            refine r_ild (pc := 44) (k) dX11_last_44 (kS13 hS) (ltS (k := 13) hS (by omega)) rfl (by rw [lS13 hS]; omega) ?_
            refine r_top (b := N (k + 3390)) ((hst.2.2.2.2.2.2.2.2.2.1 k (by omega)).1) ?_
            refine r_goto (pc := 45) (tgt := 60) dX11_last_45 rfl ?_
            exact r_iret (pc := 60) dX11_last_60 trivial (by rw [show lstA N s ((k : Nat) : Int) = (N (k + 3390)) from by unfold lstA; (repeat' split) <;> first | rfl | omega | (exfalso; omega)] at hq; exact hq)
        · refine r_iconst (pc := 27) dX11_last_27 (in32_of rfl) ?_
          exact r_iret (pc := 28) dX11_last_28 trivial (by rw [show lstA N s x = (-1) from by unfold lstA; (repeat' split) <;> first | rfl | omega | (exfalso; omega)] at hq; exact hq)
theorem k_spied {A : AN} {L : Nat → Int} {p o t c q n : Nat} (hK : KSh T A) (hS : ShS T 9 p o t c) {x : Int} (hd : 1 ≤ d) (hst : StR L I 9 p o t N) (htc : tN N ≤ c) (hNo : NOk N q n) (hq : Q (some (aI (spiA N n x))) T I) : EvE G mX11_spied d [aR 0, aI x] T I Q := by
  have hn2 := hNo.1.2.2.1
  have h6r := ok_6.mp (hNo.1.1 6)
  refine EvE.mk (lv0 := [some (aR 0), some (aI x)]) (Nat.le_of_ble_eq_true rfl) (by decide +kernel) rfl ?_
  refine r_iload_n (pc := 0) (i := 1) dX11_spied_0 rfl rfl ?_
  refine r_iconst (pc := 1) dX11_spied_1 (in32_of rfl) ?_
  refine r_icmp_ne (pc := 2) (tgt := 16) dX11_spied_2 rfl (fun c2 => ?_) (fun c2 => ?_)
  · refine r_aload_n (pc := 16) (i := 0) dX11_spied_16 rfl rfl ?_
    refine r_getfr (pc := 17) (b := 9) cks dX11_spied_17 fl_X11_34 rfl (kK0 hK) (ltK hK (by decide)) (rK0_4 hK) ?_
    refine r_getfr (pc := 20) (b := 9 + 3) cks dX11_spied_20 fl_X11_117 rfl (kS0 hS) (ltS0 hS) (rS0_11 hS) ?_
    refine r_iload_n (pc := 23) (i := 1) dX11_spied_23 rfl rfl ?_
    refine r_callV1 (pc := 24) (d - 1) [aI x] dX11_spied_24 (CV.mk2 mk_X3_has lk_X11_175) (RC.of (ltS (k := 3) hS (by omega)) (kS3 hS) (by decide) rfl) rfl rfl (by omega) (Nat.le_of_ble_eq_true rfl) (Nat.le_of_ble_eq_true rfl) (k_has (n := n) hS (hst.2.2.2.1.1.trans hNo.1.2.1) hn2 ?_)
    refine ⟨_, rfl, fun _ => ?_⟩
    refine r_if_eq (pc := 27) (tgt := 45) dX11_spied_27 rfl (fun c27 => ?_) (fun c27 => ?_)
    · have c27 := bi_if.mp c27
      refine r_iconst (pc := 45) dX11_spied_45 (in32_of rfl) ?_
      exact r_iret (pc := 46) dX11_spied_46 trivial (by rw [show spiA N n x = (-1) from by unfold spiA; rw [if_neg (by omega), if_neg (by omega)]] at hq; exact hq)
    · have c27 := bi_1 c27
      obtain ⟨k, rfl⟩ : ∃ e : Nat, x = (e : Int) := ⟨(x).toNat, by omega⟩
      refine r_aload_n (pc := 30) (i := 0) dX11_spied_30 rfl rfl ?_
      refine r_getfr (pc := 31) (b := 9) cks dX11_spied_31 fl_X11_34 rfl (kK0 hK) (ltK hK (by decide)) (rK0_4 hK) ?_
      refine r_getfr (pc := 34) (b := 9 + 3) cks dX11_spied_34 fl_X11_117 rfl (kS0 hS) (ltS0 hS) (rS0_11 hS) ?_
      refine r_getfr (pc := 37) (b := 9 + 6) cks dX11_spied_37 fl_X11_280 rfl (kS3 hS) (ltS (k := 3) hS (by omega)) (rS3_3 hS) ?_
      refine r_iload_n (pc := 40) (i := 1) dX11_spied_40 rfl rfl ?_
      refine r_ild (pc := 41) (k) dX11_spied_41 (kS6 hS) (ltS (k := 6) hS (by omega)) rfl (by rw [lS6 hS]; omega) ?_
      refine r_top (b := spI N ((k : Nat) : Int)) ((hst.2.2.2.1.2 k (by rw [hNo.1.nn]; omega)).2.2) ?_
      refine r_goto (pc := 42) (tgt := 46) dX11_spied_42 rfl ?_
      exact r_iret (pc := 46) dX11_spied_46 trivial (by rw [show spiA N n ((k : Nat) : Int) = (spI N ((k : Nat) : Int)) from by unfold spiA; rw [if_neg (by omega), if_pos (by omega)]] at hq; exact hq)
  · have c2 := Decidable.of_not_not c2
    refine r_aload_n (pc := 5) (i := 0) dX11_spied_5 rfl rfl ?_
    refine r_getfr (pc := 6) (b := 9) cks dX11_spied_6 fl_X11_34 rfl (kK0 hK) (ltK hK (by decide)) (rK0_4 hK) ?_
    refine r_getfr (pc := 9) (b := 9 + 3) cks dX11_spied_9 fl_X11_117 rfl (kS0 hS) (ltS0 hS) (rS0_11 hS) ?_
    refine r_callV1 (pc := 12) (d - 1) [] dX11_spied_12 (CV.mk2 mk_X3_knownPlaces lk_X11_277) (RC.of (ltS (k := 3) hS (by omega)) (kS3 hS) (by decide) rfl) rfl rfl (by omega) (Nat.le_of_ble_eq_true rfl) (Nat.le_of_ble_eq_true rfl) (k_knownPlaces (n := n) hS (hst.2.2.2.1.1.trans hNo.1.2.1) hn2 ?_)
    refine ⟨_, rfl, fun _ => ?_⟩
    refine r_top (b := ((spM N n : Nat) : Int)) (kn_sp hn2 (fun k hk => (hst.2.2.2.1.2 k (by rw [hNo.1.nn]; exact hk)).2.2)) ?_
    exact r_iret (pc := 15) dX11_spied_15 trivial (by rw [show spiA N n x = (((spM N n) : Nat) : Int) from by unfold spiA; rw [if_pos (by omega)]] at hq; exact hq)
theorem k_setting {A : AN} {L : Nat → Int} {p o t c q n : Nat} (hK : KSh T A) (hS : ShS T 9 p o t c) {x : Int} (hd : 1 ≤ d) (hst : StR L I 9 p o t N) (htc : tN N ≤ c) (hNo : NOk N q n) (hL : ∀ k, k < 9 → I (2 + 1) k = L k) (hq : Q (some (aI (if 0 ≤ x ∧ x < 9 then L x.toNat else -1))) T I) : EvE G mX11_setting d [aR 0, aI x] T I Q := by
  have hn2 := hNo.1.2.2.1
  have h6r := ok_6.mp (hNo.1.1 6)
  refine EvE.mk (lv0 := [some (aR 0), some (aI x)]) (Nat.le_of_ble_eq_true rfl) (by decide +kernel) rfl ?_
  refine r_aload_n (pc := 0) (i := 0) dX11_setting_0 rfl rfl ?_
  refine r_getfr (pc := 1) (b := 2) cks dX11_setting_1 fl_X11_20 rfl (kK0 hK) (ltK hK (by decide)) (rK0_2 hK) ?_
  refine r_iload_n (pc := 4) (i := 1) dX11_setting_4 rfl rfl ?_
  refine r_callV1 (pc := 5) (d - 1) [aI x] dX11_setting_5 (CV.mk2 mk_X6_number lk_X11_105) (RC.of (ltP0 (pK2 hK)) (kP0 (pK2 hK)) (by decide) rfl) rfl rfl (by omega) (Nat.le_of_ble_eq_true rfl) (Nat.le_of_ble_eq_true rfl) (k_number (q := x) (L := L) (pK2 hK) hL ?_)
  refine ⟨_, rfl, fun _ => ?_⟩
  exact r_iret (pc := 8) dX11_setting_8 trivial hq
end C58

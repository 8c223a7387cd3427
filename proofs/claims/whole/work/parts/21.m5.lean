section M5
variable {G : Gl} {d : Nat} {T : Sh} {I : Mi} {N : Nat → Int} {Q : Option AV → Sh → Mi → Prop}
theorem drV2 (N : Nat → Int) : drV N 2 = 0 ∨ drV N 2 = 1 := by have := drV_rng N (k := 2) (by decide); omega
theorem cdS_rng {a b c e f g : Int} (ha : a = 0 ∨ a = 1) (hb : b = 0 ∨ b = 1) (hc : c = 0 ∨ c = 1) (he : e = 0 ∨ e = 1) (hf : f = 0 ∨ f = 1) (hg : g = 0 ∨ g = 1) : 0 ≤ cdS a b c e f g ∧ cdS a b c e f g < 64 := by
  rcases ha with rfl | rfl <;> rcases hb with rfl | rfl <;> rcases hc with rfl | rfl <;> rcases he with rfl | rfl <;> rcases hf with rfl | rfl <;> rcases hg with rfl | rfl <;> decide +kernel
theorem Rng_snd3 {N : Nat → Int} {s : Nat} {no a b c e f g : Int} (h : Rng N) (hs : s < 256) (ha : a = 0 ∨ a = 1) (hb : b = 0 ∨ b = 1) (hc : c = 0 ∨ c = 1) (he : e = 0 ∨ e = 1) (hf : f = 0 ∨ f = 1) (hg : g = 0 ∨ g = 1) : Rng (snd3 N s no a b c e f g) :=
  Rng_un (Rng_d h) ((ok_sig (by omega) (by omega)).mpr (cdS_rng ha hb hc (by split <;> omega) hf hg))
theorem Rng_snd2 {N : Nat → Int} {s : Nat} {no a b c e f g : Int} (h : Rng N) (hs : s < 256) (ha : a = 0 ∨ a = 1) (hb : b = 0 ∨ b = 1) (hc : c = 0 ∨ c = 1) (hf : f = 0 ∨ f = 1) (hg : g = 0 ∨ g = 1) : Rng (snd2 N s no a b c e f g) := by
  unfold snd2
  split
  · exact Rng_snd3 (Rng_d h) hs ha hb (drV2 _) hc hf hg
  · exact Rng_snd3 (Rng_d (Rng_d h)) hs ha hb (drV2 _) (drV2 _) hf hg
theorem Rng_snd1 {N : Nat → Int} {s : Nat} {spy no : Int} (h : Rng N) (hs : s < 256) : Rng (snd1 N s spy no) := by
  unfold snd1
  split
  · split
    · exact Rng_snd2 (Rng_d (Rng_d (Rng_d (Rng_d h)))) hs (drV2 _) (drV2 _) (drV2 _) (Or.inr rfl) (drV2 _)
    · exact Rng_snd2 (Rng_d (Rng_d (Rng_d (Rng_d (Rng_d h))))) hs (drV2 _) (drV2 _) (drV2 _) (Or.inr rfl) (drV2 _)
  · exact Rng_snd2 (Rng_d (Rng_d (Rng_d h))) hs (drV2 _) (drV2 _) (drV2 _) (Or.inl rfl) (Or.inl rfl)
theorem snd1_ne {N : Nat → Int} {s j : Nat} {spy no : Int} (h : j ≠ 8) (hs : j ≠ s + 20) : snd1 N s spy no j = N j := by
  unfold snd1 snd2 snd3
  (repeat' split) <;> simp only [un_ne hs, dN_ne h]
def nN (N : Nat → Int) : Nat := (N 1).toNat
def tN (N : Nat → Int) : Nat := (N 3).toNat
theorem nN_rd {N : Nat → Int} (h : Rng N) : N 1 = (nN N : Int) := by have := ok_1.mp (h 1); unfold nN; omega
theorem nN_le {N : Nat → Int} (h : Rng N) : nN N ≤ 256 := by have := ok_1.mp (h 1); unfold nN; omega
theorem tN_rd {N : Nat → Int} (h : Rng N) : N 3 = (tN N : Int) := by have := ok_3.mp (h 3); unfold tN; omega
theorem ifP {c p q : Prop} [Decidable c] (hp : p) (hq : q) : if c then p else q := by split <;> assumption
theorem Rng_key {N : Nat → Int} {j : Nat} (h : Rng N) (h0 : 276 ≤ j) (h1 : j < 788) : N j = 0 ∨ N j = 1 := (ok_key h0 h1).mp (h j)
theorem Rng_row {N : Nat → Int} {j : Nat} (h : Rng N) (h0 : 2580 ≤ j) (h1 : j < 3902) : N j = 0 ∨ N j = 1 := (ok_row h0 h1).mp (h j)
theorem Rng_of {N : Nat → Int} {j : Nat} (h : Rng N) (h0 : 788 ≤ j) (h1 : j < 2580) : 0 ≤ N j ∧ N j < 256 := (ok_ord h0 h1).mp (h j)
theorem okC_0 (j : Nat) : okC j 0 := by
  unfold okC
  iterate 15 refine ifP (by first | omega | trivial) ?_
  trivial
theorem Rng_beg {N : Nat → Int} : Rng (begins N) := by
  refine Rng_un (Rng_un (Rng_un ?_ (ok_5.mpr (by omega))) (ok_free (by omega))) (ok_free (by omega))
  intro j
  unfold begN
  split
  · exact okC_0 j
  · exact ok_free (by omega)
def kadd (N : Nat → Int) (s : Int) : Nat → Int := un (un (un (un N (nN N + 276) (ofS N s 0)) (nN N + 532) (ofS (un N (nN N + 276) (ofS N s 0)) s 3)) (nN N + 788) s) 1 ((nN N + 1 : Nat) : Int)
def bgT (spy no : Int) (N : Nat → Int) (k : Nat) : Nat → Int := if ofS (snd1 N k spy no) k 1 = ofS (snd1 N k spy no) k 2 then kadd (snd1 N k spy no) k else snd1 N k spy no
def bgS (spy no : Int) (N : Nat → Int) : Nat → Nat → Int
  | 0 => N
  | k + 1 => bgT spy no (bgS spy no N k) k
theorem bgS_succ (spy no : Int) (N : Nat → Int) (k : Nat) : bgS spy no N (k + 1) = bgT spy no (bgS spy no N k) k := rfl
theorem Rng_kadd {N : Nat → Int} {s : Nat} (h : Rng N) (hs : s < 256) (hn : nN N < 256) : Rng (kadd N s) :=
  Rng_un (Rng_un (Rng_un (Rng_un h ((ok_key (by omega) (by omega)).mpr (ofS_01 _ _ _))) ((ok_key (by omega) (by omega)).mpr (ofS_01 _ _ _))) ((ok_ord (by omega) (by omega)).mpr (by omega))) (ok_1.mpr (by omega))
theorem kadd_n (N : Nat → Int) (s : Int) : nN (kadd N s) = nN N + 1 := by unfold nN kadd; rw [un_at]; rfl
theorem bgT_ok {spy no : Int} {N : Nat → Int} {k : Nat} (h : Rng N) (hk : k < 256) (hn : nN N ≤ k) : Rng (bgT spy no N k) ∧ nN (bgT spy no N k) ≤ k + 1 := by
  have e : nN (snd1 N k spy no) = nN N := by unfold nN; rw [snd1_ne (by decide) (by omega)]
  unfold bgT
  split
  · exact ⟨Rng_kadd (Rng_snd1 h hk) hk (by omega), by rw [kadd_n]; omega⟩
  · exact ⟨Rng_snd1 h hk, by omega⟩
theorem bgS_ok {spy no : Int} {N : Nat → Int} (h : Rng N) (hn : nN N = 0) : ∀ k, k ≤ 256 → Rng (bgS spy no N k) ∧ nN (bgS spy no N k) ≤ k := by
  intro k
  induction k with
  | zero => intro _; exact ⟨h, by unfold bgS; omega⟩
  | succ k ih =>
    intro hk
    have := ih (by omega)
    rw [bgS_succ]
    exact bgT_ok this.1 (by omega) this.2
def bgM (N : Nat → Int) (seed : Int) : Nat → Int := un (un (begins N) 8 seed) 0 1
theorem Rng_bgM {N : Nat → Int} {seed : Int} (h0 : 0 ≤ seed) (h1 : seed < 2147483648) : Rng (bgM N seed) := Rng_un (Rng_un Rng_beg (ok_8.mpr (by omega))) (ok_0.mpr (by omega))
theorem bgM_n (N : Nat → Int) (seed : Int) : nN (bgM N seed) = 0 := rfl
def bgF (sg spy no seed : Int) (N : Nat → Int) : Nat → Int := bgS spy no (bgM N seed) sg.toNat
theorem c_beginsBy {seed : Int} (hT : ShM T) (hd : 2 ≤ d) (hg0 : 0 ≤ I 280 0) (hg1 : I 280 0 ≤ 256) (hs0 : 0 ≤ seed) (hs1 : seed < 2147483648) (hq : Q (some (aI ((nN (bgF (I 280 0) (I 280 3) (I 280 2) seed N) : Nat) : Int))) T (sr I 283 (bgF (I 280 0) (I 280 3) (I 280 2) seed N))) : EvE G mX12_beginsBy d [aR 274, aI seed] T (sr I 283 N) Q := by
  refine EvE.mk (lv0 := [some (aR 274), some (aI seed), none]) (Nat.le_of_ble_eq_true rfl) (by decide +kernel) rfl ?_
  refine r_aload_n (pc := 0) (i := 0) dX12_beginsBy_0 rfl rfl ?_
  refine r_callV0 (pc := 1) (d - 1) [] dX12_beginsBy_1 (CV.mk2 mk_X12_begins lk_X12_70) (RC.of (ltM hT (by omega)) (kM274 hT) (by decide) rfl) rfl rfl (by omega) (Nat.le_of_ble_eq_true rfl) (Nat.le_of_ble_eq_true rfl) (c_begins hT ?_)
  refine ⟨rfl, fun _ => ?_⟩
  refine r_aload_n (pc := 4) (i := 0) dX12_beginsBy_4 rfl rfl ?_
  refine r_getfr (pc := 5) (b := 283) cks dX12_beginsBy_5 fl_X12_37 rfl (kM274 hT) (ltM hT (by omega)) (rM11 hT) ?_
  refine r_bipush (pc := 8) dX12_beginsBy_8 rfl (in32_of rfl) ?_
  refine r_iload_n (pc := 10) (i := 1) dX12_beginsBy_10 rfl rfl ?_
  refine r_ist (pc := 11) (8) dX12_beginsBy_11 (kM283 hT) (ltM hT (by omega)) (by omega) (by rw [lM283 hT]; omega) ?_
  refine r_mem (I2 := sr I 283 (un (begins N) 8 seed)) (by rw [up2_sr]) ?_
  refine r_aload_n (pc := 12) (i := 0) dX12_beginsBy_12 rfl rfl ?_
  refine r_getfr (pc := 13) (b := 283) cks dX12_beginsBy_13 fl_X12_37 rfl (kM274 hT) (ltM hT (by omega)) (rM11 hT) ?_
  refine r_iconst (pc := 16) dX12_beginsBy_16 (in32_of rfl) ?_
  refine r_iconst (pc := 17) dX12_beginsBy_17 (in32_of rfl) ?_
  refine r_ist (pc := 18) (0) dX12_beginsBy_18 (kM283 hT) (ltM hT (by omega)) (by omega) (by rw [lM283 hT]; omega) ?_
  refine r_mem (I2 := sr I 283 (un (un (begins N) 8 seed) 0 1)) (by rw [up2_sr]) ?_
  refine r_iconst (pc := 19) dX12_beginsBy_19 (in32_of rfl) ?_
  refine r_istore_n (pc := 20) (i := 2) (lv' := [_, _, _]) dX12_beginsBy_20 rfl (by decide) rfl ?_
  refine loop1 (fun (k : Nat) => (k : Int) ≤ I 280 0) (fun (k : Nat) => (I 280 0).toNat - k) (fun (k : Nat) => [some (aR 274), some (aI seed), some (aI ((k : Nat) : Int))]) (fun _ => T) (fun (k : Nat) => sr I 283 (bgS (I 280 3) (I 280 2) (bgM N seed) k)) ?_ 0 hg0
  intro k hP ih
  have hP : (k : Int) ≤ I 280 0 := hP
  have hB := bgS_ok (spy := I 280 3) (no := I 280 2) (Rng_bgM (N := N) hs0 hs1) (bgM_n N seed) k (by omega)
  have hRB := hB.1
  refine (?_ : Ev G mX12_beginsBy d 21 [some (aR 274), some (aI seed), some (aI ((k : Nat) : Int))] [] T (sr I 283 (bgS (I 280 3) (I 280 2) (bgM N seed) k)) Q)
  refine r_iload_n (pc := 21) (i := 2) dX12_beginsBy_21 rfl rfl ?_
  refine r_aload_n (pc := 22) (i := 0) dX12_beginsBy_22 rfl rfl ?_
  refine r_getfr (pc := 23) (b := 280) cks dX12_beginsBy_23 fl_X12_27 rfl (kM274 hT) (ltM hT (by omega)) (rM6 hT) ?_
  refine r_iconst (pc := 26) dX12_beginsBy_26 (in32_of rfl) ?_
  refine r_ild (pc := 27) (0) dX12_beginsBy_27 (kM280 hT) (ltM hT (by omega)) (by omega) (by rw [lM280 hT]; omega) ?_
  refine r_top (b := I 280 0) ((congrFun (sr_ne (by decide)) _).trans (rfl)) ?_
  refine r_icmp_ge (pc := 28) (tgt := 121) dX12_beginsBy_28 rfl (fun c28 => ?_) (fun c28 => ?_)
  · refine r_aload_n (pc := 121) (i := 0) dX12_beginsBy_121 rfl rfl ?_
    refine r_getfr (pc := 122) (b := 283) cks dX12_beginsBy_122 fl_X12_37 rfl (kM274 hT) (ltM hT (by omega)) (rM11 hT) ?_
    refine r_iconst (pc := 125) dX12_beginsBy_125 (in32_of rfl) ?_
    refine r_ild (pc := 126) (1) dX12_beginsBy_126 (kM283 hT) (ltM hT (by omega)) (by omega) (by rw [lM283 hT]; omega) ?_
    refine r_top (b := (bgS (I 280 3) (I 280 2) (bgM N seed) k) 1) (sr_at _ _ _ _) ?_
    exact r_iret (pc := 127) dX12_beginsBy_127 trivial (by have hk : (I 280 0).toNat = k := (by omega); unfold bgF at hq; rw [hk, ← nN_rd hRB] at hq; exact hq)
  · have hRX : Rng (snd1 (bgS (I 280 3) (I 280 2) (bgM N seed) k) k (I 280 3) (I 280 2)) := Rng_snd1 hRB (by omega)
    have hnX : nN (snd1 (bgS (I 280 3) (I 280 2) (bgM N seed) k) k (I 280 3) (I 280 2)) = nN (bgS (I 280 3) (I 280 2) (bgM N seed) k) := by unfold nN; rw [snd1_ne (by decide) (by omega)]
    refine r_aload_n (pc := 31) (i := 0) dX12_beginsBy_31 rfl rfl ?_
    refine r_iload_n (pc := 32) (i := 2) dX12_beginsBy_32 rfl rfl ?_
    refine r_callV0 (pc := 33) (d - 1) [aI ((k : Nat) : Int)] dX12_beginsBy_33 (CV.mk2 mk_X12_sends lk_X12_142) (RC.of (ltM hT (by omega)) (kM274 hT) (by decide) rfl) rfl rfl (by omega) (Nat.le_of_ble_eq_true rfl) (Nat.le_of_ble_eq_true rfl) (c_sends (s := k) (N := bgS (I 280 3) (I 280 2) (bgM N seed) k) hT (by omega) hRB (by omega) ?_)
    refine ⟨rfl, fun _ => ?_⟩
    refine r_aload_n (pc := 36) (i := 0) dX12_beginsBy_36 rfl rfl ?_
    refine r_iload_n (pc := 37) (i := 2) dX12_beginsBy_37 rfl rfl ?_
    refine r_callV1 (pc := 38) (d - 1) [aI ((k : Nat) : Int)] dX12_beginsBy_38 (CV.mk2 mk_X12_isSifted lk_X12_146) (RC.of (ltM hT (by omega)) (kM274 hT) (by decide) rfl) rfl rfl (by omega) (Nat.le_of_ble_eq_true rfl) (Nat.le_of_ble_eq_true rfl) (c_isSifted hT (by omega) (by omega) (by omega) ?_)
    refine ⟨_, rfl, fun _ => ?_⟩
    refine r_if_ne (pc := 41) (tgt := 47) dX12_beginsBy_41 rfl (fun c41 => ?_) (fun c41 => ?_)
    · have c41 := bi_1 c41
      refine r_aload_n (pc := 47) (i := 0) dX12_beginsBy_47 rfl rfl ?_
      refine r_getfr (pc := 48) (b := 283) cks dX12_beginsBy_48 fl_X12_37 rfl (kM274 hT) (ltM hT (by omega)) (rM11 hT) ?_
      refine r_sipush (pc := 51) dX12_beginsBy_51 rfl (in32_of rfl) ?_
      refine r_aload_n (pc := 54) (i := 0) dX12_beginsBy_54 rfl rfl ?_
      refine r_getfr (pc := 55) (b := 283) cks dX12_beginsBy_55 fl_X12_37 rfl (kM274 hT) (ltM hT (by omega)) (rM11 hT) ?_
      refine r_iconst (pc := 58) dX12_beginsBy_58 (in32_of rfl) ?_
      refine r_ild (pc := 59) (1) dX12_beginsBy_59 (kM283 hT) (ltM hT (by omega)) (by omega) (by rw [lM283 hT]; omega) ?_
      refine r_top (b := (snd1 (bgS (I 280 3) (I 280 2) (bgM N seed) k) k (I 280 3) (I 280 2)) 1) (sr_at _ _ _ _) ?_
      refine r_top (b := (((nN (snd1 (bgS (I 280 3) (I 280 2) (bgM N seed) k) k (I 280 3) (I 280 2))) : Nat) : Int)) (nN_rd hRX) ?_
      refine r_iaddN (pc := 60) (c := (((nN (snd1 (bgS (I 280 3) (I 280 2) (bgM N seed) k) k (I 280 3) (I 280 2))) + 276 : Nat) : Int)) dX12_beginsBy_60 (by unfold w32; omega) ?_
      refine r_aload_n (pc := 61) (i := 0) dX12_beginsBy_61 rfl rfl ?_
      refine r_iload_n (pc := 62) (i := 2) dX12_beginsBy_62 rfl rfl ?_
      refine r_iconst (pc := 63) dX12_beginsBy_63 (in32_of rfl) ?_
      refine r_callV1 (pc := 64) (d - 1) [aI ((k : Nat) : Int), aI 0] dX12_beginsBy_64 (CV.mk2 mk_X12_ofSignal lk_X12_138) (RC.of (ltM hT (by omega)) (kM274 hT) (by decide) rfl) rfl rfl (by omega) (Nat.le_of_ble_eq_true rfl) (Nat.le_of_ble_eq_true rfl) (c_ofSignal hT (by omega) (by omega) ?_)
      refine ⟨_, rfl, fun _ => ?_⟩
      refine r_ist (pc := 67) ((nN (snd1 (bgS (I 280 3) (I 280 2) (bgM N seed) k) k (I 280 3) (I 280 2))) + 276) dX12_beginsBy_67 (kM283 hT) (ltM hT (by omega)) rfl (by rw [lM283 hT]; omega) ?_
      refine r_mem (I2 := sr I 283 (un (snd1 (bgS (I 280 3) (I 280 2) (bgM N seed) k) k (I 280 3) (I 280 2)) ((nN (snd1 (bgS (I 280 3) (I 280 2) (bgM N seed) k) k (I 280 3) (I 280 2))) + 276) (ofS (snd1 (bgS (I 280 3) (I 280 2) (bgM N seed) k) k (I 280 3) (I 280 2)) ((k : Nat) : Int) 0))) (by rw [up2_sr]) ?_
      refine r_aload_n (pc := 68) (i := 0) dX12_beginsBy_68 rfl rfl ?_
      refine r_getfr (pc := 69) (b := 283) cks dX12_beginsBy_69 fl_X12_37 rfl (kM274 hT) (ltM hT (by omega)) (rM11 hT) ?_
      refine r_sipush (pc := 72) dX12_beginsBy_72 rfl (in32_of rfl) ?_
      refine r_aload_n (pc := 75) (i := 0) dX12_beginsBy_75 rfl rfl ?_
      refine r_getfr (pc := 76) (b := 283) cks dX12_beginsBy_76 fl_X12_37 rfl (kM274 hT) (ltM hT (by omega)) (rM11 hT) ?_
      refine r_iconst (pc := 79) dX12_beginsBy_79 (in32_of rfl) ?_
      refine r_ild (pc := 80) (1) dX12_beginsBy_80 (kM283 hT) (ltM hT (by omega)) (by omega) (by rw [lM283 hT]; omega) ?_
      refine r_top (b := (un (snd1 (bgS (I 280 3) (I 280 2) (bgM N seed) k) k (I 280 3) (I 280 2)) ((nN (snd1 (bgS (I 280 3) (I 280 2) (bgM N seed) k) k (I 280 3) (I 280 2))) + 276) (ofS (snd1 (bgS (I 280 3) (I 280 2) (bgM N seed) k) k (I 280 3) (I 280 2)) ((k : Nat) : Int) 0)) 1) (sr_at _ _ _ _) ?_
      refine r_top (b := (snd1 (bgS (I 280 3) (I 280 2) (bgM N seed) k) k (I 280 3) (I 280 2)) 1) (un_ne (by omega)) ?_
      refine r_top (b := (((nN (snd1 (bgS (I 280 3) (I 280 2) (bgM N seed) k) k (I 280 3) (I 280 2))) : Nat) : Int)) (nN_rd hRX) ?_
      refine r_iaddN (pc := 81) (c := (((nN (snd1 (bgS (I 280 3) (I 280 2) (bgM N seed) k) k (I 280 3) (I 280 2))) + 532 : Nat) : Int)) dX12_beginsBy_81 (by unfold w32; omega) ?_
      refine r_aload_n (pc := 82) (i := 0) dX12_beginsBy_82 rfl rfl ?_
      refine r_iload_n (pc := 83) (i := 2) dX12_beginsBy_83 rfl rfl ?_
      refine r_iconst (pc := 84) dX12_beginsBy_84 (in32_of rfl) ?_
      refine r_callV1 (pc := 85) (d - 1) [aI ((k : Nat) : Int), aI 3] dX12_beginsBy_85 (CV.mk2 mk_X12_ofSignal lk_X12_138) (RC.of (ltM hT (by omega)) (kM274 hT) (by decide) rfl) rfl rfl (by omega) (Nat.le_of_ble_eq_true rfl) (Nat.le_of_ble_eq_true rfl) (c_ofSignal hT (by omega) (by omega) ?_)
      refine ⟨_, rfl, fun _ => ?_⟩
      refine r_ist (pc := 88) ((nN (snd1 (bgS (I 280 3) (I 280 2) (bgM N seed) k) k (I 280 3) (I 280 2))) + 532) dX12_beginsBy_88 (kM283 hT) (ltM hT (by omega)) rfl (by rw [lM283 hT]; omega) ?_
      refine r_mem (I2 := sr I 283 (un (un (snd1 (bgS (I 280 3) (I 280 2) (bgM N seed) k) k (I 280 3) (I 280 2)) ((nN (snd1 (bgS (I 280 3) (I 280 2) (bgM N seed) k) k (I 280 3) (I 280 2))) + 276) (ofS (snd1 (bgS (I 280 3) (I 280 2) (bgM N seed) k) k (I 280 3) (I 280 2)) ((k : Nat) : Int) 0)) ((nN (snd1 (bgS (I 280 3) (I 280 2) (bgM N seed) k) k (I 280 3) (I 280 2))) + 532) (ofS (un (snd1 (bgS (I 280 3) (I 280 2) (bgM N seed) k) k (I 280 3) (I 280 2)) ((nN (snd1 (bgS (I 280 3) (I 280 2) (bgM N seed) k) k (I 280 3) (I 280 2))) + 276) (ofS (snd1 (bgS (I 280 3) (I 280 2) (bgM N seed) k) k (I 280 3) (I 280 2)) ((k : Nat) : Int) 0)) ((k : Nat) : Int) 3))) (by rw [up2_sr]) ?_
      refine r_aload_n (pc := 89) (i := 0) dX12_beginsBy_89 rfl rfl ?_
      refine r_getfr (pc := 90) (b := 283) cks dX12_beginsBy_90 fl_X12_37 rfl (kM274 hT) (ltM hT (by omega)) (rM11 hT) ?_
      refine r_sipush (pc := 93) dX12_beginsBy_93 rfl (in32_of rfl) ?_
      refine r_aload_n (pc := 96) (i := 0) dX12_beginsBy_96 rfl rfl ?_
      refine r_getfr (pc := 97) (b := 283) cks dX12_beginsBy_97 fl_X12_37 rfl (kM274 hT) (ltM hT (by omega)) (rM11 hT) ?_
      refine r_iconst (pc := 100) dX12_beginsBy_100 (in32_of rfl) ?_
      refine r_ild (pc := 101) (1) dX12_beginsBy_101 (kM283 hT) (ltM hT (by omega)) (by omega) (by rw [lM283 hT]; omega) ?_
      refine r_top (b := (un (un (snd1 (bgS (I 280 3) (I 280 2) (bgM N seed) k) k (I 280 3) (I 280 2)) ((nN (snd1 (bgS (I 280 3) (I 280 2) (bgM N seed) k) k (I 280 3) (I 280 2))) + 276) (ofS (snd1 (bgS (I 280 3) (I 280 2) (bgM N seed) k) k (I 280 3) (I 280 2)) ((k : Nat) : Int) 0)) ((nN (snd1 (bgS (I 280 3) (I 280 2) (bgM N seed) k) k (I 280 3) (I 280 2))) + 532) (ofS (un (snd1 (bgS (I 280 3) (I 280 2) (bgM N seed) k) k (I 280 3) (I 280 2)) ((nN (snd1 (bgS (I 280 3) (I 280 2) (bgM N seed) k) k (I 280 3) (I 280 2))) + 276) (ofS (snd1 (bgS (I 280 3) (I 280 2) (bgM N seed) k) k (I 280 3) (I 280 2)) ((k : Nat) : Int) 0)) ((k : Nat) : Int) 3)) 1) (sr_at _ _ _ _) ?_
      refine r_top (b := (un (snd1 (bgS (I 280 3) (I 280 2) (bgM N seed) k) k (I 280 3) (I 280 2)) ((nN (snd1 (bgS (I 280 3) (I 280 2) (bgM N seed) k) k (I 280 3) (I 280 2))) + 276) (ofS (snd1 (bgS (I 280 3) (I 280 2) (bgM N seed) k) k (I 280 3) (I 280 2)) ((k : Nat) : Int) 0)) 1) (un_ne (by omega)) ?_
      refine r_top (b := (snd1 (bgS (I 280 3) (I 280 2) (bgM N seed) k) k (I 280 3) (I 280 2)) 1) (un_ne (by omega)) ?_
      refine r_top (b := (((nN (snd1 (bgS (I 280 3) (I 280 2) (bgM N seed) k) k (I 280 3) (I 280 2))) : Nat) : Int)) (nN_rd hRX) ?_
      refine r_iaddN (pc := 102) (c := (((nN (snd1 (bgS (I 280 3) (I 280 2) (bgM N seed) k) k (I 280 3) (I 280 2))) + 788 : Nat) : Int)) dX12_beginsBy_102 (by unfold w32; omega) ?_
      refine r_iload_n (pc := 103) (i := 2) dX12_beginsBy_103 rfl rfl ?_
      refine r_ist (pc := 104) ((nN (snd1 (bgS (I 280 3) (I 280 2) (bgM N seed) k) k (I 280 3) (I 280 2))) + 788) dX12_beginsBy_104 (kM283 hT) (ltM hT (by omega)) rfl (by rw [lM283 hT]; omega) ?_
      refine r_mem (I2 := sr I 283 (un (un (un (snd1 (bgS (I 280 3) (I 280 2) (bgM N seed) k) k (I 280 3) (I 280 2)) ((nN (snd1 (bgS (I 280 3) (I 280 2) (bgM N seed) k) k (I 280 3) (I 280 2))) + 276) (ofS (snd1 (bgS (I 280 3) (I 280 2) (bgM N seed) k) k (I 280 3) (I 280 2)) ((k : Nat) : Int) 0)) ((nN (snd1 (bgS (I 280 3) (I 280 2) (bgM N seed) k) k (I 280 3) (I 280 2))) + 532) (ofS (un (snd1 (bgS (I 280 3) (I 280 2) (bgM N seed) k) k (I 280 3) (I 280 2)) ((nN (snd1 (bgS (I 280 3) (I 280 2) (bgM N seed) k) k (I 280 3) (I 280 2))) + 276) (ofS (snd1 (bgS (I 280 3) (I 280 2) (bgM N seed) k) k (I 280 3) (I 280 2)) ((k : Nat) : Int) 0)) ((k : Nat) : Int) 3)) ((nN (snd1 (bgS (I 280 3) (I 280 2) (bgM N seed) k) k (I 280 3) (I 280 2))) + 788) ((k : Nat) : Int))) (by rw [up2_sr]) ?_
      refine r_aload_n (pc := 105) (i := 0) dX12_beginsBy_105 rfl rfl ?_
      refine r_getfr (pc := 106) (b := 283) cks dX12_beginsBy_106 fl_X12_37 rfl (kM274 hT) (ltM hT (by omega)) (rM11 hT) ?_
      refine r_iconst (pc := 109) dX12_beginsBy_109 (in32_of rfl) ?_
      refine r_dup2 (pc := 110) dX12_beginsBy_110 rfl rfl ?_
      refine r_ild (pc := 111) (1) dX12_beginsBy_111 (kM283 hT) (ltM hT (by omega)) (by omega) (by rw [lM283 hT]; omega) ?_
      refine r_top (b := (un (un (un (snd1 (bgS (I 280 3) (I 280 2) (bgM N seed) k) k (I 280 3) (I 280 2)) ((nN (snd1 (bgS (I 280 3) (I 280 2) (bgM N seed) k) k (I 280 3) (I 280 2))) + 276) (ofS (snd1 (bgS (I 280 3) (I 280 2) (bgM N seed) k) k (I 280 3) (I 280 2)) ((k : Nat) : Int) 0)) ((nN (snd1 (bgS (I 280 3) (I 280 2) (bgM N seed) k) k (I 280 3) (I 280 2))) + 532) (ofS (un (snd1 (bgS (I 280 3) (I 280 2) (bgM N seed) k) k (I 280 3) (I 280 2)) ((nN (snd1 (bgS (I 280 3) (I 280 2) (bgM N seed) k) k (I 280 3) (I 280 2))) + 276) (ofS (snd1 (bgS (I 280 3) (I 280 2) (bgM N seed) k) k (I 280 3) (I 280 2)) ((k : Nat) : Int) 0)) ((k : Nat) : Int) 3)) ((nN (snd1 (bgS (I 280 3) (I 280 2) (bgM N seed) k) k (I 280 3) (I 280 2))) + 788) ((k : Nat) : Int)) 1) (sr_at _ _ _ _) ?_
      refine r_top (b := (un (un (snd1 (bgS (I 280 3) (I 280 2) (bgM N seed) k) k (I 280 3) (I 280 2)) ((nN (snd1 (bgS (I 280 3) (I 280 2) (bgM N seed) k) k (I 280 3) (I 280 2))) + 276) (ofS (snd1 (bgS (I 280 3) (I 280 2) (bgM N seed) k) k (I 280 3) (I 280 2)) ((k : Nat) : Int) 0)) ((nN (snd1 (bgS (I 280 3) (I 280 2) (bgM N seed) k) k (I 280 3) (I 280 2))) + 532) (ofS (un (snd1 (bgS (I 280 3) (I 280 2) (bgM N seed) k) k (I 280 3) (I 280 2)) ((nN (snd1 (bgS (I 280 3) (I 280 2) (bgM N seed) k) k (I 280 3) (I 280 2))) + 276) (ofS (snd1 (bgS (I 280 3) (I 280 2) (bgM N seed) k) k (I 280 3) (I 280 2)) ((k : Nat) : Int) 0)) ((k : Nat) : Int) 3)) 1) (un_ne (by omega)) ?_
      refine r_top (b := (un (snd1 (bgS (I 280 3) (I 280 2) (bgM N seed) k) k (I 280 3) (I 280 2)) ((nN (snd1 (bgS (I 280 3) (I 280 2) (bgM N seed) k) k (I 280 3) (I 280 2))) + 276) (ofS (snd1 (bgS (I 280 3) (I 280 2) (bgM N seed) k) k (I 280 3) (I 280 2)) ((k : Nat) : Int) 0)) 1) (un_ne (by omega)) ?_
      refine r_top (b := (snd1 (bgS (I 280 3) (I 280 2) (bgM N seed) k) k (I 280 3) (I 280 2)) 1) (un_ne (by omega)) ?_
      refine r_top (b := (((nN (snd1 (bgS (I 280 3) (I 280 2) (bgM N seed) k) k (I 280 3) (I 280 2))) : Nat) : Int)) (nN_rd hRX) ?_
      refine r_iconst (pc := 112) dX12_beginsBy_112 (in32_of rfl) ?_
      refine r_iaddN (pc := 113) (c := (((nN (snd1 (bgS (I 280 3) (I 280 2) (bgM N seed) k) k (I 280 3) (I 280 2))) + 1 : Nat) : Int)) dX12_beginsBy_113 (by unfold w32; omega) ?_
      refine r_ist (pc := 114) (1) dX12_beginsBy_114 (kM283 hT) (ltM hT (by omega)) (by omega) (by rw [lM283 hT]; omega) ?_
      refine r_mem (I2 := sr I 283 (un (un (un (un (snd1 (bgS (I 280 3) (I 280 2) (bgM N seed) k) k (I 280 3) (I 280 2)) ((nN (snd1 (bgS (I 280 3) (I 280 2) (bgM N seed) k) k (I 280 3) (I 280 2))) + 276) (ofS (snd1 (bgS (I 280 3) (I 280 2) (bgM N seed) k) k (I 280 3) (I 280 2)) ((k : Nat) : Int) 0)) ((nN (snd1 (bgS (I 280 3) (I 280 2) (bgM N seed) k) k (I 280 3) (I 280 2))) + 532) (ofS (un (snd1 (bgS (I 280 3) (I 280 2) (bgM N seed) k) k (I 280 3) (I 280 2)) ((nN (snd1 (bgS (I 280 3) (I 280 2) (bgM N seed) k) k (I 280 3) (I 280 2))) + 276) (ofS (snd1 (bgS (I 280 3) (I 280 2) (bgM N seed) k) k (I 280 3) (I 280 2)) ((k : Nat) : Int) 0)) ((k : Nat) : Int) 3)) ((nN (snd1 (bgS (I 280 3) (I 280 2) (bgM N seed) k) k (I 280 3) (I 280 2))) + 788) ((k : Nat) : Int)) 1 (((nN (snd1 (bgS (I 280 3) (I 280 2) (bgM N seed) k) k (I 280 3) (I 280 2))) + 1 : Nat) : Int))) (by rw [up2_sr]) ?_
      refine r_iincN (pc := 115) (i := 2) (c := ((k + 1 : Nat) : Int)) (lv' := [_, _, _]) dX12_beginsBy_115 rfl (by decide) (by unfold w32; omega) rfl ?_
      refine r_goto (pc := 118) (tgt := 21) dX12_beginsBy_118 rfl ?_
      exact Ev.re rfl (by rw [bgS_succ]; unfold bgT; rw [if_pos c41]; rfl) (ih (k + 1) (by omega) (by omega))
    · have c41 := bi_if.mp (Decidable.of_not_not c41)
      refine r_goto (pc := 44) (tgt := 115) dX12_beginsBy_44 rfl ?_
      refine r_iincN (pc := 115) (i := 2) (c := ((k + 1 : Nat) : Int)) (lv' := [_, _, _]) dX12_beginsBy_115 rfl (by decide) (by unfold w32; omega) rfl ?_
      refine r_goto (pc := 118) (tgt := 21) dX12_beginsBy_118 rfl ?_
      exact Ev.re rfl (by rw [bgS_succ]; unfold bgT; rw [if_neg c41]) (ih (k + 1) (by omega) (by omega))
def cdL (q a b c e : Int) : Int := iro (iro (iro (iro q (isl a 2)) (isl b 6)) (isl c 9)) (isl e 18)
def tlF (N : Nat → Int) (q a b c e : Int) : Nat → Int := un (un N (tN N + 3902) (cdL q a b c e)) 3 ((tN N + 1 : Nat) : Int)
theorem Rng_tl {N : Nat → Int} {q a b c e : Int} (h : Rng N) (ht : tN N < 13608) : Rng (tlF N q a b c e) := Rng_un (Rng_un h (ok_free (by omega))) (ok_3.mpr (by omega))
theorem tl_t (N : Nat → Int) (q a b c e : Int) : tN (tlF N q a b c e) = tN N + 1 := by unfold tN tlF; rw [un_at]; rfl
theorem tl_ne {N : Nat → Int} {q a b c e : Int} {j : Nat} (h : j ≠ 3) (h2 : j < 3902) : tlF N q a b c e j = N j := by unfold tlF; rw [un_ne h, un_ne (by omega)]
theorem tl_oP {N : Nat → Int} {q a b c e : Int} {p k : Nat} (h : 256 * p + k < 1536) : oP (tlF N q a b c e) p k = oP N p k := by unfold oP; rw [tl_ne (by omega) (by omega)]
theorem tl_parO {N : Nat → Int} {q a b c e : Int} {y p s : Nat} (h : Oin N) (hy : y ≤ 600) (hy2 : 3 < y) (hp : p < 6) : ∀ m, s + m ≤ 256 → parO (tlF N q a b c e) y p s m = parO N y p s m := by
  intro m
  induction m with
  | zero => intro _; rfl
  | succ m ih =>
    intro hm
    have := oP_rd (p := p) (k := s + m) h (by omega)
    rw [parO_succ, parO_succ, ih (by omega), tl_oP (by omega), tl_ne (by omega) (by omega)]
def ukO (N : Nat → Int) (p b m : Nat) : Int := bi (¬ parO N 276 p b m = parO N 532 p b m)
def askF (N : Nat → Int) (p b m : Nat) : Nat → Int := tlF N 0 (parO N 276 p b m) p b m
def mdF (N : Nat → Int) (p : Nat) : Nat → Int := un (un N (p + 532) (1 - N (p + 532))) 7 (w32 (N 7 + 1))
theorem Rng_md {N : Nat → Int} {p : Nat} (h : Rng N) (hp : p < 256) : Rng (mdF N p) := by
  have := Rng_key (j := p + 532) h (by omega) (by omega)
  exact Rng_un (Rng_un h ((ok_key (by omega) (by omega)).mpr (by omega))) (ok_free (by omega))
theorem c_tells {q a b c e : Int} (hT : ShM T) (hR : Rng N) (ht : tN N < 13608) (hq : Q none T (sr I 283 (tlF N q a b c e))) : EvE G mX12_tells d [aR 274, aI q, aI a, aI b, aI c, aI e] T (sr I 283 N) Q := by
  refine EvE.mk (lv0 := [some (aR 274), some (aI q), some (aI a), some (aI b), some (aI c), some (aI e)]) (Nat.le_of_ble_eq_true rfl) (by decide +kernel) rfl ?_
  refine r_aload_n (pc := 0) (i := 0) dX12_tells_0 rfl rfl ?_
  refine r_getfr (pc := 1) (b := 283) cks dX12_tells_1 fl_X12_37 rfl (kM274 hT) (ltM hT (by omega)) (rM11 hT) ?_
  refine r_sipush (pc := 4) dX12_tells_4 rfl (in32_of rfl) ?_
  refine r_aload_n (pc := 7) (i := 0) dX12_tells_7 rfl rfl ?_
  refine r_getfr (pc := 8) (b := 283) cks dX12_tells_8 fl_X12_37 rfl (kM274 hT) (ltM hT (by omega)) (rM11 hT) ?_
  refine r_iconst (pc := 11) dX12_tells_11 (in32_of rfl) ?_
  refine r_ild (pc := 12) (3) dX12_tells_12 (kM283 hT) (ltM hT (by omega)) (by omega) (by rw [lM283 hT]; omega) ?_
  refine r_top (b := N 3) (sr_at _ _ _ _) ?_
  refine r_top (b := (((tN N) : Nat) : Int)) (tN_rd hR) ?_
  refine r_iaddN (pc := 13) (c := (((tN N) + 3902 : Nat) : Int)) dX12_tells_13 (by unfold w32; omega) ?_
  refine r_iload_n (pc := 14) (i := 1) dX12_tells_14 rfl rfl ?_
  refine r_iload_n (pc := 15) (i := 2) dX12_tells_15 rfl rfl ?_
  refine r_iconst (pc := 16) dX12_tells_16 (in32_of rfl) ?_
  refine r_ishl (pc := 17) dX12_tells_17 ?_
  refine r_ior (pc := 18) dX12_tells_18 ?_
  refine r_iload_n (pc := 19) (i := 3) dX12_tells_19 rfl rfl ?_
  refine r_bipush (pc := 20) dX12_tells_20 rfl (in32_of rfl) ?_
  refine r_ishl (pc := 22) dX12_tells_22 ?_
  refine r_ior (pc := 23) dX12_tells_23 ?_
  refine r_iload (pc := 24) (i := 4) dX12_tells_24 rfl ?_
  refine r_bipush (pc := 26) dX12_tells_26 rfl (in32_of rfl) ?_
  refine r_ishl (pc := 28) dX12_tells_28 ?_
  refine r_ior (pc := 29) dX12_tells_29 ?_
  refine r_iload (pc := 30) (i := 5) dX12_tells_30 rfl ?_
  refine r_bipush (pc := 32) dX12_tells_32 rfl (in32_of rfl) ?_
  refine r_ishl (pc := 34) dX12_tells_34 ?_
  refine r_ior (pc := 35) dX12_tells_35 ?_
  refine r_ist (pc := 36) ((tN N) + 3902) dX12_tells_36 (kM283 hT) (ltM hT (by omega)) rfl (by rw [lM283 hT]; omega) ?_
  refine r_mem (I2 := sr I 283 (un N ((tN N) + 3902) (iro (iro (iro (iro q (isl a 2)) (isl b 6)) (isl c 9)) (isl e 18)))) (by rw [up2_sr]) ?_
  refine r_aload_n (pc := 37) (i := 0) dX12_tells_37 rfl rfl ?_
  refine r_getfr (pc := 38) (b := 283) cks dX12_tells_38 fl_X12_37 rfl (kM274 hT) (ltM hT (by omega)) (rM11 hT) ?_
  refine r_iconst (pc := 41) dX12_tells_41 (in32_of rfl) ?_
  refine r_dup2 (pc := 42) dX12_tells_42 rfl rfl ?_
  refine r_ild (pc := 43) (3) dX12_tells_43 (kM283 hT) (ltM hT (by omega)) (by omega) (by rw [lM283 hT]; omega) ?_
  refine r_top (b := (un N ((tN N) + 3902) (iro (iro (iro (iro q (isl a 2)) (isl b 6)) (isl c 9)) (isl e 18))) 3) (sr_at _ _ _ _) ?_
  refine r_top (b := N 3) (un_ne (by omega)) ?_
  refine r_top (b := (((tN N) : Nat) : Int)) (tN_rd hR) ?_
  refine r_iconst (pc := 44) dX12_tells_44 (in32_of rfl) ?_
  refine r_iaddN (pc := 45) (c := (((tN N) + 1 : Nat) : Int)) dX12_tells_45 (by unfold w32; omega) ?_
  refine r_ist (pc := 46) (3) dX12_tells_46 (kM283 hT) (ltM hT (by omega)) (by omega) (by rw [lM283 hT]; omega) ?_
  refine r_mem (I2 := sr I 283 (un (un N ((tN N) + 3902) (iro (iro (iro (iro q (isl a 2)) (isl b 6)) (isl c 9)) (isl e 18))) 3 (((tN N) + 1 : Nat) : Int))) (by rw [up2_sr]) ?_
  exact r_vret (pc := 47) dX12_tells_47 trivial hq
theorem c_asks {p b m : Nat} (hT : ShM T) (hd : 2 ≤ d) (hR : Rng N) (ht : tN N < 13608) (hp : p < 6) (hb : b + m ≤ 256) (hq : Q (some (aI (ukO N p b m))) T (sr I 283 (askF N p b m))) : EvE G mX12_asks d [aR 274, aI ((p : Nat) : Int), aI ((b : Nat) : Int), aI ((m : Nat) : Int)] T (sr I 283 N) Q := by
  refine EvE.mk (lv0 := [some (aR 274), some (aI ((p : Nat) : Int)), some (aI ((b : Nat) : Int)), some (aI ((m : Nat) : Int))]) (Nat.le_of_ble_eq_true rfl) (by decide +kernel) rfl ?_
  refine r_aload_n (pc := 0) (i := 0) dX12_asks_0 rfl rfl ?_
  refine r_iconst (pc := 1) dX12_asks_1 (in32_of rfl) ?_
  refine r_aload_n (pc := 2) (i := 0) dX12_asks_2 rfl rfl ?_
  refine r_sipush (pc := 3) dX12_asks_3 rfl (in32_of rfl) ?_
  refine r_iload_n (pc := 6) (i := 1) dX12_asks_6 rfl rfl ?_
  refine r_iload_n (pc := 7) (i := 2) dX12_asks_7 rfl rfl ?_
  refine r_iload_n (pc := 8) (i := 3) dX12_asks_8 rfl rfl ?_
  refine r_callV1 (pc := 9) (d - 1) [aI 276, aI ((p : Nat) : Int), aI ((b : Nat) : Int), aI ((m : Nat) : Int)] dX12_asks_9 (CV.mk2 mk_X12_parityOf lk_X12_161) (RC.of (ltM hT (by omega)) (kM274 hT) (by decide) rfl) rfl rfl (by omega) (Nat.le_of_ble_eq_true rfl) (Nat.le_of_ble_eq_true rfl) (c_parityOf (y := 276) (p := p) (b := b) (m := m) hT (Rng_O hR) (by omega) (by omega) (by omega) ?_)
  refine ⟨_, rfl, fun _ => ?_⟩
  refine r_iload_n (pc := 12) (i := 1) dX12_asks_12 rfl rfl ?_
  refine r_iload_n (pc := 13) (i := 2) dX12_asks_13 rfl rfl ?_
  refine r_iload_n (pc := 14) (i := 3) dX12_asks_14 rfl rfl ?_
  refine r_callV0 (pc := 15) (d - 1) [aI 0, aI (parO N 276 p b m), aI ((p : Nat) : Int), aI ((b : Nat) : Int), aI ((m : Nat) : Int)] dX12_asks_15 (CV.mk2 mk_X12_tells lk_X12_165) (RC.of (ltM hT (by omega)) (kM274 hT) (by decide) rfl) rfl rfl (by omega) (Nat.le_of_ble_eq_true rfl) (Nat.le_of_ble_eq_true rfl) (c_tells (N := N) hT hR (by omega) ?_)
  refine ⟨rfl, fun _ => ?_⟩
  refine r_aload_n (pc := 18) (i := 0) dX12_asks_18 rfl rfl ?_
  refine r_iload_n (pc := 19) (i := 1) dX12_asks_19 rfl rfl ?_
  refine r_iload_n (pc := 20) (i := 2) dX12_asks_20 rfl rfl ?_
  refine r_iload_n (pc := 21) (i := 3) dX12_asks_21 rfl rfl ?_
  refine r_callV1 (pc := 22) (d - 1) [aI ((p : Nat) : Int), aI ((b : Nat) : Int), aI ((m : Nat) : Int)] dX12_asks_22 (CV.mk2 mk_X12_isUnlike lk_X12_169) (RC.of (ltM hT (by omega)) (kM274 hT) (by decide) rfl) rfl rfl (by omega) (Nat.le_of_ble_eq_true rfl) (Nat.le_of_ble_eq_true rfl) (c_isUnlike (p := p) (b := b) (m := m) hT (by omega) (Rng_O (Rng_tl hR ht)) hp hb ?_)
  refine ⟨_, rfl, fun _ => ?_⟩
  exact r_iret (pc := 25) dX12_asks_25 (bi_01 _) (by rw [tl_parO (Rng_O hR) (by decide) (by decide) hp m hb, tl_parO (Rng_O hR) (by decide) (by decide) hp m hb]; exact hq)
theorem c_mends {p : Nat} (hT : ShM T) (hR : Rng N) (hp : p < 256) (hq : Q none T (sr I 283 (mdF N p))) : EvE G mX12_mends d [aR 274, aI ((p : Nat) : Int)] T (sr I 283 N) Q := by
  have hbit := Rng_key (j := p + 532) hR (by omega) (by omega)
  refine EvE.mk (lv0 := [some (aR 274), some (aI ((p : Nat) : Int))]) (Nat.le_of_ble_eq_true rfl) (by decide +kernel) rfl ?_
  refine r_aload_n (pc := 0) (i := 0) dX12_mends_0 rfl rfl ?_
  refine r_getfr (pc := 1) (b := 283) cks dX12_mends_1 fl_X12_37 rfl (kM274 hT) (ltM hT (by omega)) (rM11 hT) ?_
  refine r_sipush (pc := 4) dX12_mends_4 rfl (in32_of rfl) ?_
  refine r_iload_n (pc := 7) (i := 1) dX12_mends_7 rfl rfl ?_
  refine r_iaddN (pc := 8) (c := ((p + 532 : Nat) : Int)) dX12_mends_8 (by unfold w32; omega) ?_
  refine r_iconst (pc := 9) dX12_mends_9 (in32_of rfl) ?_
  refine r_aload_n (pc := 10) (i := 0) dX12_mends_10 rfl rfl ?_
  refine r_getfr (pc := 11) (b := 283) cks dX12_mends_11 fl_X12_37 rfl (kM274 hT) (ltM hT (by omega)) (rM11 hT) ?_
  refine r_sipush (pc := 14) dX12_mends_14 rfl (in32_of rfl) ?_
  refine r_iload_n (pc := 17) (i := 1) dX12_mends_17 rfl rfl ?_
  refine r_iaddN (pc := 18) (c := ((p + 532 : Nat) : Int)) dX12_mends_18 (by unfold w32; omega) ?_
  refine r_ild (pc := 19) (p + 532) dX12_mends_19 (kM283 hT) (ltM hT (by omega)) rfl (by rw [lM283 hT]; omega) ?_
  refine r_top (b := N (p + 532)) (sr_at _ _ _ _) ?_
  refine r_isubN (pc := 20) (c := (1 - N (p + 532))) dX12_mends_20 (by unfold w32; omega) ?_
  refine r_ist (pc := 21) (p + 532) dX12_mends_21 (kM283 hT) (ltM hT (by omega)) rfl (by rw [lM283 hT]; omega) ?_
  refine r_mem (I2 := sr I 283 (un N (p + 532) (1 - N (p + 532)))) (by rw [up2_sr]) ?_
  refine r_aload_n (pc := 22) (i := 0) dX12_mends_22 rfl rfl ?_
  refine r_getfr (pc := 23) (b := 283) cks dX12_mends_23 fl_X12_37 rfl (kM274 hT) (ltM hT (by omega)) (rM11 hT) ?_
  refine r_bipush (pc := 26) dX12_mends_26 rfl (in32_of rfl) ?_
  refine r_dup2 (pc := 28) dX12_mends_28 rfl rfl ?_
  refine r_ild (pc := 29) (7) dX12_mends_29 (kM283 hT) (ltM hT (by omega)) (by omega) (by rw [lM283 hT]; omega) ?_
  refine r_top (b := (un N (p + 532) (1 - N (p + 532))) 7) (sr_at _ _ _ _) ?_
  refine r_top (b := N 7) (un_ne (by omega)) ?_
  refine r_iconst (pc := 30) dX12_mends_30 (in32_of rfl) ?_
  refine r_iaddN (pc := 31) (c := (w32 (N 7 + 1))) dX12_mends_31 rfl ?_
  refine r_ist (pc := 32) (7) dX12_mends_32 (kM283 hT) (ltM hT (by omega)) (by omega) (by rw [lM283 hT]; omega) ?_
  refine r_mem (I2 := sr I 283 (un (un N (p + 532) (1 - N (p + 532))) 7 (w32 (N 7 + 1)))) (by rw [up2_sr]) ?_
  exact r_vret (pc := 33) dX12_mends_33 trivial hq
end M5

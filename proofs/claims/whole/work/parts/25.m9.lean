section M9
variable {G : Gl} {d : Nat} {T : Sh} {I : Mi} {N : Nat → Int} {Q : Option AV → Sh → Mi → Prop}
def idS (N : Nat → Int) (p : Nat) : Nat → (Nat → Int)
  | 0 => N
  | k + 1 => un (idS N p k) (256 * p + k + 1044) (k : Int)
theorem idS_succ (N : Nat → Int) (p k : Nat) : idS N p (k + 1) = un (idS N p k) (256 * p + k + 1044) (k : Int) := rfl
def swF (M : Nat → Int) (p k : Nat) : Nat → Int := un (un (dN M) (256 * p + k + 1045) (dN M (256 * p + (drV M (k + 2)).toNat + 1044))) (256 * p + (drV M (k + 2)).toNat + 1044) (dN M (256 * p + k + 1045))
/-- the shuffling: c places are left -/
def shS (p : Nat) : Nat → (Nat → Int) → (Nat → Int)
  | 0, M => M
  | k + 1, M => shS p k (swF M p k)
theorem shS_succ (p k : Nat) (M : Nat → Int) : shS p (k + 1) M = shS p k (swF M p k) := rfl
def shF (N : Nat → Int) (p n : Nat) : Nat → Int := if p = 0 then idS N p n else shS p (n - 1) (idS N p n)
/-- what a shuffling leaves as it is -/
def sameS (p : Nat) (N M : Nat → Int) : Prop := ∀ j, j ≠ 8 → ¬ (256 * p + 1044 ≤ j ∧ j < 256 * p + 1300) → M j = N j
theorem sameS_refl (p : Nat) (N : Nat → Int) : sameS p N N := fun _ _ _ => rfl
theorem sameS_trans {p : Nat} {N M K : Nat → Int} (h1 : sameS p N M) (h2 : sameS p M K) : sameS p N K := fun j a b => (h2 j a b).trans (h1 j a b)
def rowIn (M : Nat → Int) (p n : Nat) : Prop := ∀ k, k < n → 0 ≤ M (256 * p + k + 1044) ∧ M (256 * p + k + 1044) < n
theorem rowIn_oP {M : Nat → Int} {p n k : Nat} (h : rowIn M p n) (hk : k < n) : oP M p k < n := by have := h k hk; unfold oP; omega
theorem okO {p k : Nat} {x : Int} (hp : p < 6) (hk : k < 256) (h : 0 ≤ x ∧ x < 256) : okC (256 * p + k + 1044) x := by
  generalize hj : 256 * p + k + 1044 = j
  exact (ok_ord (by omega) (by omega)).mpr h
theorem Rng_unO {N : Nat → Int} (h : Rng N) (p k j : Nat) {x : Int} (e : j = 256 * p + k + 1044) (hp : p < 6) (hk : k < 256) (h0 : 0 ≤ x) (h1 : x < 256) : Rng (un N j x) := Rng_un h ((ok_ord (by omega) (by omega)).mpr ⟨h0, h1⟩)
theorem idS_ok {N : Nat → Int} {p : Nat} (hR : Rng N) (hp : p < 6) : ∀ n, n ≤ 256 → Rng (idS N p n) ∧ sameS p N (idS N p n) ∧ ∀ k, k < n → idS N p n (256 * p + k + 1044) = (k : Int) := by
  intro n
  induction n with
  | zero => intro _; exact ⟨hR, sameS_refl p N, fun k hk => by omega⟩
  | succ n ih =>
    intro hn
    obtain ⟨a, b, c⟩ := ih (by omega)
    rw [idS_succ]
    refine ⟨Rng_unO a p n _ rfl hp (by omega) (by omega) (by omega), fun j h1 h2 => (un_ne (by omega)).trans (b j h1 h2), fun k hk => ?_⟩
    by_cases e : k = n
    · subst e; exact un_at
    · exact (un_ne (by omega)).trans (c k (by omega))
theorem swF_ok {M : Nat → Int} {p k n : Nat} (hR : Rng M) (hp : p < 6) (hn : n ≤ 256) (hk : k + 1 < n) (h : rowIn M p n) : Rng (swF M p k) ∧ sameS p M (swF M p k) ∧ rowIn (swF M p k) p n := by
  have hj := drV_rng M (k := k + 2) (by omega)
  have hj2 : (drV M (k + 2)).toNat < k + 2 := by omega
  have h1 := h (drV M (k + 2)).toNat (by omega)
  have h2 := h (k + 1) (by omega)
  rw [show 256 * p + (k + 1) + 1044 = 256 * p + k + 1045 by omega] at h2
  have d1 : dN M (256 * p + (drV M (k + 2)).toNat + 1044) = M (256 * p + (drV M (k + 2)).toNat + 1044) := dN_ne (by omega)
  have d2 : dN M (256 * p + k + 1045) = M (256 * p + k + 1045) := dN_ne (by omega)
  unfold swF
  rw [d1, d2]
  refine ⟨Rng_unO (Rng_unO (Rng_d hR) p (k + 1) _ (by omega) hp (by omega) (by omega) (by omega)) p (drV M (k + 2)).toNat _ rfl hp (by omega) (by omega) (by omega), fun j a b => ?_, fun q hq => ?_⟩
  · rw [un_ne (by omega), un_ne (by omega), dN_ne a]
  · by_cases e : q = (drV M (k + 2)).toNat
    · subst e; rw [un_at]; exact h2
    · rw [un_ne (by omega)]
      by_cases e2 : q = k + 1
      · subst e2
        rw [show 256 * p + (k + 1) + 1044 = 256 * p + k + 1045 by omega, un_at]
        exact h1
      · rw [un_ne (by omega), dN_ne (by omega)]
        exact h q hq
theorem shS_ok {p n : Nat} (hp : p < 6) (hn : n ≤ 256) : ∀ (k : Nat) (M : Nat → Int), Rng M → k + 1 ≤ n → rowIn M p n → Rng (shS p k M) ∧ sameS p M (shS p k M) ∧ rowIn (shS p k M) p n := by
  intro k
  induction k with
  | zero => intro M hR _ h; exact ⟨hR, sameS_refl p M, h⟩
  | succ k ih =>
    intro M hR hk h
    obtain ⟨a, b, c⟩ := swF_ok (k := k) hR hp hn (by omega) h
    obtain ⟨a2, b2, c2⟩ := ih (swF M p k) a (by omega) c
    exact ⟨a2, sameS_trans b b2, c2⟩
theorem shF_ok {N : Nat → Int} {p n : Nat} (hR : Rng N) (hp : p < 6) (hn : n ≤ 256) : Rng (shF N p n) ∧ sameS p N (shF N p n) ∧ rowIn (shF N p n) p n := by
  obtain ⟨a, b, c⟩ := idS_ok (N := N) hR hp n hn
  have d : rowIn (idS N p n) p n := fun k hk => by rw [c k hk]; omega
  unfold shF
  split
  · exact ⟨a, b, d⟩
  · by_cases e : n = 0
    · subst e; exact ⟨a, b, d⟩
    · obtain ⟨a2, b2, c2⟩ := shS_ok hp hn (n - 1) (idS N p n) a (by omega) d
      exact ⟨a2, sameS_trans b b2, c2⟩
theorem swF_okR {M : Nat → Int} {p k : Nat} (hR : Rng M) (hp : p < 6) (hk : k + 1 < 257) (hk2 : k < 255) : Rng (swF M p k) ∧ swF M p k 1 = M 1 := by
  have hj := drV_rng M (k := k + 2) (by omega)
  have h1 := Rng_of (j := 256 * p + (drV M (k + 2)).toNat + 1044) (Rng_d hR) (by omega) (by omega)
  have h2 := Rng_of (j := 256 * p + k + 1045) (Rng_d hR) (by omega) (by omega)
  unfold swF
  refine ⟨Rng_unO (Rng_unO (Rng_d hR) p (k + 1) _ (by omega) hp (by omega) h1.1 h1.2) p (drV M (k + 2)).toNat _ rfl hp (by omega) h2.1 h2.2, ?_⟩
  · rw [un_ne (by omega), un_ne (by omega), dN_ne (by omega)]
theorem c_shuffles {n p : Nat} (hT : ShM T) (hd : 1 ≤ d) (hn : N 1 = (n : Int)) (hn2 : n ≤ 256) (hR : Rng N) (hp : p < 6) (hq : Q none T (sr I 283 (shF N p n))) : EvE G mX12_shuffles d [aR 274, aI ((p : Nat) : Int)] T (sr I 283 N) Q := by
  refine EvE.mk (lv0 := [some (aR 274), some (aI ((p : Nat) : Int)), none, none, none, none]) (Nat.le_of_ble_eq_true rfl) (by decide +kernel) rfl ?_
  refine r_sipush (pc := 0) dX12_shuffles_0 rfl (in32_of rfl) ?_
  refine r_sipush (pc := 3) dX12_shuffles_3 rfl (in32_of rfl) ?_
  refine r_iload_n (pc := 6) (i := 1) dX12_shuffles_6 rfl rfl ?_
  refine r_imulN (pc := 7) (c := ((256 * p : Nat) : Int)) dX12_shuffles_7 (by unfold w32; omega) ?_
  refine r_iaddN (pc := 8) (c := ((256 * p + 1044 : Nat) : Int)) dX12_shuffles_8 (by unfold w32; omega) ?_
  refine r_istore_n (pc := 9) (i := 2) (lv' := [_, _, _, _, _, _]) dX12_shuffles_9 rfl (by decide) rfl ?_
  refine r_iconst (pc := 10) dX12_shuffles_10 (in32_of rfl) ?_
  refine r_istore_n (pc := 11) (i := 3) (lv' := [_, _, _, _, _, _]) dX12_shuffles_11 rfl (by decide) rfl ?_
  refine loop1 (fun (k : Nat) => k ≤ n) (fun (k : Nat) => n - k) (fun (k : Nat) => [some (aR 274), some (aI ((p : Nat) : Int)), some (aI ((256 * p + 1044 : Nat) : Int)), some (aI ((k : Nat) : Int)), none, none]) (fun _ => T) (fun (k : Nat) => sr I 283 (idS N p k)) ?_ 0 (Nat.zero_le _)
  intro k hP ih
  have hP : k ≤ n := hP
  have hi := idS_ok (N := N) hR hp k (by omega)
  have hRi := hi.1
  have hn1 : idS N p k 1 = (n : Int) := (hi.2.1 1 (by decide) (by omega)).trans hn
  refine (?_ : Ev G mX12_shuffles d 12 [some (aR 274), some (aI ((p : Nat) : Int)), some (aI ((256 * p + 1044 : Nat) : Int)), some (aI ((k : Nat) : Int)), none, none] [] T (sr I 283 (idS N p k)) Q)
  refine r_iload_n (pc := 12) (i := 3) dX12_shuffles_12 rfl rfl ?_
  refine r_aload_n (pc := 13) (i := 0) dX12_shuffles_13 rfl rfl ?_
  refine r_getfr (pc := 14) (b := 283) cks dX12_shuffles_14 fl_X12_37 rfl (kM274 hT) (ltM hT (by omega)) (rM11 hT) ?_
  refine r_iconst (pc := 17) dX12_shuffles_17 (in32_of rfl) ?_
  refine r_ild (pc := 18) (1) dX12_shuffles_18 (kM283 hT) (ltM hT (by omega)) (by omega) (by rw [lM283 hT]; omega) ?_
  refine r_top (b := (idS N p k) 1) (sr_at _ _ _ _) ?_
  refine r_top (b := ((n : Nat) : Int)) (hn1) ?_
  refine r_icmp_ge (pc := 19) (tgt := 37) dX12_shuffles_19 rfl (fun c19 => ?_) (fun c19 => ?_)
  · have hk : n = k := by omega
    subst hk
    clear ih
    refine r_aload_n (pc := 37) (i := 0) dX12_shuffles_37 rfl rfl ?_
    refine r_getfr (pc := 38) (b := 283) cks dX12_shuffles_38 fl_X12_37 rfl (kM274 hT) (ltM hT (by omega)) (rM11 hT) ?_
    refine r_iconst (pc := 41) dX12_shuffles_41 (in32_of rfl) ?_
    refine r_ild (pc := 42) (1) dX12_shuffles_42 (kM283 hT) (ltM hT (by omega)) (by omega) (by rw [lM283 hT]; omega) ?_
    refine r_top (b := (idS N p n) 1) (sr_at _ _ _ _) ?_
    refine r_top (b := ((n : Nat) : Int)) (hn1) ?_
    refine r_iconst (pc := 43) dX12_shuffles_43 (in32_of rfl) ?_
    refine r_isubN (pc := 44) (c := (((n : Nat) : Int) - 1)) dX12_shuffles_44 (by unfold w32; omega) ?_
    refine r_istore_n (pc := 45) (i := 3) (lv' := [_, _, _, _, _, _]) dX12_shuffles_45 rfl (by decide) rfl ?_
    by_cases hp0 : p = 0
    · refine r_iload_n (pc := 46) (i := 3) dX12_shuffles_46 rfl rfl ?_
      refine r_if_le (pc := 47) (tgt := 107) dX12_shuffles_47 rfl (fun c47 => ?_) (fun c47 => ?_)
      · exact r_vret (pc := 107) dX12_shuffles_107 trivial (by rw [show shF N p n = idS N p n from if_pos hp0] at hq; exact hq)
      · refine r_iload_n (pc := 50) (i := 1) dX12_shuffles_50 rfl rfl ?_
        refine r_if_le (pc := 51) (tgt := 107) dX12_shuffles_51 rfl (fun c51 => ?_) (fun c51 => absurd (by omega) c51)
        exact r_vret (pc := 107) dX12_shuffles_107 trivial (by rw [show shF N p n = idS N p n from if_pos hp0] at hq; exact hq)
    · refine loop2 (fun (c : Nat) (M : Nat → Int) => c ≤ n ∧ shF N p n = shS p (c - 1) M ∧ Rng M ∧ M 1 = (n : Int)) (fun (c : Nat) (M : Nat → Int) => c) (fun (c : Nat) (M : Nat → Int) => [some (aR 274), some (aI ((p : Nat) : Int)), some (aI ((256 * p + 1044 : Nat) : Int)), some (aI (((c : Nat) : Int) - 1)), none, none]) (fun _ _ => T) (fun (c : Nat) (M : Nat → Int) => sr I 283 M) ?_ n (idS N p n) ⟨Nat.le_refl _, if_neg hp0, hRi, hn1⟩
      intro c M hP ih
      have hP : c ≤ n ∧ shF N p n = shS p (c - 1) M ∧ Rng M ∧ M 1 = (n : Int) := hP
      have hRM := hP.2.2.1
      refine (?_ : Ev G mX12_shuffles d 46 [some (aR 274), some (aI ((p : Nat) : Int)), some (aI ((256 * p + 1044 : Nat) : Int)), some (aI (((c : Nat) : Int) - 1)), none, none] [] T (sr I 283 M) Q)
      refine r_iload_n (pc := 46) (i := 3) dX12_shuffles_46 rfl rfl ?_
      refine r_if_le (pc := 47) (tgt := 107) dX12_shuffles_47 rfl (fun c47 => ?_) (fun c47 => ?_)
      · exact r_vret (pc := 107) dX12_shuffles_107 trivial (by rw [hP.2.1, show c - 1 = 0 by omega] at hq; exact hq)
      · obtain ⟨e, rfl⟩ : ∃ e, c = e + 2 := ⟨c - 2, by omega⟩
        refine Ev.re (lv2 := [some (aR 274), some (aI ((p : Nat) : Int)), some (aI ((256 * p + 1044 : Nat) : Int)), some (aI ((e + 1 : Nat) : Int)), none, none]) (I2 := sr I 283 M) (by rw [show (((e + 2 : Nat) : Int) - 1) = ((e + 1 : Nat) : Int) by omega]) rfl ?_
        have hj := drV_rng M (k := e + 2) (by omega)
        refine r_iload_n (pc := 50) (i := 1) dX12_shuffles_50 rfl rfl ?_
        refine r_if_le (pc := 51) (tgt := 107) dX12_shuffles_51 rfl (fun c51 => absurd c51 (by omega)) (fun c51 => ?_)
        refine r_aload_n (pc := 54) (i := 0) dX12_shuffles_54 rfl rfl ?_
        refine r_iload_n (pc := 55) (i := 3) dX12_shuffles_55 rfl rfl ?_
        refine r_iconst (pc := 56) dX12_shuffles_56 (in32_of rfl) ?_
        refine r_iaddN (pc := 57) (c := ((e + 2 : Nat) : Int)) dX12_shuffles_57 (by unfold w32; omega) ?_
        refine r_callV1 (pc := 58) (d - 1) [aI ((e + 2 : Nat) : Int)] dX12_shuffles_58 (CV.mk2 mk_X12_draw lk_X12_135) (RC.of (ltM hT (by omega)) (kM274 hT) (by decide) rfl) rfl rfl (by omega) (Nat.le_of_ble_eq_true rfl) (Nat.le_of_ble_eq_true rfl) (c_drw (k := e + 2) (N := M) hT (Rng_x hRM) (by omega) (by omega) ?_)
        refine ⟨_, rfl, fun _ => ?_⟩
        refine r_istore (pc := 61) (i := 4) (lv' := [_, _, _, _, _, _]) dX12_shuffles_61 (by decide) rfl ?_
        refine r_aload_n (pc := 63) (i := 0) dX12_shuffles_63 rfl rfl ?_
        refine r_getfr (pc := 64) (b := 283) cks dX12_shuffles_64 fl_X12_37 rfl (kM274 hT) (ltM hT (by omega)) (rM11 hT) ?_
        refine r_iload_n (pc := 67) (i := 2) dX12_shuffles_67 rfl rfl ?_
        refine r_iload_n (pc := 68) (i := 3) dX12_shuffles_68 rfl rfl ?_
        refine r_iaddN (pc := 69) (c := ((256 * p + e + 1045 : Nat) : Int)) dX12_shuffles_69 (by unfold w32; omega) ?_
        refine r_ild (pc := 70) (256 * p + e + 1045) dX12_shuffles_70 (kM283 hT) (ltM hT (by omega)) rfl (by rw [lM283 hT]; omega) ?_
        refine r_top (b := (dN M) (256 * p + e + 1045)) (sr_at _ _ _ _) ?_
        refine r_istore (pc := 71) (i := 5) (lv' := [_, _, _, _, _, _]) dX12_shuffles_71 (by decide) rfl ?_
        refine r_aload_n (pc := 73) (i := 0) dX12_shuffles_73 rfl rfl ?_
        refine r_getfr (pc := 74) (b := 283) cks dX12_shuffles_74 fl_X12_37 rfl (kM274 hT) (ltM hT (by omega)) (rM11 hT) ?_
        refine r_iload_n (pc := 77) (i := 2) dX12_shuffles_77 rfl rfl ?_
        refine r_iload_n (pc := 78) (i := 3) dX12_shuffles_78 rfl rfl ?_
        refine r_iaddN (pc := 79) (c := ((256 * p + e + 1045 : Nat) : Int)) dX12_shuffles_79 (by unfold w32; omega) ?_
        refine r_aload_n (pc := 80) (i := 0) dX12_shuffles_80 rfl rfl ?_
        refine r_getfr (pc := 81) (b := 283) cks dX12_shuffles_81 fl_X12_37 rfl (kM274 hT) (ltM hT (by omega)) (rM11 hT) ?_
        refine r_iload_n (pc := 84) (i := 2) dX12_shuffles_84 rfl rfl ?_
        refine r_iload (pc := 85) (i := 4) dX12_shuffles_85 rfl ?_
        refine r_iaddN (pc := 87) (c := (256 * ((p : Nat) : Int) + (drV M (e + 2)) + 1044)) dX12_shuffles_87 (by unfold w32; omega) ?_
        refine r_ild (pc := 88) (256 * p + ((drV M (e + 2)).toNat) + 1044) dX12_shuffles_88 (kM283 hT) (ltM hT (by omega)) (by omega) (by rw [lM283 hT]; omega) ?_
        refine r_top (b := (dN M) (256 * p + ((drV M (e + 2)).toNat) + 1044)) (sr_at _ _ _ _) ?_
        refine r_ist (pc := 89) (256 * p + e + 1045) dX12_shuffles_89 (kM283 hT) (ltM hT (by omega)) rfl (by rw [lM283 hT]; omega) ?_
        refine r_mem (I2 := sr I 283 (un (dN M) (256 * p + e + 1045) ((dN M) (256 * p + ((drV M (e + 2)).toNat) + 1044)))) (by rw [up2_sr]) ?_
        refine r_aload_n (pc := 90) (i := 0) dX12_shuffles_90 rfl rfl ?_
        refine r_getfr (pc := 91) (b := 283) cks dX12_shuffles_91 fl_X12_37 rfl (kM274 hT) (ltM hT (by omega)) (rM11 hT) ?_
        refine r_iload_n (pc := 94) (i := 2) dX12_shuffles_94 rfl rfl ?_
        refine r_iload (pc := 95) (i := 4) dX12_shuffles_95 rfl ?_
        refine r_iaddN (pc := 97) (c := (256 * ((p : Nat) : Int) + (drV M (e + 2)) + 1044)) dX12_shuffles_97 (by unfold w32; omega) ?_
        refine r_iload (pc := 98) (i := 5) dX12_shuffles_98 rfl ?_
        refine r_ist (pc := 100) (256 * p + ((drV M (e + 2)).toNat) + 1044) dX12_shuffles_100 (kM283 hT) (ltM hT (by omega)) (by omega) (by rw [lM283 hT]; omega) ?_
        refine r_mem (I2 := sr I 283 (un (un (dN M) (256 * p + e + 1045) ((dN M) (256 * p + ((drV M (e + 2)).toNat) + 1044))) (256 * p + ((drV M (e + 2)).toNat) + 1044) ((dN M) (256 * p + e + 1045)))) (by rw [up2_sr]) ?_
        refine r_iincN (pc := 101) (i := 3) (c := ((e : Nat) : Int)) (lv' := [_, _, _, _, _, _]) dX12_shuffles_101 rfl (by decide) (by unfold w32; omega) rfl ?_
        refine r_goto (pc := 104) (tgt := 46) dX12_shuffles_104 rfl ?_
        refine Ev.weak (lv2 := [some (aR 274), some (aI ((p : Nat) : Int)), some (aI ((256 * p + 1044 : Nat) : Int)), some (aI ((e : Nat) : Int)), none, none]) ⟨Or.inr rfl, Or.inr rfl, Or.inr rfl, Or.inr rfl, Or.inl rfl, Or.inl rfl, trivial⟩ ?_
        exact Ev.re (by rw [show (((e + 1 : Nat) : Int) - 1) = ((e : Nat) : Int) by omega]) rfl (ih (e + 1) (swF M p e) ⟨by omega, hP.2.1, (swF_okR hP.2.2.1 hp (by omega) (by omega)).1, (swF_okR hP.2.2.1 hp (by omega) (by omega)).2.trans hP.2.2.2⟩ (by omega))
  · refine r_aload_n (pc := 22) (i := 0) dX12_shuffles_22 rfl rfl ?_
    refine r_getfr (pc := 23) (b := 283) cks dX12_shuffles_23 fl_X12_37 rfl (kM274 hT) (ltM hT (by omega)) (rM11 hT) ?_
    refine r_iload_n (pc := 26) (i := 2) dX12_shuffles_26 rfl rfl ?_
    refine r_iload_n (pc := 27) (i := 3) dX12_shuffles_27 rfl rfl ?_
    refine r_iaddN (pc := 28) (c := ((256 * p + k + 1044 : Nat) : Int)) dX12_shuffles_28 (by unfold w32; omega) ?_
    refine r_iload_n (pc := 29) (i := 3) dX12_shuffles_29 rfl rfl ?_
    refine r_ist (pc := 30) (256 * p + k + 1044) dX12_shuffles_30 (kM283 hT) (ltM hT (by omega)) rfl (by rw [lM283 hT]; omega) ?_
    refine r_mem (I2 := sr I 283 (un (idS N p k) (256 * p + k + 1044) ((k : Nat) : Int))) (by rw [up2_sr]) ?_
    refine r_iincN (pc := 31) (i := 3) (c := ((k + 1 : Nat) : Int)) (lv' := [_, _, _, _, _, _]) dX12_shuffles_31 rfl (by decide) (by unfold w32; omega) rfl ?_
    refine r_goto (pc := 34) (tgt := 12) dX12_shuffles_34 rfl ?_
    exact Ev.re rfl (by rw [idS_succ]) (ih (k + 1) (by omega) (by omega))
end M9

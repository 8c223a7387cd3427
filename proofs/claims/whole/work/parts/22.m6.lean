section M6
variable {G : Gl} {d : Nat} {T : Sh} {I : Mi} {N : Nat → Int} {Q : Option AV → Sh → Mi → Prop}
def subL : List (Option AV) → List (Option AV) → Prop
  | [], [] => True
  | a :: as, b :: bs => (b = none ∨ a = b) ∧ subL as bs
  | _, _ => False
theorem subL_get : ∀ (as bs : List (Option AV)), subL as bs → ∀ (i : Nat) (v : AV), bs[i]? = some (some v) → as[i]? = some (some v)
  | [], [], _, i, v, h => h
  | a :: as, b :: bs, h, 0, v, g => by
    have e : b = some v := by simpa using g
    rcases h.1 with h1 | h1
    · rw [h1] at e; exact absurd e (by simp)
    · rw [h1, e]; rfl
  | a :: as, b :: bs, h, i + 1, v, g => subL_get as bs h.2 i v g
theorem Ev.weak {y : Mth} {pc : Nat} {lv lv2 : List (Option AV)} {st : List AV} (h : subL lv lv2) (k : Ev G y d pc lv2 st T I Q) : Ev G y d pc lv st T I Q := by
  refine Ev.step (fun hf => ⟨fun v hv => ?_, hf.2⟩) (fun _ p l e R s m args below meth c C H locs cells slots ls Qf _ _ hl kk => kk ls ⟨hl.1, hl.2.1, fun i v hv => hl.2.2 i v (subL_get _ _ h i v hv)⟩) k
  obtain ⟨i, hi⟩ := List.getElem?_of_mem hv
  exact hf.1 v (List.mem_of_getElem? (subL_get _ _ h i v hi))
theorem ukO_n0 {N : Nat → Int} {p b m : Nat} (h : ¬ ukO N p b m = 0) : ukO N p b m = 1 := bi_t (bi_1 h)
def hvS (p : Nat) : Nat → (Nat → Int) → Nat → Nat → (Nat → Int)
  | 0, M, b, _ => mdF M (oP M p b)
  | u + 1, M, b, r => if r ≤ 1 then mdF M (oP M p b) else if ukO M p b (r / 2) = 1 then hvS p u (askF M p b (r / 2)) b (r / 2) else hvS p u (askF M p b (r / 2)) (b + r / 2) (r - r / 2)
theorem hvS_succ (p u : Nat) (M : Nat → Int) (b r : Nat) : hvS p (u + 1) M b r = if r ≤ 1 then mdF M (oP M p b) else if ukO M p b (r / 2) = 1 then hvS p u (askF M p b (r / 2)) b (r / 2) else hvS p u (askF M p b (r / 2)) (b + r / 2) (r - r / 2) := rfl
theorem hvS_end (p u : Nat) (M : Nat → Int) (b r : Nat) (h : r ≤ 1) : hvS p u M b r = mdF M (oP M p b) := by
  cases u with
  | zero => rfl
  | succ u => rw [hvS_succ, if_pos h]
def hvF (N : Nat → Int) (p b r : Nat) : Nat → Int := hvS p 8 N b r
theorem askF_t (N : Nat → Int) (p b m : Nat) : tN (askF N p b m) = tN N + 1 := tl_t _ _ _ _ _ _
theorem Rng_ask {N : Nat → Int} {p b m : Nat} (h : Rng N) (ht : tN N < 13608) : Rng (askF N p b m) := Rng_tl h ht
theorem p2_half {r u : Nat} (h : r ≤ 2 ^ (u + 1)) (h1 : 1 < r) : r / 2 ≤ 2 ^ u ∧ r - r / 2 ≤ 2 ^ u := by rw [Nat.pow_succ] at h; omega
theorem p2_pos {r u : Nat} (h : r ≤ 2 ^ u) (h1 : 1 < r) : ∃ v, u = v + 1 := by
  cases u with
  | zero => simp at h; omega
  | succ u => exact ⟨u, rfl⟩
theorem oP_rdk {N : Nat → Int} (h : Oin N) {j p k : Nat} (e : j = 256 * p + k + 1044) (hk : 256 * p + k < 1536) : N j = (oP N p k : Int) ∧ oP N p k < 256 := by subst e; exact oP_rd h hk
theorem c_halves {p b r : Nat} (hT : ShM T) (hd : 3 ≤ d) (hR : Rng N) (hp : p < 6) (hb : b + r ≤ 256) (hr : 0 < r) (ht : tN N + 8 ≤ 13608) (hq : Q none T (sr I 283 (hvF N p b r))) : EvE G mX12_halves d [aR 274, aI ((p : Nat) : Int), aI ((b : Nat) : Int), aI ((r : Nat) : Int)] T (sr I 283 N) Q := by
  refine EvE.mk (lv0 := [some (aR 274), some (aI ((p : Nat) : Int)), some (aI ((b : Nat) : Int)), some (aI ((r : Nat) : Int)), none, none, none]) (Nat.le_of_ble_eq_true rfl) (by decide +kernel) rfl ?_
  refine r_iload_n (pc := 0) (i := 2) dX12_halves_0 rfl rfl ?_
  refine r_istore (pc := 1) (i := 4) (lv' := [_, _, _, _, _, _, _]) dX12_halves_1 (by decide) rfl ?_
  refine r_iload_n (pc := 3) (i := 3) dX12_halves_3 rfl rfl ?_
  refine r_istore (pc := 4) (i := 5) (lv' := [_, _, _, _, _, _, _]) dX12_halves_4 (by decide) rfl ?_
  refine loop4 (fun (u : Nat) (M : Nat → Int) (b1 : Nat) (r1 : Nat) => hvF N p b r = hvS p u M b1 r1 ∧ r1 ≤ 2 ^ u ∧ (b1 + r1 ≤ 256 ∧ 0 < r1) ∧ Rng M ∧ tN M + u ≤ 13608) (fun (u : Nat) (M : Nat → Int) (b1 : Nat) (r1 : Nat) => u) (fun (u : Nat) (M : Nat → Int) (b1 : Nat) (r1 : Nat) => [some (aR 274), some (aI ((p : Nat) : Int)), some (aI ((b : Nat) : Int)), some (aI ((r : Nat) : Int)), some (aI ((b1 : Nat) : Int)), some (aI ((r1 : Nat) : Int)), none]) (fun _ _ _ _ => T) (fun (u : Nat) (M : Nat → Int) (b1 : Nat) (r1 : Nat) => sr I 283 M) ?_ 8 N b r ⟨rfl, by omega, ⟨hb, hr⟩, hR, ht⟩
  intro u M b1 r1 hP ih
  have hP : hvF N p b r = hvS p u M b1 r1 ∧ r1 ≤ 2 ^ u ∧ (b1 + r1 ≤ 256 ∧ 0 < r1) ∧ Rng M ∧ tN M + u ≤ 13608 := hP
  have hRM := hP.2.2.2.1
  refine (?_ : Ev G mX12_halves d 6 [some (aR 274), some (aI ((p : Nat) : Int)), some (aI ((b : Nat) : Int)), some (aI ((r : Nat) : Int)), some (aI ((b1 : Nat) : Int)), some (aI ((r1 : Nat) : Int)), none] [] T (sr I 283 M) Q)
  refine r_iload (pc := 6) (i := 5) dX12_halves_6 rfl ?_
  refine r_iconst (pc := 8) dX12_halves_8 (in32_of rfl) ?_
  refine r_icmp_le (pc := 9) (tgt := 54) dX12_halves_9 rfl (fun c9 => ?_) (fun c9 => ?_)
  · have hb1 := hP.2.2.1
    refine r_aload_n (pc := 54) (i := 0) dX12_halves_54 rfl rfl ?_
    refine r_aload_n (pc := 55) (i := 0) dX12_halves_55 rfl rfl ?_
    refine r_getfr (pc := 56) (b := 283) cks dX12_halves_56 fl_X12_37 rfl (kM274 hT) (ltM hT (by omega)) (rM11 hT) ?_
    refine r_sipush (pc := 59) dX12_halves_59 rfl (in32_of rfl) ?_
    refine r_sipush (pc := 62) dX12_halves_62 rfl (in32_of rfl) ?_
    refine r_iload_n (pc := 65) (i := 1) dX12_halves_65 rfl rfl ?_
    refine r_imulN (pc := 66) (c := ((256 * p : Nat) : Int)) dX12_halves_66 (by unfold w32; omega) ?_
    refine r_iaddN (pc := 67) (c := ((256 * p + 1044 : Nat) : Int)) dX12_halves_67 (by unfold w32; omega) ?_
    refine r_iload (pc := 68) (i := 4) dX12_halves_68 rfl ?_
    refine r_iaddN (pc := 70) (c := ((256 * p + b1 + 1044 : Nat) : Int)) dX12_halves_70 (by unfold w32; omega) ?_
    refine r_ild (pc := 71) (256 * p + b1 + 1044) dX12_halves_71 (kM283 hT) (ltM hT (by omega)) rfl (by rw [lM283 hT]; omega) ?_
    have ho71 := oP_rd (p := p) (k := b1) (Rng_O hRM) (by omega)
    refine r_top (b := M (256 * p + b1 + 1044)) (sr_at _ _ _ _) ?_
    refine r_top (b := (((oP M p b1) : Nat) : Int)) ((ho71.1)) ?_
    refine r_callV0 (pc := 72) (d - 1) [aI (((oP M p b1) : Nat) : Int)] dX12_halves_72 (CV.mk2 mk_X12_mends lk_X12_176) (RC.of (ltM hT (by omega)) (kM274 hT) (by decide) rfl) rfl rfl (by omega) (Nat.le_of_ble_eq_true rfl) (Nat.le_of_ble_eq_true rfl) (c_mends (p := (oP M p b1)) (N := M) hT hRM (by omega) ?_)
    refine ⟨rfl, fun _ => ?_⟩
    exact r_vret (pc := 75) dX12_halves_75 trivial (by rw [hP.1, hvS_end _ _ _ _ _ (by omega)] at hq; exact hq)
  · obtain ⟨v, rfl⟩ := p2_pos hP.2.1 (by omega)
    refine r_iload (pc := 12) (i := 5) dX12_halves_12 rfl ?_
    refine r_iconst (pc := 14) dX12_halves_14 (in32_of rfl) ?_
    refine r_idiv (pc := 15) dX12_halves_15 (by omega) ?_
    refine r_top (b := (((r1 / 2) : Nat) : Int)) (by rw [idv_n (by unfold in32; omega) (by unfold in32; omega) (by omega) (by omega)]; omega) ?_
    refine r_istore (pc := 16) (i := 6) (lv' := [_, _, _, _, _, _, _]) dX12_halves_16 (by decide) rfl ?_
    refine r_aload_n (pc := 18) (i := 0) dX12_halves_18 rfl rfl ?_
    refine r_iload_n (pc := 19) (i := 1) dX12_halves_19 rfl rfl ?_
    refine r_iload (pc := 20) (i := 4) dX12_halves_20 rfl ?_
    refine r_iload (pc := 22) (i := 6) dX12_halves_22 rfl ?_
    refine r_callV1 (pc := 24) (d - 1) [aI ((p : Nat) : Int), aI ((b1 : Nat) : Int), aI (((r1 / 2) : Nat) : Int)] dX12_halves_24 (CV.mk2 mk_X12_asks lk_X12_173) (RC.of (ltM hT (by omega)) (kM274 hT) (by decide) rfl) rfl rfl (by omega) (Nat.le_of_ble_eq_true rfl) (Nat.le_of_ble_eq_true rfl) (c_asks (p := p) (b := b1) (m := (r1 / 2)) (N := M) hT (by omega) hRM (by omega) (by omega) (by omega) ?_)
    refine ⟨_, rfl, fun _ => ?_⟩
    refine r_if_eq (pc := 27) (tgt := 37) dX12_halves_27 rfl (fun c27 => ?_) (fun c27 => ?_)
    · refine r_iload (pc := 37) (i := 4) dX12_halves_37 rfl ?_
      refine r_iload (pc := 39) (i := 6) dX12_halves_39 rfl ?_
      refine r_iaddN (pc := 41) (c := ((b1 + (r1 / 2) : Nat) : Int)) dX12_halves_41 (by unfold w32; omega) ?_
      refine r_istore (pc := 42) (i := 4) (lv' := [_, _, _, _, _, _, _]) dX12_halves_42 (by decide) rfl ?_
      refine r_iload (pc := 44) (i := 5) dX12_halves_44 rfl ?_
      refine r_iload (pc := 46) (i := 6) dX12_halves_46 rfl ?_
      refine r_isubN (pc := 48) (c := (((r1 - r1 / 2) : Nat) : Int)) dX12_halves_48 (by unfold w32; omega) ?_
      refine r_istore (pc := 49) (i := 5) (lv' := [_, _, _, _, _, _, _]) dX12_halves_49 (by decide) rfl ?_
      refine r_goto (pc := 51) (tgt := 6) dX12_halves_51 rfl ?_
      refine Ev.weak (lv2 := [some (aR 274), some (aI ((p : Nat) : Int)), some (aI ((b : Nat) : Int)), some (aI ((r : Nat) : Int)), some (aI ((b1 + (r1 / 2) : Nat) : Int)), some (aI (((r1 - r1 / 2) : Nat) : Int)), none]) ⟨Or.inr rfl, Or.inr rfl, Or.inr rfl, Or.inr rfl, Or.inr rfl, Or.inr rfl, Or.inl rfl, trivial⟩ ?_
      have h2 := p2_half hP.2.1 (by omega)
      exact ih v (askF M p b1 (r1 / 2)) (b1 + (r1 / 2)) ((r1 - r1 / 2)) ⟨by rw [hP.1, hvS_succ, if_neg (by omega), if_neg (by omega)], h2.2, by omega, Rng_ask hP.2.2.2.1 (by omega), by rw [askF_t]; omega⟩ (by omega)
    · refine r_iload (pc := 30) (i := 6) dX12_halves_30 rfl ?_
      refine r_istore (pc := 32) (i := 5) (lv' := [_, _, _, _, _, _, _]) dX12_halves_32 (by decide) rfl ?_
      refine r_goto (pc := 34) (tgt := 51) dX12_halves_34 rfl ?_
      refine r_goto (pc := 51) (tgt := 6) dX12_halves_51 rfl ?_
      refine Ev.weak (lv2 := [some (aR 274), some (aI ((p : Nat) : Int)), some (aI ((b : Nat) : Int)), some (aI ((r : Nat) : Int)), some (aI ((b1 : Nat) : Int)), some (aI (((r1 / 2) : Nat) : Int)), none]) ⟨Or.inr rfl, Or.inr rfl, Or.inr rfl, Or.inr rfl, Or.inr rfl, Or.inr rfl, Or.inl rfl, trivial⟩ ?_
      have h2 := p2_half hP.2.1 (by omega)
      exact ih v (askF M p b1 (r1 / 2)) (b1) ((r1 / 2)) ⟨by rw [hP.1, hvS_succ, if_neg (by omega), if_pos (ukO_n0 c27)], h2.1, by omega, Rng_ask hP.2.2.2.1 (by omega), by rw [askF_t]; omega⟩ (by omega)
end M6

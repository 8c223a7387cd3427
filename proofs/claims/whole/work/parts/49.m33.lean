section M33
variable {G : Gl} {d : Nat} {T : Sh} {I : Mi} {N : Nat → Int} {Q : Option AV → Sh → Mi → Prop}
theorem w32_f1 {b tp : Nat} (h : b ≤ tp) (h2 : tp ≤ 200) : w32 (-2 - (8 * (b : Int) + 1)) = -2 - (8 * (b : Int) + 1) := by unfold w32; omega
theorem lnF_rng {B : Nat → Int} {tp a : Nat} {lo hi X : Nat → Int} (h : a ≤ tp) : 0 ≤ lnF B tp lo hi X a ∧ lnF B tp lo hi X a ≤ 8 * (tp : Int) + 3 := by
  have h1 := sA_le (B := B) h
  have h2 := tA_le (B := B) h
  unfold lnF
  (repeat' split) <;> omega
theorem c_sp {R X H U : Nat → Int} (hT : ShM T) (hU : I 279 = U) (hq : Q none T (sr (sr (sr I 281 (usR R U 9)) 282 (z8 X 9)) 274 H)) : EvE G mX12_setsPlain d [aR 274] T (sr (sr (sr I 281 R) 282 X) 274 H) Q := by
  have e : ∀ A C : Nat → Int, sr (sr (sr I 281 A) 282 C) 274 H = sr (sr (sr I 274 H) 281 A) 282 C := by
    intro A C
    rw [sr_comm (by decide), sr_comm (a := 281) (b := 274) (by decide)]
  rw [e]
  refine c_setsPlain hT ?_
  rw [← e, show (sr I 274 H) 279 = U from (sr_ne (by decide)).trans hU]
  exact hq
theorem c_bg {R X H : Nat → Int} (hT : ShM T) (hq : Q none T (sr (sr (sr (sr I 283 (begins N)) 281 R) 282 X) 274 H)) : EvE G mX12_begins d [aR 274] T (sr (sr (sr (sr I 283 N) 281 R) 282 X) 274 H) Q := by
  have e : ∀ A : Nat → Int, sr (sr (sr (sr I 283 A) 281 R) 282 X) 274 H = sr (sr (sr (sr I 281 R) 282 X) 274 H) 283 A := by
    intro A
    rw [sr_comm (a := 283) (b := 281) (by decide), sr_comm (a := 283) (b := 282) (by decide), sr_comm (a := 283) (b := 274) (by decide)]
  rw [e]
  refine c_begins hT ?_
  rw [← e]
  exact hq
theorem pl_ne {I : Mi} {P Y N : Nat → Int} {c : Nat} (h : c ≠ 280 ∧ c ≠ 287 ∧ c ≠ 283) : (sr (sr (sr I 280 P) 287 Y) 283 N) c = I c := by rw [sr_ne h.2.2, sr_ne h.2.1, sr_ne h.1]
/-- but for the tape's length, the reader's own fields and the count of what can be undone -/
def kpP (H K : Nat → Int) : Prop := ∀ k, k ≠ 1 → k ≠ 9 → k ≠ 10 → k ≠ 16 → K k = H k
theorem c_plan {tp : Nat} {P Y R X H B U lo hi : Nat → Int} (hT : ShM T) (hd : 4 ≤ d) (htp : H 1 = (tp : Int)) (htp2 : tp ≤ 200) (hB : I 275 = B) (hU : I 279 = U) (hW : ∀ q, q < 72 → I 276 q = wdT q) (hlo : ∀ k : Nat, k < 9 → I 277 k = lo k) (hhi : ∀ k : Nat, k < 9 → I 278 k = hi k) (hqF : (plF B tp lo hi 201 0 (usR R U 9) (z8 X 9) 0).1 < 0 → ∀ R2 X2 K : Nat → Int, kpP H K → K 1 = 0 → K 16 = H 16 → Q (some (aI (plF B tp lo hi 201 0 (usR R U 9) (z8 X 9) 0).1)) T (sr (sr (sr (sr (sr (sr I 280 P) 287 Y) 283 N) 281 R2) 282 X2) 274 K)) (hqS : 0 ≤ (plF B tp lo hi 201 0 (usR R U 9) (z8 X 9) 0).1 → ∀ X2 K : Nat → Int, kpP H K → K 1 = 0 → K 16 = 0 → Q (some (aI (plF B tp lo hi 201 0 (usR R U 9) (z8 X 9) 0).1)) T (sr (sr (sr (sr (sr (sr I 280 (usR P (plF B tp lo hi 201 0 (usR R U 9) (z8 X 9) 0).2 9)) 287 (z8 Y 2)) 283 (begins N)) 281 ((plF B tp lo hi 201 0 (usR R U 9) (z8 X 9) 0).2)) 282 X2) 274 K)) : EvE G mX12_plan d [aR 274] T (sr (sr (sr (sr (sr (sr I 280 P) 287 Y) 283 N) 281 R) 282 X) 274 H) Q := by
  refine EvE.mk (lv0 := [some (aR 274), none, none, none, none]) (Nat.le_of_ble_eq_true rfl) (by decide +kernel) rfl ?_
  refine r_aload_n (pc := 0) (i := 0) dX12_plan_0 rfl rfl ?_
  refine r_iconst (pc := 1) dX12_plan_1 (in32_of rfl) ?_
  refine r_putfi (pc := 2) cks dX12_plan_2 fl_X12_83 (pf_12_9 _ _) rfl (kM274 hT) (ltM hT (by omega)) ?_
  refine r_mem (I2 := sr (sr (sr (sr (sr (sr I 280 P) 287 Y) 283 N) 281 R) 282 X) 274 (un H 9 0)) (by rw [up2_sr]) ?_
  refine r_aload_n (pc := 5) (i := 0) dX12_plan_5 rfl rfl ?_
  refine r_callV0 (pc := 6) (d - 1) [] dX12_plan_6 (CV.mk2 mk_X12_setsPlain lk_X12_67) (RC.of (ltM hT (by omega)) (kM274 hT) (by decide) rfl) rfl rfl (by omega) (Nat.le_of_ble_eq_true rfl) (Nat.le_of_ble_eq_true rfl) (c_sp (U := U) hT ((pl_ne (by decide)).trans hU) ?_)
  refine ⟨rfl, fun _ => ?_⟩
  refine r_iconst (pc := 9) dX12_plan_9 (in32_of rfl) ?_
  refine r_istore_n (pc := 10) (i := 1) (lv' := [_, _, _, _, _]) dX12_plan_10 rfl (by decide) rfl ?_
  refine r_iconst (pc := 11) dX12_plan_11 (in32_of rfl) ?_
  refine r_istore_n (pc := 12) (i := 2) (lv' := [_, _, _, _, _]) dX12_plan_12 rfl (by decide) rfl ?_
  refine r_iconst (pc := 13) dX12_plan_13 (in32_of rfl) ?_
  refine r_istore_n (pc := 14) (i := 3) (lv' := [_, _, _, _, _]) dX12_plan_14 rfl (by decide) rfl ?_
  refine loop4 (fun (u : Nat) (a : Nat) (c : Nat) (D : (Nat → Int) × (Nat → Int)) => a ≤ tp ∧ tp < a + u ∧ c ≤ a ∧ plF B tp lo hi 201 0 (usR R U 9) (z8 X 9) 0 = plF B tp lo hi u a D.1 D.2 c) (fun (u : Nat) (a : Nat) (c : Nat) (D : (Nat → Int) × (Nat → Int)) => u) (fun (u : Nat) (a : Nat) (c : Nat) (D : (Nat → Int) × (Nat → Int)) => [some (aR 274), some (aI ((c : Nat) : Int)), some (aI 1), some (aI 1), none]) (fun _ _ _ _ => T) (fun (u : Nat) (a : Nat) (c : Nat) (D : (Nat → Int) × (Nat → Int)) => sr (sr (sr (sr (sr (sr I 280 P) 287 Y) 283 N) 281 D.1) 282 D.2) 274 (un H 9 ((a : Nat) : Int))) ?_ 201 0 0 (usR R U 9, z8 X 9) ⟨Nat.zero_le _, by omega, Nat.le_refl 0, rfl⟩
  intro u a c D hP ih
  have hP : a ≤ tp ∧ tp < a + u ∧ c ≤ a ∧ plF B tp lo hi 201 0 (usR R U 9) (z8 X 9) 0 = plF B tp lo hi u a D.1 D.2 c := hP
  obtain ⟨v, hu1⟩ : ∃ v, u = v + 1 := ⟨u - 1, by omega⟩
  refine (?_ : Ev G mX12_plan d 15 [some (aR 274), some (aI ((c : Nat) : Int)), some (aI 1), some (aI 1), none] [] T (sr (sr (sr (sr (sr (sr I 280 P) 287 Y) 283 N) 281 D.1) 282 D.2) 274 (un H 9 ((a : Nat) : Int))) Q)
  refine r_iload_n (pc := 15) (i := 3) dX12_plan_15 rfl rfl ?_
  refine r_if_eq (pc := 16) (tgt := 63) dX12_plan_16 rfl (fun c16 => absurd c16 (by decide)) (fun c16 => ?_)
  refine r_iload_n (pc := 19) (i := 2) dX12_plan_19 rfl rfl ?_
  refine r_if_eq (pc := 20) (tgt := 63) dX12_plan_20 rfl (fun c20 => absurd c20 (by decide)) (fun c20 => ?_)
  refine r_aload_n (pc := 23) (i := 0) dX12_plan_23 rfl rfl ?_
  refine r_callV1 (pc := 24) (d - 1) [] dX12_plan_24 (CV.mk2 mk_X12_readsLine lk_X12_114) (RC.of (ltM hT (by omega)) (kM274 hT) (by decide) rfl) rfl rfl (by omega) (Nat.le_of_ble_eq_true rfl) (Nat.le_of_ble_eq_true rfl) (c_line (tp := tp) (a := a) (lo := lo) (hi := hi) (B := B) hT (by omega) (H1_un htp) htp2 un_at hP.1 ((pl_ne (by decide)).trans hB) (fun q hq => (congrFun (pl_ne (by decide)) q).trans (hW q hq)) (fun q hq => (congrFun (pl_ne (by decide)) q).trans (hlo q hq)) (fun q hq => (congrFun (pl_ne (by decide)) q).trans (hhi q hq)) ?_ ?_)
  · intro hl
    obtain ⟨b, hb⟩ : ∃ b, b = sA B tp (zA B tp a) := ⟨_, rfl⟩
    have hb2 : b ≤ tp := hb ▸ sA_le (zA_le hP.1)
    have hb3 : a ≤ b := by have := zA_ge B tp a; have := sA_ge B tp (zA B tp a); omega
    have hb4 : ¬ bA B tp b = 32 := hb ▸ sA_32 B tp _
    have hpl := hP.2.2.2
    rw [hu1, plF_succ B tp lo hi v a, if_neg (fun g => g hl), ← hb] at hpl
    refine ⟨_, rfl, fun _ => ?_⟩
    refine r_mem (I2 := sr (sr (sr (sr (sr (sr I 280 P) 287 Y) 283 N) 281 (un D.1 (wA B tp a).toNat (xA B tp a))) 282 (un D.2 (wA B tp a).toNat (ibw true 1))) 274 (un H 9 ((zA B tp a : Nat) : Int))) (by rw [un_un]) ?_
    refine r_istore_n (pc := 27) (i := 3) (lv' := [_, _, _, _, _]) dX12_plan_27 rfl (by decide) rfl ?_
    refine r_iincN (pc := 28) (i := 1) (c := ((c + 1 : Nat) : Int)) (lv' := [_, _, _, _, _]) dX12_plan_28 rfl (by decide) (by unfold w32; omega) rfl ?_
    refine r_aload_n (pc := 31) (i := 0) dX12_plan_31 rfl rfl ?_
    refine r_callV1 (pc := 32) (d - 1) [] dX12_plan_32 (CV.mk2 mk_X12_next lk_X12_90) (RC.of (ltM hT (by omega)) (kM274 hT) (by decide) rfl) rfl rfl (by omega) (Nat.le_of_ble_eq_true rfl) (Nat.le_of_ble_eq_true rfl) (c_nx (tp := tp) (a := zA B tp a) (s := b) (B := B) hT (by omega) (H1_un htp) htp2 un_at (zA_le hP.1) ((rp_ne (by decide)).trans ((pl_ne (by decide)).trans hB)) hb.symm ?_)
    refine ⟨_, rfl, fun _ => ?_⟩
    refine r_mem (I2 := sr (sr (sr (sr (sr (sr I 280 P) 287 Y) 283 N) 281 (un D.1 (wA B tp a).toNat (xA B tp a))) 282 (un D.2 (wA B tp a).toNat (ibw true 1))) 274 (un H 9 ((b : Nat) : Int))) (by rw [un_un]) ?_
    refine r_bipush (pc := 35) dX12_plan_35 rfl (in32_of rfl) ?_
    refine r_icmp_ne (pc := 37) (tgt := 44) dX12_plan_37 rfl (fun c37 => ?_) (fun c37 => ?_)
    · refine r_iconst (pc := 44) dX12_plan_44 (in32_of rfl) ?_
      refine r_istore_n (pc := 45) (i := 2) (lv' := [_, _, _, _, _]) dX12_plan_45 rfl (by decide) rfl ?_
      refine r_iload_n (pc := 46) (i := 2) dX12_plan_46 rfl rfl ?_
      refine r_if_eq (pc := 47) (tgt := 15) dX12_plan_47 rfl (fun c47 => ?_) (fun c47 => absurd (by decide) c47)
      refine r_iload_n (pc := 15) (i := 3) dX12_plan_15 rfl rfl ?_
      refine r_if_eq (pc := 16) (tgt := 63) dX12_plan_16 rfl (fun c16 => absurd c16 (by decide)) (fun c16 => ?_)
      refine r_iload_n (pc := 19) (i := 2) dX12_plan_19 rfl rfl ?_
      refine r_if_eq (pc := 20) (tgt := 63) dX12_plan_20 rfl (fun c20 => ?_) (fun c20 => absurd (by decide) c20)
      refine r_iload_n (pc := 63) (i := 3) dX12_plan_63 rfl rfl ?_
      refine r_if_eq (pc := 64) (tgt := 85) dX12_plan_64 rfl (fun c64 => absurd c64 (by decide)) (fun c64 => ?_)
      refine r_aload_n (pc := 67) (i := 0) dX12_plan_67 rfl rfl ?_
      refine r_callV1 (pc := 68) (d - 1) [] dX12_plan_68 (CV.mk2 mk_X12_next lk_X12_90) (RC.of (ltM hT (by omega)) (kM274 hT) (by decide) rfl) rfl rfl (by omega) (Nat.le_of_ble_eq_true rfl) (Nat.le_of_ble_eq_true rfl) (c_nx (tp := tp) (a := b) (s := b) (B := B) hT (by omega) (H1_un htp) htp2 un_at hb2 ((rp_ne (by decide)).trans ((pl_ne (by decide)).trans hB)) (sA_id hb4) ?_)
      refine ⟨_, rfl, fun _ => ?_⟩
      refine r_mem (I2 := sr (sr (sr (sr (sr (sr I 280 P) 287 Y) 283 N) 281 (un D.1 (wA B tp a).toNat (xA B tp a))) 282 (un D.2 (wA B tp a).toNat (ibw true 1))) 274 (un H 9 ((b : Nat) : Int))) (by rw [un_un]) ?_
      refine r_iconst (pc := 71) dX12_plan_71 (in32_of rfl) ?_
      refine r_icmp_eq (pc := 72) (tgt := 85) dX12_plan_72 rfl (fun c72 => ?_) (fun c72 => ?_)
      · refine r_aload_n (pc := 85) (i := 0) dX12_plan_85 rfl rfl ?_
        refine r_iconst (pc := 86) dX12_plan_86 (in32_of rfl) ?_
        refine r_putfi (pc := 87) cks dX12_plan_87 fl_X12_73 (pf_12_1 _ _) rfl (kM274 hT) (ltM hT (by omega)) ?_
        refine r_mem (I2 := sr (sr (sr (sr (sr (sr I 280 P) 287 Y) 283 N) 281 (un D.1 (wA B tp a).toNat (xA B tp a))) 282 (un D.2 (wA B tp a).toNat (ibw true 1))) 274 (un (un H 9 ((b : Nat) : Int)) 1 0)) (by rw [up2_sr]) ?_
        refine r_iload_n (pc := 90) (i := 3) dX12_plan_90 rfl rfl ?_
        refine r_if_ne (pc := 91) (tgt := 102) dX12_plan_91 rfl (fun c91 => ?_) (fun c91 => absurd (by decide) c91)
        refine r_iconst (pc := 102) dX12_plan_102 (in32_of rfl) ?_
        refine r_istore (pc := 103) (i := 4) (lv' := [_, _, _, _, _]) dX12_plan_103 (by decide) rfl ?_
        refine r_mem (I2 := sr (sr (sr (sr (sr (sr I 280 (usR P (un D.1 (wA B tp a).toNat (xA B tp a)) 0)) 287 Y) 283 N) 281 (un D.1 (wA B tp a).toNat (xA B tp a))) 282 (un D.2 (wA B tp a).toNat (ibw true 1))) 274 (un (un H 9 ((b : Nat) : Int)) 1 0)) (by rw [usR_0]) ?_
        refine Ev.weak (lv2 := [some (aR 274), some (aI ((c + 1 : Nat) : Int)), none, none, some (aI 0)]) ⟨Or.inr rfl, Or.inr rfl, Or.inl rfl, Or.inl rfl, Or.inr rfl, trivial⟩ ?_
        refine loop1 (fun (k : Nat) => k ≤ 9) (fun (k : Nat) => 9 - k) (fun (k : Nat) => [some (aR 274), some (aI ((c + 1 : Nat) : Int)), none, none, some (aI ((k : Nat) : Int))]) (fun _ => T) (fun (k : Nat) => sr (sr (sr (sr (sr (sr I 280 (usR P (un D.1 (wA B tp a).toNat (xA B tp a)) k)) 287 Y) 283 N) 281 (un D.1 (wA B tp a).toNat (xA B tp a))) 282 (un D.2 (wA B tp a).toNat (ibw true 1))) 274 (un (un H 9 ((b : Nat) : Int)) 1 0)) ?_ 0 (Nat.zero_le _)
        intro k hP3 ih3
        have hP3 : k ≤ 9 := hP3
        refine (?_ : Ev G mX12_plan d 105 [some (aR 274), some (aI ((c + 1 : Nat) : Int)), none, none, some (aI ((k : Nat) : Int))] [] T (sr (sr (sr (sr (sr (sr I 280 (usR P (un D.1 (wA B tp a).toNat (xA B tp a)) k)) 287 Y) 283 N) 281 (un D.1 (wA B tp a).toNat (xA B tp a))) 282 (un D.2 (wA B tp a).toNat (ibw true 1))) 274 (un (un H 9 ((b : Nat) : Int)) 1 0)) Q)
        refine r_iload (pc := 105) (i := 4) dX12_plan_105 rfl ?_
        refine r_bipush (pc := 107) dX12_plan_107 rfl (in32_of rfl) ?_
        refine r_icmp_ge (pc := 109) (tgt := 132) dX12_plan_109 rfl (fun c109 => ?_) (fun c109 => ?_)
        · refine r_aload_n (pc := 132) (i := 0) dX12_plan_132 rfl rfl ?_
          refine r_callV0 (pc := 133) (d - 1) [] dX12_plan_133 (CV.mk2 mk_X12_begins lk_X12_70) (RC.of (ltM hT (by omega)) (kM274 hT) (by decide) rfl) rfl rfl (by omega) (Nat.le_of_ble_eq_true rfl) (Nat.le_of_ble_eq_true rfl) (c_bg hT ?_)
          refine ⟨rfl, fun _ => ?_⟩
          refine r_iconst (pc := 136) dX12_plan_136 (in32_of rfl) ?_
          refine r_istore (pc := 137) (i := 4) (lv' := [_, _, _, _, _]) dX12_plan_137 (by decide) rfl ?_
          have hk9 : k = 9 := by omega
          subst hk9
          refine r_mem (I2 := sr (sr (sr (sr (sr (sr I 280 (usR P (un D.1 (wA B tp a).toNat (xA B tp a)) 9)) 287 (z8 Y 0)) 283 (begins N)) 281 (un D.1 (wA B tp a).toNat (xA B tp a))) 282 (un D.2 (wA B tp a).toNat (ibw true 1))) 274 (un (un H 9 ((b : Nat) : Int)) 1 0)) (by rw [z8_0]) ?_
          refine loop1 (fun (k : Nat) => k ≤ 2) (fun (k : Nat) => 2 - k) (fun (k : Nat) => [some (aR 274), some (aI ((c + 1 : Nat) : Int)), none, none, some (aI ((k : Nat) : Int))]) (fun _ => T) (fun (k : Nat) => sr (sr (sr (sr (sr (sr I 280 (usR P (un D.1 (wA B tp a).toNat (xA B tp a)) 9)) 287 (z8 Y k)) 283 (begins N)) 281 (un D.1 (wA B tp a).toNat (xA B tp a))) 282 (un D.2 (wA B tp a).toNat (ibw true 1))) 274 (un (un H 9 ((b : Nat) : Int)) 1 0)) ?_ 0 (Nat.zero_le _)
          intro k hP4 ih4
          have hP4 : k ≤ 2 := hP4
          refine (?_ : Ev G mX12_plan d 139 [some (aR 274), some (aI ((c + 1 : Nat) : Int)), none, none, some (aI ((k : Nat) : Int))] [] T (sr (sr (sr (sr (sr (sr I 280 (usR P (un D.1 (wA B tp a).toNat (xA B tp a)) 9)) 287 (z8 Y k)) 283 (begins N)) 281 (un D.1 (wA B tp a).toNat (xA B tp a))) 282 (un D.2 (wA B tp a).toNat (ibw true 1))) 274 (un (un H 9 ((b : Nat) : Int)) 1 0)) Q)
          refine r_iload (pc := 139) (i := 4) dX12_plan_139 rfl ?_
          refine r_iconst (pc := 141) dX12_plan_141 (in32_of rfl) ?_
          refine r_icmp_ge (pc := 142) (tgt := 159) dX12_plan_142 rfl (fun c142 => ?_) (fun c142 => ?_)
          · refine r_aload_n (pc := 159) (i := 0) dX12_plan_159 rfl rfl ?_
            refine r_iconst (pc := 160) dX12_plan_160 (in32_of rfl) ?_
            refine r_putfi (pc := 161) cks dX12_plan_161 fl_X12_118 (pf_12_16 _ _) rfl (kM274 hT) (ltM hT (by omega)) ?_
            refine r_mem (I2 := sr (sr (sr (sr (sr (sr I 280 (usR P (un D.1 (wA B tp a).toNat (xA B tp a)) 9)) 287 (z8 Y k)) 283 (begins N)) 281 (un D.1 (wA B tp a).toNat (xA B tp a))) 282 (un D.2 (wA B tp a).toNat (ibw true 1))) 274 (un (un (un H 9 ((b : Nat) : Int)) 1 0) 16 0)) (by rw [up2_sr]) ?_
            refine r_iload_n (pc := 164) (i := 1) dX12_plan_164 rfl rfl ?_
            have hk2 : k = 2 := by omega
            subst hk2
            have e : plF B tp lo hi 201 0 (usR R U 9) (z8 X 9) 0 = (((c + 1 : Nat) : Int), un D.1 (wA B tp a).toNat (xA B tp a)) := by rw [hpl, if_neg c37, if_pos c72]
            exact r_iret (pc := 165) dX12_plan_165 trivial (by have h := hqS (by rw [e]; exact Int.natCast_nonneg _) (un D.2 (wA B tp a).toNat (ibw true 1)) (un (un (un H 9 ((b : Nat) : Int)) 1 0) 16 0) (fun k h1 h2 h3 h4 => by (repeat rw [un_ne (by omega)])) ((un_ne (by decide)).trans un_at) un_at; rw [e] at h; exact h)
          · refine r_aload_n (pc := 145) (i := 0) dX12_plan_145 rfl rfl ?_
            refine r_getfr (pc := 146) (b := 287) cks dX12_plan_146 fl_X12_51 rfl (kM274 hT) (ltM hT (by omega)) (rM15 hT) ?_
            refine r_iload (pc := 149) (i := 4) dX12_plan_149 rfl ?_
            refine r_iconst (pc := 151) dX12_plan_151 (in32_of rfl) ?_
            refine r_bst (pc := 152) (k) true dX12_plan_152 (kM287 hT) (ltM hT (by omega)) rfl (by rw [lM287 hT]; omega) ?_
            refine r_mem (I2 := sr (sr (sr (sr (sr (sr I 280 (usR P (un D.1 (wA B tp a).toNat (xA B tp a)) 9)) 287 (un (z8 Y k) k (ibw  true 0))) 283 (begins N)) 281 (un D.1 (wA B tp a).toNat (xA B tp a))) 282 (un D.2 (wA B tp a).toNat (ibw true 1))) 274 (un (un H 9 ((b : Nat) : Int)) 1 0)) (by rw [up2_sr_ne (by decide), up2_sr_ne (by decide), up2_sr_ne (by decide), up2_sr_ne (by decide), up2_sr]) ?_
            refine r_iincN (pc := 153) (i := 4) (c := ((k + 1 : Nat) : Int)) (lv' := [_, _, _, _, _]) dX12_plan_153 rfl (by decide) (by unfold w32; omega) rfl ?_
            refine r_goto (pc := 156) (tgt := 139) dX12_plan_156 rfl ?_
            exact Ev.re rfl (by rw [ibw_0, z8_succ]) (ih4 (k + 1) (by omega) (by omega))
        · refine r_aload_n (pc := 112) (i := 0) dX12_plan_112 rfl rfl ?_
          refine r_getfr (pc := 113) (b := 280) cks dX12_plan_113 fl_X12_27 rfl (kM274 hT) (ltM hT (by omega)) (rM6 hT) ?_
          refine r_iload (pc := 116) (i := 4) dX12_plan_116 rfl ?_
          refine r_aload_n (pc := 118) (i := 0) dX12_plan_118 rfl rfl ?_
          refine r_getfr (pc := 119) (b := 281) cks dX12_plan_119 fl_X12_30 rfl (kM274 hT) (ltM hT (by omega)) (rM7 hT) ?_
          refine r_iload (pc := 122) (i := 4) dX12_plan_122 rfl ?_
          refine r_ild (pc := 124) (k) dX12_plan_124 (kM281 hT) (ltM hT (by omega)) rfl (by rw [lM281 hT]; omega) ?_
          refine r_top (b := (un D.1 (wA B tp a).toNat (xA B tp a)) k) ((congrFun (sr_ne (by decide)) _).trans ((congrFun (sr_ne (by decide)) _).trans (sr_at _ _ _ _))) ?_
          refine r_ist (pc := 125) (k) dX12_plan_125 (kM280 hT) (ltM hT (by omega)) rfl (by rw [lM280 hT]; omega) ?_
          refine r_mem (I2 := sr (sr (sr (sr (sr (sr I 280 (un (usR P (un D.1 (wA B tp a).toNat (xA B tp a)) k) k ((un D.1 (wA B tp a).toNat (xA B tp a)) k))) 287 Y) 283 N) 281 (un D.1 (wA B tp a).toNat (xA B tp a))) 282 (un D.2 (wA B tp a).toNat (ibw true 1))) 274 (un (un H 9 ((b : Nat) : Int)) 1 0)) (by rw [up2_sr_ne (by decide), up2_sr_ne (by decide), up2_sr_ne (by decide), up2_sr_ne (by decide), up2_sr_ne (by decide), up2_sr]) ?_
          refine r_iincN (pc := 126) (i := 4) (c := ((k + 1 : Nat) : Int)) (lv' := [_, _, _, _, _]) dX12_plan_126 rfl (by decide) (by unfold w32; omega) rfl ?_
          refine r_goto (pc := 129) (tgt := 105) dX12_plan_129 rfl ?_
          exact Ev.re rfl (by rw [usR_succ]) (ih3 (k + 1) (by omega) (by omega))
      · refine r_aload_n (pc := 75) (i := 0) dX12_plan_75 rfl rfl ?_
        refine r_iconst (pc := 76) dX12_plan_76 (in32_of rfl) ?_
        refine r_aload_n (pc := 77) (i := 0) dX12_plan_77 rfl rfl ?_
        refine r_getfi (pc := 78) cks dX12_plan_78 fl_X12_83 rfl (kM274 hT) (ltM hT (by omega)) ?_
        refine r_top (b := (un H 9 ((b : Nat) : Int)) 9) (sr_at _ _ _ _) ?_
        refine r_top (b := (b : Int)) (un_at) ?_
        refine r_callV1 (pc := 81) (d - 1) [aI 1, aI ((b : Nat) : Int)] dX12_plan_81 (CV.mk2 mk_X12_fails lk_X12_101) (RC.of (ltM hT (by omega)) (kM274 hT) (by decide) rfl) rfl rfl (by omega) (Nat.le_of_ble_eq_true rfl) (Nat.le_of_ble_eq_true rfl) (c_fl hT (by omega) (by omega) (by omega) (by omega) ?_)
        refine ⟨_, rfl, fun _ => ?_⟩
        refine r_istore_n (pc := 84) (i := 3) (lv' := [_, _, _, _, _]) dX12_plan_84 rfl (by decide) rfl ?_
        refine r_aload_n (pc := 85) (i := 0) dX12_plan_85 rfl rfl ?_
        refine r_iconst (pc := 86) dX12_plan_86 (in32_of rfl) ?_
        refine r_putfi (pc := 87) cks dX12_plan_87 fl_X12_73 (pf_12_1 _ _) rfl (kM274 hT) (ltM hT (by omega)) ?_
        refine r_mem (I2 := sr (sr (sr (sr (sr (sr I 280 P) 287 Y) 283 N) 281 (un D.1 (wA B tp a).toNat (xA B tp a))) 282 (un D.2 (wA B tp a).toNat (ibw true 1))) 274 (un (un (un H 9 ((b : Nat) : Int)) 10 (8 * ((b : Nat) : Int) + 1)) 1 0)) (by rw [up2_sr]) ?_
        refine r_iload_n (pc := 90) (i := 3) dX12_plan_90 rfl rfl ?_
        refine r_if_ne (pc := 91) (tgt := 102) dX12_plan_91 rfl (fun c91 => absurd c91 (by decide)) (fun c91 => ?_)
        have c91 := Decidable.of_not_not c91
        refine r_bipush (pc := 94) dX12_plan_94 rfl (in32_of rfl) ?_
        refine r_aload_n (pc := 96) (i := 0) dX12_plan_96 rfl rfl ?_
        refine r_getfi (pc := 97) cks dX12_plan_97 fl_X12_80 rfl (kM274 hT) (ltM hT (by omega)) ?_
        refine r_top (b := (un (un (un H 9 ((b : Nat) : Int)) 10 (8 * ((b : Nat) : Int) + 1)) 1 0) 10) (sr_at _ _ _ _) ?_
        refine r_top (b := (un (un H 9 ((b : Nat) : Int)) 10 (8 * ((b : Nat) : Int) + 1)) 10) (un_ne (by omega)) ?_
        refine r_top (b := (8 * ((b : Nat) : Int) + 1)) (un_at) ?_
        refine r_isubN (pc := 100) (c := (-2 - (8 * ((b : Nat) : Int) + 1))) dX12_plan_100 (w32_f1 hb2 htp2) ?_
        have e : (plF B tp lo hi 201 0 (usR R U 9) (z8 X 9) 0).1 = -2 - (8 * (b : Int) + 1) := by rw [hpl, if_neg c37, if_neg c72]
        exact r_iret (pc := 101) dX12_plan_101 trivial (by have h := hqF (by rw [e]; omega) (un D.1 (wA B tp a).toNat (xA B tp a)) (un D.2 (wA B tp a).toNat (ibw true 1)) (un (un (un H 9 ((b : Nat) : Int)) 10 (8 * ((b : Nat) : Int) + 1)) 1 0) (fun k h1 h2 h3 h4 => by (repeat rw [un_ne (by omega)])) un_at (by (repeat rw [un_ne (by decide)])); rw [e] at h; exact h)
    · have c37 := Decidable.of_not_not c37
      refine r_iconst (pc := 40) dX12_plan_40 (in32_of rfl) ?_
      refine r_goto (pc := 41) (tgt := 45) dX12_plan_41 rfl ?_
      refine r_istore_n (pc := 45) (i := 2) (lv' := [_, _, _, _, _]) dX12_plan_45 rfl (by decide) rfl ?_
      refine r_iload_n (pc := 46) (i := 2) dX12_plan_46 rfl rfl ?_
      refine r_if_eq (pc := 47) (tgt := 15) dX12_plan_47 rfl (fun c47 => absurd c47 (by decide)) (fun c47 => ?_)
      refine r_aload_n (pc := 50) (i := 0) dX12_plan_50 rfl rfl ?_
      refine r_dup (pc := 51) dX12_plan_51 rfl ?_
      refine r_getfi (pc := 52) cks dX12_plan_52 fl_X12_83 rfl (kM274 hT) (ltM hT (by omega)) ?_
      refine r_top (b := (un H 9 ((b : Nat) : Int)) 9) (sr_at _ _ _ _) ?_
      refine r_top (b := (b : Int)) (un_at) ?_
      refine r_iconst (pc := 55) dX12_plan_55 (in32_of rfl) ?_
      refine r_iaddN (pc := 56) (c := ((b + 1 : Nat) : Int)) dX12_plan_56 (by unfold w32; omega) ?_
      refine r_putfi (pc := 57) cks dX12_plan_57 fl_X12_83 (pf_12_9 _ _) rfl (kM274 hT) (ltM hT (by omega)) ?_
      refine r_mem (I2 := sr (sr (sr (sr (sr (sr I 280 P) 287 Y) 283 N) 281 (un D.1 (wA B tp a).toNat (xA B tp a))) 282 (un D.2 (wA B tp a).toNat (ibw true 1))) 274 (un (un H 9 ((b : Nat) : Int)) 9 ((b + 1 : Nat) : Int))) (by rw [up2_sr]) ?_
      refine r_goto (pc := 60) (tgt := 15) dX12_plan_60 rfl ?_
      exact Ev.re rfl (by rw [un_un]) (ih v (b + 1) (c + 1) (un D.1 (wA B tp a).toNat (xA B tp a), un D.2 (wA B tp a).toNat (ibw true 1)) ⟨by have := bA_in (by omega : (0 : Int) ≤ bA B tp b); omega, by omega, by omega, by rw [hpl, if_pos c37]⟩ (by omega))
  · intro hl R2 X2 K b hk1 hk2 hk3 hk4
    have hlr := lnF_rng (B := B) (lo := lo) (hi := hi) (X := D.2) hP.1
    obtain ⟨b2, hb⟩ : ∃ b2, b2 = sA B tp b := ⟨_, rfl⟩
    have hb2 : b2 ≤ tp := hb ▸ sA_le hk4
    have hK1 : K 1 = (tp : Int) := (hk1 1 (by decide) (by decide)).trans (H1_un htp)
    have hpl := hP.2.2.2
    rw [hu1, plF_succ B tp lo hi v a, if_pos hl] at hpl
    refine ⟨_, rfl, fun _ => ?_⟩
    refine r_istore_n (pc := 27) (i := 3) (lv' := [_, _, _, _, _]) dX12_plan_27 rfl (by decide) rfl ?_
    refine r_iincN (pc := 28) (i := 1) (c := ((c + 1 : Nat) : Int)) (lv' := [_, _, _, _, _]) dX12_plan_28 rfl (by decide) (by unfold w32; omega) rfl ?_
    refine r_aload_n (pc := 31) (i := 0) dX12_plan_31 rfl rfl ?_
    refine r_callV1 (pc := 32) (d - 1) [] dX12_plan_32 (CV.mk2 mk_X12_next lk_X12_90) (RC.of (ltM hT (by omega)) (kM274 hT) (by decide) rfl) rfl rfl (by omega) (Nat.le_of_ble_eq_true rfl) (Nat.le_of_ble_eq_true rfl) (c_nx (tp := tp) (a := b) (s := b2) (B := B) hT (by omega) hK1 htp2 hk3 hk4 ((rp_ne (by decide)).trans ((pl_ne (by decide)).trans hB)) hb.symm ?_)
    refine ⟨_, rfl, fun _ => ?_⟩
    refine r_bipush (pc := 35) dX12_plan_35 rfl (in32_of rfl) ?_
    refine r_icmp_ne (pc := 37) (tgt := 44) dX12_plan_37 rfl (fun c37 => ?_) (fun c37 => ?_)
    · refine r_iconst (pc := 44) dX12_plan_44 (in32_of rfl) ?_
      refine r_istore_n (pc := 45) (i := 2) (lv' := [_, _, _, _, _]) dX12_plan_45 rfl (by decide) rfl ?_
      refine r_iload_n (pc := 46) (i := 2) dX12_plan_46 rfl rfl ?_
      refine r_if_eq (pc := 47) (tgt := 15) dX12_plan_47 rfl (fun c47 => ?_) (fun c47 => absurd (by decide) c47)
      refine r_iload_n (pc := 15) (i := 3) dX12_plan_15 rfl rfl ?_
      refine r_if_eq (pc := 16) (tgt := 63) dX12_plan_16 rfl (fun c16 => ?_) (fun c16 => absurd (by decide) c16)
      refine r_iload_n (pc := 63) (i := 3) dX12_plan_63 rfl rfl ?_
      refine r_if_eq (pc := 64) (tgt := 85) dX12_plan_64 rfl (fun c64 => ?_) (fun c64 => absurd (by decide) c64)
      refine r_aload_n (pc := 85) (i := 0) dX12_plan_85 rfl rfl ?_
      refine r_iconst (pc := 86) dX12_plan_86 (in32_of rfl) ?_
      refine r_putfi (pc := 87) cks dX12_plan_87 fl_X12_73 (pf_12_1 _ _) rfl (kM274 hT) (ltM hT (by omega)) ?_
      refine r_mem (I2 := sr (sr (sr (sr (sr (sr I 280 P) 287 Y) 283 N) 281 R2) 282 X2) 274 (un (un K 9 ((b2 : Nat) : Int)) 1 0)) (by rw [up2_sr]) ?_
      refine r_iload_n (pc := 90) (i := 3) dX12_plan_90 rfl rfl ?_
      refine r_if_ne (pc := 91) (tgt := 102) dX12_plan_91 rfl (fun c91 => absurd c91 (by decide)) (fun c91 => ?_)
      have c91 := Decidable.of_not_not c91
      refine r_bipush (pc := 94) dX12_plan_94 rfl (in32_of rfl) ?_
      refine r_aload_n (pc := 96) (i := 0) dX12_plan_96 rfl rfl ?_
      refine r_getfi (pc := 97) cks dX12_plan_97 fl_X12_80 rfl (kM274 hT) (ltM hT (by omega)) ?_
      refine r_top (b := (un (un K 9 ((b2 : Nat) : Int)) 1 0) 10) (sr_at _ _ _ _) ?_
      refine r_top (b := (un K 9 ((b2 : Nat) : Int)) 10) (un_ne (by omega)) ?_
      refine r_top (b := K 10) (un_ne (by omega)) ?_
      refine r_top (b := lnF B tp lo hi D.2 a) (hk2) ?_
      refine r_isubN (pc := 100) (c := (-2 - (lnF B tp lo hi D.2 a))) dX12_plan_100 (by unfold w32; omega) ?_
      have e : (plF B tp lo hi 201 0 (usR R U 9) (z8 X 9) 0).1 = -2 - lnF B tp lo hi D.2 a := by rw [hpl]
      exact r_iret (pc := 101) dX12_plan_101 trivial (by have h := hqF (by rw [e]; omega) R2 X2 (un (un K 9 ((b2 : Nat) : Int)) 1 0) (fun k h1 h2 h3 h4 => by (repeat rw [un_ne (by omega)]); exact (hk1 k h2 h3).trans (un_ne h2)) un_at (by (repeat rw [un_ne (by decide)]); exact (hk1 16 (by decide) (by decide)).trans (un_ne (by decide))); rw [e] at h; exact h)
    · have c37 := Decidable.of_not_not c37
      refine r_iconst (pc := 40) dX12_plan_40 (in32_of rfl) ?_
      refine r_goto (pc := 41) (tgt := 45) dX12_plan_41 rfl ?_
      refine r_istore_n (pc := 45) (i := 2) (lv' := [_, _, _, _, _]) dX12_plan_45 rfl (by decide) rfl ?_
      refine r_iload_n (pc := 46) (i := 2) dX12_plan_46 rfl rfl ?_
      refine r_if_eq (pc := 47) (tgt := 15) dX12_plan_47 rfl (fun c47 => absurd c47 (by decide)) (fun c47 => ?_)
      refine r_aload_n (pc := 50) (i := 0) dX12_plan_50 rfl rfl ?_
      refine r_dup (pc := 51) dX12_plan_51 rfl ?_
      refine r_getfi (pc := 52) cks dX12_plan_52 fl_X12_83 rfl (kM274 hT) (ltM hT (by omega)) ?_
      refine r_top (b := (un K 9 ((b2 : Nat) : Int)) 9) (sr_at _ _ _ _) ?_
      refine r_top (b := (b2 : Int)) (un_at) ?_
      refine r_iconst (pc := 55) dX12_plan_55 (in32_of rfl) ?_
      refine r_iaddN (pc := 56) (c := ((b2 + 1 : Nat) : Int)) dX12_plan_56 (by unfold w32; omega) ?_
      refine r_putfi (pc := 57) cks dX12_plan_57 fl_X12_83 (pf_12_9 _ _) rfl (kM274 hT) (ltM hT (by omega)) ?_
      refine r_mem (I2 := sr (sr (sr (sr (sr (sr I 280 P) 287 Y) 283 N) 281 R2) 282 X2) 274 (un (un K 9 ((b2 : Nat) : Int)) 9 ((b2 + 1 : Nat) : Int))) (by rw [up2_sr]) ?_
      refine r_goto (pc := 60) (tgt := 15) dX12_plan_60 rfl ?_
      refine r_iload_n (pc := 15) (i := 3) dX12_plan_15 rfl rfl ?_
      refine r_if_eq (pc := 16) (tgt := 63) dX12_plan_16 rfl (fun c16 => ?_) (fun c16 => absurd (by decide) c16)
      refine r_iload_n (pc := 63) (i := 3) dX12_plan_63 rfl rfl ?_
      refine r_if_eq (pc := 64) (tgt := 85) dX12_plan_64 rfl (fun c64 => ?_) (fun c64 => absurd (by decide) c64)
      refine r_aload_n (pc := 85) (i := 0) dX12_plan_85 rfl rfl ?_
      refine r_iconst (pc := 86) dX12_plan_86 (in32_of rfl) ?_
      refine r_putfi (pc := 87) cks dX12_plan_87 fl_X12_73 (pf_12_1 _ _) rfl (kM274 hT) (ltM hT (by omega)) ?_
      refine r_mem (I2 := sr (sr (sr (sr (sr (sr I 280 P) 287 Y) 283 N) 281 R2) 282 X2) 274 (un (un (un K 9 ((b2 : Nat) : Int)) 9 ((b2 + 1 : Nat) : Int)) 1 0)) (by rw [up2_sr]) ?_
      refine r_iload_n (pc := 90) (i := 3) dX12_plan_90 rfl rfl ?_
      refine r_if_ne (pc := 91) (tgt := 102) dX12_plan_91 rfl (fun c91 => absurd c91 (by decide)) (fun c91 => ?_)
      have c91 := Decidable.of_not_not c91
      refine r_bipush (pc := 94) dX12_plan_94 rfl (in32_of rfl) ?_
      refine r_aload_n (pc := 96) (i := 0) dX12_plan_96 rfl rfl ?_
      refine r_getfi (pc := 97) cks dX12_plan_97 fl_X12_80 rfl (kM274 hT) (ltM hT (by omega)) ?_
      refine r_top (b := (un (un (un K 9 ((b2 : Nat) : Int)) 9 ((b2 + 1 : Nat) : Int)) 1 0) 10) (sr_at _ _ _ _) ?_
      refine r_top (b := (un (un K 9 ((b2 : Nat) : Int)) 9 ((b2 + 1 : Nat) : Int)) 10) (un_ne (by omega)) ?_
      refine r_top (b := (un K 9 ((b2 : Nat) : Int)) 10) (un_ne (by omega)) ?_
      refine r_top (b := K 10) (un_ne (by omega)) ?_
      refine r_top (b := lnF B tp lo hi D.2 a) (hk2) ?_
      refine r_isubN (pc := 100) (c := (-2 - (lnF B tp lo hi D.2 a))) dX12_plan_100 (by unfold w32; omega) ?_
      have e : (plF B tp lo hi 201 0 (usR R U 9) (z8 X 9) 0).1 = -2 - lnF B tp lo hi D.2 a := by rw [hpl]
      exact r_iret (pc := 101) dX12_plan_101 trivial (by have h := hqF (by rw [e]; omega) R2 X2 (un (un (un K 9 ((b2 : Nat) : Int)) 9 ((b2 + 1 : Nat) : Int)) 1 0) (fun k h1 h2 h3 h4 => by (repeat rw [un_ne (by omega)]); exact (hk1 k h2 h3).trans (un_ne h2)) un_at (by (repeat rw [un_ne (by decide)]); exact (hk1 16 (by decide) (by decide)).trans (un_ne (by decide))); rw [e] at h; exact h)
end M33

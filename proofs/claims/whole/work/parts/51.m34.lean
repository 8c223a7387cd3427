section M34
variable {G : Gl} {d : Nat} {T : Sh} {I : Mi} {N : Nat → Int} {Q : Option AV → Sh → Mi → Prop}
theorem ian_ex (x : Int) {m : Nat} (hm : m < 2147483648) : ∃ r : Nat, ian x (m : Int) = (r : Int) ∧ r ≤ m := by
  refine ⟨(oI x).toBitVec.toNat &&& m, ?_, Nat.and_le_right⟩
  refine ext32 (ian_in _ _) (nat_lt31 (Nat.lt_of_le_of_lt Nat.and_le_right hm)) (fun k hk => ?_)
  rw [b32_and, b32_nat, b32_nat, Nat.testBit_and]
  unfold b32
  rw [BitVec.testBit_toNat]
  simp [hk]
theorem tp_9 (x : Int) : w32 (isl 1 9 - 1) = ((511 : Nat) : Int) := by decide +kernel
theorem tp_m9 : w32 (isl 1 9 - 1) = ((2 ^ 9 - 1 : Nat) : Int) := by decide +kernel
theorem tp_m3 : w32 (isl 1 3 - 1) = ((2 ^ 3 - 1 : Nat) : Int) := by decide +kernel
theorem tp_m1 : w32 (isl 1 1 - 1) = ((2 ^ 1 - 1 : Nat) : Int) := by decide +kernel
/-- what a code is made of -/
def cdV (q a b c e : Nat) : Nat := q + 4 * a + 64 * b + 512 * c + 262144 * e
theorem cdL_nat {q a b c e : Nat} (hq : q < 4) (ha : a < 2) (hb : b < 8) (hc : c < 512) (he : e ≤ 256) : cdL q a b c e = ((cdV q a b c e : Nat) : Int) := by
  unfold cdL cdV
  have p2 : (2 : Nat) ^ 2 = 4 := by decide
  have p6 : (2 : Nat) ^ 6 = 64 := by decide
  have p9 : (2 : Nat) ^ 9 = 512 := by decide
  have p18 : (2 : Nat) ^ 18 = 262144 := by decide
  have e1 : isl (a : Int) 2 = ((a * 2 ^ 2 : Nat) : Int) := isl_nat (s := 2) (by decide) (by omega)
  have e2 : isl (b : Int) 6 = ((b * 2 ^ 6 : Nat) : Int) := isl_nat (s := 6) (by decide) (by omega)
  have e3 : isl (c : Int) 9 = ((c * 2 ^ 9 : Nat) : Int) := isl_nat (s := 9) (by decide) (by omega)
  have e4 : isl (e : Int) 18 = ((e * 2 ^ 18 : Nat) : Int) := isl_nat (s := 18) (by decide) (by omega)
  rw [e1, e2, e3, e4, iro_sum (by decide) (by omega) (by omega), iro_sum (by decide) (by omega) (by omega), iro_sum (by decide) (by omega) (by omega), iro_sum (by decide) (by omega) (by omega)]
  omega
theorem cd_k {q a b c e : Nat} (hq : q < 4) (ha : a < 2) (hb : b < 8) (hc : c < 512) (he : e ≤ 256) : ian (cdV q a b c e : Nat) 3 = (q : Int) := by
  have h : ian (cdV q a b c e : Nat) ((2 ^ 2 - 1 : Nat) : Int) = ((cdV q a b c e % 2 ^ 2 : Nat) : Int) := ian_mask 2 (by unfold cdV; omega)
  have p2 : (2 : Nat) ^ 2 = 4 := by decide
  rw [p2] at h
  rw [show (3 : Int) = ((4 - 1 : Nat) : Int) by decide, h]
  unfold cdV
  omega
theorem cd_p {q a b c e f m : Nat} (hf : f < 32) (hq : q < 4) (ha : a < 2) (hb : b < 8) (hc : c < 512) (he : e ≤ 256) : ian (isr (cdV q a b c e : Nat) (f : Int)) ((2 ^ m - 1 : Nat) : Int) = ((cdV q a b c e / 2 ^ f % 2 ^ m : Nat) : Int) := by
  have h0 : cdV q a b c e < 2147483648 := by unfold cdV; omega
  rw [isr_nat hf h0]
  exact ian_mask m (Nat.lt_of_le_of_lt (Nat.div_le_self _ _) h0)
def stO (N : Nat → Int) (p b : Nat) (S : Nat → Int) : Nat → (Nat → Int)
  | 0 => S
  | m + 1 => adS (stO N p b S m) (oP N p (b + m))
theorem stO_succ (N : Nat → Int) (p b : Nat) (S : Nat → Int) (m : Nat) : stO N p b S (m + 1) = adS (stO N p b S m) (oP N p (b + m)) := rfl
def stE (c : Int) (b : Nat) (S : Nat → Int) : Nat → (Nat → Int)
  | 0 => S
  | k + 1 => if c = 0 then adS (stE c b S k) (8 * b + k) else if ian (isr k (c - 1)) 1 = 1 then adS (stE c b S k) (8 * b + k) else stE c b S k
theorem stE_succ (c : Int) (b : Nat) (S : Nat → Int) (k : Nat) : stE c b S (k + 1) = if c = 0 then adS (stE c b S k) (8 * b + k) else if ian (isr k (c - 1)) 1 = 1 then adS (stE c b S k) (8 * b + k) else stE c b S k := rfl
/-- the set of the k-th told -/
def stF (N : Nat → Int) (n : Nat) (k : Int) (S : Nat → Int) : Nat → Int :=
  if tkN N k = 0 then stO N (tpN N k 6 3).toNat (tpN N k 9 9).toNat (z8 S 8) (tpN N k 18 9).toNat
  else if tkN N k = 1 then stE (tpN N k 18 9) (tpN N k 9 9).toNat (z8 S 8) 8
  else lrS N 2580 (tpN N k 9 9).toNat (z8 S 8) n
theorem tpN_9 (N : Nat → Int) (k f : Int) : ∃ r : Nat, tpN N k f 9 = (r : Int) ∧ r ≤ 511 := by
  unfold tpN
  rw [tp_m9]
  exact ian_ex _ (by decide)
theorem tpN_3 (N : Nat → Int) (k f : Int) : ∃ r : Nat, tpN N k f 3 = (r : Int) ∧ r ≤ 7 := by
  unfold tpN
  rw [tp_m3]
  exact ian_ex _ (by decide)
theorem tkN_3 (N : Nat → Int) (k : Int) : tkN N k = 0 ∨ tkN N k = 1 ∨ tkN N k = 2 ∨ tkN N k = 3 := by
  obtain ⟨r, h1, h2⟩ := ian_ex (cdN N k) (m := 3) (by decide)
  unfold tkN
  rw [show (3 : Int) = ((3 : Nat) : Int) from rfl, h1]
  omega
theorem c_laysSet {n : Nat} {k : Int} {S Z Y H : Nat → Int} (hT : ShM T) (hd : 2 ≤ d) (hn : N 1 = (n : Int)) (hn2 : n ≤ 256) (hO : Oin N) (hk0 : 0 ≤ k) (hk1 : k < 13608) (h0 : tkN N k = 0 → tpN N k 6 3 < 6 ∧ tpN N k 9 9 + tpN N k 18 9 ≤ 256) (h1 : tkN N k = 1 → tpN N k 9 9 < 32) (hq : Q none T (sr (sr (sr (sr (sr I 288 (stF N n k S)) 289 Z) 290 Y) 274 H) 283 N)) : EvE G mX12_laysSet d [aR 274, aI k] T (sr (sr (sr (sr (sr I 288 S) 289 Z) 290 Y) 274 H) 283 N) Q := by
  obtain ⟨b, hb, hb2⟩ := tpN_9 N k 9
  obtain ⟨c, hc, hc2⟩ := tpN_9 N k 18
  obtain ⟨p, hp, hp2⟩ := tpN_3 N k 6
  refine EvE.mk (lv0 := [some (aR 274), some (aI k), none, none, none]) (Nat.le_of_ble_eq_true rfl) (by decide +kernel) rfl ?_
  refine r_iconst (pc := 0) dX12_laysSet_0 (in32_of rfl) ?_
  refine r_istore_n (pc := 1) (i := 2) (lv' := [_, _, _, _, _]) dX12_laysSet_1 rfl (by decide) rfl ?_
  refine r_mem (I2 := sr (sr (sr (sr (sr I 288 (z8 S 0)) 289 Z) 290 Y) 274 H) 283 N) (by rw [z8_0]) ?_
  refine loop1 (fun (x : Nat) => x ≤ 8) (fun (x : Nat) => 8 - x) (fun (x : Nat) => [some (aR 274), some (aI k), some (aI ((x : Nat) : Int)), none, none]) (fun _ => T) (fun (x : Nat) => sr (sr (sr (sr (sr I 288 (z8 S x)) 289 Z) 290 Y) 274 H) 283 N) ?_ 0 (Nat.zero_le _)
  intro x hP ih
  have hP : x ≤ 8 := hP
  refine (?_ : Ev G mX12_laysSet d 2 [some (aR 274), some (aI k), some (aI ((x : Nat) : Int)), none, none] [] T (sr (sr (sr (sr (sr I 288 (z8 S x)) 289 Z) 290 Y) 274 H) 283 N) Q)
  refine r_iload_n (pc := 2) (i := 2) dX12_laysSet_2 rfl rfl ?_
  refine r_bipush (pc := 3) dX12_laysSet_3 rfl (in32_of rfl) ?_
  refine r_icmp_ge (pc := 5) (tgt := 21) dX12_laysSet_5 rfl (fun c5 => ?_) (fun c5 => ?_)
  · have hx8 : x = 8 := by omega
    subst hx8
    refine r_aload_n (pc := 21) (i := 0) dX12_laysSet_21 rfl rfl ?_
    refine r_iload_n (pc := 22) (i := 1) dX12_laysSet_22 rfl rfl ?_
    refine r_bipush (pc := 23) dX12_laysSet_23 rfl (in32_of rfl) ?_
    refine r_bipush (pc := 25) dX12_laysSet_25 rfl (in32_of rfl) ?_
    refine r_callV1 (pc := 27) (d - 1) [aI k, aI 9, aI 9] dX12_laysSet_27 (CV.mk2 mk_X12_toldPart lk_X12_251) (RC.of (ltM hT (by omega)) (kM274 hT) (by decide) rfl) rfl rfl (by omega) (Nat.le_of_ble_eq_true rfl) (Nat.le_of_ble_eq_true rfl) (c_toldPart hT hk0 hk1 ?_)
    refine ⟨_, rfl, fun _ => ?_⟩
    refine r_top hb ?_
    refine r_istore_n (pc := 30) (i := 2) (lv' := [_, _, _, _, _]) dX12_laysSet_30 rfl (by decide) rfl ?_
    refine r_aload_n (pc := 31) (i := 0) dX12_laysSet_31 rfl rfl ?_
    refine r_iload_n (pc := 32) (i := 1) dX12_laysSet_32 rfl rfl ?_
    refine r_bipush (pc := 33) dX12_laysSet_33 rfl (in32_of rfl) ?_
    refine r_bipush (pc := 35) dX12_laysSet_35 rfl (in32_of rfl) ?_
    refine r_callV1 (pc := 37) (d - 1) [aI k, aI 18, aI 9] dX12_laysSet_37 (CV.mk2 mk_X12_toldPart lk_X12_251) (RC.of (ltM hT (by omega)) (kM274 hT) (by decide) rfl) rfl rfl (by omega) (Nat.le_of_ble_eq_true rfl) (Nat.le_of_ble_eq_true rfl) (c_toldPart hT hk0 hk1 ?_)
    refine ⟨_, rfl, fun _ => ?_⟩
    refine r_top hc ?_
    refine r_istore_n (pc := 40) (i := 3) (lv' := [_, _, _, _, _]) dX12_laysSet_40 rfl (by decide) rfl ?_
    refine r_aload_n (pc := 41) (i := 0) dX12_laysSet_41 rfl rfl ?_
    refine r_iload_n (pc := 42) (i := 1) dX12_laysSet_42 rfl rfl ?_
    refine r_callV1 (pc := 43) (d - 1) [aI k] dX12_laysSet_43 (CV.mk2 mk_X12_toldKind lk_X12_254) (RC.of (ltM hT (by omega)) (kM274 hT) (by decide) rfl) rfl rfl (by omega) (Nat.le_of_ble_eq_true rfl) (Nat.le_of_ble_eq_true rfl) (c_toldKind hT hk0 hk1 ?_)
    refine ⟨_, rfl, fun _ => ?_⟩
    rcases tkN_3 N k with hx | hx | hx | hx
    · refine r_top hx ?_
      refine r_lsw (pc := 46) (tgt := 72) dX12_laysSet_46 rfl rfl rfl ?_
      have hr0 := h0 hx
      rw [hb, hc, hp] at hr0
      have hst : stF N n k S = stO N p b (z8 S 8) c := by unfold stF; rw [hb, hc, hp, if_pos hx]; rfl
      rw [hst] at hq
      refine r_iload_n (pc := 72) (i := 2) dX12_laysSet_72 rfl rfl ?_
      refine r_istore (pc := 73) (i := 4) (lv' := [_, _, _, _, _]) dX12_laysSet_73 (by decide) rfl ?_
      refine Ev.re (lv2 := [some (aR 274), some (aI k), some (aI ((b : Nat) : Int)), some (aI ((c : Nat) : Int)), some (aI (((b + 0) : Nat) : Int))]) (by rw [Nat.add_zero]) rfl ?_
      refine loop1 (fun (x : Nat) => x ≤ c) (fun (x : Nat) => c - x) (fun (x : Nat) => [some (aR 274), some (aI k), some (aI ((b : Nat) : Int)), some (aI ((c : Nat) : Int)), some (aI (((b + x) : Nat) : Int))]) (fun _ => T) (fun (x : Nat) => sr (sr (sr (sr (sr I 288 (stO N p b (z8 S 8) x)) 289 Z) 290 Y) 274 H) 283 N) ?_ 0 (Nat.zero_le _)
      intro x hP2 ih2
      have hP2 : x ≤ c := hP2
      refine (?_ : Ev G mX12_laysSet d 75 [some (aR 274), some (aI k), some (aI ((b : Nat) : Int)), some (aI ((c : Nat) : Int)), some (aI (((b + x) : Nat) : Int))] [] T (sr (sr (sr (sr (sr I 288 (stO N p b (z8 S 8) x)) 289 Z) 290 Y) 274 H) 283 N) Q)
      refine r_iload (pc := 75) (i := 4) dX12_laysSet_75 rfl ?_
      refine r_iload_n (pc := 77) (i := 2) dX12_laysSet_77 rfl rfl ?_
      refine r_iload_n (pc := 78) (i := 3) dX12_laysSet_78 rfl rfl ?_
      refine r_iaddN (pc := 79) (c := ((b + c : Nat) : Int)) dX12_laysSet_79 (by unfold w32; omega) ?_
      refine r_icmp_ge (pc := 80) (tgt := 117) dX12_laysSet_80 rfl (fun c80 => ?_) (fun c80 => ?_)
      · exact r_vret (pc := 117) dX12_laysSet_117 trivial (by rw [show c = x by omega] at hq; exact hq)
      · have hox := oP_rd (p := p) (k := b + x) hO (by omega)
        refine r_aload_n (pc := 83) (i := 0) dX12_laysSet_83 rfl rfl ?_
        refine r_aload_n (pc := 84) (i := 0) dX12_laysSet_84 rfl rfl ?_
        refine r_getfr (pc := 85) (b := 283) cks dX12_laysSet_85 fl_X12_37 rfl (kM274 hT) (ltM hT (by omega)) (rM11 hT) ?_
        refine r_sipush (pc := 88) dX12_laysSet_88 rfl (in32_of rfl) ?_
        refine r_sipush (pc := 91) dX12_laysSet_91 rfl (in32_of rfl) ?_
        refine r_aload_n (pc := 94) (i := 0) dX12_laysSet_94 rfl rfl ?_
        refine r_iload_n (pc := 95) (i := 1) dX12_laysSet_95 rfl rfl ?_
        refine r_bipush (pc := 96) dX12_laysSet_96 rfl (in32_of rfl) ?_
        refine r_iconst (pc := 98) dX12_laysSet_98 (in32_of rfl) ?_
        refine r_callV1 (pc := 99) (d - 1) [aI k, aI 6, aI 3] dX12_laysSet_99 (CV.mk2 mk_X12_toldPart lk_X12_251) (RC.of (ltM hT (by omega)) (kM274 hT) (by decide) rfl) rfl rfl (by omega) (Nat.le_of_ble_eq_true rfl) (Nat.le_of_ble_eq_true rfl) (c_toldPart hT hk0 hk1 ?_)
        refine ⟨_, rfl, fun _ => ?_⟩
        refine r_top hp ?_
        refine r_imulN (pc := 102) (c := ((256 * p : Nat) : Int)) dX12_laysSet_102 (by unfold w32; omega) ?_
        refine r_iaddN (pc := 103) (c := ((256 * p + 1044 : Nat) : Int)) dX12_laysSet_103 (by unfold w32; omega) ?_
        refine r_iload (pc := 104) (i := 4) dX12_laysSet_104 rfl ?_
        refine r_iaddN (pc := 106) (c := ((256 * p + (b + x) + 1044 : Nat) : Int)) dX12_laysSet_106 (by unfold w32; omega) ?_
        refine r_ild (pc := 107) (256 * p + (b + x) + 1044) dX12_laysSet_107 (kM283 hT) (ltM hT (by omega)) (by omega) (by rw [lM283 hT]; omega) ?_
        refine r_top (b := N (256 * p + (b + x) + 1044)) (sr_at _ _ _ _) ?_
        refine r_top (b := ((oP N p (b + x) : Nat) : Int)) (by rw [show 256 * p + (b + x) + 1044 = 256 * p + (b + x) + 1044 by omega]; exact hox.1) ?_
        refine r_callV0 (pc := 108) (d - 1) [aI (((oP N p (b + x)) : Nat) : Int)] dX12_laysSet_108 (CV.mk2 mk_X12_adds lk_X12_248) (RC.of (ltM hT (by omega)) (kM274 hT) (by decide) rfl) rfl rfl (by omega) (Nat.le_of_ble_eq_true rfl) (Nat.le_of_ble_eq_true rfl) (c_adds (p := oP N p (b + x)) hT (by omega) ?_)
        refine ⟨rfl, fun _ => ?_⟩
        refine r_iincN (pc := 111) (i := 4) (c := (((b + x) + 1 : Nat) : Int)) (lv' := [_, _, _, _, _]) dX12_laysSet_111 rfl (by decide) (by unfold w32; omega) rfl ?_
        refine r_goto (pc := 114) (tgt := 75) dX12_laysSet_114 rfl ?_
        exact Ev.re (by rw [Nat.add_assoc]) (by rw [stO_succ]) (ih2 (x + 1) (by omega) (by omega))
    · refine r_top hx ?_
      refine r_lsw (pc := 46) (tgt := 118) dX12_laysSet_46 rfl rfl rfl ?_
      have hr1 := h1 hx
      rw [hb] at hr1
      have hst : stF N n k S = stE c b (z8 S 8) 8 := by unfold stF; rw [hb, hc, if_neg (by omega), if_pos hx]; rfl
      rw [hst] at hq
      refine r_iconst (pc := 118) dX12_laysSet_118 (in32_of rfl) ?_
      refine r_istore (pc := 119) (i := 4) (lv' := [_, _, _, _, _]) dX12_laysSet_119 (by decide) rfl ?_
      refine loop1 (fun (x : Nat) => x ≤ 8) (fun (x : Nat) => 8 - x) (fun (x : Nat) => [some (aR 274), some (aI k), some (aI ((b : Nat) : Int)), some (aI ((c : Nat) : Int)), some (aI ((x : Nat) : Int))]) (fun _ => T) (fun (x : Nat) => sr (sr (sr (sr (sr I 288 (stE c b (z8 S 8) x)) 289 Z) 290 Y) 274 H) 283 N) ?_ 0 (Nat.zero_le _)
      intro x hP3 ih3
      have hP3 : x ≤ 8 := hP3
      refine (?_ : Ev G mX12_laysSet d 121 [some (aR 274), some (aI k), some (aI ((b : Nat) : Int)), some (aI ((c : Nat) : Int)), some (aI ((x : Nat) : Int))] [] T (sr (sr (sr (sr (sr I 288 (stE c b (z8 S 8) x)) 289 Z) 290 Y) 274 H) 283 N) Q)
      refine r_iload (pc := 121) (i := 4) dX12_laysSet_121 rfl ?_
      refine r_bipush (pc := 123) dX12_laysSet_123 rfl (in32_of rfl) ?_
      refine r_icmp_ge (pc := 125) (tgt := 161) dX12_laysSet_125 rfl (fun c125 => ?_) (fun c125 => ?_)
      · exact r_vret (pc := 161) dX12_laysSet_161 trivial (by rw [show x = 8 by omega]; exact hq)
      · refine r_iload_n (pc := 128) (i := 3) dX12_laysSet_128 rfl rfl ?_
        refine r_if_eq (pc := 129) (tgt := 144) dX12_laysSet_129 rfl (fun c129 => ?_) (fun c129 => ?_)
        · refine r_aload_n (pc := 144) (i := 0) dX12_laysSet_144 rfl rfl ?_
          refine r_bipush (pc := 145) dX12_laysSet_145 rfl (in32_of rfl) ?_
          refine r_iload_n (pc := 147) (i := 2) dX12_laysSet_147 rfl rfl ?_
          refine r_imulN (pc := 148) (c := ((8 * b : Nat) : Int)) dX12_laysSet_148 (by unfold w32; omega) ?_
          refine r_iload (pc := 149) (i := 4) dX12_laysSet_149 rfl ?_
          refine r_iaddN (pc := 151) (c := ((8 * b + x : Nat) : Int)) dX12_laysSet_151 (by unfold w32; omega) ?_
          refine r_callV0 (pc := 152) (d - 1) [aI ((8 * b + x : Nat) : Int)] dX12_laysSet_152 (CV.mk2 mk_X12_adds lk_X12_248) (RC.of (ltM hT (by omega)) (kM274 hT) (by decide) rfl) rfl rfl (by omega) (Nat.le_of_ble_eq_true rfl) (Nat.le_of_ble_eq_true rfl) (c_adds (p := 8 * b + x) hT (by omega) ?_)
          refine ⟨rfl, fun _ => ?_⟩
          refine r_iincN (pc := 155) (i := 4) (c := ((x + 1 : Nat) : Int)) (lv' := [_, _, _, _, _]) dX12_laysSet_155 rfl (by decide) (by unfold w32; omega) rfl ?_
          refine r_goto (pc := 158) (tgt := 121) dX12_laysSet_158 rfl ?_
          exact Ev.re rfl (by rw [stE_succ, if_pos c129]) (ih3 (x + 1) (by omega) (by omega))
        · refine r_iload (pc := 132) (i := 4) dX12_laysSet_132 rfl ?_
          refine r_iload_n (pc := 134) (i := 3) dX12_laysSet_134 rfl rfl ?_
          refine r_iconst (pc := 135) dX12_laysSet_135 (in32_of rfl) ?_
          refine r_isubN (pc := 136) (c := ((c : Int) - 1)) dX12_laysSet_136 (by unfold w32; omega) ?_
          refine r_ishr (pc := 137) dX12_laysSet_137 ?_
          refine r_iconst (pc := 138) dX12_laysSet_138 (in32_of rfl) ?_
          refine r_iand (pc := 139) dX12_laysSet_139 ?_
          refine r_iconst (pc := 140) dX12_laysSet_140 (in32_of rfl) ?_
          refine r_icmp_ne (pc := 141) (tgt := 155) dX12_laysSet_141 rfl (fun c141 => ?_) (fun c141 => ?_)
          · refine r_iincN (pc := 155) (i := 4) (c := ((x + 1 : Nat) : Int)) (lv' := [_, _, _, _, _]) dX12_laysSet_155 rfl (by decide) (by unfold w32; omega) rfl ?_
            refine r_goto (pc := 158) (tgt := 121) dX12_laysSet_158 rfl ?_
            exact Ev.re rfl (by rw [stE_succ, if_neg c129, if_neg c141]) (ih3 (x + 1) (by omega) (by omega))
          · have c141 := Decidable.of_not_not c141
            refine r_aload_n (pc := 144) (i := 0) dX12_laysSet_144 rfl rfl ?_
            refine r_bipush (pc := 145) dX12_laysSet_145 rfl (in32_of rfl) ?_
            refine r_iload_n (pc := 147) (i := 2) dX12_laysSet_147 rfl rfl ?_
            refine r_imulN (pc := 148) (c := ((8 * b : Nat) : Int)) dX12_laysSet_148 (by unfold w32; omega) ?_
            refine r_iload (pc := 149) (i := 4) dX12_laysSet_149 rfl ?_
            refine r_iaddN (pc := 151) (c := ((8 * b + x : Nat) : Int)) dX12_laysSet_151 (by unfold w32; omega) ?_
            refine r_callV0 (pc := 152) (d - 1) [aI ((8 * b + x : Nat) : Int)] dX12_laysSet_152 (CV.mk2 mk_X12_adds lk_X12_248) (RC.of (ltM hT (by omega)) (kM274 hT) (by decide) rfl) rfl rfl (by omega) (Nat.le_of_ble_eq_true rfl) (Nat.le_of_ble_eq_true rfl) (c_adds (p := 8 * b + x) hT (by omega) ?_)
            refine ⟨rfl, fun _ => ?_⟩
            refine r_iincN (pc := 155) (i := 4) (c := ((x + 1 : Nat) : Int)) (lv' := [_, _, _, _, _]) dX12_laysSet_155 rfl (by decide) (by unfold w32; omega) rfl ?_
            refine r_goto (pc := 158) (tgt := 121) dX12_laysSet_158 rfl ?_
            exact Ev.re rfl (by rw [stE_succ, if_neg c129, if_pos c141]) (ih3 (x + 1) (by omega) (by omega))
    · refine r_top hx ?_
      refine r_lsw (pc := 46) (tgt := 162) dX12_laysSet_46 rfl rfl rfl ?_
      have hst : stF N n k S = lrS N 2580 b (z8 S 8) n := by unfold stF; rw [hb, if_neg (by omega), if_neg (by omega)]; rfl
      rw [hst] at hq
      refine r_aload_n (pc := 162) (i := 0) dX12_laysSet_162 rfl rfl ?_
      refine r_sipush (pc := 163) dX12_laysSet_163 rfl (in32_of rfl) ?_
      refine r_iload_n (pc := 166) (i := 2) dX12_laysSet_166 rfl rfl ?_
      refine r_callV0 (pc := 167) (d - 1) [aI 2580, aI ((b : Nat) : Int)] dX12_laysSet_167 (CV.mk2 mk_X12_laysRowSet lk_X12_257) (RC.of (ltM hT (by omega)) (kM274 hT) (by decide) rfl) rfl rfl (by omega) (Nat.le_of_ble_eq_true rfl) (Nat.le_of_ble_eq_true rfl) (c_laysRowSet (n := n) (r := 2580) (i := b) hT (by omega) hn hn2 (by omega) ?_)
      refine ⟨rfl, fun _ => ?_⟩
      exact r_vret (pc := 170) dX12_laysSet_170 trivial hq
    · refine r_top hx ?_
      refine r_lsw (pc := 46) (tgt := 162) dX12_laysSet_46 rfl rfl rfl ?_
      have hst : stF N n k S = lrS N 2580 b (z8 S 8) n := by unfold stF; rw [hb, if_neg (by omega), if_neg (by omega)]; rfl
      rw [hst] at hq
      refine r_aload_n (pc := 162) (i := 0) dX12_laysSet_162 rfl rfl ?_
      refine r_sipush (pc := 163) dX12_laysSet_163 rfl (in32_of rfl) ?_
      refine r_iload_n (pc := 166) (i := 2) dX12_laysSet_166 rfl rfl ?_
      refine r_callV0 (pc := 167) (d - 1) [aI 2580, aI ((b : Nat) : Int)] dX12_laysSet_167 (CV.mk2 mk_X12_laysRowSet lk_X12_257) (RC.of (ltM hT (by omega)) (kM274 hT) (by decide) rfl) rfl rfl (by omega) (Nat.le_of_ble_eq_true rfl) (Nat.le_of_ble_eq_true rfl) (c_laysRowSet (n := n) (r := 2580) (i := b) hT (by omega) hn hn2 (by omega) ?_)
      refine ⟨rfl, fun _ => ?_⟩
      exact r_vret (pc := 170) dX12_laysSet_170 trivial hq
  · refine r_aload_n (pc := 8) (i := 0) dX12_laysSet_8 rfl rfl ?_
    refine r_getfr (pc := 9) (b := 288) cks dX12_laysSet_9 fl_X12_58 rfl (kM274 hT) (ltM hT (by omega)) (rM20 hT) ?_
    refine r_iload_n (pc := 12) (i := 2) dX12_laysSet_12 rfl rfl ?_
    refine r_iconst (pc := 13) dX12_laysSet_13 (in32_of rfl) ?_
    refine r_ist (pc := 14) (x) dX12_laysSet_14 (kM288 hT) (ltM hT (by omega)) rfl (by rw [lM288 hT]; omega) ?_
    refine r_mem (I2 := sr (sr (sr (sr (sr I 288 (un (z8 S x) x 0)) 289 Z) 290 Y) 274 H) 283 N) (by rw [up2_sr_ne (by decide), up2_sr_ne (by decide), up2_sr_ne (by decide), up2_sr_ne (by decide), up2_sr]) ?_
    refine r_iincN (pc := 15) (i := 2) (c := ((x + 1 : Nat) : Int)) (lv' := [_, _, _, _, _]) dX12_laysSet_15 rfl (by decide) (by unfold w32; omega) rfl ?_
    refine r_goto (pc := 18) (tgt := 2) dX12_laysSet_18 rfl ?_
    exact Ev.re rfl (by rw [z8_succ]) (ih (x + 1) (by omega) (by omega))
end M34

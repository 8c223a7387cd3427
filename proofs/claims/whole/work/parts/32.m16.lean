section M16
variable {G : Gl} {d : Nat} {T : Sh} {I : Mi} {N : Nat → Int} {Q : Option AV → Sh → Mi → Prop}
def shfS (M : Nat → Int) (p : Nat) : Nat → (Nat → Int)
  | 0 => M
  | c + 1 => un (un (un (shfS M p c) (p + c + 276) (shfS M p c (p + c + 277))) (p + c + 532) (shfS M p c (p + c + 533))) (p + c + 788) (shfS M p c (p + c + 789))
theorem shfS_succ (M : Nat → Int) (p c : Nat) : shfS M p (c + 1) = un (un (un (shfS M p c) (p + c + 276) (shfS M p c (p + c + 277))) (p + c + 532) (shfS M p c (p + c + 533))) (p + c + 788) (shfS M p c (p + c + 789)) := rfl
theorem Rng_unK {N : Nat → Int} (h : Rng N) {k : Nat} {x : Int} (h0 : 276 ≤ k) (h1 : k < 788) (hx : x = 0 ∨ x = 1) : Rng (un N k x) := Rng_un h ((ok_key h0 h1).mpr hx)
theorem Rng_unF {N : Nat → Int} (h : Rng N) {k : Nat} {x : Int} (h0 : 788 ≤ k) (h1 : k < 2580) (hx : 0 ≤ x ∧ x < 256) : Rng (un N k x) := Rng_un h ((ok_ord h0 h1).mpr hx)
theorem shfS_ok {M : Nat → Int} {p : Nat} (hR : Rng M) : ∀ c, p + c ≤ 255 → Rng (shfS M p c) ∧ ∀ q, ¬ (276 ≤ q ∧ q < 1044) → shfS M p c q = M q := by
  intro c
  induction c with
  | zero => intro _; exact ⟨hR, fun _ _ => rfl⟩
  | succ c ih =>
    intro hc
    obtain ⟨a, b⟩ := ih (by omega)
    have h1 := Rng_key (j := p + c + 277) a (by omega) (by omega)
    have h2 := Rng_key (j := p + c + 533) a (by omega) (by omega)
    have h3 := Rng_of (j := p + c + 789) a (by omega) (by omega)
    rw [shfS_succ]
    refine ⟨Rng_unF (Rng_unK (Rng_unK a (by omega) (by omega) h1) (by omega) (by omega) h2) (by omega) (by omega) h3, fun q hq => ?_⟩
    rw [un_ne (by omega), un_ne (by omega), un_ne (by omega)]
    exact b q hq
def erF (X : Nat → Int) (p : Nat) : Int := dN X 4 + if dN X (p + 276) = dN X (p + 532) then 0 else 1
def smM (X : Nat → Int) (m : Nat) : Nat → Int := un (un (dN X) 4 (erF X (drV X m).toNat)) 1 ((m - 1 : Nat) : Int)
def smI (N : Nat → Int) (n : Nat) : Nat → (Nat → Int)
  | 0 => N
  | k + 1 => shfS (smM (smI N n k) (n - k)) (drV (smI N n k) (n - k)).toNat (n - k - 1 - (drV (smI N n k) (n - k)).toNat)
theorem smI_succ (N : Nat → Int) (n k : Nat) : smI N n (k + 1) = shfS (smM (smI N n k) (n - k)) (drV (smI N n k) (n - k)).toNat (n - k - 1 - (drV (smI N n k) (n - k)).toNat) := rfl
theorem erF_rng {X : Nat → Int} {p k : Nat} (h : 0 ≤ X 4 ∧ X 4 ≤ (k : Int)) : 0 ≤ erF X p ∧ erF X p ≤ ((k + 1 : Nat) : Int) := by
  unfold erF
  rw [dN_ne (by decide)]
  split <;> omega
theorem smI_ok {N : Nat → Int} {n : Nat} (hR : Rng N) (hn : N 1 = (n : Int)) (hn2 : n ≤ 256) (h4 : N 4 = 0) : ∀ k, k ≤ 128 → k ≤ n - 1 → Rng (smI N n k) ∧ smI N n k 1 = ((n - k : Nat) : Int) ∧ (0 ≤ smI N n k 4 ∧ smI N n k 4 ≤ (k : Int)) ∧ ∀ q, q ≠ 1 → q ≠ 4 → q ≠ 8 → ¬ (276 ≤ q ∧ q < 1044) → smI N n k q = N q := by
  intro k
  induction k with
  | zero => intro _ _; exact ⟨hR, hn, by rw [show smI N n 0 = N from rfl, h4]; omega, fun _ _ _ _ _ => rfl⟩
  | succ k ih =>
    intro hk hk2
    obtain ⟨a, b, c, e⟩ := ih (by omega) (by omega)
    have hj := drV_rng (smI N n k) (k := n - k) (by omega)
    have her := erF_rng (p := (drV (smI N n k) (n - k)).toNat) c
    have hM : Rng (smM (smI N n k) (n - k)) := Rng_un (Rng_un (Rng_d a) (ok_4.mpr (by omega))) (ok_1.mpr (by omega))
    obtain ⟨f, g⟩ := shfS_ok (p := (drV (smI N n k) (n - k)).toNat) hM (n - k - 1 - (drV (smI N n k) (n - k)).toNat) (by omega)
    rw [smI_succ]
    refine ⟨f, ?_, ?_, fun q h1 h2 h3 h5 => ?_⟩
    · rw [g 1 (by omega)]; unfold smM; rw [un_at]; rfl
    · rw [g 4 (by omega)]; unfold smM; rw [un_ne (by decide), un_at]; exact her
    · rw [g q h5]; unfold smM; rw [un_ne h1, un_ne h2, dN_ne h3]; exact e q h1 h2 h3 h5
theorem rtS_le (q : Int) : ∀ u r, rtS q u r ≤ r + u := by
  intro u
  induction u with
  | zero => intro r; exact Nat.le_refl r
  | succ u ih =>
    intro r
    rw [rtS_succ]
    split
    · have := ih (r + 1); omega
    · omega
theorem rtA_le (q : Int) : rtA q ≤ 700 := by have := rtS_le q 700 0; unfold rtA; omega
def bdE (e : Int) (m : Nat) : Int := if m = 0 then 250 else 1000 * (e + 1 + rtA (4 * e + 4)) / (m : Int)
def bdF (e : Int) (m : Nat) : Int := if bdE e m ≤ 500 then bdE e m else 500
theorem bdF_rng {e : Int} {m : Nat} (h : 0 ≤ e) : 0 ≤ bdF e m ∧ bdF e m ≤ 500 := by
  have : 0 ≤ bdE e m := by
    unfold bdE
    split
    · omega
    · exact Int.ediv_nonneg (by omega) (by omega)
  unfold bdF
  split <;> omega
def smK (N : Nat → Int) (n s : Nat) : Nat → Int := smI N n (min s (n - 1))
def smF (N : Nat → Int) (n s : Nat) : Nat → Int := un (un (smK N n s) 5 (bdF (smK N n s 4) (min s (n - 1)))) 0 2
theorem c_samples {n s : Nat} (hT : ShM T) (hd : 2 ≤ d) (hn : N 1 = (n : Int)) (hn2 : n ≤ 256) (hR : Rng N) (h4 : N 4 = 0) (hs : I 280 4 = (s : Int)) (hs2 : s ≤ 128) (hq : Q none T (sr I 283 (smF N n s))) : EvE G mX12_samples d [aR 274] T (sr I 283 N) Q := by
  refine EvE.mk (lv0 := [some (aR 274), none, none, none, none]) (Nat.le_of_ble_eq_true rfl) (by decide +kernel) rfl ?_
  refine r_iconst (pc := 0) dX12_samples_0 (in32_of rfl) ?_
  refine r_istore_n (pc := 1) (i := 1) (lv' := [_, _, _, _, _]) dX12_samples_1 rfl (by decide) rfl ?_
  refine r_iconst (pc := 2) dX12_samples_2 (in32_of rfl) ?_
  refine r_istore_n (pc := 3) (i := 2) (lv' := [_, _, _, _, _]) dX12_samples_3 rfl (by decide) rfl ?_
  refine loop1 (fun (k : Nat) => k ≤ s ∧ k ≤ n - 1) (fun (k : Nat) => s - k) (fun (k : Nat) => [some (aR 274), some (aI ((k : Nat) : Int)), some (aI ((k : Nat) : Int)), none, none]) (fun _ => T) (fun (k : Nat) => sr I 283 (smI N n k)) ?_ 0 ⟨Nat.zero_le _, Nat.zero_le _⟩
  intro k hP ih
  have hP : k ≤ s ∧ k ≤ n - 1 := hP
  have hX := smI_ok hR hn hn2 h4 k (by omega) hP.2
  have h40 : dN (smI N n k) 4 = smI N n k 4 := dN_ne (by decide)
  have h41 : dN (smI N n k) 1 = ((n - k : Nat) : Int) := (dN_ne (by decide)).trans hX.2.1
  refine (?_ : Ev G mX12_samples d 4 [some (aR 274), some (aI ((k : Nat) : Int)), some (aI ((k : Nat) : Int)), none, none] [] T (sr I 283 (smI N n k)) Q)
  refine r_iload_n (pc := 4) (i := 2) dX12_samples_4 rfl rfl ?_
  refine r_aload_n (pc := 5) (i := 0) dX12_samples_5 rfl rfl ?_
  refine r_getfr (pc := 6) (b := 280) cks dX12_samples_6 fl_X12_27 rfl (kM274 hT) (ltM hT (by omega)) (rM6 hT) ?_
  refine r_iconst (pc := 9) dX12_samples_9 (in32_of rfl) ?_
  refine r_ild (pc := 10) (4) dX12_samples_10 (kM280 hT) (ltM hT (by omega)) (by omega) (by rw [lM280 hT]; omega) ?_
  refine r_top (b := I 280 4) ((congrFun (sr_ne (by decide)) _).trans (rfl)) ?_
  refine r_top (b := ((s : Nat) : Int)) (hs) ?_
  refine r_icmp_ge (pc := 11) (tgt := 183) dX12_samples_11 rfl (fun c11 => ?_) (fun c11 => ?_)
  · refine r_iload_n (pc := 183) (i := 1) dX12_samples_183 rfl rfl ?_
    refine r_if_ne (pc := 184) (tgt := 193) dX12_samples_184 rfl (fun c184 => ?_) (fun c184 => ?_)
    · have h44 := hX.2.2.1
      have hrt := rtA_le (4 * smI N n k 4 + 4)
      refine r_sipush (pc := 193) dX12_samples_193 rfl (in32_of rfl) ?_
      refine r_aload_n (pc := 196) (i := 0) dX12_samples_196 rfl rfl ?_
      refine r_getfr (pc := 197) (b := 283) cks dX12_samples_197 fl_X12_37 rfl (kM274 hT) (ltM hT (by omega)) (rM11 hT) ?_
      refine r_iconst (pc := 200) dX12_samples_200 (in32_of rfl) ?_
      refine r_ild (pc := 201) (4) dX12_samples_201 (kM283 hT) (ltM hT (by omega)) (by omega) (by rw [lM283 hT]; omega) ?_
      refine r_top (b := (smI N n k) 4) (sr_at _ _ _ _) ?_
      refine r_iconst (pc := 202) dX12_samples_202 (in32_of rfl) ?_
      refine r_iaddN (pc := 203) (c := (((smI N n k) 4) + 1)) dX12_samples_203 (by unfold w32; omega) ?_
      refine r_iconst (pc := 204) dX12_samples_204 (in32_of rfl) ?_
      refine r_aload_n (pc := 205) (i := 0) dX12_samples_205 rfl rfl ?_
      refine r_getfr (pc := 206) (b := 283) cks dX12_samples_206 fl_X12_37 rfl (kM274 hT) (ltM hT (by omega)) (rM11 hT) ?_
      refine r_iconst (pc := 209) dX12_samples_209 (in32_of rfl) ?_
      refine r_ild (pc := 210) (4) dX12_samples_210 (kM283 hT) (ltM hT (by omega)) (by omega) (by rw [lM283 hT]; omega) ?_
      refine r_top (b := (smI N n k) 4) (sr_at _ _ _ _) ?_
      refine r_imulN (pc := 211) (c := (4 * ((smI N n k) 4))) dX12_samples_211 (by unfold w32; omega) ?_
      refine r_iconst (pc := 212) dX12_samples_212 (in32_of rfl) ?_
      refine r_iaddN (pc := 213) (c := (4 * ((smI N n k) 4) + 4)) dX12_samples_213 (by unfold w32; omega) ?_
      refine r_callS1 (pc := 214) (d - 1) [aI (4 * ((smI N n k) 4) + 4)] dX12_samples_214 (CS.mk2 mk_X12_root lk_X12_155) rfl rfl (by omega) (Nat.le_of_ble_eq_true rfl) (Nat.le_of_ble_eq_true rfl) (c_root (by omega) ?_)
      refine ⟨_, rfl, fun _ => ?_⟩
      refine r_iaddN (pc := 217) (c := (((smI N n k) 4) + (((rtA (4 * ((smI N n k) 4) + 4)) : Nat) : Int) + 1)) dX12_samples_217 (by unfold w32; omega) ?_
      refine r_imulN (pc := 218) (c := (1000 * (smI N n k 4 + 1 + ((rtA (4 * smI N n k 4 + 4) : Nat) : Int)))) dX12_samples_218 (by have := rtA_le (4 * smI N n k 4 + 4); unfold w32; omega) ?_
      refine r_iload_n (pc := 219) (i := 1) dX12_samples_219 rfl rfl ?_
      refine r_idiv (pc := 220) dX12_samples_220 (by omega) ?_
      refine r_top (b := (1000 * (smI N n k 4 + 1 + ((rtA (4 * smI N n k 4 + 4) : Nat) : Int)) / (k : Int))) (by have := rtA_le (4 * smI N n k 4 + 4); have := hX.2.2.1; rw [idv_n (by unfold in32; omega) (by unfold in32; omega) (by omega) (by omega)]) ?_
      refine r_istore_n (pc := 221) (i := 2) (lv' := [_, _, _, _, _]) dX12_samples_221 rfl (by decide) rfl ?_
      refine r_aload_n (pc := 222) (i := 0) dX12_samples_222 rfl rfl ?_
      refine r_getfr (pc := 223) (b := 283) cks dX12_samples_223 fl_X12_37 rfl (kM274 hT) (ltM hT (by omega)) (rM11 hT) ?_
      refine r_iconst (pc := 226) dX12_samples_226 (in32_of rfl) ?_
      refine r_iload_n (pc := 227) (i := 2) dX12_samples_227 rfl rfl ?_
      refine r_sipush (pc := 228) dX12_samples_228 rfl (in32_of rfl) ?_
      refine r_icmp_le (pc := 231) (tgt := 240) dX12_samples_231 rfl (fun c231 => ?_) (fun c231 => ?_)
      · refine r_iload_n (pc := 240) (i := 2) dX12_samples_240 rfl rfl ?_
        refine r_ist (pc := 241) (5) dX12_samples_241 (kM283 hT) (ltM hT (by omega)) (by omega) (by rw [lM283 hT]; omega) ?_
        refine r_mem (I2 := sr I 283 (un (smI N n k) 5 (1000 * (smI N n k 4 + 1 + ((rtA (4 * smI N n k 4 + 4) : Nat) : Int)) / (k : Int)))) (by rw [up2_sr]) ?_
        refine r_aload_n (pc := 242) (i := 0) dX12_samples_242 rfl rfl ?_
        refine r_getfr (pc := 243) (b := 283) cks dX12_samples_243 fl_X12_37 rfl (kM274 hT) (ltM hT (by omega)) (rM11 hT) ?_
        refine r_iconst (pc := 246) dX12_samples_246 (in32_of rfl) ?_
        refine r_iconst (pc := 247) dX12_samples_247 (in32_of rfl) ?_
        refine r_ist (pc := 248) (0) dX12_samples_248 (kM283 hT) (ltM hT (by omega)) (by omega) (by rw [lM283 hT]; omega) ?_
        refine r_mem (I2 := sr I 283 (un (un (smI N n k) 5 (1000 * (smI N n k 4 + 1 + ((rtA (4 * smI N n k 4 + 4) : Nat) : Int)) / (k : Int))) 0 2)) (by rw [up2_sr]) ?_
        have hb : bdF (smI N n k 4) k = 1000 * (smI N n k 4 + 1 + ((rtA (4 * smI N n k 4 + 4) : Nat) : Int)) / (k : Int) := by unfold bdF; rw [show bdE (smI N n k 4) k = 1000 * (smI N n k 4 + 1 + ((rtA (4 * smI N n k 4 + 4) : Nat) : Int)) / (k : Int) from if_neg (by omega)]; rw [if_pos c231]
        exact r_vret (pc := 249) dX12_samples_249 trivial (by have hk : min s (n - 1) = k := (by omega); unfold smF smK at hq; rw [hk, hb] at hq; exact hq)
      · refine r_sipush (pc := 234) dX12_samples_234 rfl (in32_of rfl) ?_
        refine r_goto (pc := 237) (tgt := 241) dX12_samples_237 rfl ?_
        refine r_ist (pc := 241) (5) dX12_samples_241 (kM283 hT) (ltM hT (by omega)) (by omega) (by rw [lM283 hT]; omega) ?_
        refine r_mem (I2 := sr I 283 (un (smI N n k) 5 500)) (by rw [up2_sr]) ?_
        refine r_aload_n (pc := 242) (i := 0) dX12_samples_242 rfl rfl ?_
        refine r_getfr (pc := 243) (b := 283) cks dX12_samples_243 fl_X12_37 rfl (kM274 hT) (ltM hT (by omega)) (rM11 hT) ?_
        refine r_iconst (pc := 246) dX12_samples_246 (in32_of rfl) ?_
        refine r_iconst (pc := 247) dX12_samples_247 (in32_of rfl) ?_
        refine r_ist (pc := 248) (0) dX12_samples_248 (kM283 hT) (ltM hT (by omega)) (by omega) (by rw [lM283 hT]; omega) ?_
        refine r_mem (I2 := sr I 283 (un (un (smI N n k) 5 500) 0 2)) (by rw [up2_sr]) ?_
        have hb : bdF (smI N n k 4) k = 500 := by unfold bdF; rw [show bdE (smI N n k 4) k = 1000 * (smI N n k 4 + 1 + ((rtA (4 * smI N n k 4 + 4) : Nat) : Int)) / (k : Int) from if_neg (by omega)]; rw [if_neg c231]
        exact r_vret (pc := 249) dX12_samples_249 trivial (by have hk : min s (n - 1) = k := (by omega); unfold smF smK at hq; rw [hk, hb] at hq; exact hq)
    · have c184 := Decidable.of_not_not c184
      refine r_sipush (pc := 187) dX12_samples_187 rfl (in32_of rfl) ?_
      refine r_goto (pc := 190) (tgt := 221) dX12_samples_190 rfl ?_
      refine r_istore_n (pc := 221) (i := 2) (lv' := [_, _, _, _, _]) dX12_samples_221 rfl (by decide) rfl ?_
      refine r_aload_n (pc := 222) (i := 0) dX12_samples_222 rfl rfl ?_
      refine r_getfr (pc := 223) (b := 283) cks dX12_samples_223 fl_X12_37 rfl (kM274 hT) (ltM hT (by omega)) (rM11 hT) ?_
      refine r_iconst (pc := 226) dX12_samples_226 (in32_of rfl) ?_
      refine r_iload_n (pc := 227) (i := 2) dX12_samples_227 rfl rfl ?_
      refine r_sipush (pc := 228) dX12_samples_228 rfl (in32_of rfl) ?_
      refine r_icmp_le (pc := 231) (tgt := 240) dX12_samples_231 rfl (fun c231 => ?_) (fun c231 => absurd (by decide) c231)
      refine r_iload_n (pc := 240) (i := 2) dX12_samples_240 rfl rfl ?_
      refine r_ist (pc := 241) (5) dX12_samples_241 (kM283 hT) (ltM hT (by omega)) (by omega) (by rw [lM283 hT]; omega) ?_
      refine r_mem (I2 := sr I 283 (un (smI N n k) 5 250)) (by rw [up2_sr]) ?_
      refine r_aload_n (pc := 242) (i := 0) dX12_samples_242 rfl rfl ?_
      refine r_getfr (pc := 243) (b := 283) cks dX12_samples_243 fl_X12_37 rfl (kM274 hT) (ltM hT (by omega)) (rM11 hT) ?_
      refine r_iconst (pc := 246) dX12_samples_246 (in32_of rfl) ?_
      refine r_iconst (pc := 247) dX12_samples_247 (in32_of rfl) ?_
      refine r_ist (pc := 248) (0) dX12_samples_248 (kM283 hT) (ltM hT (by omega)) (by omega) (by rw [lM283 hT]; omega) ?_
      refine r_mem (I2 := sr I 283 (un (un (smI N n k) 5 250) 0 2)) (by rw [up2_sr]) ?_
      have hb : bdF (smI N n k 4) k = 250 := by unfold bdF; rw [show bdE (smI N n k 4) k = 250 from if_pos (by omega)]; rfl
      exact r_vret (pc := 249) dX12_samples_249 trivial (by have hk : min s (n - 1) = k := (by omega); unfold smF smK at hq; rw [hk, hb] at hq; exact hq)
  · refine r_aload_n (pc := 14) (i := 0) dX12_samples_14 rfl rfl ?_
    refine r_getfr (pc := 15) (b := 283) cks dX12_samples_15 fl_X12_37 rfl (kM274 hT) (ltM hT (by omega)) (rM11 hT) ?_
    refine r_iconst (pc := 18) dX12_samples_18 (in32_of rfl) ?_
    refine r_ild (pc := 19) (1) dX12_samples_19 (kM283 hT) (ltM hT (by omega)) (by omega) (by rw [lM283 hT]; omega) ?_
    refine r_top (b := (smI N n k) 1) (sr_at _ _ _ _) ?_
    refine r_top (b := (((n - k) : Nat) : Int)) (hX.2.1) ?_
    refine r_iconst (pc := 20) dX12_samples_20 (in32_of rfl) ?_
    refine r_icmp_le (pc := 21) (tgt := 183) dX12_samples_21 rfl (fun c21 => ?_) (fun c21 => ?_)
    · refine r_iload_n (pc := 183) (i := 1) dX12_samples_183 rfl rfl ?_
      refine r_if_ne (pc := 184) (tgt := 193) dX12_samples_184 rfl (fun c184 => ?_) (fun c184 => ?_)
      · have h44 := hX.2.2.1
        have hrt := rtA_le (4 * smI N n k 4 + 4)
        refine r_sipush (pc := 193) dX12_samples_193 rfl (in32_of rfl) ?_
        refine r_aload_n (pc := 196) (i := 0) dX12_samples_196 rfl rfl ?_
        refine r_getfr (pc := 197) (b := 283) cks dX12_samples_197 fl_X12_37 rfl (kM274 hT) (ltM hT (by omega)) (rM11 hT) ?_
        refine r_iconst (pc := 200) dX12_samples_200 (in32_of rfl) ?_
        refine r_ild (pc := 201) (4) dX12_samples_201 (kM283 hT) (ltM hT (by omega)) (by omega) (by rw [lM283 hT]; omega) ?_
        refine r_top (b := (smI N n k) 4) (sr_at _ _ _ _) ?_
        refine r_iconst (pc := 202) dX12_samples_202 (in32_of rfl) ?_
        refine r_iaddN (pc := 203) (c := (((smI N n k) 4) + 1)) dX12_samples_203 (by unfold w32; omega) ?_
        refine r_iconst (pc := 204) dX12_samples_204 (in32_of rfl) ?_
        refine r_aload_n (pc := 205) (i := 0) dX12_samples_205 rfl rfl ?_
        refine r_getfr (pc := 206) (b := 283) cks dX12_samples_206 fl_X12_37 rfl (kM274 hT) (ltM hT (by omega)) (rM11 hT) ?_
        refine r_iconst (pc := 209) dX12_samples_209 (in32_of rfl) ?_
        refine r_ild (pc := 210) (4) dX12_samples_210 (kM283 hT) (ltM hT (by omega)) (by omega) (by rw [lM283 hT]; omega) ?_
        refine r_top (b := (smI N n k) 4) (sr_at _ _ _ _) ?_
        refine r_imulN (pc := 211) (c := (4 * ((smI N n k) 4))) dX12_samples_211 (by unfold w32; omega) ?_
        refine r_iconst (pc := 212) dX12_samples_212 (in32_of rfl) ?_
        refine r_iaddN (pc := 213) (c := (4 * ((smI N n k) 4) + 4)) dX12_samples_213 (by unfold w32; omega) ?_
        refine r_callS1 (pc := 214) (d - 1) [aI (4 * ((smI N n k) 4) + 4)] dX12_samples_214 (CS.mk2 mk_X12_root lk_X12_155) rfl rfl (by omega) (Nat.le_of_ble_eq_true rfl) (Nat.le_of_ble_eq_true rfl) (c_root (by omega) ?_)
        refine ⟨_, rfl, fun _ => ?_⟩
        refine r_iaddN (pc := 217) (c := (((smI N n k) 4) + (((rtA (4 * ((smI N n k) 4) + 4)) : Nat) : Int) + 1)) dX12_samples_217 (by unfold w32; omega) ?_
        refine r_imulN (pc := 218) (c := (1000 * (smI N n k 4 + 1 + ((rtA (4 * smI N n k 4 + 4) : Nat) : Int)))) dX12_samples_218 (by have := rtA_le (4 * smI N n k 4 + 4); unfold w32; omega) ?_
        refine r_iload_n (pc := 219) (i := 1) dX12_samples_219 rfl rfl ?_
        refine r_idiv (pc := 220) dX12_samples_220 (by omega) ?_
        refine r_top (b := (1000 * (smI N n k 4 + 1 + ((rtA (4 * smI N n k 4 + 4) : Nat) : Int)) / (k : Int))) (by have := rtA_le (4 * smI N n k 4 + 4); have := hX.2.2.1; rw [idv_n (by unfold in32; omega) (by unfold in32; omega) (by omega) (by omega)]) ?_
        refine r_istore_n (pc := 221) (i := 2) (lv' := [_, _, _, _, _]) dX12_samples_221 rfl (by decide) rfl ?_
        refine r_aload_n (pc := 222) (i := 0) dX12_samples_222 rfl rfl ?_
        refine r_getfr (pc := 223) (b := 283) cks dX12_samples_223 fl_X12_37 rfl (kM274 hT) (ltM hT (by omega)) (rM11 hT) ?_
        refine r_iconst (pc := 226) dX12_samples_226 (in32_of rfl) ?_
        refine r_iload_n (pc := 227) (i := 2) dX12_samples_227 rfl rfl ?_
        refine r_sipush (pc := 228) dX12_samples_228 rfl (in32_of rfl) ?_
        refine r_icmp_le (pc := 231) (tgt := 240) dX12_samples_231 rfl (fun c231 => ?_) (fun c231 => ?_)
        · refine r_iload_n (pc := 240) (i := 2) dX12_samples_240 rfl rfl ?_
          refine r_ist (pc := 241) (5) dX12_samples_241 (kM283 hT) (ltM hT (by omega)) (by omega) (by rw [lM283 hT]; omega) ?_
          refine r_mem (I2 := sr I 283 (un (smI N n k) 5 (1000 * (smI N n k 4 + 1 + ((rtA (4 * smI N n k 4 + 4) : Nat) : Int)) / (k : Int)))) (by rw [up2_sr]) ?_
          refine r_aload_n (pc := 242) (i := 0) dX12_samples_242 rfl rfl ?_
          refine r_getfr (pc := 243) (b := 283) cks dX12_samples_243 fl_X12_37 rfl (kM274 hT) (ltM hT (by omega)) (rM11 hT) ?_
          refine r_iconst (pc := 246) dX12_samples_246 (in32_of rfl) ?_
          refine r_iconst (pc := 247) dX12_samples_247 (in32_of rfl) ?_
          refine r_ist (pc := 248) (0) dX12_samples_248 (kM283 hT) (ltM hT (by omega)) (by omega) (by rw [lM283 hT]; omega) ?_
          refine r_mem (I2 := sr I 283 (un (un (smI N n k) 5 (1000 * (smI N n k 4 + 1 + ((rtA (4 * smI N n k 4 + 4) : Nat) : Int)) / (k : Int))) 0 2)) (by rw [up2_sr]) ?_
          have hb : bdF (smI N n k 4) k = 1000 * (smI N n k 4 + 1 + ((rtA (4 * smI N n k 4 + 4) : Nat) : Int)) / (k : Int) := by unfold bdF; rw [show bdE (smI N n k 4) k = 1000 * (smI N n k 4 + 1 + ((rtA (4 * smI N n k 4 + 4) : Nat) : Int)) / (k : Int) from if_neg (by omega)]; rw [if_pos c231]
          exact r_vret (pc := 249) dX12_samples_249 trivial (by have hk : min s (n - 1) = k := (by omega); unfold smF smK at hq; rw [hk, hb] at hq; exact hq)
        · refine r_sipush (pc := 234) dX12_samples_234 rfl (in32_of rfl) ?_
          refine r_goto (pc := 237) (tgt := 241) dX12_samples_237 rfl ?_
          refine r_ist (pc := 241) (5) dX12_samples_241 (kM283 hT) (ltM hT (by omega)) (by omega) (by rw [lM283 hT]; omega) ?_
          refine r_mem (I2 := sr I 283 (un (smI N n k) 5 500)) (by rw [up2_sr]) ?_
          refine r_aload_n (pc := 242) (i := 0) dX12_samples_242 rfl rfl ?_
          refine r_getfr (pc := 243) (b := 283) cks dX12_samples_243 fl_X12_37 rfl (kM274 hT) (ltM hT (by omega)) (rM11 hT) ?_
          refine r_iconst (pc := 246) dX12_samples_246 (in32_of rfl) ?_
          refine r_iconst (pc := 247) dX12_samples_247 (in32_of rfl) ?_
          refine r_ist (pc := 248) (0) dX12_samples_248 (kM283 hT) (ltM hT (by omega)) (by omega) (by rw [lM283 hT]; omega) ?_
          refine r_mem (I2 := sr I 283 (un (un (smI N n k) 5 500) 0 2)) (by rw [up2_sr]) ?_
          have hb : bdF (smI N n k 4) k = 500 := by unfold bdF; rw [show bdE (smI N n k 4) k = 1000 * (smI N n k 4 + 1 + ((rtA (4 * smI N n k 4 + 4) : Nat) : Int)) / (k : Int) from if_neg (by omega)]; rw [if_neg c231]
          exact r_vret (pc := 249) dX12_samples_249 trivial (by have hk : min s (n - 1) = k := (by omega); unfold smF smK at hq; rw [hk, hb] at hq; exact hq)
      · have c184 := Decidable.of_not_not c184
        refine r_sipush (pc := 187) dX12_samples_187 rfl (in32_of rfl) ?_
        refine r_goto (pc := 190) (tgt := 221) dX12_samples_190 rfl ?_
        refine r_istore_n (pc := 221) (i := 2) (lv' := [_, _, _, _, _]) dX12_samples_221 rfl (by decide) rfl ?_
        refine r_aload_n (pc := 222) (i := 0) dX12_samples_222 rfl rfl ?_
        refine r_getfr (pc := 223) (b := 283) cks dX12_samples_223 fl_X12_37 rfl (kM274 hT) (ltM hT (by omega)) (rM11 hT) ?_
        refine r_iconst (pc := 226) dX12_samples_226 (in32_of rfl) ?_
        refine r_iload_n (pc := 227) (i := 2) dX12_samples_227 rfl rfl ?_
        refine r_sipush (pc := 228) dX12_samples_228 rfl (in32_of rfl) ?_
        refine r_icmp_le (pc := 231) (tgt := 240) dX12_samples_231 rfl (fun c231 => ?_) (fun c231 => absurd (by decide) c231)
        refine r_iload_n (pc := 240) (i := 2) dX12_samples_240 rfl rfl ?_
        refine r_ist (pc := 241) (5) dX12_samples_241 (kM283 hT) (ltM hT (by omega)) (by omega) (by rw [lM283 hT]; omega) ?_
        refine r_mem (I2 := sr I 283 (un (smI N n k) 5 250)) (by rw [up2_sr]) ?_
        refine r_aload_n (pc := 242) (i := 0) dX12_samples_242 rfl rfl ?_
        refine r_getfr (pc := 243) (b := 283) cks dX12_samples_243 fl_X12_37 rfl (kM274 hT) (ltM hT (by omega)) (rM11 hT) ?_
        refine r_iconst (pc := 246) dX12_samples_246 (in32_of rfl) ?_
        refine r_iconst (pc := 247) dX12_samples_247 (in32_of rfl) ?_
        refine r_ist (pc := 248) (0) dX12_samples_248 (kM283 hT) (ltM hT (by omega)) (by omega) (by rw [lM283 hT]; omega) ?_
        refine r_mem (I2 := sr I 283 (un (un (smI N n k) 5 250) 0 2)) (by rw [up2_sr]) ?_
        have hb : bdF (smI N n k 4) k = 250 := by unfold bdF; rw [show bdE (smI N n k 4) k = 250 from if_pos (by omega)]; rfl
        exact r_vret (pc := 249) dX12_samples_249 trivial (by have hk : min s (n - 1) = k := (by omega); unfold smF smK at hq; rw [hk, hb] at hq; exact hq)
    · refine r_aload_n (pc := 24) (i := 0) dX12_samples_24 rfl rfl ?_
      refine r_aload_n (pc := 25) (i := 0) dX12_samples_25 rfl rfl ?_
      refine r_getfr (pc := 26) (b := 283) cks dX12_samples_26 fl_X12_37 rfl (kM274 hT) (ltM hT (by omega)) (rM11 hT) ?_
      refine r_iconst (pc := 29) dX12_samples_29 (in32_of rfl) ?_
      refine r_ild (pc := 30) (1) dX12_samples_30 (kM283 hT) (ltM hT (by omega)) (by omega) (by rw [lM283 hT]; omega) ?_
      refine r_top (b := (smI N n k) 1) (sr_at _ _ _ _) ?_
      refine r_top (b := (((n - k) : Nat) : Int)) (hX.2.1) ?_
      refine r_callV1 (pc := 31) (d - 1) [aI (((n - k) : Nat) : Int)] dX12_samples_31 (CV.mk2 mk_X12_draw lk_X12_135) (RC.of (ltM hT (by omega)) (kM274 hT) (by decide) rfl) rfl rfl (by omega) (Nat.le_of_ble_eq_true rfl) (Nat.le_of_ble_eq_true rfl) (c_drw (k := n - k) (N := smI N n k) hT (Rng_x hX.1) (by omega) (by omega) ?_)
      refine ⟨_, rfl, fun _ => ?_⟩
      have hj := drV_rng (smI N n k) (k := n - k) (by omega)
      refine r_top (b := (((drV (smI N n k) (n - k)).toNat : Nat) : Int)) (by omega) ?_
      refine r_istore_n (pc := 34) (i := 3) (lv' := [_, _, _, _, _]) dX12_samples_34 rfl (by decide) rfl ?_
      refine r_aload_n (pc := 35) (i := 0) dX12_samples_35 rfl rfl ?_
      refine r_getfr (pc := 36) (b := 283) cks dX12_samples_36 fl_X12_37 rfl (kM274 hT) (ltM hT (by omega)) (rM11 hT) ?_
      refine r_iconst (pc := 39) dX12_samples_39 (in32_of rfl) ?_
      refine r_dup2 (pc := 40) dX12_samples_40 rfl rfl ?_
      refine r_ild (pc := 41) (4) dX12_samples_41 (kM283 hT) (ltM hT (by omega)) (by omega) (by rw [lM283 hT]; omega) ?_
      refine r_top (b := (dN (smI N n k)) 4) (sr_at _ _ _ _) ?_
      refine r_aload_n (pc := 42) (i := 0) dX12_samples_42 rfl rfl ?_
      refine r_getfr (pc := 43) (b := 283) cks dX12_samples_43 fl_X12_37 rfl (kM274 hT) (ltM hT (by omega)) (rM11 hT) ?_
      refine r_sipush (pc := 46) dX12_samples_46 rfl (in32_of rfl) ?_
      refine r_iload_n (pc := 49) (i := 3) dX12_samples_49 rfl rfl ?_
      refine r_iaddN (pc := 50) (c := ((((drV (smI N n k) (n - k)).toNat) + 276 : Nat) : Int)) dX12_samples_50 (by unfold w32; omega) ?_
      refine r_ild (pc := 51) (((drV (smI N n k) (n - k)).toNat) + 276) dX12_samples_51 (kM283 hT) (ltM hT (by omega)) rfl (by rw [lM283 hT]; omega) ?_
      refine r_top (b := (dN (smI N n k)) (((drV (smI N n k) (n - k)).toNat) + 276)) (sr_at _ _ _ _) ?_
      refine r_aload_n (pc := 52) (i := 0) dX12_samples_52 rfl rfl ?_
      refine r_getfr (pc := 53) (b := 283) cks dX12_samples_53 fl_X12_37 rfl (kM274 hT) (ltM hT (by omega)) (rM11 hT) ?_
      refine r_sipush (pc := 56) dX12_samples_56 rfl (in32_of rfl) ?_
      refine r_iload_n (pc := 59) (i := 3) dX12_samples_59 rfl rfl ?_
      refine r_iaddN (pc := 60) (c := ((((drV (smI N n k) (n - k)).toNat) + 532 : Nat) : Int)) dX12_samples_60 (by unfold w32; omega) ?_
      refine r_ild (pc := 61) (((drV (smI N n k) (n - k)).toNat) + 532) dX12_samples_61 (kM283 hT) (ltM hT (by omega)) rfl (by rw [lM283 hT]; omega) ?_
      refine r_top (b := (dN (smI N n k)) (((drV (smI N n k) (n - k)).toNat) + 532)) (sr_at _ _ _ _) ?_
      refine r_icmp_ne (pc := 62) (tgt := 69) dX12_samples_62 rfl (fun c62 => ?_) (fun c62 => ?_)
      · have h44 := hX.2.2.1
        refine r_iconst (pc := 69) dX12_samples_69 (in32_of rfl) ?_
        refine r_iaddN (pc := 70) (c := (erF (smI N n k) ((drV (smI N n k) (n - k)).toNat))) dX12_samples_70 (by unfold erF; rw [if_neg c62]; unfold w32; omega) ?_
        refine r_ist (pc := 71) (4) dX12_samples_71 (kM283 hT) (ltM hT (by omega)) (by omega) (by rw [lM283 hT]; omega) ?_
        refine r_mem (I2 := sr I 283 (un (dN (smI N n k)) 4 (erF (smI N n k) ((drV (smI N n k) (n - k)).toNat)))) (by rw [up2_sr]) ?_
        refine r_aload_n (pc := 72) (i := 0) dX12_samples_72 rfl rfl ?_
        refine r_getfr (pc := 73) (b := 283) cks dX12_samples_73 fl_X12_37 rfl (kM274 hT) (ltM hT (by omega)) (rM11 hT) ?_
        refine r_iconst (pc := 76) dX12_samples_76 (in32_of rfl) ?_
        refine r_dup2 (pc := 77) dX12_samples_77 rfl rfl ?_
        refine r_ild (pc := 78) (1) dX12_samples_78 (kM283 hT) (ltM hT (by omega)) (by omega) (by rw [lM283 hT]; omega) ?_
        refine r_top (b := (un (dN (smI N n k)) 4 (erF (smI N n k) ((drV (smI N n k) (n - k)).toNat))) 1) (sr_at _ _ _ _) ?_
        refine r_top (b := (dN (smI N n k)) 1) (un_ne (by omega)) ?_
        refine r_top (b := (((n - k) : Nat) : Int)) (h41) ?_
        refine r_iconst (pc := 79) dX12_samples_79 (in32_of rfl) ?_
        refine r_isubN (pc := 80) (c := (((n - k - 1) : Nat) : Int)) dX12_samples_80 (by unfold w32; omega) ?_
        refine r_ist (pc := 81) (1) dX12_samples_81 (kM283 hT) (ltM hT (by omega)) (by omega) (by rw [lM283 hT]; omega) ?_
        refine r_mem (I2 := sr I 283 (un (un (dN (smI N n k)) 4 (erF (smI N n k) ((drV (smI N n k) (n - k)).toNat))) 1 (((n - k - 1) : Nat) : Int))) (by rw [up2_sr]) ?_
        refine r_mem (I2 := sr I 283 (smM (smI N n k) (n - k))) rfl ?_
        have hM : Rng (smM (smI N n k) (n - k)) := Rng_un (Rng_un (Rng_d hX.1) (ok_4.mpr (by have := erF_rng (p := (drV (smI N n k) (n - k)).toNat) hX.2.2.1; omega))) (ok_1.mpr (by omega))
        refine r_iload_n (pc := 82) (i := 3) dX12_samples_82 rfl rfl ?_
        refine r_istore (pc := 83) (i := 4) (lv' := [_, _, _, _, _]) dX12_samples_83 (by decide) rfl ?_
        refine loop1 (fun (c : Nat) => (drV (smI N n k) (n - k)).toNat + c ≤ n - k - 1) (fun (c : Nat) => n - k - 1 - c) (fun (c : Nat) => [some (aR 274), some (aI ((k : Nat) : Int)), some (aI ((k : Nat) : Int)), some (aI ((((drV (smI N n k) (n - k)).toNat) : Nat) : Int)), some (aI ((((drV (smI N n k) (n - k)).toNat) + c : Nat) : Int))]) (fun _ => T) (fun (c : Nat) => sr I 283 (shfS (smM (smI N n k) (n - k)) ((drV (smI N n k) (n - k)).toNat) c)) ?_ 0 (by omega)
        intro c hP2 ih2
        have hP2 : (drV (smI N n k) (n - k)).toNat + c ≤ n - k - 1 := hP2
        have hs := shfS_ok (p := (drV (smI N n k) (n - k)).toNat) hM c (by omega)
        have hs1 : shfS (smM (smI N n k) (n - k)) ((drV (smI N n k) (n - k)).toNat) c 1 = ((n - k - 1 : Nat) : Int) := (hs.2 1 (by omega)).trans un_at
        refine (?_ : Ev G mX12_samples d 85 [some (aR 274), some (aI ((k : Nat) : Int)), some (aI ((k : Nat) : Int)), some (aI ((((drV (smI N n k) (n - k)).toNat) : Nat) : Int)), some (aI ((((drV (smI N n k) (n - k)).toNat) + c : Nat) : Int))] [] T (sr I 283 (shfS (smM (smI N n k) (n - k)) ((drV (smI N n k) (n - k)).toNat) c)) Q)
        refine r_iload (pc := 85) (i := 4) dX12_samples_85 rfl ?_
        refine r_aload_n (pc := 87) (i := 0) dX12_samples_87 rfl rfl ?_
        refine r_getfr (pc := 88) (b := 283) cks dX12_samples_88 fl_X12_37 rfl (kM274 hT) (ltM hT (by omega)) (rM11 hT) ?_
        refine r_iconst (pc := 91) dX12_samples_91 (in32_of rfl) ?_
        refine r_ild (pc := 92) (1) dX12_samples_92 (kM283 hT) (ltM hT (by omega)) (by omega) (by rw [lM283 hT]; omega) ?_
        refine r_top (b := (shfS (smM (smI N n k) (n - k)) ((drV (smI N n k) (n - k)).toNat) c) 1) (sr_at _ _ _ _) ?_
        refine r_top (b := (((n - k - 1) : Nat) : Int)) (hs1) ?_
        refine r_icmp_ge (pc := 93) (tgt := 174) dX12_samples_93 rfl (fun c93 => ?_) (fun c93 => ?_)
        · refine r_iincN (pc := 174) (i := 1) (c := ((k + 1 : Nat) : Int)) (lv' := [_, _, _, _, _]) dX12_samples_174 rfl (by decide) (by unfold w32; omega) rfl ?_
          refine r_iincN (pc := 177) (i := 2) (c := ((k + 1 : Nat) : Int)) (lv' := [_, _, _, _, _]) dX12_samples_177 rfl (by decide) (by unfold w32; omega) rfl ?_
          refine r_goto (pc := 180) (tgt := 4) dX12_samples_180 rfl ?_
          refine Ev.weak (lv2 := [some (aR 274), some (aI ((k + 1 : Nat) : Int)), some (aI ((k + 1 : Nat) : Int)), none, none]) ⟨Or.inr rfl, Or.inr rfl, Or.inr rfl, Or.inl rfl, Or.inl rfl, trivial⟩ ?_
          have hc : c = n - k - 1 - (drV (smI N n k) (n - k)).toNat := by omega
          exact Ev.re rfl (by rw [smI_succ, hc]) (ih (k + 1) (by omega) (by omega))
        · refine r_aload_n (pc := 96) (i := 0) dX12_samples_96 rfl rfl ?_
          refine r_getfr (pc := 97) (b := 283) cks dX12_samples_97 fl_X12_37 rfl (kM274 hT) (ltM hT (by omega)) (rM11 hT) ?_
          refine r_sipush (pc := 100) dX12_samples_100 rfl (in32_of rfl) ?_
          refine r_iload (pc := 103) (i := 4) dX12_samples_103 rfl ?_
          refine r_iaddN (pc := 105) (c := ((((drV (smI N n k) (n - k)).toNat) + c + 276 : Nat) : Int)) dX12_samples_105 (by unfold w32; omega) ?_
          refine r_aload_n (pc := 106) (i := 0) dX12_samples_106 rfl rfl ?_
          refine r_getfr (pc := 107) (b := 283) cks dX12_samples_107 fl_X12_37 rfl (kM274 hT) (ltM hT (by omega)) (rM11 hT) ?_
          refine r_sipush (pc := 110) dX12_samples_110 rfl (in32_of rfl) ?_
          refine r_iload (pc := 113) (i := 4) dX12_samples_113 rfl ?_
          refine r_iaddN (pc := 115) (c := ((((drV (smI N n k) (n - k)).toNat) + c + 276 : Nat) : Int)) dX12_samples_115 (by unfold w32; omega) ?_
          refine r_iconst (pc := 116) dX12_samples_116 (in32_of rfl) ?_
          refine r_iaddN (pc := 117) (c := ((((drV (smI N n k) (n - k)).toNat) + c + 277 : Nat) : Int)) dX12_samples_117 (by unfold w32; omega) ?_
          refine r_ild (pc := 118) (((drV (smI N n k) (n - k)).toNat) + c + 277) dX12_samples_118 (kM283 hT) (ltM hT (by omega)) rfl (by rw [lM283 hT]; omega) ?_
          refine r_top (b := (shfS (smM (smI N n k) (n - k)) ((drV (smI N n k) (n - k)).toNat) c) (((drV (smI N n k) (n - k)).toNat) + c + 277)) (sr_at _ _ _ _) ?_
          refine r_ist (pc := 119) (((drV (smI N n k) (n - k)).toNat) + c + 276) dX12_samples_119 (kM283 hT) (ltM hT (by omega)) rfl (by rw [lM283 hT]; omega) ?_
          refine r_mem (I2 := sr I 283 (un (shfS (smM (smI N n k) (n - k)) ((drV (smI N n k) (n - k)).toNat) c) (((drV (smI N n k) (n - k)).toNat) + c + 276) ((shfS (smM (smI N n k) (n - k)) ((drV (smI N n k) (n - k)).toNat) c) (((drV (smI N n k) (n - k)).toNat) + c + 277)))) (by rw [up2_sr]) ?_
          refine r_aload_n (pc := 120) (i := 0) dX12_samples_120 rfl rfl ?_
          refine r_getfr (pc := 121) (b := 283) cks dX12_samples_121 fl_X12_37 rfl (kM274 hT) (ltM hT (by omega)) (rM11 hT) ?_
          refine r_sipush (pc := 124) dX12_samples_124 rfl (in32_of rfl) ?_
          refine r_iload (pc := 127) (i := 4) dX12_samples_127 rfl ?_
          refine r_iaddN (pc := 129) (c := ((((drV (smI N n k) (n - k)).toNat) + c + 532 : Nat) : Int)) dX12_samples_129 (by unfold w32; omega) ?_
          refine r_aload_n (pc := 130) (i := 0) dX12_samples_130 rfl rfl ?_
          refine r_getfr (pc := 131) (b := 283) cks dX12_samples_131 fl_X12_37 rfl (kM274 hT) (ltM hT (by omega)) (rM11 hT) ?_
          refine r_sipush (pc := 134) dX12_samples_134 rfl (in32_of rfl) ?_
          refine r_iload (pc := 137) (i := 4) dX12_samples_137 rfl ?_
          refine r_iaddN (pc := 139) (c := ((((drV (smI N n k) (n - k)).toNat) + c + 532 : Nat) : Int)) dX12_samples_139 (by unfold w32; omega) ?_
          refine r_iconst (pc := 140) dX12_samples_140 (in32_of rfl) ?_
          refine r_iaddN (pc := 141) (c := ((((drV (smI N n k) (n - k)).toNat) + c + 533 : Nat) : Int)) dX12_samples_141 (by unfold w32; omega) ?_
          refine r_ild (pc := 142) (((drV (smI N n k) (n - k)).toNat) + c + 533) dX12_samples_142 (kM283 hT) (ltM hT (by omega)) rfl (by rw [lM283 hT]; omega) ?_
          refine r_top (b := (un (shfS (smM (smI N n k) (n - k)) ((drV (smI N n k) (n - k)).toNat) c) (((drV (smI N n k) (n - k)).toNat) + c + 276) ((shfS (smM (smI N n k) (n - k)) ((drV (smI N n k) (n - k)).toNat) c) (((drV (smI N n k) (n - k)).toNat) + c + 277))) (((drV (smI N n k) (n - k)).toNat) + c + 533)) (sr_at _ _ _ _) ?_
          refine r_top (b := (shfS (smM (smI N n k) (n - k)) ((drV (smI N n k) (n - k)).toNat) c) (((drV (smI N n k) (n - k)).toNat) + c + 533)) (un_ne (by omega)) ?_
          refine r_ist (pc := 143) (((drV (smI N n k) (n - k)).toNat) + c + 532) dX12_samples_143 (kM283 hT) (ltM hT (by omega)) rfl (by rw [lM283 hT]; omega) ?_
          refine r_mem (I2 := sr I 283 (un (un (shfS (smM (smI N n k) (n - k)) ((drV (smI N n k) (n - k)).toNat) c) (((drV (smI N n k) (n - k)).toNat) + c + 276) ((shfS (smM (smI N n k) (n - k)) ((drV (smI N n k) (n - k)).toNat) c) (((drV (smI N n k) (n - k)).toNat) + c + 277))) (((drV (smI N n k) (n - k)).toNat) + c + 532) ((shfS (smM (smI N n k) (n - k)) ((drV (smI N n k) (n - k)).toNat) c) (((drV (smI N n k) (n - k)).toNat) + c + 533)))) (by rw [up2_sr]) ?_
          refine r_aload_n (pc := 144) (i := 0) dX12_samples_144 rfl rfl ?_
          refine r_getfr (pc := 145) (b := 283) cks dX12_samples_145 fl_X12_37 rfl (kM274 hT) (ltM hT (by omega)) (rM11 hT) ?_
          refine r_sipush (pc := 148) dX12_samples_148 rfl (in32_of rfl) ?_
          refine r_iload (pc := 151) (i := 4) dX12_samples_151 rfl ?_
          refine r_iaddN (pc := 153) (c := ((((drV (smI N n k) (n - k)).toNat) + c + 788 : Nat) : Int)) dX12_samples_153 (by unfold w32; omega) ?_
          refine r_aload_n (pc := 154) (i := 0) dX12_samples_154 rfl rfl ?_
          refine r_getfr (pc := 155) (b := 283) cks dX12_samples_155 fl_X12_37 rfl (kM274 hT) (ltM hT (by omega)) (rM11 hT) ?_
          refine r_sipush (pc := 158) dX12_samples_158 rfl (in32_of rfl) ?_
          refine r_iload (pc := 161) (i := 4) dX12_samples_161 rfl ?_
          refine r_iaddN (pc := 163) (c := ((((drV (smI N n k) (n - k)).toNat) + c + 788 : Nat) : Int)) dX12_samples_163 (by unfold w32; omega) ?_
          refine r_iconst (pc := 164) dX12_samples_164 (in32_of rfl) ?_
          refine r_iaddN (pc := 165) (c := ((((drV (smI N n k) (n - k)).toNat) + c + 789 : Nat) : Int)) dX12_samples_165 (by unfold w32; omega) ?_
          refine r_ild (pc := 166) (((drV (smI N n k) (n - k)).toNat) + c + 789) dX12_samples_166 (kM283 hT) (ltM hT (by omega)) rfl (by rw [lM283 hT]; omega) ?_
          refine r_top (b := (un (un (shfS (smM (smI N n k) (n - k)) ((drV (smI N n k) (n - k)).toNat) c) (((drV (smI N n k) (n - k)).toNat) + c + 276) ((shfS (smM (smI N n k) (n - k)) ((drV (smI N n k) (n - k)).toNat) c) (((drV (smI N n k) (n - k)).toNat) + c + 277))) (((drV (smI N n k) (n - k)).toNat) + c + 532) ((shfS (smM (smI N n k) (n - k)) ((drV (smI N n k) (n - k)).toNat) c) (((drV (smI N n k) (n - k)).toNat) + c + 533))) (((drV (smI N n k) (n - k)).toNat) + c + 789)) (sr_at _ _ _ _) ?_
          refine r_top (b := (un (shfS (smM (smI N n k) (n - k)) ((drV (smI N n k) (n - k)).toNat) c) (((drV (smI N n k) (n - k)).toNat) + c + 276) ((shfS (smM (smI N n k) (n - k)) ((drV (smI N n k) (n - k)).toNat) c) (((drV (smI N n k) (n - k)).toNat) + c + 277))) (((drV (smI N n k) (n - k)).toNat) + c + 789)) (un_ne (by omega)) ?_
          refine r_top (b := (shfS (smM (smI N n k) (n - k)) ((drV (smI N n k) (n - k)).toNat) c) (((drV (smI N n k) (n - k)).toNat) + c + 789)) (un_ne (by omega)) ?_
          refine r_ist (pc := 167) (((drV (smI N n k) (n - k)).toNat) + c + 788) dX12_samples_167 (kM283 hT) (ltM hT (by omega)) rfl (by rw [lM283 hT]; omega) ?_
          refine r_mem (I2 := sr I 283 (un (un (un (shfS (smM (smI N n k) (n - k)) ((drV (smI N n k) (n - k)).toNat) c) (((drV (smI N n k) (n - k)).toNat) + c + 276) ((shfS (smM (smI N n k) (n - k)) ((drV (smI N n k) (n - k)).toNat) c) (((drV (smI N n k) (n - k)).toNat) + c + 277))) (((drV (smI N n k) (n - k)).toNat) + c + 532) ((shfS (smM (smI N n k) (n - k)) ((drV (smI N n k) (n - k)).toNat) c) (((drV (smI N n k) (n - k)).toNat) + c + 533))) (((drV (smI N n k) (n - k)).toNat) + c + 788) ((shfS (smM (smI N n k) (n - k)) ((drV (smI N n k) (n - k)).toNat) c) (((drV (smI N n k) (n - k)).toNat) + c + 789)))) (by rw [up2_sr]) ?_
          refine r_iincN (pc := 168) (i := 4) (c := ((((drV (smI N n k) (n - k)).toNat) + c + 1 : Nat) : Int)) (lv' := [_, _, _, _, _]) dX12_samples_168 rfl (by decide) (by unfold w32; omega) rfl ?_
          refine r_goto (pc := 171) (tgt := 85) dX12_samples_171 rfl ?_
          exact Ev.re rfl (by rw [shfS_succ]) (ih2 (c + 1) (by omega) (by omega))
      · have c62 := Decidable.of_not_not c62
        have h44 := hX.2.2.1
        refine r_iconst (pc := 65) dX12_samples_65 (in32_of rfl) ?_
        refine r_goto (pc := 66) (tgt := 70) dX12_samples_66 rfl ?_
        refine r_iaddN (pc := 70) (c := (erF (smI N n k) ((drV (smI N n k) (n - k)).toNat))) dX12_samples_70 (by unfold erF; rw [if_pos c62]; unfold w32; omega) ?_
        refine r_ist (pc := 71) (4) dX12_samples_71 (kM283 hT) (ltM hT (by omega)) (by omega) (by rw [lM283 hT]; omega) ?_
        refine r_mem (I2 := sr I 283 (un (dN (smI N n k)) 4 (erF (smI N n k) ((drV (smI N n k) (n - k)).toNat)))) (by rw [up2_sr]) ?_
        refine r_aload_n (pc := 72) (i := 0) dX12_samples_72 rfl rfl ?_
        refine r_getfr (pc := 73) (b := 283) cks dX12_samples_73 fl_X12_37 rfl (kM274 hT) (ltM hT (by omega)) (rM11 hT) ?_
        refine r_iconst (pc := 76) dX12_samples_76 (in32_of rfl) ?_
        refine r_dup2 (pc := 77) dX12_samples_77 rfl rfl ?_
        refine r_ild (pc := 78) (1) dX12_samples_78 (kM283 hT) (ltM hT (by omega)) (by omega) (by rw [lM283 hT]; omega) ?_
        refine r_top (b := (un (dN (smI N n k)) 4 (erF (smI N n k) ((drV (smI N n k) (n - k)).toNat))) 1) (sr_at _ _ _ _) ?_
        refine r_top (b := (dN (smI N n k)) 1) (un_ne (by omega)) ?_
        refine r_top (b := (((n - k) : Nat) : Int)) (h41) ?_
        refine r_iconst (pc := 79) dX12_samples_79 (in32_of rfl) ?_
        refine r_isubN (pc := 80) (c := (((n - k - 1) : Nat) : Int)) dX12_samples_80 (by unfold w32; omega) ?_
        refine r_ist (pc := 81) (1) dX12_samples_81 (kM283 hT) (ltM hT (by omega)) (by omega) (by rw [lM283 hT]; omega) ?_
        refine r_mem (I2 := sr I 283 (un (un (dN (smI N n k)) 4 (erF (smI N n k) ((drV (smI N n k) (n - k)).toNat))) 1 (((n - k - 1) : Nat) : Int))) (by rw [up2_sr]) ?_
        refine r_mem (I2 := sr I 283 (smM (smI N n k) (n - k))) rfl ?_
        have hM : Rng (smM (smI N n k) (n - k)) := Rng_un (Rng_un (Rng_d hX.1) (ok_4.mpr (by have := erF_rng (p := (drV (smI N n k) (n - k)).toNat) hX.2.2.1; omega))) (ok_1.mpr (by omega))
        refine r_iload_n (pc := 82) (i := 3) dX12_samples_82 rfl rfl ?_
        refine r_istore (pc := 83) (i := 4) (lv' := [_, _, _, _, _]) dX12_samples_83 (by decide) rfl ?_
        refine loop1 (fun (c : Nat) => (drV (smI N n k) (n - k)).toNat + c ≤ n - k - 1) (fun (c : Nat) => n - k - 1 - c) (fun (c : Nat) => [some (aR 274), some (aI ((k : Nat) : Int)), some (aI ((k : Nat) : Int)), some (aI ((((drV (smI N n k) (n - k)).toNat) : Nat) : Int)), some (aI ((((drV (smI N n k) (n - k)).toNat) + c : Nat) : Int))]) (fun _ => T) (fun (c : Nat) => sr I 283 (shfS (smM (smI N n k) (n - k)) ((drV (smI N n k) (n - k)).toNat) c)) ?_ 0 (by omega)
        intro c hP2 ih2
        have hP2 : (drV (smI N n k) (n - k)).toNat + c ≤ n - k - 1 := hP2
        have hs := shfS_ok (p := (drV (smI N n k) (n - k)).toNat) hM c (by omega)
        have hs1 : shfS (smM (smI N n k) (n - k)) ((drV (smI N n k) (n - k)).toNat) c 1 = ((n - k - 1 : Nat) : Int) := (hs.2 1 (by omega)).trans un_at
        refine (?_ : Ev G mX12_samples d 85 [some (aR 274), some (aI ((k : Nat) : Int)), some (aI ((k : Nat) : Int)), some (aI ((((drV (smI N n k) (n - k)).toNat) : Nat) : Int)), some (aI ((((drV (smI N n k) (n - k)).toNat) + c : Nat) : Int))] [] T (sr I 283 (shfS (smM (smI N n k) (n - k)) ((drV (smI N n k) (n - k)).toNat) c)) Q)
        refine r_iload (pc := 85) (i := 4) dX12_samples_85 rfl ?_
        refine r_aload_n (pc := 87) (i := 0) dX12_samples_87 rfl rfl ?_
        refine r_getfr (pc := 88) (b := 283) cks dX12_samples_88 fl_X12_37 rfl (kM274 hT) (ltM hT (by omega)) (rM11 hT) ?_
        refine r_iconst (pc := 91) dX12_samples_91 (in32_of rfl) ?_
        refine r_ild (pc := 92) (1) dX12_samples_92 (kM283 hT) (ltM hT (by omega)) (by omega) (by rw [lM283 hT]; omega) ?_
        refine r_top (b := (shfS (smM (smI N n k) (n - k)) ((drV (smI N n k) (n - k)).toNat) c) 1) (sr_at _ _ _ _) ?_
        refine r_top (b := (((n - k - 1) : Nat) : Int)) (hs1) ?_
        refine r_icmp_ge (pc := 93) (tgt := 174) dX12_samples_93 rfl (fun c93 => ?_) (fun c93 => ?_)
        · refine r_iincN (pc := 174) (i := 1) (c := ((k + 1 : Nat) : Int)) (lv' := [_, _, _, _, _]) dX12_samples_174 rfl (by decide) (by unfold w32; omega) rfl ?_
          refine r_iincN (pc := 177) (i := 2) (c := ((k + 1 : Nat) : Int)) (lv' := [_, _, _, _, _]) dX12_samples_177 rfl (by decide) (by unfold w32; omega) rfl ?_
          refine r_goto (pc := 180) (tgt := 4) dX12_samples_180 rfl ?_
          refine Ev.weak (lv2 := [some (aR 274), some (aI ((k + 1 : Nat) : Int)), some (aI ((k + 1 : Nat) : Int)), none, none]) ⟨Or.inr rfl, Or.inr rfl, Or.inr rfl, Or.inl rfl, Or.inl rfl, trivial⟩ ?_
          have hc : c = n - k - 1 - (drV (smI N n k) (n - k)).toNat := by omega
          exact Ev.re rfl (by rw [smI_succ, hc]) (ih (k + 1) (by omega) (by omega))
        · refine r_aload_n (pc := 96) (i := 0) dX12_samples_96 rfl rfl ?_
          refine r_getfr (pc := 97) (b := 283) cks dX12_samples_97 fl_X12_37 rfl (kM274 hT) (ltM hT (by omega)) (rM11 hT) ?_
          refine r_sipush (pc := 100) dX12_samples_100 rfl (in32_of rfl) ?_
          refine r_iload (pc := 103) (i := 4) dX12_samples_103 rfl ?_
          refine r_iaddN (pc := 105) (c := ((((drV (smI N n k) (n - k)).toNat) + c + 276 : Nat) : Int)) dX12_samples_105 (by unfold w32; omega) ?_
          refine r_aload_n (pc := 106) (i := 0) dX12_samples_106 rfl rfl ?_
          refine r_getfr (pc := 107) (b := 283) cks dX12_samples_107 fl_X12_37 rfl (kM274 hT) (ltM hT (by omega)) (rM11 hT) ?_
          refine r_sipush (pc := 110) dX12_samples_110 rfl (in32_of rfl) ?_
          refine r_iload (pc := 113) (i := 4) dX12_samples_113 rfl ?_
          refine r_iaddN (pc := 115) (c := ((((drV (smI N n k) (n - k)).toNat) + c + 276 : Nat) : Int)) dX12_samples_115 (by unfold w32; omega) ?_
          refine r_iconst (pc := 116) dX12_samples_116 (in32_of rfl) ?_
          refine r_iaddN (pc := 117) (c := ((((drV (smI N n k) (n - k)).toNat) + c + 277 : Nat) : Int)) dX12_samples_117 (by unfold w32; omega) ?_
          refine r_ild (pc := 118) (((drV (smI N n k) (n - k)).toNat) + c + 277) dX12_samples_118 (kM283 hT) (ltM hT (by omega)) rfl (by rw [lM283 hT]; omega) ?_
          refine r_top (b := (shfS (smM (smI N n k) (n - k)) ((drV (smI N n k) (n - k)).toNat) c) (((drV (smI N n k) (n - k)).toNat) + c + 277)) (sr_at _ _ _ _) ?_
          refine r_ist (pc := 119) (((drV (smI N n k) (n - k)).toNat) + c + 276) dX12_samples_119 (kM283 hT) (ltM hT (by omega)) rfl (by rw [lM283 hT]; omega) ?_
          refine r_mem (I2 := sr I 283 (un (shfS (smM (smI N n k) (n - k)) ((drV (smI N n k) (n - k)).toNat) c) (((drV (smI N n k) (n - k)).toNat) + c + 276) ((shfS (smM (smI N n k) (n - k)) ((drV (smI N n k) (n - k)).toNat) c) (((drV (smI N n k) (n - k)).toNat) + c + 277)))) (by rw [up2_sr]) ?_
          refine r_aload_n (pc := 120) (i := 0) dX12_samples_120 rfl rfl ?_
          refine r_getfr (pc := 121) (b := 283) cks dX12_samples_121 fl_X12_37 rfl (kM274 hT) (ltM hT (by omega)) (rM11 hT) ?_
          refine r_sipush (pc := 124) dX12_samples_124 rfl (in32_of rfl) ?_
          refine r_iload (pc := 127) (i := 4) dX12_samples_127 rfl ?_
          refine r_iaddN (pc := 129) (c := ((((drV (smI N n k) (n - k)).toNat) + c + 532 : Nat) : Int)) dX12_samples_129 (by unfold w32; omega) ?_
          refine r_aload_n (pc := 130) (i := 0) dX12_samples_130 rfl rfl ?_
          refine r_getfr (pc := 131) (b := 283) cks dX12_samples_131 fl_X12_37 rfl (kM274 hT) (ltM hT (by omega)) (rM11 hT) ?_
          refine r_sipush (pc := 134) dX12_samples_134 rfl (in32_of rfl) ?_
          refine r_iload (pc := 137) (i := 4) dX12_samples_137 rfl ?_
          refine r_iaddN (pc := 139) (c := ((((drV (smI N n k) (n - k)).toNat) + c + 532 : Nat) : Int)) dX12_samples_139 (by unfold w32; omega) ?_
          refine r_iconst (pc := 140) dX12_samples_140 (in32_of rfl) ?_
          refine r_iaddN (pc := 141) (c := ((((drV (smI N n k) (n - k)).toNat) + c + 533 : Nat) : Int)) dX12_samples_141 (by unfold w32; omega) ?_
          refine r_ild (pc := 142) (((drV (smI N n k) (n - k)).toNat) + c + 533) dX12_samples_142 (kM283 hT) (ltM hT (by omega)) rfl (by rw [lM283 hT]; omega) ?_
          refine r_top (b := (un (shfS (smM (smI N n k) (n - k)) ((drV (smI N n k) (n - k)).toNat) c) (((drV (smI N n k) (n - k)).toNat) + c + 276) ((shfS (smM (smI N n k) (n - k)) ((drV (smI N n k) (n - k)).toNat) c) (((drV (smI N n k) (n - k)).toNat) + c + 277))) (((drV (smI N n k) (n - k)).toNat) + c + 533)) (sr_at _ _ _ _) ?_
          refine r_top (b := (shfS (smM (smI N n k) (n - k)) ((drV (smI N n k) (n - k)).toNat) c) (((drV (smI N n k) (n - k)).toNat) + c + 533)) (un_ne (by omega)) ?_
          refine r_ist (pc := 143) (((drV (smI N n k) (n - k)).toNat) + c + 532) dX12_samples_143 (kM283 hT) (ltM hT (by omega)) rfl (by rw [lM283 hT]; omega) ?_
          refine r_mem (I2 := sr I 283 (un (un (shfS (smM (smI N n k) (n - k)) ((drV (smI N n k) (n - k)).toNat) c) (((drV (smI N n k) (n - k)).toNat) + c + 276) ((shfS (smM (smI N n k) (n - k)) ((drV (smI N n k) (n - k)).toNat) c) (((drV (smI N n k) (n - k)).toNat) + c + 277))) (((drV (smI N n k) (n - k)).toNat) + c + 532) ((shfS (smM (smI N n k) (n - k)) ((drV (smI N n k) (n - k)).toNat) c) (((drV (smI N n k) (n - k)).toNat) + c + 533)))) (by rw [up2_sr]) ?_
          refine r_aload_n (pc := 144) (i := 0) dX12_samples_144 rfl rfl ?_
          refine r_getfr (pc := 145) (b := 283) cks dX12_samples_145 fl_X12_37 rfl (kM274 hT) (ltM hT (by omega)) (rM11 hT) ?_
          refine r_sipush (pc := 148) dX12_samples_148 rfl (in32_of rfl) ?_
          refine r_iload (pc := 151) (i := 4) dX12_samples_151 rfl ?_
          refine r_iaddN (pc := 153) (c := ((((drV (smI N n k) (n - k)).toNat) + c + 788 : Nat) : Int)) dX12_samples_153 (by unfold w32; omega) ?_
          refine r_aload_n (pc := 154) (i := 0) dX12_samples_154 rfl rfl ?_
          refine r_getfr (pc := 155) (b := 283) cks dX12_samples_155 fl_X12_37 rfl (kM274 hT) (ltM hT (by omega)) (rM11 hT) ?_
          refine r_sipush (pc := 158) dX12_samples_158 rfl (in32_of rfl) ?_
          refine r_iload (pc := 161) (i := 4) dX12_samples_161 rfl ?_
          refine r_iaddN (pc := 163) (c := ((((drV (smI N n k) (n - k)).toNat) + c + 788 : Nat) : Int)) dX12_samples_163 (by unfold w32; omega) ?_
          refine r_iconst (pc := 164) dX12_samples_164 (in32_of rfl) ?_
          refine r_iaddN (pc := 165) (c := ((((drV (smI N n k) (n - k)).toNat) + c + 789 : Nat) : Int)) dX12_samples_165 (by unfold w32; omega) ?_
          refine r_ild (pc := 166) (((drV (smI N n k) (n - k)).toNat) + c + 789) dX12_samples_166 (kM283 hT) (ltM hT (by omega)) rfl (by rw [lM283 hT]; omega) ?_
          refine r_top (b := (un (un (shfS (smM (smI N n k) (n - k)) ((drV (smI N n k) (n - k)).toNat) c) (((drV (smI N n k) (n - k)).toNat) + c + 276) ((shfS (smM (smI N n k) (n - k)) ((drV (smI N n k) (n - k)).toNat) c) (((drV (smI N n k) (n - k)).toNat) + c + 277))) (((drV (smI N n k) (n - k)).toNat) + c + 532) ((shfS (smM (smI N n k) (n - k)) ((drV (smI N n k) (n - k)).toNat) c) (((drV (smI N n k) (n - k)).toNat) + c + 533))) (((drV (smI N n k) (n - k)).toNat) + c + 789)) (sr_at _ _ _ _) ?_
          refine r_top (b := (un (shfS (smM (smI N n k) (n - k)) ((drV (smI N n k) (n - k)).toNat) c) (((drV (smI N n k) (n - k)).toNat) + c + 276) ((shfS (smM (smI N n k) (n - k)) ((drV (smI N n k) (n - k)).toNat) c) (((drV (smI N n k) (n - k)).toNat) + c + 277))) (((drV (smI N n k) (n - k)).toNat) + c + 789)) (un_ne (by omega)) ?_
          refine r_top (b := (shfS (smM (smI N n k) (n - k)) ((drV (smI N n k) (n - k)).toNat) c) (((drV (smI N n k) (n - k)).toNat) + c + 789)) (un_ne (by omega)) ?_
          refine r_ist (pc := 167) (((drV (smI N n k) (n - k)).toNat) + c + 788) dX12_samples_167 (kM283 hT) (ltM hT (by omega)) rfl (by rw [lM283 hT]; omega) ?_
          refine r_mem (I2 := sr I 283 (un (un (un (shfS (smM (smI N n k) (n - k)) ((drV (smI N n k) (n - k)).toNat) c) (((drV (smI N n k) (n - k)).toNat) + c + 276) ((shfS (smM (smI N n k) (n - k)) ((drV (smI N n k) (n - k)).toNat) c) (((drV (smI N n k) (n - k)).toNat) + c + 277))) (((drV (smI N n k) (n - k)).toNat) + c + 532) ((shfS (smM (smI N n k) (n - k)) ((drV (smI N n k) (n - k)).toNat) c) (((drV (smI N n k) (n - k)).toNat) + c + 533))) (((drV (smI N n k) (n - k)).toNat) + c + 788) ((shfS (smM (smI N n k) (n - k)) ((drV (smI N n k) (n - k)).toNat) c) (((drV (smI N n k) (n - k)).toNat) + c + 789)))) (by rw [up2_sr]) ?_
          refine r_iincN (pc := 168) (i := 4) (c := ((((drV (smI N n k) (n - k)).toNat) + c + 1 : Nat) : Int)) (lv' := [_, _, _, _, _]) dX12_samples_168 rfl (by decide) (by unfold w32; omega) rfl ?_
          refine r_goto (pc := 171) (tgt := 85) dX12_samples_171 rfl ?_
          exact Ev.re rfl (by rw [shfS_succ]) (ih2 (c + 1) (by omega) (by omega))
end M16

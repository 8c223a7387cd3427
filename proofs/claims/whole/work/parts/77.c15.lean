section C15
variable {G : Gl} {d : Nat} {T : Sh} {I : Mi} {N : Nat → Int} {Q : Option AV → Sh → Mi → Prop}
theorem k_lengthOf {n z k : Nat} (hd : 1 ≤ d) (hn : n ≤ 256) (hz : z ≤ 2048) (hk : k * z ≤ n) (hq : Q (some (aI ((lnB n z (k * z) : Nat) : Int))) T I) : EvE G mX11_lengthOf d [aI ((n : Nat) : Int), aI ((z : Nat) : Int), aI ((k : Nat) : Int)] T I Q := by
  refine EvE.mk (lv0 := [some (aI ((n : Nat) : Int)), some (aI ((z : Nat) : Int)), some (aI ((k : Nat) : Int))]) (Nat.le_of_ble_eq_true rfl) (by decide +kernel) rfl ?_
  refine r_iload_n (pc := 0) (i := 1) dX11_lengthOf_0 rfl rfl ?_
  refine r_iload_n (pc := 1) (i := 0) dX11_lengthOf_1 rfl rfl ?_
  refine r_iload_n (pc := 2) (i := 2) dX11_lengthOf_2 rfl rfl ?_
  refine r_iload_n (pc := 3) (i := 1) dX11_lengthOf_3 rfl rfl ?_
  refine r_imulN (pc := 4) (c := (((k * z) : Nat) : Int)) dX11_lengthOf_4 (w32_mul (by omega)) ?_
  refine r_isubN (pc := 5) (c := (((n - k * z) : Nat) : Int)) dX11_lengthOf_5 (by unfold w32; omega) ?_
  refine r_min (pc := 6) dX11_lengthOf_6 (by omega) ml_X11_315 (Nat.le_of_ble_eq_true rfl) ?_
  refine r_top (b := (((lnB n z (k * z)) : Nat) : Int)) (by unfold lnB; split <;> omega) ?_
  exact r_iret (pc := 9) dX11_lengthOf_9 trivial hq
theorem k_blocksOf {n z : Nat} (hn : n ≤ 256) (hz : 1 ≤ z) (hz2 : z ≤ 4096) (hq : Q (some (aI ((nbk n z : Nat) : Int))) T I) : EvE G mX11_blocksOf d [aI ((n : Nat) : Int), aI ((z : Nat) : Int)] T I Q := by
  refine EvE.mk (lv0 := [some (aI ((n : Nat) : Int)), some (aI ((z : Nat) : Int))]) (Nat.le_of_ble_eq_true rfl) (by decide +kernel) rfl ?_
  refine r_iload_n (pc := 0) (i := 1) dX11_blocksOf_0 rfl rfl ?_
  refine r_if_le (pc := 1) (tgt := 14) dX11_blocksOf_1 rfl (fun c1 => absurd c1 (by omega)) (fun c1 => ?_)
  refine r_iload_n (pc := 4) (i := 0) dX11_blocksOf_4 rfl rfl ?_
  refine r_iload_n (pc := 5) (i := 1) dX11_blocksOf_5 rfl rfl ?_
  refine r_iaddN (pc := 6) (c := ((n + z : Nat) : Int)) dX11_blocksOf_6 (by unfold w32; omega) ?_
  refine r_iconst (pc := 7) dX11_blocksOf_7 (in32_of rfl) ?_
  refine r_isubN (pc := 8) (c := (((n + z - 1) : Nat) : Int)) dX11_blocksOf_8 (by unfold w32; omega) ?_
  refine r_iload_n (pc := 9) (i := 1) dX11_blocksOf_9 rfl rfl ?_
  refine r_idiv (pc := 10) dX11_blocksOf_10 (by omega) ?_
  refine r_top (b := (((nbk n z) : Nat) : Int)) (by rw [idv_n (by unfold in32; omega) (by unfold in32; omega) (by omega) (by omega)]; unfold nbk; omega) ?_
  refine r_goto (pc := 11) (tgt := 15) dX11_blocksOf_11 rfl ?_
  exact r_iret (pc := 15) dX11_blocksOf_15 trivial hq
theorem md_lo {M : Nat → Int} {x j : Nat} (h7 : j ≠ 7) (h : j ≠ x + 532) : mdF M x j = M j := by unfold mdF; rw [un_ne h7, un_ne h]
theorem md_oP {M : Nat → Int} {x p k : Nat} (hx : x < 256) (h : 256 * p + k < 1536) : oP (mdF M x) p k = oP M p k := by unfold oP; rw [md_lo (by omega) (by omega)]
theorem parO_mdA {M : Nat → Int} {x p b : Nat} (hR : Rng M) (hx : x < 256) : ∀ m, 256 * p + b + m ≤ 1536 → parO (mdF M x) 276 p b m = parO M 276 p b m := by
  intro m
  induction m with
  | zero => intro _; rfl
  | succ m ih =>
    intro h
    have := (oP_rd (p := p) (k := b + m) (Rng_O hR) (by omega)).2
    rw [parO_succ, parO_succ, ih (by omega), md_oP hx (by omega), md_lo (by omega) (by omega)]
theorem parO_mdB {M : Nat → Int} {x p b : Nat} (hR : Rng M) (hx : x < 256) (hp : p < 6) : ∀ m, b + m ≤ 256 → (∀ i j, i < m → j < m → oP M p (b + i) = oP M p (b + j) → i = j) → parO (mdF M x) 532 p b m = (parO M 532 p b m + if iRn (fun i => oP M p (b + i)) m x = true then 1 else 0) % 2 := by
  intro m
  induction m with
  | zero => intro _ _; rfl
  | succ m ih =>
    intro h hi
    have ih := ih (by omega) (fun i j a b => hi i j (by omega) (by omega))
    have ho := (oP_rd (p := p) (k := b + m) (Rng_O hR) (by omega)).2
    have h01 := parO_01 (N := M) (y := 532) (p := p) (b := b) hR (Or.inr rfl) hp m (by omega)
    have hv := Rng_key (j := 532 + oP M p (b + m)) hR (by omega) (by omega)
    rw [parO_succ, parO_succ, md_oP hx (by omega), iRn_succ]
    by_cases g : oP M p (b + m) = x
    · have e : iRn (fun i => oP M p (b + i)) m x = false := iRn_f (fun i hi2 e => by have := hi i m (by omega) (by omega) (by rw [e, g]); omega)
      have ev : mdF M x (532 + oP M p (b + m)) = 1 - M (532 + oP M p (b + m)) := by
        unfold mdF
        rw [un_ne (by omega), g, Nat.add_comm 532 x, un_at]
      rw [e] at ih
      rw [if_neg (by decide), Int.add_zero] at ih
      rw [e, decide_eq_true g, if_pos (by rfl), ev, ih, ixo_bit h01 hv, ixo_bit (by omega) (by omega)]
      omega
    · rw [decide_eq_false g, Bool.or_false, md_lo (by omega) (by omega), ih, ixo_bit h01 hv]
      by_cases g2 : iRn (fun i => oP M p (b + i)) m x = true
      · rw [if_pos g2, ixo_bit (by omega) hv]; omega
      · rw [if_neg g2, ixo_bit (by omega) hv]; omega
theorem ukO_01 (M : Nat → Int) (p b m : Nat) : ukO M p b m = 0 ∨ ukO M p b m = 1 := bi_01 _
theorem ukO_md {M : Nat → Int} {x p b m : Nat} (hR : Rng M) (hx : x < 256) (hp : p < 6) (hm : b + m ≤ 256) (hi : ∀ i j, i < m → j < m → oP M p (b + i) = oP M p (b + j) → i = j) : ukO (mdF M x) p b m = if iRn (fun i => oP M p (b + i)) m x = true then 1 - ukO M p b m else ukO M p b m := by
  have hA := parO_01 (N := M) (y := 276) (p := p) (b := b) hR (Or.inl rfl) hp m hm
  have hB := parO_01 (N := M) (y := 532) (p := p) (b := b) hR (Or.inr rfl) hp m hm
  unfold ukO
  rw [parO_mdA hR hx m (by omega), parO_mdB hR hx hp m hm hi]
  by_cases g : iRn (fun i => oP M p (b + i)) m x = true
  · rw [if_pos g, if_pos g]
    by_cases e : parO M 276 p b m = parO M 532 p b m
    · rw [bi_f (p := ¬ parO M 276 p b m = parO M 532 p b m) (fun h => h e), bi_t (by omega)]; rfl
    · rw [bi_t (p := ¬ parO M 276 p b m = parO M 532 p b m) e, bi_f (by omega)]; rfl
  · rw [if_neg g, if_neg g]
    congr 1
    apply propext
    omega
/-- the parities of all blocks of the passes up to q -/
def OdR (O : Nat → Int) (M : Nat → Int) (B n q : Nat) : Prop := ∀ y, y ≤ q → ∀ z, z < nbk n (B * 2 ^ y) → O (128 * y + z) = ukO M y (z * (B * 2 ^ y)) (lnB n (B * 2 ^ y) (z * (B * 2 ^ y)))
/-- in which block a place is -/
def BoR (F : Nat → Int) (M : Nat → Int) (B n q : Nat) : Prop := ∀ y, y ≤ q → ∀ i, i < n → F (256 * y + oP M y i) = ((i / (B * 2 ^ y) : Nat) : Int)
def tgR (O : Nat → Int) (f : Nat → Nat) : Nat → (Nat → Int)
  | 0 => O
  | y + 1 => un (tgR O f y) (128 * y + f y) (ixo (tgR O f y (128 * y + f y)) 1)
theorem tgR_succ (O : Nat → Int) (f : Nat → Nat) (y : Nat) : tgR O f (y + 1) = un (tgR O f y) (128 * y + f y) (ixo (tgR O f y (128 * y + f y)) 1) := rfl
theorem tgR_at {O : Nat → Int} {f : Nat → Nat} : ∀ y, (∀ v, v < y → f v < 128) → ∀ v z, z < 128 → tgR O f y (128 * v + z) = if v < y ∧ z = f v then ixo (O (128 * v + z)) 1 else O (128 * v + z) := by
  intro y
  induction y with
  | zero => intro _ v z _; rw [if_neg (by omega)]; rfl
  | succ y ih =>
    intro hf v z hz
    have hfy := hf y (by omega)
    have ih := ih (fun v hv => hf v (by omega))
    rw [tgR_succ]
    by_cases g : 128 * v + z = 128 * y + f y
    · have e1 : v = y := by omega
      have e2 : z = f y := by omega
      subst e1
      subst e2
      rw [un_at, ih v (f v) hfy, if_neg (by omega), if_pos ⟨by omega, rfl⟩]
    · rw [un_ne g, ih v z hz]
      by_cases g2 : v < y ∧ z = f v
      · rw [if_pos g2, if_pos ⟨by omega, g2.2⟩]
      · rw [if_neg g2, if_neg (fun h => by
          by_cases e : v = y
          · subst e; omega
          · exact g2 ⟨by omega, h.2⟩)]
theorem Od_md {O M F : Nat → Int} {B n q x : Nat} (h : OdR O M B n q) (hP : PmO M (q + 1) n) (hB : 2 ≤ B) (hF : BoR F M B n q) (hx : x < n) : OdR (tgR O (fun y => (F (256 * y + x)).toNat) (q + 1)) (mdF M x) B n q := by
  obtain ⟨hR, _, hn, he, h1, h2, h3⟩ := hP
  have hpos : ∀ y, y ≤ q → ∃ i, i < n ∧ oP M y i = x ∧ (F (256 * y + x)).toNat = i / (B * 2 ^ y) := by
    intro y hy
    obtain ⟨i, i1, i2⟩ := h3 y (by omega) x hx
    have := hF y hy i i1
    rw [i2] at this
    exact ⟨i, i1, i2, by rw [this, Int.toNat_natCast]⟩
  have hdiv : ∀ y i, i < 256 → i / (B * 2 ^ y) < 128 := by
    intro y i hi
    have : 0 < 2 ^ y := Nat.two_pow_pos y
    have h2 : 2 * 1 ≤ B * 2 ^ y := Nat.mul_le_mul hB this
    exact Nat.lt_of_le_of_lt (Nat.div_le_div_left h2 (by decide)) (by omega)
  intro y hy z hz
  have hbs : 0 < B * 2 ^ y := Nat.mul_pos (by omega) (Nat.two_pow_pos y)
  have hzn := (nbk_lt hbs).mp hz
  have hz128 : z < 128 := by
    have h2 : 2 * 1 ≤ B * 2 ^ y := Nat.mul_le_mul hB (Nat.two_pow_pos y)
    have := Nat.mul_le_mul (Nat.le_refl z) h2
    omega
  rw [tgR_at (q + 1) (fun v hv => by obtain ⟨i, i1, i2, i3⟩ := hpos v (by omega); show (F (256 * v + x)).toNat < 128; rw [i3]; exact hdiv v i (by omega)) y z hz128]
  have hl : z * (B * 2 ^ y) + lnB n (B * 2 ^ y) (z * (B * 2 ^ y)) ≤ n := by unfold lnB; omega
  rw [ukO_md hR (by omega) (by omega) (by omega) (fun i j hi hj hij => by
    have := h2 y (by omega) _ _ (by omega) (by omega) hij
    omega), h y hy z hz]
  obtain ⟨i, i1, i2, i3⟩ := hpos y hy
  have key : iRn (fun i => oP M y (z * (B * 2 ^ y) + i)) (lnB n (B * 2 ^ y) (z * (B * 2 ^ y))) x = true ↔ z = i / (B * 2 ^ y) := by
    rw [iRn_ex]
    constructor
    · rintro ⟨j, j1, j2⟩
      have e : z * (B * 2 ^ y) + j = i := h2 y (by omega) _ _ (by omega) i1 (j2.trans i2.symm)
      have hj : j < B * 2 ^ y := by unfold lnB at j1; omega
      rw [← e, Nat.mul_comm, Nat.mul_add_div hbs, Nat.div_eq_of_lt hj, Nat.add_zero]
    · intro e
      have hd := Nat.div_add_mod i (B * 2 ^ y)
      have hm := Nat.mod_lt i hbs
      rw [← e, Nat.mul_comm] at hd
      refine ⟨i % (B * 2 ^ y), ?_, ?_⟩
      · unfold lnB; omega
      · show oP M y (z * (B * 2 ^ y) + i % (B * 2 ^ y)) = x
        rw [hd]; exact i2
  have hu := ukO_01 M y (z * (B * 2 ^ y)) (lnB n (B * 2 ^ y) (z * (B * 2 ^ y)))
  by_cases g : z = i / (B * 2 ^ y)
  · rw [if_pos ⟨by omega, by show z = (F (256 * y + x)).toNat; rw [i3]; exact g⟩, if_pos (key.mpr g), ixo_1 hu]
  · rw [if_neg (fun hh => g (by have := hh.2; rw [i3] at this; exact this)), if_neg (fun hh => g (key.mp hh))]
end C15

section M13
variable {G : Gl} {d : Nat} {T : Sh} {I : Mi} {N : Nat → Int} {Q : Option AV → Sh → Mi → Prop}
def cpyR (F : Nat → Int) (a : Nat) (W : Nat → Int) (b m : Nat) : Nat → Int := fun j => if b ≤ j ∧ j < b + m then F (a + (j - b)) else W j
def cpM (I : Mi) (x y a b m : Nat) : Mi := sr I y (cpyR (I x) a (I y) b m)
theorem cpM_0 (I : Mi) (x y a b : Nat) : cpM I x y a b 0 = I := by
  unfold cpM
  rw [show cpyR (I x) a (I y) b 0 = I y from funext fun j => if_neg (by omega), sr_id]
theorem cpM_rd {I : Mi} {x y a b m k : Nat} (h : x ≠ y ∨ b + m ≤ a) (hk : k ≤ m) (q : Nat) : cpM I x y a b k x (a + q) = I x (a + q) := by
  unfold cpM sr
  split
  · rename_i e
    rcases h with h | h
    · exact absurd e h
    · unfold cpyR; rw [if_neg (by omega), e]
  · rfl
theorem cpM_succ (I : Mi) (x y a b k : Nat) : up2 (cpM I x y a b k) y (b + k) (I x (a + k)) = cpM I x y a b (k + 1) := by
  unfold cpM
  rw [up2_sr]
  congr 1
  funext j
  unfold un cpyR
  by_cases h : j = b + k
  · rw [if_pos h, if_pos (by omega), h, show b + k - b = k by omega]
  · rw [if_neg h]
    by_cases g : b ≤ j ∧ j < b + k
    · rw [if_pos g, if_pos (by omega)]
    · rw [if_neg g, if_neg (by omega)]
theorem c_copies {x y a b t lx ly : Nat}  (kx : kd T x = 20) (gx : x < nx T) (hx : ln T x = lx) (ky : kd T y = 20) (gy : y < nx T) (hy : ln T y = ly) (hxy : x ≠ y ∨ b + (t + 3902) ≤ a) (ht : I x (a + 3) = (t : Int)) (hla : a + t + 3902 ≤ lx) (hlb : b + t + 3902 ≤ ly) (hlx : lx < 1000000) (hly : ly < 1000000) (hq : Q none T (cpM I x y a b (t + 3902))) : EvE G mX12_copies d [aR x, aI ((a : Nat) : Int), aR y, aI ((b : Nat) : Int)] T I Q := by
  refine EvE.mk (lv0 := [some (aR x), some (aI ((a : Nat) : Int)), some (aR y), some (aI ((b : Nat) : Int)), none, none]) (Nat.le_of_ble_eq_true rfl) (by decide +kernel) rfl ?_
  refine r_sipush (pc := 0) dX12_copies_0 rfl (in32_of rfl) ?_
  refine r_aload_n (pc := 3) (i := 0) dX12_copies_3 rfl rfl ?_
  refine r_iload_n (pc := 4) (i := 1) dX12_copies_4 rfl rfl ?_
  refine r_iconst (pc := 5) dX12_copies_5 (in32_of rfl) ?_
  refine r_iaddN (pc := 6) (c := ((a + 3 : Nat) : Int)) dX12_copies_6 (by unfold w32; omega) ?_
  refine r_ild (pc := 7) (a + 3) dX12_copies_7 kx gx rfl (by rw [hx]; omega) ?_
  refine r_top (b := ((t : Nat) : Int)) (ht) ?_
  refine r_iaddN (pc := 8) (c := ((t + 3902 : Nat) : Int)) dX12_copies_8 (by unfold w32; omega) ?_
  refine r_istore (pc := 9) (i := 4) (lv' := [_, _, _, _, _, _]) dX12_copies_9 (by decide) rfl ?_
  refine r_iconst (pc := 11) dX12_copies_11 (in32_of rfl) ?_
  refine r_istore (pc := 12) (i := 5) (lv' := [_, _, _, _, _, _]) dX12_copies_12 (by decide) rfl ?_
  refine r_mem (I2 := cpM I x y a b 0) (cpM_0 I x y a b).symm ?_
  refine loop1 (fun (k : Nat) => k ≤ t + 3902) (fun (k : Nat) => t + 3902 - k) (fun (k : Nat) => [some (aR x), some (aI ((a : Nat) : Int)), some (aR y), some (aI ((b : Nat) : Int)), some (aI ((t + 3902 : Nat) : Int)), some (aI ((k : Nat) : Int))]) (fun _ => T) (fun (k : Nat) => cpM I x y a b k) ?_ 0 (Nat.zero_le _)
  intro k hP ih
  have hP : k ≤ t + 3902 := hP
  refine (?_ : Ev G mX12_copies d 14 [some (aR x), some (aI ((a : Nat) : Int)), some (aR y), some (aI ((b : Nat) : Int)), some (aI ((t + 3902 : Nat) : Int)), some (aI ((k : Nat) : Int))] [] T (cpM I x y a b k) Q)
  refine r_iload (pc := 14) (i := 5) dX12_copies_14 rfl ?_
  refine r_iload (pc := 16) (i := 4) dX12_copies_16 rfl ?_
  refine r_icmp_ge (pc := 18) (tgt := 39) dX12_copies_18 rfl (fun c18 => ?_) (fun c18 => ?_)
  · exact r_vret (pc := 39) dX12_copies_39 trivial (by rw [show t + 3902 = k by omega] at hq; exact hq)
  · refine r_aload_n (pc := 21) (i := 2) dX12_copies_21 rfl rfl ?_
    refine r_iload_n (pc := 22) (i := 3) dX12_copies_22 rfl rfl ?_
    refine r_iload (pc := 23) (i := 5) dX12_copies_23 rfl ?_
    refine r_iaddN (pc := 25) (c := ((b + k : Nat) : Int)) dX12_copies_25 (by unfold w32; omega) ?_
    refine r_aload_n (pc := 26) (i := 0) dX12_copies_26 rfl rfl ?_
    refine r_iload_n (pc := 27) (i := 1) dX12_copies_27 rfl rfl ?_
    refine r_iload (pc := 28) (i := 5) dX12_copies_28 rfl ?_
    refine r_iaddN (pc := 30) (c := ((a + k : Nat) : Int)) dX12_copies_30 (by unfold w32; omega) ?_
    refine r_ild (pc := 31) (a + k) dX12_copies_31 kx gx rfl (by rw [hx]; omega) ?_
    refine r_top (b := I x (a + k)) (cpM_rd hxy (by omega) _) ?_
    refine r_ist (pc := 32) (b + k) dX12_copies_32 ky gy rfl (by rw [hy]; omega) ?_
    refine r_iincN (pc := 33) (i := 5) (c := ((k + 1 : Nat) : Int)) (lv' := [_, _, _, _, _, _]) dX12_copies_33 rfl (by decide) (by unfold w32; omega) rfl ?_
    refine r_goto (pc := 36) (tgt := 14) dX12_copies_36 rfl ?_
    exact Ev.re rfl (cpM_succ I x y a b k) (ih (k + 1) (by omega) (by omega))
end M13

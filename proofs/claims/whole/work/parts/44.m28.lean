section M28
variable {G : Gl} {d : Nat} {T : Sh} {I : Mi} {N : Nat → Int} {Q : Option AV → Sh → Mi → Prop}
def bA (B : Nat → Int) (tp k : Nat) : Int := if k < tp then ian (B k) 255 else -1
theorem btA_bA {I : Mi} {tp k : Nat} (h : I 274 1 = (tp : Int)) : btA I (k : Int) = bA (I 275) tp k := by
  unfold btA bA
  rw [h]
  by_cases g : k < tp
  · rw [if_pos g, if_pos (by omega)]; rfl
  · rw [if_neg g, if_neg (by omega)]
def skS (B : Nat → Int) (tp : Nat) : Nat → Nat → Nat
  | 0, a => a
  | u + 1, a => if bA B tp a = 32 then skS B tp u (a + 1) else a
theorem skS_succ (B : Nat → Int) (tp u a : Nat) : skS B tp (u + 1) a = if bA B tp a = 32 then skS B tp u (a + 1) else a := rfl
theorem bA_lt {B : Nat → Int} {tp a : Nat} (h : bA B tp a = 32) : a < tp := by
  unfold bA at h
  split at h
  · assumption
  · omega
theorem skS_le (B : Nat → Int) (tp : Nat) : ∀ u a, a ≤ tp → skS B tp u a ≤ tp := by
  intro u
  induction u with
  | zero => intro a h; exact h
  | succ u ih =>
    intro a h
    rw [skS_succ]
    split
    · rename_i g; exact ih (a + 1) (bA_lt g)
    · exact h
theorem un9_id {H : Nat → Int} {a : Nat} (h : H 9 = (a : Int)) : un H 9 (a : Int) = H := by
  funext q
  unfold un
  split
  · rename_i e; rw [e, h]
  · rfl
theorem tp_rd {I : Mi} {H : Nat → Int} {x : Int} {tp : Nat} (h : H 1 = (tp : Int)) : (sr I 274 (un H 9 x)) 274 1 = (tp : Int) := (congrFun (sr_row _ _ _) 1).trans ((un_ne (by decide)).trans h)
theorem c_next {tp a : Nat} {H : Nat → Int} (hT : ShM T) (hd : 1 ≤ d) (htp : H 1 = (tp : Int)) (htp2 : tp ≤ 200) (ha : H 9 = (a : Int)) (ha2 : a ≤ tp) (hq : Q (some (aI (bA (I 275) tp (skS (I 275) tp (tp - a) a)))) T (sr I 274 (un H 9 ((skS (I 275) tp (tp - a) a : Nat) : Int)))) : EvE G mX12_next d [aR 274] T (sr I 274 H) Q := by
  refine EvE.mk (lv0 := [some (aR 274)]) (Nat.le_of_ble_eq_true rfl) (by decide +kernel) rfl ?_
  refine r_mem (I2 := sr I 274 (un H 9 ((a : Nat) : Int))) (by rw [un9_id ha]) ?_
  refine loop1 (fun (b : Nat) => b ≤ tp ∧ skS (I 275) tp (tp - a) a = skS (I 275) tp (tp - b) b) (fun (b : Nat) => tp - b) (fun (b : Nat) => [some (aR 274)]) (fun _ => T) (fun (b : Nat) => sr I 274 (un H 9 ((b : Nat) : Int))) ?_ a ⟨ha2, rfl⟩
  intro b hP ih
  have hP : b ≤ tp ∧ skS (I 275) tp (tp - a) a = skS (I 275) tp (tp - b) b := hP
  refine (?_ : Ev G mX12_next d 0 [some (aR 274)] [] T (sr I 274 (un H 9 ((b : Nat) : Int))) Q)
  refine r_aload_n (pc := 0) (i := 0) dX12_next_0 rfl rfl ?_
  refine r_aload_n (pc := 1) (i := 0) dX12_next_1 rfl rfl ?_
  refine r_getfi (pc := 2) cks dX12_next_2 fl_X12_83 rfl (kM274 hT) (ltM hT (by omega)) ?_
  refine r_top (b := (un H 9 ((b : Nat) : Int)) 9) (sr_at _ _ _ _) ?_
  refine r_top (b := ((b : Nat) : Int)) (un_at) ?_
  refine r_callV1 (pc := 5) (d - 1) [aI ((b : Nat) : Int)] dX12_next_5 (CV.mk2 mk_X12_byteAt lk_X12_86) (RC.of (ltM hT (by omega)) (kM274 hT) (by decide) rfl) rfl rfl (by omega) (Nat.le_of_ble_eq_true rfl) (Nat.le_of_ble_eq_true rfl) (c_byteAt (k := ((b : Nat) : Int)) hT (by omega) (by rw [tp_rd htp]; omega) ?_)
  refine ⟨_, rfl, fun _ => ?_⟩
  refine r_top (b := bA (I 275) tp b) (btA_bA (tp_rd htp)) ?_
  refine r_bipush (pc := 8) dX12_next_8 rfl (in32_of rfl) ?_
  refine r_icmp_ne (pc := 10) (tgt := 26) dX12_next_10 rfl (fun c10 => ?_) (fun c10 => ?_)
  · refine r_aload_n (pc := 26) (i := 0) dX12_next_26 rfl rfl ?_
    refine r_aload_n (pc := 27) (i := 0) dX12_next_27 rfl rfl ?_
    refine r_getfi (pc := 28) cks dX12_next_28 fl_X12_83 rfl (kM274 hT) (ltM hT (by omega)) ?_
    refine r_top (b := (un H 9 ((b : Nat) : Int)) 9) (sr_at _ _ _ _) ?_
    refine r_top (b := ((b : Nat) : Int)) (un_at) ?_
    refine r_callV1 (pc := 31) (d - 1) [aI ((b : Nat) : Int)] dX12_next_31 (CV.mk2 mk_X12_byteAt lk_X12_86) (RC.of (ltM hT (by omega)) (kM274 hT) (by decide) rfl) rfl rfl (by omega) (Nat.le_of_ble_eq_true rfl) (Nat.le_of_ble_eq_true rfl) (c_byteAt (k := ((b : Nat) : Int)) hT (by omega) (by rw [tp_rd htp]; omega) ?_)
    refine ⟨_, rfl, fun _ => ?_⟩
    refine r_top (b := bA (I 275) tp b) (btA_bA (tp_rd htp)) ?_
    exact r_iret (pc := 34) dX12_next_34 trivial (by have e : skS (I 275) tp (tp - a) a = b := (by rw [hP.2]; cases hz : tp - b with | zero => rfl | succ z => rw [skS_succ, if_neg c10]); rw [e] at hq; exact hq)
  · have c10 := Decidable.of_not_not c10
    refine r_aload_n (pc := 13) (i := 0) dX12_next_13 rfl rfl ?_
    refine r_dup (pc := 14) dX12_next_14 rfl ?_
    refine r_getfi (pc := 15) cks dX12_next_15 fl_X12_83 rfl (kM274 hT) (ltM hT (by omega)) ?_
    refine r_top (b := (un H 9 ((b : Nat) : Int)) 9) (sr_at _ _ _ _) ?_
    refine r_top (b := ((b : Nat) : Int)) (un_at) ?_
    refine r_iconst (pc := 18) dX12_next_18 (in32_of rfl) ?_
    refine r_iaddN (pc := 19) (c := ((b + 1 : Nat) : Int)) dX12_next_19 (by unfold w32; omega) ?_
    refine r_putfi (pc := 20) cks dX12_next_20 fl_X12_83 (pf_12_9 _ _) rfl (kM274 hT) (ltM hT (by omega)) ?_
    refine r_mem (I2 := sr I 274 (un (un H 9 ((b : Nat) : Int)) 9 ((b + 1 : Nat) : Int))) (by rw [up2_sr]) ?_
    refine r_goto (pc := 23) (tgt := 0) dX12_next_23 rfl ?_
    exact Ev.re rfl (by rw [un_un]) (ih (b + 1) ⟨by have := bA_lt c10; omega, by rw [hP.2, show tp - b = (tp - (b + 1)) + 1 by (have := bA_lt c10; omega), skS_succ, if_pos c10]⟩ (by have := bA_lt c10; omega))
end M28

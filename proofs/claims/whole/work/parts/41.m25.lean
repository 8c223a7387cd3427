section M25
variable {G : Gl} {d : Nat} {T : Sh} {I : Mi} {N : Nat → Int} {Q : Option AV → Sh → Mi → Prop}
def fxI (Z Y S : Nat → Int) (n p : Nat) : Int := bi ((rdF Z Y n 0 (adS (z8 S 8) p)).1 = 0)
theorem c_isFixed {n p : Nat} {S Z Y H : Nat → Int} (hT : ShM T) (hd : 2 ≤ d) (hn : N 1 = (n : Int)) (hn2 : n ≤ 256) (hp : p < 256) (hq : Q (some (aI (fxI Z Y S n p))) T (sr (sr (sr (sr (sr I 288 ((rdF Z Y n 0 (adS (z8 S 8) p)).2)) 289 Z) 290 Y) 274 H) 283 N)) : EvE G mX12_isFixed d [aR 274, aI ((p : Nat) : Int)] T (sr (sr (sr (sr (sr I 288 S) 289 Z) 290 Y) 274 H) 283 N) Q := by
  refine EvE.mk (lv0 := [some (aR 274), some (aI ((p : Nat) : Int))]) (Nat.le_of_ble_eq_true rfl) (by decide +kernel) rfl ?_
  refine r_aload_n (pc := 0) (i := 0) dX12_isFixed_0 rfl rfl ?_
  refine r_iload_n (pc := 1) (i := 1) dX12_isFixed_1 rfl rfl ?_
  refine r_callV0 (pc := 2) (d - 1) [aI ((p : Nat) : Int)] dX12_isFixed_2 (CV.mk2 mk_X12_laysOne lk_X12_290) (RC.of (ltM hT (by omega)) (kM274 hT) (by decide) rfl) rfl rfl (by omega) (Nat.le_of_ble_eq_true rfl) (Nat.le_of_ble_eq_true rfl) (c_laysOne (p := p) hT (by omega) (by omega) ?_)
  refine ⟨rfl, fun _ => ?_⟩
  refine r_aload_n (pc := 5) (i := 0) dX12_isFixed_5 rfl rfl ?_
  refine r_callV1 (pc := 6) (d - 1) [] dX12_isFixed_6 (CV.mk2 mk_X12_reduces lk_X12_278) (RC.of (ltM hT (by omega)) (kM274 hT) (by decide) rfl) rfl rfl (by omega) (Nat.le_of_ble_eq_true rfl) (Nat.le_of_ble_eq_true rfl) (c_reduces (n := n) (S := adS (z8 S 8) p) hT (by omega) hn hn2 ?_)
  refine ⟨_, rfl, fun _ => ?_⟩
  refine r_if_ne (pc := 9) (tgt := 16) dX12_isFixed_9 rfl (fun c9 => ?_) (fun c9 => ?_)
  · refine r_iconst (pc := 16) dX12_isFixed_16 (in32_of rfl) ?_
    exact r_iret (pc := 17) dX12_isFixed_17 (Or.inl rfl) (by rw [show fxI Z Y S n p = 0 from bi_f (c9)] at hq; exact hq)
  · have c9 := Decidable.of_not_not c9
    refine r_iconst (pc := 12) dX12_isFixed_12 (in32_of rfl) ?_
    refine r_goto (pc := 13) (tgt := 17) dX12_isFixed_13 rfl ?_
    exact r_iret (pc := 17) dX12_isFixed_17 (Or.inr rfl) (by rw [show fxI Z Y S n p = 1 from bi_t (c9)] at hq; exact hq)
end M25

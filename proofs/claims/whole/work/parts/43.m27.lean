section M27
variable {G : Gl} {d : Nat} {T : Sh} {I : Mi} {N : Nat → Int} {Q : Option AV → Sh → Mi → Prop}
def btA (I : Mi) (k : Int) : Int := if k < I 274 1 then ian (I 275 k.toNat) 255 else -1
theorem c_byteAt {k : Int} (hT : ShM T) (hk : 0 ≤ k) (ht : I 274 1 ≤ 200) (hq : Q (some (aI (btA I k))) T I) : EvE G mX12_byteAt d [aR 274, aI k] T I Q := by
  refine EvE.mk (lv0 := [some (aR 274), some (aI k)]) (Nat.le_of_ble_eq_true rfl) (by decide +kernel) rfl ?_
  refine r_iload_n (pc := 0) (i := 1) dX12_byteAt_0 rfl rfl ?_
  refine r_aload_n (pc := 1) (i := 0) dX12_byteAt_1 rfl rfl ?_
  refine r_getfi (pc := 2) cks dX12_byteAt_2 fl_X12_73 rfl (kM274 hT) (ltM hT (by omega)) ?_
  refine r_icmp_ge (pc := 5) (tgt := 21) dX12_byteAt_5 rfl (fun c5 => ?_) (fun c5 => ?_)
  · refine r_iconst (pc := 21) dX12_byteAt_21 (in32_of rfl) ?_
    exact r_iret (pc := 22) dX12_byteAt_22 trivial (by rw [show btA I k = (-1) by unfold btA; (repeat' split) <;> first | rfl | omega | (exfalso; omega)] at hq; exact hq)
  · refine r_aload_n (pc := 8) (i := 0) dX12_byteAt_8 rfl rfl ?_
    refine r_getfr (pc := 9) (b := 275) cks dX12_byteAt_9 fl_X12_7 rfl (kM274 hT) (ltM hT (by omega)) (rM0 hT) ?_
    refine r_iload_n (pc := 12) (i := 1) dX12_byteAt_12 rfl rfl ?_
    refine r_bld (pc := 13) (k.toNat) dX12_byteAt_13 (Or.inl (kM275 hT)) (ltM hT (by omega)) (by omega) (by rw [lM275 hT]; omega) ?_
    refine r_sipush (pc := 14) dX12_byteAt_14 rfl (in32_of rfl) ?_
    refine r_iand (pc := 17) dX12_byteAt_17 ?_
    refine r_goto (pc := 18) (tgt := 22) dX12_byteAt_18 rfl ?_
    exact r_iret (pc := 22) dX12_byteAt_22 trivial (by rw [show btA I k = (ian (I 275 k.toNat) 255) by unfold btA; (repeat' split) <;> first | rfl | omega | (exfalso; omega)] at hq; exact hq)
theorem c_fails {q p : Int} (hT : ShM T) (hp0 : 0 ≤ p) (hp1 : p ≤ 1000) (hq0 : 0 ≤ q) (hq1 : q ≤ 7) (hq : Q (some (aI 0)) T (up2 I 274 10 (8 * p + q))) : EvE G mX12_fails d [aR 274, aI q, aI p] T I Q := by
  refine EvE.mk (lv0 := [some (aR 274), some (aI q), some (aI p)]) (Nat.le_of_ble_eq_true rfl) (by decide +kernel) rfl ?_
  refine r_aload_n (pc := 0) (i := 0) dX12_fails_0 rfl rfl ?_
  refine r_bipush (pc := 1) dX12_fails_1 rfl (in32_of rfl) ?_
  refine r_iload_n (pc := 3) (i := 2) dX12_fails_3 rfl rfl ?_
  refine r_imulN (pc := 4) (c := (8 * p)) dX12_fails_4 (by unfold w32; omega) ?_
  refine r_iload_n (pc := 5) (i := 1) dX12_fails_5 rfl rfl ?_
  refine r_iaddN (pc := 6) (c := (8 * p + q)) dX12_fails_6 (by unfold w32; omega) ?_
  refine r_putfi (pc := 7) cks dX12_fails_7 fl_X12_80 (pf_12_10 _ _) rfl (kM274 hT) (ltM hT (by omega)) ?_
  refine r_iconst (pc := 10) dX12_fails_10 (in32_of rfl) ?_
  exact r_iret (pc := 11) dX12_fails_11 (Or.inl rfl) hq
end M27

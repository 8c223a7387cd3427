section C81
variable {G : Gl} {d : Nat} {T : Sh} {I : Mi} {N : Nat → Int} {Q : Option AV → Sh → Mi → Prop}
theorem law_loop {G : Gl} {d : Nat} (hd : 10 ≤ d) (hLn : gL G ≤ 3072) : ∀ (f i : Nat) (T : Sh) (M : Mi), gL G + 6 ≤ i + f → i ≤ gL G + 6 → LI T M → Ev G mL_law d 18 [some (aE 0), some (aR 0), some (aR 274), some (aI ((i : Nat) : Int))] [] T M LQ := by
  have step : ∀ (i : Nat) (T : Sh) (M : Mi), i ≤ gL G + 6 → LI T M → (i + 6 ≤ gL G → ∀ T2 M2, LI T2 M2 → Ev G mL_law d 978 [some (aE 0), some (aR 0), some (aR 274), some (aI ((i : Nat) : Int))] [] T2 M2 LQ) → Ev G mL_law d 18 [some (aE 0), some (aR 0), some (aR 274), some (aI ((i : Nat) : Int))] [] T M LQ := by
    intro i T M hi h kk
    refine r_iload_n (pc := 18) (i := 3) dL_law_18 rfl rfl ?_
    refine r_aload_nE (pc := 19) (i := 0) dL_law_19 rfl rfl ?_
    refine r_xlen (pc := 20) (e := 0) (by decide) dL_law_20 (by show gL G < 2147483648; omega) ?_
    refine r_bipush (pc := 21) dL_law_21 rfl (in32_of rfl) ?_
    refine r_isubN (pc := 23) (c := ((gL G : Nat) : Int) - 6) dL_law_23 (by show w32 (((gL G : Nat) : Int) - 6) = _; unfold w32; omega) ?_
    refine r_icmp_gt (pc := 24) (tgt := 984) dL_law_24 rfl (fun c => ?_) (fun c => ?_)
    · refine r_iconst (pc := 984) dL_law_984 (in32_of rfl) ?_
      exact r_iret (pc := 985) dL_law_985 (Or.inr rfl) ⟨rfl, h.room⟩
    · have hi6 : i + 6 ≤ gL G := by omega
      have kk := kk hi6
      refine r_aload_nE (pc := 27) (i := 0) dL_law_27 rfl rfl ?_
      refine r_iload_n (pc := 28) (i := 3) dL_law_28 rfl rfl ?_
      refine r_xload (pc := 29) (e := 0) (x := sv G i) (by decide) dL_law_29 (by omega) (sv_lt (by omega)) (sv_x G _) (sv_in G _) ?_
      refine r_bipush (pc := 30) dL_law_30 rfl (in32_of rfl) ?_
      refine r_iand (pc := 32) dL_law_32 ?_
      obtain ⟨c2, hc, hc2⟩ : ∃ c2 : Nat, ian (sv G i) 31 = (c2 : Int) ∧ c2 < 32 := ⟨(ian (sv G i) 31).toNat, by rw [ian_5]; omega, by rw [ian_5]; omega⟩
      rw [hc]
      have hcs : c2 = 0 ∨ c2 = 1 ∨ c2 = 2 ∨ c2 = 3 ∨ c2 = 4 ∨ c2 = 5 ∨ c2 = 6 ∨ c2 = 7 ∨ c2 = 8 ∨ c2 = 9 ∨ c2 = 10 ∨ c2 = 11 ∨ c2 = 12 ∨ c2 = 13 ∨ c2 = 14 ∨ c2 = 15 ∨ c2 = 16 ∨ c2 = 17 ∨ c2 = 18 ∨ c2 = 19 ∨ c2 = 20 ∨ c2 = 21 ∨ c2 = 22 ∨ c2 = 23 ∨ c2 = 24 ∨ c2 = 25 ∨ c2 = 26 ∨ c2 = 27 ∨ c2 = 28 ∨ c2 = 29 ∨ c2 = 30 ∨ c2 = 31 := by omega
      rcases hcs with rfl | rfl | rfl | rfl | rfl | rfl | rfl | rfl | rfl | rfl | rfl | rfl | rfl | rfl | rfl | rfl | rfl | rfl | rfl | rfl | rfl | rfl | rfl | rfl | rfl | rfl | rfl | rfl | rfl | rfl | rfl | rfl
      · exact r_tsw_in (pc := 33) (tgt := 176) dL_law_33 (by decide) (by decide) rfl rfl (law_0 hd hi6 hLn h kk)
      · exact r_tsw_in (pc := 33) (tgt := 239) dL_law_33 (by decide) (by decide) rfl rfl (law_1 hd hi6 hLn h kk)
      · exact r_tsw_in (pc := 33) (tgt := 262) dL_law_33 (by decide) (by decide) rfl rfl (law_2 hd hi6 hLn h kk)
      · exact r_tsw_in (pc := 33) (tgt := 275) dL_law_33 (by decide) (by decide) rfl rfl (law_3 hd hi6 hLn h kk)
      · exact r_tsw_in (pc := 33) (tgt := 298) dL_law_33 (by decide) (by decide) rfl rfl (law_4 hd hi6 hLn h kk)
      · exact r_tsw_in (pc := 33) (tgt := 311) dL_law_33 (by decide) (by decide) rfl rfl (law_5 hd hi6 hLn h kk)
      · exact r_tsw_in (pc := 33) (tgt := 344) dL_law_33 (by decide) (by decide) rfl rfl (law_6 hd hi6 hLn h kk)
      · exact r_tsw_in (pc := 33) (tgt := 377) dL_law_33 (by decide) (by decide) rfl rfl (law_7 hd hi6 hLn h kk)
      · exact r_tsw_in (pc := 33) (tgt := 390) dL_law_33 (by decide) (by decide) rfl rfl (law_8 hd hi6 hLn h kk)
      · exact r_tsw_in (pc := 33) (tgt := 403) dL_law_33 (by decide) (by decide) rfl rfl (law_9 hd hi6 hLn h kk)
      · exact r_tsw_in (pc := 33) (tgt := 416) dL_law_33 (by decide) (by decide) rfl rfl (law_10 hd hi6 hLn h kk)
      · exact r_tsw_in (pc := 33) (tgt := 429) dL_law_33 (by decide) (by decide) rfl rfl (law_11 hd hi6 hLn h kk)
      · exact r_tsw_in (pc := 33) (tgt := 452) dL_law_33 (by decide) (by decide) rfl rfl (law_12 hd hi6 hLn h kk)
      · exact r_tsw_in (pc := 33) (tgt := 465) dL_law_33 (by decide) (by decide) rfl rfl (law_13 hd hi6 hLn h kk)
      · exact r_tsw_in (pc := 33) (tgt := 488) dL_law_33 (by decide) (by decide) rfl rfl (law_14 hd hi6 hLn h kk)
      · exact r_tsw_in (pc := 33) (tgt := 501) dL_law_33 (by decide) (by decide) rfl rfl (law_15 hd hi6 hLn h kk)
      · exact r_tsw_in (pc := 33) (tgt := 534) dL_law_33 (by decide) (by decide) rfl rfl (law_16 hd hi6 hLn h kk)
      · exact r_tsw_in (pc := 33) (tgt := 567) dL_law_33 (by decide) (by decide) rfl rfl (law_17 hd hi6 hLn h kk)
      · exact r_tsw_in (pc := 33) (tgt := 600) dL_law_33 (by decide) (by decide) rfl rfl (law_18 hd hi6 hLn h kk)
      · exact r_tsw_in (pc := 33) (tgt := 613) dL_law_33 (by decide) (by decide) rfl rfl (law_19 hd hi6 hLn h kk)
      · exact r_tsw_in (pc := 33) (tgt := 636) dL_law_33 (by decide) (by decide) rfl rfl (law_20 hd hi6 hLn h kk)
      · exact r_tsw_in (pc := 33) (tgt := 669) dL_law_33 (by decide) (by decide) rfl rfl (law_21 hd hi6 hLn h kk)
      · exact r_tsw_in (pc := 33) (tgt := 692) dL_law_33 (by decide) (by decide) rfl rfl (law_22 hd hi6 hLn h kk)
      · exact r_tsw_in (pc := 33) (tgt := 735) dL_law_33 (by decide) (by decide) rfl rfl (law_23 hd hi6 hLn h kk)
      · exact r_tsw_in (pc := 33) (tgt := 774) dL_law_33 (by decide) (by decide) rfl rfl (law_24 hd hi6 hLn h kk)
      · exact r_tsw_in (pc := 33) (tgt := 807) dL_law_33 (by decide) (by decide) rfl rfl (law_25 hd hi6 hLn h kk)
      · exact r_tsw_in (pc := 33) (tgt := 830) dL_law_33 (by decide) (by decide) rfl rfl (law_26 hd hi6 hLn h kk)
      · exact r_tsw_in (pc := 33) (tgt := 863) dL_law_33 (by decide) (by decide) rfl rfl (law_27 hd hi6 hLn h kk)
      · exact r_tsw_in (pc := 33) (tgt := 886) dL_law_33 (by decide) (by decide) rfl rfl (law_28 hd hi6 hLn h kk)
      · exact r_tsw_in (pc := 33) (tgt := 909) dL_law_33 (by decide) (by decide) rfl rfl (law_29 hd hi6 hLn h kk)
      · exact r_tsw_in (pc := 33) (tgt := 932) dL_law_33 (by decide) (by decide) rfl rfl (law_30 hd hi6 hLn h kk)
      · exact r_tsw_in (pc := 33) (tgt := 955) dL_law_33 (by decide) (by decide) rfl rfl (law_31 hd hi6 hLn h kk)
  intro f
  induction f with
  | zero => intro i T M h1 h2 h; exact step i T M h2 h (fun h3 => absurd h3 (by omega))
  | succ f ih =>
    intro i T M h1 h2 h
    refine step i T M h2 h (fun h3 T2 M2 hL2 => ?_)
    refine r_iincN (pc := 978) (i := 3) (c := ((i + 6 : Nat) : Int)) (lv' := [_, _, _, _]) dL_law_978 rfl (by decide) (by unfold w32; omega) rfl ?_
    refine r_goto (pc := 981) (tgt := 18) dL_law_981 rfl ?_
    exact ih (i + 6) T2 M2 (by omega) (by omega) hL2
theorem LI0 {T0 T1 V : Sh} {I0 I1 J M : Mi} {m m2 : Nat} {R X : Nat → Int} (h : At T0 I0 V J 0 LKD m) (h2 : At T1 I1 V J 274 LX12_init m2) (hm : sl T0 + m ≤ 500000) (hM : ShM V) (hJ : M = sr (sr (sr (sr J 281 R) 282 X) 280 (usR (J 280) (usR (J 281) (J 279) 9) 9)) 283 (begins (J 283))) : LI V M := by
  obtain ⟨w1, w2, w3, w4, ⟨w5, w6, w7⟩, w8, w9, w10⟩ := x12_words h2
  have hf : ∀ b, b ≠ 280 → b ≠ 281 → b ≠ 282 → b ≠ 283 → M b = J b := fun b b1 b2 b3 b4 => by rw [hJ, sr_ne b4, sr_ne b1, sr_ne b3, sr_ne b2]
  have e283 : M 283 = begins (J 283) := by rw [hJ, sr_row]
  have e280 : M 280 = usR (J 280) (usR (J 281) (J 279) 9) 9 := by rw [hJ, sr_ne (by decide), sr_row]
  have hL : ∀ k, k < 9 → usR (J 280) (usR (J 281) (J 279) 9) 9 k = eUsual k := fun k hk => by
    rw [show usR (J 280) (usR (J 281) (J 279) 9) 9 k = J 279 k from (if_pos hk).trans (if_pos hk)]
    exact w4 k hk
  have f275 := hf 275 (by decide) (by decide) (by decide) (by decide)
  have f285 := hf 285 (by decide) (by decide) (by decide) (by decide)
  have f286 := hf 286 (by decide) (by decide) (by decide) (by decide)
  have f287 := hf 287 (by decide) (by decide) (by decide) (by decide)
  have f274 := hf 274 (by decide) (by decide) (by decide) (by decide)
  have f276 := hf 276 (by decide) (by decide) (by decide) (by decide)
  have f277 := hf 277 (by decide) (by decide) (by decide) (by decide)
  have f278 := hf 278 (by decide) (by decide) (by decide) (by decide)
  have f279 := hf 279 (by decide) (by decide) (by decide) (by decide)
  have hC := KC0 (M := M) (Bt := J 275) (W := J 285) (P := J 286) (N := J 283) h (fun b hb => hf b (by omega) (by omega) (by omega) (by omega)) hL w10
  refine ⟨A0, 0, 0, 0, KSh0 h hm hM, ?_, ⟨?_, ?_, ?_⟩, ?_, ?_, ?_, ?_⟩
  · rw [e280, e283, f275, f285, f286, f287]; exact hC
  · rw [f274]; exact w5
  · rw [f274]; exact w6
  · rw [f274]; exact w7
  · rw [f285]; exact w8
  · rw [f286]; exact w9
  · rw [e283, f285, f286, f287]
    exact ⟨F5.no (by rw [beg_at.1]; decide), fun j hj => absurd hj (Nat.not_lt_zero j), fun k hk g => absurd (w10 k hk) g⟩
  · unfold Tb
    rw [f276, f277, f278, f279]
    exact ⟨w1, w2, w3, w4⟩
def eT : Sh := (fun _ => 0, fun _ => 0, fun _ _ => none, 0, 0)
def eI : Mi := fun _ _ => 0
theorem At_e : At eT eI eT eI 0 [] 0 := ⟨rfl, rfl, fun b hb => absurd hb (Nat.not_lt_zero b), fun i e he => by simp at he⟩
theorem law_main {G : Gl} {d : Nat} (hd : 10 ≤ d) (hLn : gL G ≤ 3072) : Ev G mL_law d 0 [some (aE 0), none, none, none] [] eT eI LQ := by
  refine q_new (pc := 0) (n := 0) (m2 := 12) dL_law_0 nl_L_7 At_e rfl (by decide +kernel) (fun U1 K1 h1 => ?_)
  refine r_dup (pc := 3) dL_law_3 rfl ?_
  refine q_call (pc := 4) (n := 0) (m2 := 71183) (l2 := LX11_init) (m3 := 71171) dL_law_4 (CI.mk2 mk_X11_init lk_L_9) (by omega) (Nat.le_of_ble_eq_true rfl) (Nat.le_of_ble_eq_true rfl) h1 rfl rfl (fun Q2 g1 g2 => k_X11_init g1 (by omega) g2) (by decide +kernel) (fun U2 K2 h2 => ?_)
  refine r_astore_n (pc := 7) (i := 1) (lv' := [_, _, _, _]) dL_law_7 rfl (by decide) rfl ?_
  refine q_new (pc := 8) (n := 274) (m2 := 71207) dL_law_8 nl_L_10 h2 (by decide +kernel) (by decide +kernel) (fun U3 K3 h3 => ?_)
  refine r_dup (pc := 11) dL_law_11 rfl ?_
  have hln : (sB 0 LX11_init []).length = 274 := by decide +kernel
  refine r_callI (pc := 12) (As := []) (Q2 := fun v V M => v = none ∧ LI V M) (d2 := d - 1) (k_X12_init (At.one h3 hln rfl) (by omega) (fun V J hV hMV => ⟨rfl, LI0 (At.sub h3 hln hV) hV (by decide) hMV rfl⟩)) dL_law_12 (CI.mk2 mk_X12_init lk_L_12) rfl rfl (by omega) (Nat.le_of_ble_eq_true rfl) (Nat.le_of_ble_eq_true rfl) (fun v V M hv _ => ?_)
  obtain ⟨rfl, hL⟩ := hv
  refine r_astore_n (pc := 15) (i := 2) (lv' := [_, _, _, _]) dL_law_15 rfl (by decide) rfl ?_
  refine r_iconst (pc := 16) dL_law_16 (in32_of rfl) ?_
  refine r_istore_n (pc := 17) (i := 3) (lv' := [_, _, _, _]) dL_law_17 rfl (by decide) rfl ?_
  exact law_loop hd hLn (gL G + 6) 0 V M (by omega) (by omega) hL
end C81

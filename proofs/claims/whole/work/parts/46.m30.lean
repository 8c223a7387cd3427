section M30
variable {G : Gl} {d : Nat} {T : Sh} {I : Mi} {N : Nat → Int} {Q : Option AV → Sh → Mi → Prop}
def wdL (w : Nat) : Nat := [7, 4, 5, 3, 6, 5, 6, 4, 4].getD w 0
def wdT (j : Nat) : Int := [115, 105, 103, 110, 97, 108, 115, 0, 115, 101, 101, 100, 0, 0, 0, 0, 110, 111, 105, 115, 101, 0, 0, 0, 115, 112, 121, 0, 0, 0, 0, 0, 115, 97, 109, 112, 108, 101, 0, 0, 98, 108, 111, 99, 107, 0, 0, 0, 112, 97, 115, 115, 101, 115, 0, 0, 104, 97, 115, 104, 0, 0, 0, 0, 115, 97, 102, 101, 0, 0, 0, 0].getD j 0
theorem wdT_z : ∀ w : Nat, w < 9 → ∀ n : Nat, n < 8 → n ≤ wdL w → (wdT (8 * w + n) = 0 ↔ n = wdL w) := by decide +kernel
theorem wdL_lt : ∀ w : Nat, w < 9 → wdL w < 8 := by decide
/-- word w stands at s, and no letter behind it -/
abbrev wIs (f : Nat → Int) (s w : Nat) : Prop := (∀ q, q < wdL w → f (s + q) = wdT (8 * w + q)) ∧ ¬ (97 ≤ f (s + wdL w) ∧ f (s + wdL w) ≤ 122)
def wdF (f : Nat → Int) (s : Nat) : Nat → Nat → Int
  | 0, _ => -1
  | u + 1, w => if wIs f s w then (w : Int) else wdF f s u (w + 1)
theorem wdF_succ (f : Nat → Int) (s u w : Nat) : wdF f s (u + 1) w = if wIs f s w then (w : Int) else wdF f s u (w + 1) := rfl
theorem btA_B {J : Mi} {B : Nat → Int} {tp k : Nat} (h : J 274 1 = (tp : Int)) (hB : J 275 = B) : btA J (k : Int) = bA B tp k := by
  rw [btA_bA h, hB]
theorem H1_un {H : Nat → Int} {x : Int} {tp : Nat} (h : H 1 = (tp : Int)) : un H 9 x 1 = (tp : Int) := (un_ne (by decide)).trans h
theorem c_bAt {k tp : Nat} {H B : Nat → Int} (hT : ShM T) (htp : H 1 = (tp : Int)) (htp2 : tp ≤ 200) (hB : I 275 = B) (hq : Q (some (aI (bA B tp k))) T (sr I 274 H)) : EvE G mX12_byteAt d [aR 274, aI ((k : Nat) : Int)] T (sr I 274 H) Q := by
  have h1 : (sr I 274 H) 274 1 = (tp : Int) := (congrFun (sr_row _ _ _) 1).trans htp
  have h2 : (sr I 274 H) 275 = B := (sr_ne (by decide)).trans hB
  exact c_byteAt (k := ((k : Nat) : Int)) hT (by omega) (by rw [h1]; omega) (by rw [btA_B h1 h2]; exact hq)
theorem c_nx {tp a s : Nat} {H B : Nat → Int} (hT : ShM T) (hd : 1 ≤ d) (htp : H 1 = (tp : Int)) (htp2 : tp ≤ 200) (ha : H 9 = (a : Int)) (ha2 : a ≤ tp) (hB : I 275 = B) (hs : skS B tp (tp - a) a = s) (hq : Q (some (aI (bA B tp s))) T (sr I 274 (un H 9 ((s : Nat) : Int)))) : EvE G mX12_next d [aR 274] T (sr I 274 H) Q := by
  subst hs
  subst hB
  exact c_next hT hd htp htp2 ha ha2 hq
theorem c_wordHere {tp a s : Nat} {H B : Nat → Int} (hT : ShM T) (hd : 2 ≤ d) (htp : H 1 = (tp : Int)) (htp2 : tp ≤ 200) (ha : H 9 = (a : Int)) (ha2 : a ≤ tp) (hB : I 275 = B) (hs : skS B tp (tp - a) a = s) (hW : ∀ q, q < 72 → I 276 q = wdT q) (hq : Q (some (aI (wdF (bA B tp) s 9 0))) T (sr I 274 (un H 9 ((s : Nat) : Int)))) : EvE G mX12_wordHere d [aR 274] T (sr I 274 H) Q := by
  have hs2 : s ≤ tp := hs ▸ skS_le B tp (tp - a) a ha2
  refine EvE.mk (lv0 := [some (aR 274), none, none]) (Nat.le_of_ble_eq_true rfl) (by decide +kernel) rfl ?_
  refine r_aload_n (pc := 0) (i := 0) dX12_wordHere_0 rfl rfl ?_
  refine r_callV1 (pc := 1) (d - 1) [] dX12_wordHere_1 (CV.mk2 mk_X12_next lk_X12_90) (RC.of (ltM hT (by omega)) (kM274 hT) (by decide) rfl) rfl rfl (by omega) (Nat.le_of_ble_eq_true rfl) (Nat.le_of_ble_eq_true rfl) (c_nx (tp := tp) (a := a) (s := s) (B := B) hT (by omega) htp htp2 ha ha2 hB hs ?_)
  refine ⟨_, rfl, fun _ => ?_⟩
  refine r_pop (pc := 4) dX12_wordHere_4 rfl ?_
  refine r_iconst (pc := 5) dX12_wordHere_5 (in32_of rfl) ?_
  refine r_istore_n (pc := 6) (i := 1) (lv' := [_, _, _]) dX12_wordHere_6 rfl (by decide) rfl ?_
  refine loop1 (fun (w : Nat) => w ≤ 9 ∧ wdF (bA B tp) s 9 0 = wdF (bA B tp) s (9 - w) w) (fun (w : Nat) => 9 - w) (fun (w : Nat) => [some (aR 274), some (aI ((w : Nat) : Int)), none]) (fun _ => T) (fun (w : Nat) => sr I 274 (un H 9 ((s : Nat) : Int))) ?_ 0 ⟨Nat.zero_le _, rfl⟩
  intro w hP ih
  have hP : w ≤ 9 ∧ wdF (bA B tp) s 9 0 = wdF (bA B tp) s (9 - w) w := hP
  refine (?_ : Ev G mX12_wordHere d 7 [some (aR 274), some (aI ((w : Nat) : Int)), none] [] T (sr I 274 (un H 9 ((s : Nat) : Int))) Q)
  refine r_iload_n (pc := 7) (i := 1) dX12_wordHere_7 rfl rfl ?_
  refine r_bipush (pc := 8) dX12_wordHere_8 rfl (in32_of rfl) ?_
  refine r_icmp_ge (pc := 10) (tgt := 97) dX12_wordHere_10 rfl (fun c10 => ?_) (fun c10 => ?_)
  · refine r_iconst (pc := 97) dX12_wordHere_97 (in32_of rfl) ?_
    exact r_iret (pc := 98) dX12_wordHere_98 trivial (by rw [hP.2, show 9 - w = 0 by omega] at hq; exact hq)
  · refine r_iconst (pc := 13) dX12_wordHere_13 (in32_of rfl) ?_
    refine r_istore_n (pc := 14) (i := 2) (lv' := [_, _, _]) dX12_wordHere_14 rfl (by decide) rfl ?_
    refine loop1 (fun (n : Nat) => n ≤ wdL w ∧ ∀ q, q < n → bA B tp (s + q) = wdT (8 * w + q)) (fun (n : Nat) => 8 - n) (fun (n : Nat) => [some (aR 274), some (aI ((w : Nat) : Int)), some (aI ((n : Nat) : Int))]) (fun _ => T) (fun (n : Nat) => sr I 274 (un H 9 ((s : Nat) : Int))) ?_ 0 ⟨Nat.zero_le _, fun q hq => absurd hq (Nat.not_lt_zero q)⟩
    intro n hP2 ih2
    have hP2 : n ≤ wdL w ∧ ∀ q, q < n → bA B tp (s + q) = wdT (8 * w + q) := hP2
    have hw9 : w < 9 := by omega
    have hl8 := wdL_lt w hw9
    have hz := wdT_z w hw9 n (by omega) hP2.1
    refine (?_ : Ev G mX12_wordHere d 15 [some (aR 274), some (aI ((w : Nat) : Int)), some (aI ((n : Nat) : Int))] [] T (sr I 274 (un H 9 ((s : Nat) : Int))) Q)
    refine r_aload_n (pc := 15) (i := 0) dX12_wordHere_15 rfl rfl ?_
    refine r_getfr (pc := 16) (b := 276) cks dX12_wordHere_16 fl_X12_13 rfl (kM274 hT) (ltM hT (by omega)) (rM2 hT) ?_
    refine r_bipush (pc := 19) dX12_wordHere_19 rfl (in32_of rfl) ?_
    refine r_iload_n (pc := 21) (i := 1) dX12_wordHere_21 rfl rfl ?_
    refine r_imulN (pc := 22) (c := ((8 * w : Nat) : Int)) dX12_wordHere_22 (by unfold w32; omega) ?_
    refine r_iload_n (pc := 23) (i := 2) dX12_wordHere_23 rfl rfl ?_
    refine r_iaddN (pc := 24) (c := ((8 * w + n : Nat) : Int)) dX12_wordHere_24 (by unfold w32; omega) ?_
    refine r_bld (pc := 25) (8 * w + n) dX12_wordHere_25 (Or.inl (kM276 hT)) (ltM hT (by omega)) rfl (by rw [lM276 hT]; omega) ?_
    refine r_top (b := I 276 (8 * w + n)) ((congrFun (sr_ne (by decide)) _).trans (rfl)) ?_
    refine r_top (b := wdT (8 * w + n)) (hW (8 * w + n) (by omega)) ?_
    refine r_if_eq (pc := 26) (tgt := 59) dX12_wordHere_26 rfl (fun c26 => ?_) (fun c26 => ?_)
    · have hn : n = wdL w := hz.mp c26
      refine r_aload_n (pc := 59) (i := 0) dX12_wordHere_59 rfl rfl ?_
      refine r_getfr (pc := 60) (b := 276) cks dX12_wordHere_60 fl_X12_13 rfl (kM274 hT) (ltM hT (by omega)) (rM2 hT) ?_
      refine r_bipush (pc := 63) dX12_wordHere_63 rfl (in32_of rfl) ?_
      refine r_iload_n (pc := 65) (i := 1) dX12_wordHere_65 rfl rfl ?_
      refine r_imulN (pc := 66) (c := ((8 * w : Nat) : Int)) dX12_wordHere_66 (by unfold w32; omega) ?_
      refine r_iload_n (pc := 67) (i := 2) dX12_wordHere_67 rfl rfl ?_
      refine r_iaddN (pc := 68) (c := ((8 * w + n : Nat) : Int)) dX12_wordHere_68 (by unfold w32; omega) ?_
      refine r_bld (pc := 69) (8 * w + n) dX12_wordHere_69 (Or.inl (kM276 hT)) (ltM hT (by omega)) rfl (by rw [lM276 hT]; omega) ?_
      refine r_top (b := I 276 (8 * w + n)) ((congrFun (sr_ne (by decide)) _).trans (rfl)) ?_
      refine r_top (b := wdT (8 * w + n)) (hW (8 * w + n) (by omega)) ?_
      refine r_if_ne (pc := 70) (tgt := 91) dX12_wordHere_70 rfl (fun c70 => absurd c70 (by omega)) (fun c70 => ?_)
      have c70 := Decidable.of_not_not c70
      refine r_aload_n (pc := 73) (i := 0) dX12_wordHere_73 rfl rfl ?_
      refine r_aload_n (pc := 74) (i := 0) dX12_wordHere_74 rfl rfl ?_
      refine r_getfi (pc := 75) cks dX12_wordHere_75 fl_X12_83 rfl (kM274 hT) (ltM hT (by omega)) ?_
      refine r_top (b := (un H 9 ((s : Nat) : Int)) 9) (sr_at _ _ _ _) ?_
      refine r_top (b := (s : Int)) (un_at) ?_
      refine r_iload_n (pc := 78) (i := 2) dX12_wordHere_78 rfl rfl ?_
      refine r_iaddN (pc := 79) (c := ((s + n : Nat) : Int)) dX12_wordHere_79 (by unfold w32; omega) ?_
      refine r_callV1 (pc := 80) (d - 1) [aI ((s + n : Nat) : Int)] dX12_wordHere_80 (CV.mk2 mk_X12_byteAt lk_X12_86) (RC.of (ltM hT (by omega)) (kM274 hT) (by decide) rfl) rfl rfl (by omega) (Nat.le_of_ble_eq_true rfl) (Nat.le_of_ble_eq_true rfl) (c_bAt (k := s + n) (tp := tp) (B := B) hT (H1_un htp) htp2 hB ?_)
      refine ⟨_, rfl, fun _ => ?_⟩
      refine r_callS1 (pc := 83) (d - 1) [aI (bA B tp (s + n))] dX12_wordHere_83 (CS.mk2 mk_X12_isLetter lk_X12_94) rfl rfl (by omega) (Nat.le_of_ble_eq_true rfl) (Nat.le_of_ble_eq_true rfl) (c_isLetter ?_)
      refine ⟨_, rfl, fun _ => ?_⟩
      refine r_if_ne (pc := 86) (tgt := 91) dX12_wordHere_86 rfl (fun c86 => ?_) (fun c86 => ?_)
      · have c86 := bi_1 c86
        refine r_iincN (pc := 91) (i := 1) (c := ((w + 1 : Nat) : Int)) (lv' := [_, _, _]) dX12_wordHere_91 rfl (by decide) (by unfold w32; omega) rfl ?_
        refine r_goto (pc := 94) (tgt := 7) dX12_wordHere_94 rfl ?_
        refine Ev.weak (lv2 := [some (aR 274), some (aI ((w + 1 : Nat) : Int)), none]) ⟨Or.inr rfl, Or.inr rfl, Or.inl rfl, trivial⟩ ?_
        exact ih (w + 1) ⟨by omega, by rw [hP.2, show 9 - w = (9 - (w + 1)) + 1 by omega, wdF_succ, if_neg (fun hw => hw.2 (hn ▸ c86))]⟩ (by omega)
      · have c86 := bi_if.mp (Decidable.of_not_not c86)
        refine r_iload_n (pc := 89) (i := 1) dX12_wordHere_89 rfl rfl ?_
        exact r_iret (pc := 90) dX12_wordHere_90 trivial (by rw [hP.2, show 9 - w = (9 - (w + 1)) + 1 by omega, wdF_succ, if_pos (show wIs (bA B tp) s w from ⟨fun q h => hP2.2 q (by omega), by rw [← hn]; exact c86⟩)] at hq; exact hq)
    · have hn : n < wdL w := Nat.lt_of_le_of_ne hP2.1 (fun e => c26 (hz.mpr e))
      refine r_aload_n (pc := 29) (i := 0) dX12_wordHere_29 rfl rfl ?_
      refine r_aload_n (pc := 30) (i := 0) dX12_wordHere_30 rfl rfl ?_
      refine r_getfi (pc := 31) cks dX12_wordHere_31 fl_X12_83 rfl (kM274 hT) (ltM hT (by omega)) ?_
      refine r_top (b := (un H 9 ((s : Nat) : Int)) 9) (sr_at _ _ _ _) ?_
      refine r_top (b := (s : Int)) (un_at) ?_
      refine r_iload_n (pc := 34) (i := 2) dX12_wordHere_34 rfl rfl ?_
      refine r_iaddN (pc := 35) (c := ((s + n : Nat) : Int)) dX12_wordHere_35 (by unfold w32; omega) ?_
      refine r_callV1 (pc := 36) (d - 1) [aI ((s + n : Nat) : Int)] dX12_wordHere_36 (CV.mk2 mk_X12_byteAt lk_X12_86) (RC.of (ltM hT (by omega)) (kM274 hT) (by decide) rfl) rfl rfl (by omega) (Nat.le_of_ble_eq_true rfl) (Nat.le_of_ble_eq_true rfl) (c_bAt (k := s + n) (tp := tp) (B := B) hT (H1_un htp) htp2 hB ?_)
      refine ⟨_, rfl, fun _ => ?_⟩
      refine r_aload_n (pc := 39) (i := 0) dX12_wordHere_39 rfl rfl ?_
      refine r_getfr (pc := 40) (b := 276) cks dX12_wordHere_40 fl_X12_13 rfl (kM274 hT) (ltM hT (by omega)) (rM2 hT) ?_
      refine r_bipush (pc := 43) dX12_wordHere_43 rfl (in32_of rfl) ?_
      refine r_iload_n (pc := 45) (i := 1) dX12_wordHere_45 rfl rfl ?_
      refine r_imulN (pc := 46) (c := ((8 * w : Nat) : Int)) dX12_wordHere_46 (by unfold w32; omega) ?_
      refine r_iload_n (pc := 47) (i := 2) dX12_wordHere_47 rfl rfl ?_
      refine r_iaddN (pc := 48) (c := ((8 * w + n : Nat) : Int)) dX12_wordHere_48 (by unfold w32; omega) ?_
      refine r_bld (pc := 49) (8 * w + n) dX12_wordHere_49 (Or.inl (kM276 hT)) (ltM hT (by omega)) rfl (by rw [lM276 hT]; omega) ?_
      refine r_top (b := I 276 (8 * w + n)) ((congrFun (sr_ne (by decide)) _).trans (rfl)) ?_
      refine r_top (b := wdT (8 * w + n)) (hW (8 * w + n) (by omega)) ?_
      refine r_icmp_ne (pc := 50) (tgt := 59) dX12_wordHere_50 rfl (fun c50 => ?_) (fun c50 => ?_)
      · refine r_aload_n (pc := 59) (i := 0) dX12_wordHere_59 rfl rfl ?_
        refine r_getfr (pc := 60) (b := 276) cks dX12_wordHere_60 fl_X12_13 rfl (kM274 hT) (ltM hT (by omega)) (rM2 hT) ?_
        refine r_bipush (pc := 63) dX12_wordHere_63 rfl (in32_of rfl) ?_
        refine r_iload_n (pc := 65) (i := 1) dX12_wordHere_65 rfl rfl ?_
        refine r_imulN (pc := 66) (c := ((8 * w : Nat) : Int)) dX12_wordHere_66 (by unfold w32; omega) ?_
        refine r_iload_n (pc := 67) (i := 2) dX12_wordHere_67 rfl rfl ?_
        refine r_iaddN (pc := 68) (c := ((8 * w + n : Nat) : Int)) dX12_wordHere_68 (by unfold w32; omega) ?_
        refine r_bld (pc := 69) (8 * w + n) dX12_wordHere_69 (Or.inl (kM276 hT)) (ltM hT (by omega)) rfl (by rw [lM276 hT]; omega) ?_
        refine r_top (b := I 276 (8 * w + n)) ((congrFun (sr_ne (by decide)) _).trans (rfl)) ?_
        refine r_top (b := wdT (8 * w + n)) (hW (8 * w + n) (by omega)) ?_
        refine r_if_ne (pc := 70) (tgt := 91) dX12_wordHere_70 rfl (fun c70 => ?_) (fun c70 => absurd (by omega) c70)
        refine r_iincN (pc := 91) (i := 1) (c := ((w + 1 : Nat) : Int)) (lv' := [_, _, _]) dX12_wordHere_91 rfl (by decide) (by unfold w32; omega) rfl ?_
        refine r_goto (pc := 94) (tgt := 7) dX12_wordHere_94 rfl ?_
        refine Ev.weak (lv2 := [some (aR 274), some (aI ((w + 1 : Nat) : Int)), none]) ⟨Or.inr rfl, Or.inr rfl, Or.inl rfl, trivial⟩ ?_
        exact ih (w + 1) ⟨by omega, by rw [hP.2, show 9 - w = (9 - (w + 1)) + 1 by omega, wdF_succ, if_neg (fun hw => c50 (hw.1 n (by omega)))]⟩ (by omega)
      · have c50 := Decidable.of_not_not c50
        refine r_iincN (pc := 53) (i := 2) (c := ((n + 1 : Nat) : Int)) (lv' := [_, _, _]) dX12_wordHere_53 rfl (by decide) (by unfold w32; omega) rfl ?_
        refine r_goto (pc := 56) (tgt := 15) dX12_wordHere_56 rfl ?_
        exact ih2 (n + 1) ⟨by omega, fun q hq2 => by by_cases e : q = n; (rw [e]; exact c50); exact hP2.2 q (by omega)⟩ (by omega)
end M30

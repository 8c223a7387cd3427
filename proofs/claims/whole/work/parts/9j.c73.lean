section C73
variable {G : Gl} {d : Nat} {T : Sh} {I : Mi} {N : Nat → Int} {Q : Option AV → Sh → Mi → Prop}
def LX12_init_0 : List En := sI 2 20 (ibw false (101)) (sI 2 19 (ibw false (115)) (sI 2 18 (ibw false (105)) (sI 2 17 (ibw false (111)) (sI 2 16 (ibw false (110)) (sI 2 15 (ibw false (0)) (sI 2 14 (ibw false (0)) (sI 2 13 (ibw false (0)) (sI 2 12 (ibw false (0)) (sI 2 11 (ibw false (100)) (sI 2 10 (ibw false (101)) (sI 2 9 (ibw false (101)) (sI 2 8 (ibw false (115)) (sI 2 7 (ibw false (0)) (sI 2 6 (ibw false (115)) (sI 2 5 (ibw false (108)) (sI 2 4 (ibw false (97)) (sI 2 3 (ibw false (110)) (sI 2 2 (ibw false (103)) (sI 2 1 (ibw false (105)) (sI 2 0 (ibw false (115)) (sn (21, 72, z0, rN) (sR 0 0 1 (sn (21, 200, z0, rN) ([(12, 0, z0, rN)]))))))))))))))))))))))))
def LX12_init_1 : List En := sI 2 44 (ibw false (107)) (sI 2 43 (ibw false (99)) (sI 2 42 (ibw false (111)) (sI 2 41 (ibw false (108)) (sI 2 40 (ibw false (98)) (sI 2 39 (ibw false (0)) (sI 2 38 (ibw false (0)) (sI 2 37 (ibw false (101)) (sI 2 36 (ibw false (108)) (sI 2 35 (ibw false (112)) (sI 2 34 (ibw false (109)) (sI 2 33 (ibw false (97)) (sI 2 32 (ibw false (115)) (sI 2 31 (ibw false (0)) (sI 2 30 (ibw false (0)) (sI 2 29 (ibw false (0)) (sI 2 28 (ibw false (0)) (sI 2 27 (ibw false (0)) (sI 2 26 (ibw false (121)) (sI 2 25 (ibw false (112)) (sI 2 24 (ibw false (115)) (sI 2 23 (ibw false (0)) (sI 2 22 (ibw false (0)) (sI 2 21 (ibw false (0)) (LX12_init_0))))))))))))))))))))))))
def LX12_init_2 : List En := sI 2 68 (ibw false (0)) (sI 2 67 (ibw false (101)) (sI 2 66 (ibw false (102)) (sI 2 65 (ibw false (97)) (sI 2 64 (ibw false (115)) (sI 2 63 (ibw false (0)) (sI 2 62 (ibw false (0)) (sI 2 61 (ibw false (0)) (sI 2 60 (ibw false (0)) (sI 2 59 (ibw false (104)) (sI 2 58 (ibw false (115)) (sI 2 57 (ibw false (97)) (sI 2 56 (ibw false (104)) (sI 2 55 (ibw false (0)) (sI 2 54 (ibw false (0)) (sI 2 53 (ibw false (115)) (sI 2 52 (ibw false (101)) (sI 2 51 (ibw false (115)) (sI 2 50 (ibw false (115)) (sI 2 49 (ibw false (97)) (sI 2 48 (ibw false (112)) (sI 2 47 (ibw false (0)) (sI 2 46 (ibw false (0)) (sI 2 45 (ibw false (0)) (LX12_init_1))))))))))))))))))))))))
def LX12_init_3 : List En := sI 4 7 (30) (sI 4 6 (6) (sI 4 5 (64) (sI 4 4 (128) (sI 4 3 (100) (sI 4 2 (500) (sI 4 1 (99999) (sI 4 0 (256) (sn (20, 9, z0, rN) (sR 0 3 3 (sI 3 8 (0) (sI 3 7 (1) (sI 3 6 (1) (sI 3 5 (2) (sI 3 4 (0) (sI 3 3 (0) (sI 3 2 (0) (sI 3 1 (0) (sI 3 0 (2) (sn (20, 9, z0, rN) (sR 0 2 2 (sI 2 71 (ibw false (0)) (sI 2 70 (ibw false (0)) (sI 2 69 (ibw false (0)) (LX12_init_2))))))))))))))))))))))))
def LX12_init_4 : List En := sn (20, 210120, z0, rN) (sR 0 12 10 (sn (20, 17510, z0, rN) (sR 0 11 9 (sn (20, 17510, z0, rN) (sR 0 8 8 (sn (22, 9, z0, rN) (sR 0 7 7 (sn (20, 9, z0, rN) (sR 0 6 6 (sn (20, 9, z0, rN) (sR 0 5 5 (sI 5 8 (10) (sI 5 7 (16) (sI 5 6 (4) (sI 5 5 (8) (sI 5 4 (8) (sI 5 3 (0) (sI 5 2 (30) (sI 5 1 (1) (sI 5 0 (64) (sn (20, 9, z0, rN) (sR 0 4 4 (sI 4 8 (50) (LX12_init_3))))))))))))))))))))))))
def LX12_init : List En := sR 0 22 16 (sn (22, 256, z0, rN) (sR 0 21 15 (sn (20, 2048, z0, rN) (sR 0 20 14 (sn (20, 8, z0, rN) (sI 0 17 (-1) (sR 0 15 13 (sn (22, 2, z0, rN) (sR 0 14 12 (sn (20, 35020, z0, rN) (sR 0 13 11 (LX12_init_4))))))))))))
theorem LX12_tab : ∀ q ∈ tabM, 274 ≤ q.1 ∧ (LX12_init[q.1 - 274]?).map kl = some (q.2.1, q.2.2) := by decide +kernel
def refM3 : List (Nat × Nat × Nat) := refM.map (fun q => (274, q.1, q.2))
theorem LX12_refs : ∀ q ∈ refM3, 274 ≤ q.1 ∧ (LX12_init[q.1 - 274]?).bind (fun e => (e.2.2.2 q.2.1).map (274 + ·)) = some q.2.2 := by decide +kernel
theorem LX12_len : LX12_init.length = 17 := by decide +kernel
theorem ShM_at {T0 V : Sh} {I0 J : Mi} {m : Nat} (h : At T0 I0 V J 274 LX12_init m) : ShM V := by
  have h1 := h.1
  rw [LX12_len] at h1
  have h3 := h.refs LX12_refs
  refine ⟨by omega, (h.look (i := 0) (ci := 12) (s := 0) (by decide +kernel)).1, h.tab LX12_tab, fun q hq => h3 (274, q.1, q.2) (List.mem_map.mpr ⟨q, hq, rfl⟩)⟩
theorem k_X12_init {G : Gl} {d : Nat} {U0 : Sh} {I0 : Mi} {Q : Option AV → Sh → Mi → Prop} (h0 : At U0 I0 U0 I0 274 [(12, 0, z0, rN)] 0) (hd : 2 ≤ d) (hq : ∀ V J, At U0 I0 V J 274 LX12_init 282800 → ShM V → Q none V (sr (sr (sr (sr J 281 (usR (J 281) (J 279) 9)) 282 (z8 (J 282) 9)) 280 (usR (J 280) (usR (J 281) (J 279) 9) 9)) 283 (begins (J 283)))) : EvE G mX12_init d [aR 274] U0 I0 Q := by
  refine EvE.mk (lv0 := [some (aR 274), none]) (Nat.le_of_ble_eq_true rfl) (by decide +kernel) rfl ?_
  refine r_aload_n (pc := 0) (i := 0) dX12_init_0 rfl rfl ?_
  refine r_objInit (pc := 1) dX12_init_1 (by omega) ob_X12_1 (Nat.le_of_ble_eq_true rfl) ?_
  refine r_aload_n (pc := 4) (i := 0) dX12_init_4 rfl rfl ?_
  refine r_sipush (pc := 5) dX12_init_5 rfl (in32_of rfl) ?_
  refine q_byte (pc := 8) (s := 200) (n := 1) (m2 := 200) dX12_init_8 h0 (by decide +kernel) (by decide) (by decide +kernel) (fun U1 K1 h1 => ?_)
  refine q_putr (pc := 10) (i := 0) (s := 0) (b := 1) dX12_init_10 fl_X12_7 pc_X12_7 rfl h1 (by decide +kernel) (fun U2 K2 h2 => ?_)
  refine r_aload_n (pc := 13) (i := 0) dX12_init_13 rfl rfl ?_
  refine r_bipush (pc := 14) dX12_init_14 rfl (in32_of rfl) ?_
  refine q_byte (pc := 16) (s := 72) (n := 2) (m2 := 272) dX12_init_16 h2 (by decide +kernel) (by decide) (by decide +kernel) (fun U3 K3 h3 => ?_)
  refine r_dup (pc := 18) dX12_init_18 rfl ?_
  refine r_iconst (pc := 19) dX12_init_19 (in32_of rfl) ?_
  refine r_bipush (pc := 20) dX12_init_20 rfl (in32_of rfl) ?_
  refine q_bst (pc := 22) (i := 2) (s := 72) (j := 0) (x := 115) dX12_init_22 h3 (by decide +kernel) (by decide) (fun U4 K4 h4 => ?_)
  refine r_dup (pc := 23) dX12_init_23 rfl ?_
  refine r_iconst (pc := 24) dX12_init_24 (in32_of rfl) ?_
  refine r_bipush (pc := 25) dX12_init_25 rfl (in32_of rfl) ?_
  refine q_bst (pc := 27) (i := 2) (s := 72) (j := 1) (x := 105) dX12_init_27 h4 (by decide +kernel) (by decide) (fun U5 K5 h5 => ?_)
  refine r_dup (pc := 28) dX12_init_28 rfl ?_
  refine r_iconst (pc := 29) dX12_init_29 (in32_of rfl) ?_
  refine r_bipush (pc := 30) dX12_init_30 rfl (in32_of rfl) ?_
  refine q_bst (pc := 32) (i := 2) (s := 72) (j := 2) (x := 103) dX12_init_32 h5 (by decide +kernel) (by decide) (fun U6 K6 h6 => ?_)
  refine r_dup (pc := 33) dX12_init_33 rfl ?_
  refine r_iconst (pc := 34) dX12_init_34 (in32_of rfl) ?_
  refine r_bipush (pc := 35) dX12_init_35 rfl (in32_of rfl) ?_
  refine q_bst (pc := 37) (i := 2) (s := 72) (j := 3) (x := 110) dX12_init_37 h6 (by decide +kernel) (by decide) (fun U7 K7 h7 => ?_)
  refine r_dup (pc := 38) dX12_init_38 rfl ?_
  refine r_iconst (pc := 39) dX12_init_39 (in32_of rfl) ?_
  refine r_bipush (pc := 40) dX12_init_40 rfl (in32_of rfl) ?_
  refine q_bst (pc := 42) (i := 2) (s := 72) (j := 4) (x := 97) dX12_init_42 h7 (by decide +kernel) (by decide) (fun U8 K8 h8 => ?_)
  refine r_dup (pc := 43) dX12_init_43 rfl ?_
  refine r_iconst (pc := 44) dX12_init_44 (in32_of rfl) ?_
  refine r_bipush (pc := 45) dX12_init_45 rfl (in32_of rfl) ?_
  refine q_bst (pc := 47) (i := 2) (s := 72) (j := 5) (x := 108) dX12_init_47 h8 (by decide +kernel) (by decide) (fun U9 K9 h9 => ?_)
  refine r_dup (pc := 48) dX12_init_48 rfl ?_
  refine r_bipush (pc := 49) dX12_init_49 rfl (in32_of rfl) ?_
  refine r_bipush (pc := 51) dX12_init_51 rfl (in32_of rfl) ?_
  refine q_bst (pc := 53) (i := 2) (s := 72) (j := 6) (x := 115) dX12_init_53 h9 (by decide +kernel) (by decide) (fun U10 K10 h10 => ?_)
  refine r_dup (pc := 54) dX12_init_54 rfl ?_
  refine r_bipush (pc := 55) dX12_init_55 rfl (in32_of rfl) ?_
  refine r_iconst (pc := 57) dX12_init_57 (in32_of rfl) ?_
  refine q_bst (pc := 58) (i := 2) (s := 72) (j := 7) (x := 0) dX12_init_58 h10 (by decide +kernel) (by decide) (fun U11 K11 h11 => ?_)
  refine r_dup (pc := 59) dX12_init_59 rfl ?_
  refine r_bipush (pc := 60) dX12_init_60 rfl (in32_of rfl) ?_
  refine r_bipush (pc := 62) dX12_init_62 rfl (in32_of rfl) ?_
  refine q_bst (pc := 64) (i := 2) (s := 72) (j := 8) (x := 115) dX12_init_64 h11 (by decide +kernel) (by decide) (fun U12 K12 h12 => ?_)
  refine r_dup (pc := 65) dX12_init_65 rfl ?_
  refine r_bipush (pc := 66) dX12_init_66 rfl (in32_of rfl) ?_
  refine r_bipush (pc := 68) dX12_init_68 rfl (in32_of rfl) ?_
  refine q_bst (pc := 70) (i := 2) (s := 72) (j := 9) (x := 101) dX12_init_70 h12 (by decide +kernel) (by decide) (fun U13 K13 h13 => ?_)
  refine r_dup (pc := 71) dX12_init_71 rfl ?_
  refine r_bipush (pc := 72) dX12_init_72 rfl (in32_of rfl) ?_
  refine r_bipush (pc := 74) dX12_init_74 rfl (in32_of rfl) ?_
  refine q_bst (pc := 76) (i := 2) (s := 72) (j := 10) (x := 101) dX12_init_76 h13 (by decide +kernel) (by decide) (fun U14 K14 h14 => ?_)
  refine r_dup (pc := 77) dX12_init_77 rfl ?_
  refine r_bipush (pc := 78) dX12_init_78 rfl (in32_of rfl) ?_
  refine r_bipush (pc := 80) dX12_init_80 rfl (in32_of rfl) ?_
  refine q_bst (pc := 82) (i := 2) (s := 72) (j := 11) (x := 100) dX12_init_82 h14 (by decide +kernel) (by decide) (fun U15 K15 h15 => ?_)
  refine r_dup (pc := 83) dX12_init_83 rfl ?_
  refine r_bipush (pc := 84) dX12_init_84 rfl (in32_of rfl) ?_
  refine r_iconst (pc := 86) dX12_init_86 (in32_of rfl) ?_
  refine q_bst (pc := 87) (i := 2) (s := 72) (j := 12) (x := 0) dX12_init_87 h15 (by decide +kernel) (by decide) (fun U16 K16 h16 => ?_)
  refine r_dup (pc := 88) dX12_init_88 rfl ?_
  refine r_bipush (pc := 89) dX12_init_89 rfl (in32_of rfl) ?_
  refine r_iconst (pc := 91) dX12_init_91 (in32_of rfl) ?_
  refine q_bst (pc := 92) (i := 2) (s := 72) (j := 13) (x := 0) dX12_init_92 h16 (by decide +kernel) (by decide) (fun U17 K17 h17 => ?_)
  refine r_dup (pc := 93) dX12_init_93 rfl ?_
  refine r_bipush (pc := 94) dX12_init_94 rfl (in32_of rfl) ?_
  refine r_iconst (pc := 96) dX12_init_96 (in32_of rfl) ?_
  refine q_bst (pc := 97) (i := 2) (s := 72) (j := 14) (x := 0) dX12_init_97 h17 (by decide +kernel) (by decide) (fun U18 K18 h18 => ?_)
  refine r_dup (pc := 98) dX12_init_98 rfl ?_
  refine r_bipush (pc := 99) dX12_init_99 rfl (in32_of rfl) ?_
  refine r_iconst (pc := 101) dX12_init_101 (in32_of rfl) ?_
  refine q_bst (pc := 102) (i := 2) (s := 72) (j := 15) (x := 0) dX12_init_102 h18 (by decide +kernel) (by decide) (fun U19 K19 h19 => ?_)
  refine r_dup (pc := 103) dX12_init_103 rfl ?_
  refine r_bipush (pc := 104) dX12_init_104 rfl (in32_of rfl) ?_
  refine r_bipush (pc := 106) dX12_init_106 rfl (in32_of rfl) ?_
  refine q_bst (pc := 108) (i := 2) (s := 72) (j := 16) (x := 110) dX12_init_108 h19 (by decide +kernel) (by decide) (fun U20 K20 h20 => ?_)
  refine r_dup (pc := 109) dX12_init_109 rfl ?_
  refine r_bipush (pc := 110) dX12_init_110 rfl (in32_of rfl) ?_
  refine r_bipush (pc := 112) dX12_init_112 rfl (in32_of rfl) ?_
  refine q_bst (pc := 114) (i := 2) (s := 72) (j := 17) (x := 111) dX12_init_114 h20 (by decide +kernel) (by decide) (fun U21 K21 h21 => ?_)
  refine r_dup (pc := 115) dX12_init_115 rfl ?_
  refine r_bipush (pc := 116) dX12_init_116 rfl (in32_of rfl) ?_
  refine r_bipush (pc := 118) dX12_init_118 rfl (in32_of rfl) ?_
  refine q_bst (pc := 120) (i := 2) (s := 72) (j := 18) (x := 105) dX12_init_120 h21 (by decide +kernel) (by decide) (fun U22 K22 h22 => ?_)
  refine r_dup (pc := 121) dX12_init_121 rfl ?_
  refine r_bipush (pc := 122) dX12_init_122 rfl (in32_of rfl) ?_
  refine r_bipush (pc := 124) dX12_init_124 rfl (in32_of rfl) ?_
  refine q_bst (pc := 126) (i := 2) (s := 72) (j := 19) (x := 115) dX12_init_126 h22 (by decide +kernel) (by decide) (fun U23 K23 h23 => ?_)
  refine r_dup (pc := 127) dX12_init_127 rfl ?_
  refine r_bipush (pc := 128) dX12_init_128 rfl (in32_of rfl) ?_
  refine r_bipush (pc := 130) dX12_init_130 rfl (in32_of rfl) ?_
  refine q_bst (pc := 132) (i := 2) (s := 72) (j := 20) (x := 101) dX12_init_132 h23 (by decide +kernel) (by decide) (fun U24 K24 h24 => ?_)
  change At _ _ _ _ _ LX12_init_0 _ at h24
  refine r_dup (pc := 133) dX12_init_133 rfl ?_
  refine r_bipush (pc := 134) dX12_init_134 rfl (in32_of rfl) ?_
  refine r_iconst (pc := 136) dX12_init_136 (in32_of rfl) ?_
  refine q_bst (pc := 137) (i := 2) (s := 72) (j := 21) (x := 0) dX12_init_137 h24 (by decide +kernel) (by decide) (fun U25 K25 h25 => ?_)
  refine r_dup (pc := 138) dX12_init_138 rfl ?_
  refine r_bipush (pc := 139) dX12_init_139 rfl (in32_of rfl) ?_
  refine r_iconst (pc := 141) dX12_init_141 (in32_of rfl) ?_
  refine q_bst (pc := 142) (i := 2) (s := 72) (j := 22) (x := 0) dX12_init_142 h25 (by decide +kernel) (by decide) (fun U26 K26 h26 => ?_)
  refine r_dup (pc := 143) dX12_init_143 rfl ?_
  refine r_bipush (pc := 144) dX12_init_144 rfl (in32_of rfl) ?_
  refine r_iconst (pc := 146) dX12_init_146 (in32_of rfl) ?_
  refine q_bst (pc := 147) (i := 2) (s := 72) (j := 23) (x := 0) dX12_init_147 h26 (by decide +kernel) (by decide) (fun U27 K27 h27 => ?_)
  refine r_dup (pc := 148) dX12_init_148 rfl ?_
  refine r_bipush (pc := 149) dX12_init_149 rfl (in32_of rfl) ?_
  refine r_bipush (pc := 151) dX12_init_151 rfl (in32_of rfl) ?_
  refine q_bst (pc := 153) (i := 2) (s := 72) (j := 24) (x := 115) dX12_init_153 h27 (by decide +kernel) (by decide) (fun U28 K28 h28 => ?_)
  refine r_dup (pc := 154) dX12_init_154 rfl ?_
  refine r_bipush (pc := 155) dX12_init_155 rfl (in32_of rfl) ?_
  refine r_bipush (pc := 157) dX12_init_157 rfl (in32_of rfl) ?_
  refine q_bst (pc := 159) (i := 2) (s := 72) (j := 25) (x := 112) dX12_init_159 h28 (by decide +kernel) (by decide) (fun U29 K29 h29 => ?_)
  refine r_dup (pc := 160) dX12_init_160 rfl ?_
  refine r_bipush (pc := 161) dX12_init_161 rfl (in32_of rfl) ?_
  refine r_bipush (pc := 163) dX12_init_163 rfl (in32_of rfl) ?_
  refine q_bst (pc := 165) (i := 2) (s := 72) (j := 26) (x := 121) dX12_init_165 h29 (by decide +kernel) (by decide) (fun U30 K30 h30 => ?_)
  refine r_dup (pc := 166) dX12_init_166 rfl ?_
  refine r_bipush (pc := 167) dX12_init_167 rfl (in32_of rfl) ?_
  refine r_iconst (pc := 169) dX12_init_169 (in32_of rfl) ?_
  refine q_bst (pc := 170) (i := 2) (s := 72) (j := 27) (x := 0) dX12_init_170 h30 (by decide +kernel) (by decide) (fun U31 K31 h31 => ?_)
  refine r_dup (pc := 171) dX12_init_171 rfl ?_
  refine r_bipush (pc := 172) dX12_init_172 rfl (in32_of rfl) ?_
  refine r_iconst (pc := 174) dX12_init_174 (in32_of rfl) ?_
  refine q_bst (pc := 175) (i := 2) (s := 72) (j := 28) (x := 0) dX12_init_175 h31 (by decide +kernel) (by decide) (fun U32 K32 h32 => ?_)
  refine r_dup (pc := 176) dX12_init_176 rfl ?_
  refine r_bipush (pc := 177) dX12_init_177 rfl (in32_of rfl) ?_
  refine r_iconst (pc := 179) dX12_init_179 (in32_of rfl) ?_
  refine q_bst (pc := 180) (i := 2) (s := 72) (j := 29) (x := 0) dX12_init_180 h32 (by decide +kernel) (by decide) (fun U33 K33 h33 => ?_)
  refine r_dup (pc := 181) dX12_init_181 rfl ?_
  refine r_bipush (pc := 182) dX12_init_182 rfl (in32_of rfl) ?_
  refine r_iconst (pc := 184) dX12_init_184 (in32_of rfl) ?_
  refine q_bst (pc := 185) (i := 2) (s := 72) (j := 30) (x := 0) dX12_init_185 h33 (by decide +kernel) (by decide) (fun U34 K34 h34 => ?_)
  refine r_dup (pc := 186) dX12_init_186 rfl ?_
  refine r_bipush (pc := 187) dX12_init_187 rfl (in32_of rfl) ?_
  refine r_iconst (pc := 189) dX12_init_189 (in32_of rfl) ?_
  refine q_bst (pc := 190) (i := 2) (s := 72) (j := 31) (x := 0) dX12_init_190 h34 (by decide +kernel) (by decide) (fun U35 K35 h35 => ?_)
  refine r_dup (pc := 191) dX12_init_191 rfl ?_
  refine r_bipush (pc := 192) dX12_init_192 rfl (in32_of rfl) ?_
  refine r_bipush (pc := 194) dX12_init_194 rfl (in32_of rfl) ?_
  refine q_bst (pc := 196) (i := 2) (s := 72) (j := 32) (x := 115) dX12_init_196 h35 (by decide +kernel) (by decide) (fun U36 K36 h36 => ?_)
  refine r_dup (pc := 197) dX12_init_197 rfl ?_
  refine r_bipush (pc := 198) dX12_init_198 rfl (in32_of rfl) ?_
  refine r_bipush (pc := 200) dX12_init_200 rfl (in32_of rfl) ?_
  refine q_bst (pc := 202) (i := 2) (s := 72) (j := 33) (x := 97) dX12_init_202 h36 (by decide +kernel) (by decide) (fun U37 K37 h37 => ?_)
  refine r_dup (pc := 203) dX12_init_203 rfl ?_
  refine r_bipush (pc := 204) dX12_init_204 rfl (in32_of rfl) ?_
  refine r_bipush (pc := 206) dX12_init_206 rfl (in32_of rfl) ?_
  refine q_bst (pc := 208) (i := 2) (s := 72) (j := 34) (x := 109) dX12_init_208 h37 (by decide +kernel) (by decide) (fun U38 K38 h38 => ?_)
  refine r_dup (pc := 209) dX12_init_209 rfl ?_
  refine r_bipush (pc := 210) dX12_init_210 rfl (in32_of rfl) ?_
  refine r_bipush (pc := 212) dX12_init_212 rfl (in32_of rfl) ?_
  refine q_bst (pc := 214) (i := 2) (s := 72) (j := 35) (x := 112) dX12_init_214 h38 (by decide +kernel) (by decide) (fun U39 K39 h39 => ?_)
  refine r_dup (pc := 215) dX12_init_215 rfl ?_
  refine r_bipush (pc := 216) dX12_init_216 rfl (in32_of rfl) ?_
  refine r_bipush (pc := 218) dX12_init_218 rfl (in32_of rfl) ?_
  refine q_bst (pc := 220) (i := 2) (s := 72) (j := 36) (x := 108) dX12_init_220 h39 (by decide +kernel) (by decide) (fun U40 K40 h40 => ?_)
  refine r_dup (pc := 221) dX12_init_221 rfl ?_
  refine r_bipush (pc := 222) dX12_init_222 rfl (in32_of rfl) ?_
  refine r_bipush (pc := 224) dX12_init_224 rfl (in32_of rfl) ?_
  refine q_bst (pc := 226) (i := 2) (s := 72) (j := 37) (x := 101) dX12_init_226 h40 (by decide +kernel) (by decide) (fun U41 K41 h41 => ?_)
  refine r_dup (pc := 227) dX12_init_227 rfl ?_
  refine r_bipush (pc := 228) dX12_init_228 rfl (in32_of rfl) ?_
  refine r_iconst (pc := 230) dX12_init_230 (in32_of rfl) ?_
  refine q_bst (pc := 231) (i := 2) (s := 72) (j := 38) (x := 0) dX12_init_231 h41 (by decide +kernel) (by decide) (fun U42 K42 h42 => ?_)
  refine r_dup (pc := 232) dX12_init_232 rfl ?_
  refine r_bipush (pc := 233) dX12_init_233 rfl (in32_of rfl) ?_
  refine r_iconst (pc := 235) dX12_init_235 (in32_of rfl) ?_
  refine q_bst (pc := 236) (i := 2) (s := 72) (j := 39) (x := 0) dX12_init_236 h42 (by decide +kernel) (by decide) (fun U43 K43 h43 => ?_)
  refine r_dup (pc := 237) dX12_init_237 rfl ?_
  refine r_bipush (pc := 238) dX12_init_238 rfl (in32_of rfl) ?_
  refine r_bipush (pc := 240) dX12_init_240 rfl (in32_of rfl) ?_
  refine q_bst (pc := 242) (i := 2) (s := 72) (j := 40) (x := 98) dX12_init_242 h43 (by decide +kernel) (by decide) (fun U44 K44 h44 => ?_)
  refine r_dup (pc := 243) dX12_init_243 rfl ?_
  refine r_bipush (pc := 244) dX12_init_244 rfl (in32_of rfl) ?_
  refine r_bipush (pc := 246) dX12_init_246 rfl (in32_of rfl) ?_
  refine q_bst (pc := 248) (i := 2) (s := 72) (j := 41) (x := 108) dX12_init_248 h44 (by decide +kernel) (by decide) (fun U45 K45 h45 => ?_)
  refine r_dup (pc := 249) dX12_init_249 rfl ?_
  refine r_bipush (pc := 250) dX12_init_250 rfl (in32_of rfl) ?_
  refine r_bipush (pc := 252) dX12_init_252 rfl (in32_of rfl) ?_
  refine q_bst (pc := 254) (i := 2) (s := 72) (j := 42) (x := 111) dX12_init_254 h45 (by decide +kernel) (by decide) (fun U46 K46 h46 => ?_)
  refine r_dup (pc := 255) dX12_init_255 rfl ?_
  refine r_bipush (pc := 256) dX12_init_256 rfl (in32_of rfl) ?_
  refine r_bipush (pc := 258) dX12_init_258 rfl (in32_of rfl) ?_
  refine q_bst (pc := 260) (i := 2) (s := 72) (j := 43) (x := 99) dX12_init_260 h46 (by decide +kernel) (by decide) (fun U47 K47 h47 => ?_)
  refine r_dup (pc := 261) dX12_init_261 rfl ?_
  refine r_bipush (pc := 262) dX12_init_262 rfl (in32_of rfl) ?_
  refine r_bipush (pc := 264) dX12_init_264 rfl (in32_of rfl) ?_
  refine q_bst (pc := 266) (i := 2) (s := 72) (j := 44) (x := 107) dX12_init_266 h47 (by decide +kernel) (by decide) (fun U48 K48 h48 => ?_)
  change At _ _ _ _ _ LX12_init_1 _ at h48
  refine r_dup (pc := 267) dX12_init_267 rfl ?_
  refine r_bipush (pc := 268) dX12_init_268 rfl (in32_of rfl) ?_
  refine r_iconst (pc := 270) dX12_init_270 (in32_of rfl) ?_
  refine q_bst (pc := 271) (i := 2) (s := 72) (j := 45) (x := 0) dX12_init_271 h48 (by decide +kernel) (by decide) (fun U49 K49 h49 => ?_)
  refine r_dup (pc := 272) dX12_init_272 rfl ?_
  refine r_bipush (pc := 273) dX12_init_273 rfl (in32_of rfl) ?_
  refine r_iconst (pc := 275) dX12_init_275 (in32_of rfl) ?_
  refine q_bst (pc := 276) (i := 2) (s := 72) (j := 46) (x := 0) dX12_init_276 h49 (by decide +kernel) (by decide) (fun U50 K50 h50 => ?_)
  refine r_dup (pc := 277) dX12_init_277 rfl ?_
  refine r_bipush (pc := 278) dX12_init_278 rfl (in32_of rfl) ?_
  refine r_iconst (pc := 280) dX12_init_280 (in32_of rfl) ?_
  refine q_bst (pc := 281) (i := 2) (s := 72) (j := 47) (x := 0) dX12_init_281 h50 (by decide +kernel) (by decide) (fun U51 K51 h51 => ?_)
  refine r_dup (pc := 282) dX12_init_282 rfl ?_
  refine r_bipush (pc := 283) dX12_init_283 rfl (in32_of rfl) ?_
  refine r_bipush (pc := 285) dX12_init_285 rfl (in32_of rfl) ?_
  refine q_bst (pc := 287) (i := 2) (s := 72) (j := 48) (x := 112) dX12_init_287 h51 (by decide +kernel) (by decide) (fun U52 K52 h52 => ?_)
  refine r_dup (pc := 288) dX12_init_288 rfl ?_
  refine r_bipush (pc := 289) dX12_init_289 rfl (in32_of rfl) ?_
  refine r_bipush (pc := 291) dX12_init_291 rfl (in32_of rfl) ?_
  refine q_bst (pc := 293) (i := 2) (s := 72) (j := 49) (x := 97) dX12_init_293 h52 (by decide +kernel) (by decide) (fun U53 K53 h53 => ?_)
  refine r_dup (pc := 294) dX12_init_294 rfl ?_
  refine r_bipush (pc := 295) dX12_init_295 rfl (in32_of rfl) ?_
  refine r_bipush (pc := 297) dX12_init_297 rfl (in32_of rfl) ?_
  refine q_bst (pc := 299) (i := 2) (s := 72) (j := 50) (x := 115) dX12_init_299 h53 (by decide +kernel) (by decide) (fun U54 K54 h54 => ?_)
  refine r_dup (pc := 300) dX12_init_300 rfl ?_
  refine r_bipush (pc := 301) dX12_init_301 rfl (in32_of rfl) ?_
  refine r_bipush (pc := 303) dX12_init_303 rfl (in32_of rfl) ?_
  refine q_bst (pc := 305) (i := 2) (s := 72) (j := 51) (x := 115) dX12_init_305 h54 (by decide +kernel) (by decide) (fun U55 K55 h55 => ?_)
  refine r_dup (pc := 306) dX12_init_306 rfl ?_
  refine r_bipush (pc := 307) dX12_init_307 rfl (in32_of rfl) ?_
  refine r_bipush (pc := 309) dX12_init_309 rfl (in32_of rfl) ?_
  refine q_bst (pc := 311) (i := 2) (s := 72) (j := 52) (x := 101) dX12_init_311 h55 (by decide +kernel) (by decide) (fun U56 K56 h56 => ?_)
  refine r_dup (pc := 312) dX12_init_312 rfl ?_
  refine r_bipush (pc := 313) dX12_init_313 rfl (in32_of rfl) ?_
  refine r_bipush (pc := 315) dX12_init_315 rfl (in32_of rfl) ?_
  refine q_bst (pc := 317) (i := 2) (s := 72) (j := 53) (x := 115) dX12_init_317 h56 (by decide +kernel) (by decide) (fun U57 K57 h57 => ?_)
  refine r_dup (pc := 318) dX12_init_318 rfl ?_
  refine r_bipush (pc := 319) dX12_init_319 rfl (in32_of rfl) ?_
  refine r_iconst (pc := 321) dX12_init_321 (in32_of rfl) ?_
  refine q_bst (pc := 322) (i := 2) (s := 72) (j := 54) (x := 0) dX12_init_322 h57 (by decide +kernel) (by decide) (fun U58 K58 h58 => ?_)
  refine r_dup (pc := 323) dX12_init_323 rfl ?_
  refine r_bipush (pc := 324) dX12_init_324 rfl (in32_of rfl) ?_
  refine r_iconst (pc := 326) dX12_init_326 (in32_of rfl) ?_
  refine q_bst (pc := 327) (i := 2) (s := 72) (j := 55) (x := 0) dX12_init_327 h58 (by decide +kernel) (by decide) (fun U59 K59 h59 => ?_)
  refine r_dup (pc := 328) dX12_init_328 rfl ?_
  refine r_bipush (pc := 329) dX12_init_329 rfl (in32_of rfl) ?_
  refine r_bipush (pc := 331) dX12_init_331 rfl (in32_of rfl) ?_
  refine q_bst (pc := 333) (i := 2) (s := 72) (j := 56) (x := 104) dX12_init_333 h59 (by decide +kernel) (by decide) (fun U60 K60 h60 => ?_)
  refine r_dup (pc := 334) dX12_init_334 rfl ?_
  refine r_bipush (pc := 335) dX12_init_335 rfl (in32_of rfl) ?_
  refine r_bipush (pc := 337) dX12_init_337 rfl (in32_of rfl) ?_
  refine q_bst (pc := 339) (i := 2) (s := 72) (j := 57) (x := 97) dX12_init_339 h60 (by decide +kernel) (by decide) (fun U61 K61 h61 => ?_)
  refine r_dup (pc := 340) dX12_init_340 rfl ?_
  refine r_bipush (pc := 341) dX12_init_341 rfl (in32_of rfl) ?_
  refine r_bipush (pc := 343) dX12_init_343 rfl (in32_of rfl) ?_
  refine q_bst (pc := 345) (i := 2) (s := 72) (j := 58) (x := 115) dX12_init_345 h61 (by decide +kernel) (by decide) (fun U62 K62 h62 => ?_)
  refine r_dup (pc := 346) dX12_init_346 rfl ?_
  refine r_bipush (pc := 347) dX12_init_347 rfl (in32_of rfl) ?_
  refine r_bipush (pc := 349) dX12_init_349 rfl (in32_of rfl) ?_
  refine q_bst (pc := 351) (i := 2) (s := 72) (j := 59) (x := 104) dX12_init_351 h62 (by decide +kernel) (by decide) (fun U63 K63 h63 => ?_)
  refine r_dup (pc := 352) dX12_init_352 rfl ?_
  refine r_bipush (pc := 353) dX12_init_353 rfl (in32_of rfl) ?_
  refine r_iconst (pc := 355) dX12_init_355 (in32_of rfl) ?_
  refine q_bst (pc := 356) (i := 2) (s := 72) (j := 60) (x := 0) dX12_init_356 h63 (by decide +kernel) (by decide) (fun U64 K64 h64 => ?_)
  refine r_dup (pc := 357) dX12_init_357 rfl ?_
  refine r_bipush (pc := 358) dX12_init_358 rfl (in32_of rfl) ?_
  refine r_iconst (pc := 360) dX12_init_360 (in32_of rfl) ?_
  refine q_bst (pc := 361) (i := 2) (s := 72) (j := 61) (x := 0) dX12_init_361 h64 (by decide +kernel) (by decide) (fun U65 K65 h65 => ?_)
  refine r_dup (pc := 362) dX12_init_362 rfl ?_
  refine r_bipush (pc := 363) dX12_init_363 rfl (in32_of rfl) ?_
  refine r_iconst (pc := 365) dX12_init_365 (in32_of rfl) ?_
  refine q_bst (pc := 366) (i := 2) (s := 72) (j := 62) (x := 0) dX12_init_366 h65 (by decide +kernel) (by decide) (fun U66 K66 h66 => ?_)
  refine r_dup (pc := 367) dX12_init_367 rfl ?_
  refine r_bipush (pc := 368) dX12_init_368 rfl (in32_of rfl) ?_
  refine r_iconst (pc := 370) dX12_init_370 (in32_of rfl) ?_
  refine q_bst (pc := 371) (i := 2) (s := 72) (j := 63) (x := 0) dX12_init_371 h66 (by decide +kernel) (by decide) (fun U67 K67 h67 => ?_)
  refine r_dup (pc := 372) dX12_init_372 rfl ?_
  refine r_bipush (pc := 373) dX12_init_373 rfl (in32_of rfl) ?_
  refine r_bipush (pc := 375) dX12_init_375 rfl (in32_of rfl) ?_
  refine q_bst (pc := 377) (i := 2) (s := 72) (j := 64) (x := 115) dX12_init_377 h67 (by decide +kernel) (by decide) (fun U68 K68 h68 => ?_)
  refine r_dup (pc := 378) dX12_init_378 rfl ?_
  refine r_bipush (pc := 379) dX12_init_379 rfl (in32_of rfl) ?_
  refine r_bipush (pc := 381) dX12_init_381 rfl (in32_of rfl) ?_
  refine q_bst (pc := 383) (i := 2) (s := 72) (j := 65) (x := 97) dX12_init_383 h68 (by decide +kernel) (by decide) (fun U69 K69 h69 => ?_)
  refine r_dup (pc := 384) dX12_init_384 rfl ?_
  refine r_bipush (pc := 385) dX12_init_385 rfl (in32_of rfl) ?_
  refine r_bipush (pc := 387) dX12_init_387 rfl (in32_of rfl) ?_
  refine q_bst (pc := 389) (i := 2) (s := 72) (j := 66) (x := 102) dX12_init_389 h69 (by decide +kernel) (by decide) (fun U70 K70 h70 => ?_)
  refine r_dup (pc := 390) dX12_init_390 rfl ?_
  refine r_bipush (pc := 391) dX12_init_391 rfl (in32_of rfl) ?_
  refine r_bipush (pc := 393) dX12_init_393 rfl (in32_of rfl) ?_
  refine q_bst (pc := 395) (i := 2) (s := 72) (j := 67) (x := 101) dX12_init_395 h70 (by decide +kernel) (by decide) (fun U71 K71 h71 => ?_)
  refine r_dup (pc := 396) dX12_init_396 rfl ?_
  refine r_bipush (pc := 397) dX12_init_397 rfl (in32_of rfl) ?_
  refine r_iconst (pc := 399) dX12_init_399 (in32_of rfl) ?_
  refine q_bst (pc := 400) (i := 2) (s := 72) (j := 68) (x := 0) dX12_init_400 h71 (by decide +kernel) (by decide) (fun U72 K72 h72 => ?_)
  change At _ _ _ _ _ LX12_init_2 _ at h72
  refine r_dup (pc := 401) dX12_init_401 rfl ?_
  refine r_bipush (pc := 402) dX12_init_402 rfl (in32_of rfl) ?_
  refine r_iconst (pc := 404) dX12_init_404 (in32_of rfl) ?_
  refine q_bst (pc := 405) (i := 2) (s := 72) (j := 69) (x := 0) dX12_init_405 h72 (by decide +kernel) (by decide) (fun U73 K73 h73 => ?_)
  refine r_dup (pc := 406) dX12_init_406 rfl ?_
  refine r_bipush (pc := 407) dX12_init_407 rfl (in32_of rfl) ?_
  refine r_iconst (pc := 409) dX12_init_409 (in32_of rfl) ?_
  refine q_bst (pc := 410) (i := 2) (s := 72) (j := 70) (x := 0) dX12_init_410 h73 (by decide +kernel) (by decide) (fun U74 K74 h74 => ?_)
  refine r_dup (pc := 411) dX12_init_411 rfl ?_
  refine r_bipush (pc := 412) dX12_init_412 rfl (in32_of rfl) ?_
  refine r_iconst (pc := 414) dX12_init_414 (in32_of rfl) ?_
  refine q_bst (pc := 415) (i := 2) (s := 72) (j := 71) (x := 0) dX12_init_415 h74 (by decide +kernel) (by decide) (fun U75 K75 h75 => ?_)
  refine q_putr (pc := 416) (i := 0) (s := 0) (b := 2) dX12_init_416 fl_X12_13 pc_X12_13 rfl h75 (by decide +kernel) (fun U76 K76 h76 => ?_)
  refine r_aload_n (pc := 419) (i := 0) dX12_init_419 rfl rfl ?_
  refine r_bipush (pc := 420) dX12_init_420 rfl (in32_of rfl) ?_
  refine q_int (pc := 422) (s := 9) (n := 3) (m2 := 281) dX12_init_422 h76 (by decide +kernel) (by decide) (by decide +kernel) (fun U77 K77 h77 => ?_)
  refine r_dup (pc := 424) dX12_init_424 rfl ?_
  refine r_iconst (pc := 425) dX12_init_425 (in32_of rfl) ?_
  refine r_iconst (pc := 426) dX12_init_426 (in32_of rfl) ?_
  refine q_ist (pc := 427) (i := 3) (s := 9) (j := 0) (x := 2) dX12_init_427 h77 (by decide +kernel) (by decide) (fun U78 K78 h78 => ?_)
  refine r_dup (pc := 428) dX12_init_428 rfl ?_
  refine r_iconst (pc := 429) dX12_init_429 (in32_of rfl) ?_
  refine r_iconst (pc := 430) dX12_init_430 (in32_of rfl) ?_
  refine q_ist (pc := 431) (i := 3) (s := 9) (j := 1) (x := 0) dX12_init_431 h78 (by decide +kernel) (by decide) (fun U79 K79 h79 => ?_)
  refine r_dup (pc := 432) dX12_init_432 rfl ?_
  refine r_iconst (pc := 433) dX12_init_433 (in32_of rfl) ?_
  refine r_iconst (pc := 434) dX12_init_434 (in32_of rfl) ?_
  refine q_ist (pc := 435) (i := 3) (s := 9) (j := 2) (x := 0) dX12_init_435 h79 (by decide +kernel) (by decide) (fun U80 K80 h80 => ?_)
  refine r_dup (pc := 436) dX12_init_436 rfl ?_
  refine r_iconst (pc := 437) dX12_init_437 (in32_of rfl) ?_
  refine r_iconst (pc := 438) dX12_init_438 (in32_of rfl) ?_
  refine q_ist (pc := 439) (i := 3) (s := 9) (j := 3) (x := 0) dX12_init_439 h80 (by decide +kernel) (by decide) (fun U81 K81 h81 => ?_)
  refine r_dup (pc := 440) dX12_init_440 rfl ?_
  refine r_iconst (pc := 441) dX12_init_441 (in32_of rfl) ?_
  refine r_iconst (pc := 442) dX12_init_442 (in32_of rfl) ?_
  refine q_ist (pc := 443) (i := 3) (s := 9) (j := 4) (x := 0) dX12_init_443 h81 (by decide +kernel) (by decide) (fun U82 K82 h82 => ?_)
  refine r_dup (pc := 444) dX12_init_444 rfl ?_
  refine r_iconst (pc := 445) dX12_init_445 (in32_of rfl) ?_
  refine r_iconst (pc := 446) dX12_init_446 (in32_of rfl) ?_
  refine q_ist (pc := 447) (i := 3) (s := 9) (j := 5) (x := 2) dX12_init_447 h82 (by decide +kernel) (by decide) (fun U83 K83 h83 => ?_)
  refine r_dup (pc := 448) dX12_init_448 rfl ?_
  refine r_bipush (pc := 449) dX12_init_449 rfl (in32_of rfl) ?_
  refine r_iconst (pc := 451) dX12_init_451 (in32_of rfl) ?_
  refine q_ist (pc := 452) (i := 3) (s := 9) (j := 6) (x := 1) dX12_init_452 h83 (by decide +kernel) (by decide) (fun U84 K84 h84 => ?_)
  refine r_dup (pc := 453) dX12_init_453 rfl ?_
  refine r_bipush (pc := 454) dX12_init_454 rfl (in32_of rfl) ?_
  refine r_iconst (pc := 456) dX12_init_456 (in32_of rfl) ?_
  refine q_ist (pc := 457) (i := 3) (s := 9) (j := 7) (x := 1) dX12_init_457 h84 (by decide +kernel) (by decide) (fun U85 K85 h85 => ?_)
  refine r_dup (pc := 458) dX12_init_458 rfl ?_
  refine r_bipush (pc := 459) dX12_init_459 rfl (in32_of rfl) ?_
  refine r_iconst (pc := 461) dX12_init_461 (in32_of rfl) ?_
  refine q_ist (pc := 462) (i := 3) (s := 9) (j := 8) (x := 0) dX12_init_462 h85 (by decide +kernel) (by decide) (fun U86 K86 h86 => ?_)
  refine q_putr (pc := 463) (i := 0) (s := 0) (b := 3) dX12_init_463 fl_X12_16 pc_X12_16 rfl h86 (by decide +kernel) (fun U87 K87 h87 => ?_)
  refine r_aload_n (pc := 466) (i := 0) dX12_init_466 rfl rfl ?_
  refine r_bipush (pc := 467) dX12_init_467 rfl (in32_of rfl) ?_
  refine q_int (pc := 469) (s := 9) (n := 4) (m2 := 290) dX12_init_469 h87 (by decide +kernel) (by decide) (by decide +kernel) (fun U88 K88 h88 => ?_)
  refine r_dup (pc := 471) dX12_init_471 rfl ?_
  refine r_iconst (pc := 472) dX12_init_472 (in32_of rfl) ?_
  refine r_sipush (pc := 473) dX12_init_473 rfl (in32_of rfl) ?_
  refine q_ist (pc := 476) (i := 4) (s := 9) (j := 0) (x := 256) dX12_init_476 h88 (by decide +kernel) (by decide) (fun U89 K89 h89 => ?_)
  refine r_dup (pc := 477) dX12_init_477 rfl ?_
  refine r_iconst (pc := 478) dX12_init_478 (in32_of rfl) ?_
  refine r_ldc (pc := 479) (n := 99999) dX12_init_479 cn_X12_20 (in32_of rfl) ?_
  refine q_ist (pc := 481) (i := 4) (s := 9) (j := 1) (x := 99999) dX12_init_481 h89 (by decide +kernel) (by decide) (fun U90 K90 h90 => ?_)
  refine r_dup (pc := 482) dX12_init_482 rfl ?_
  refine r_iconst (pc := 483) dX12_init_483 (in32_of rfl) ?_
  refine r_sipush (pc := 484) dX12_init_484 rfl (in32_of rfl) ?_
  refine q_ist (pc := 487) (i := 4) (s := 9) (j := 2) (x := 500) dX12_init_487 h90 (by decide +kernel) (by decide) (fun U91 K91 h91 => ?_)
  refine r_dup (pc := 488) dX12_init_488 rfl ?_
  refine r_iconst (pc := 489) dX12_init_489 (in32_of rfl) ?_
  refine r_bipush (pc := 490) dX12_init_490 rfl (in32_of rfl) ?_
  refine q_ist (pc := 492) (i := 4) (s := 9) (j := 3) (x := 100) dX12_init_492 h91 (by decide +kernel) (by decide) (fun U92 K92 h92 => ?_)
  refine r_dup (pc := 493) dX12_init_493 rfl ?_
  refine r_iconst (pc := 494) dX12_init_494 (in32_of rfl) ?_
  refine r_sipush (pc := 495) dX12_init_495 rfl (in32_of rfl) ?_
  refine q_ist (pc := 498) (i := 4) (s := 9) (j := 4) (x := 128) dX12_init_498 h92 (by decide +kernel) (by decide) (fun U93 K93 h93 => ?_)
  refine r_dup (pc := 499) dX12_init_499 rfl ?_
  refine r_iconst (pc := 500) dX12_init_500 (in32_of rfl) ?_
  refine r_bipush (pc := 501) dX12_init_501 rfl (in32_of rfl) ?_
  refine q_ist (pc := 503) (i := 4) (s := 9) (j := 5) (x := 64) dX12_init_503 h93 (by decide +kernel) (by decide) (fun U94 K94 h94 => ?_)
  refine r_dup (pc := 504) dX12_init_504 rfl ?_
  refine r_bipush (pc := 505) dX12_init_505 rfl (in32_of rfl) ?_
  refine r_bipush (pc := 507) dX12_init_507 rfl (in32_of rfl) ?_
  refine q_ist (pc := 509) (i := 4) (s := 9) (j := 6) (x := 6) dX12_init_509 h94 (by decide +kernel) (by decide) (fun U95 K95 h95 => ?_)
  refine r_dup (pc := 510) dX12_init_510 rfl ?_
  refine r_bipush (pc := 511) dX12_init_511 rfl (in32_of rfl) ?_
  refine r_bipush (pc := 513) dX12_init_513 rfl (in32_of rfl) ?_
  refine q_ist (pc := 515) (i := 4) (s := 9) (j := 7) (x := 30) dX12_init_515 h95 (by decide +kernel) (by decide) (fun U96 K96 h96 => ?_)
  change At _ _ _ _ _ LX12_init_3 _ at h96
  refine r_dup (pc := 516) dX12_init_516 rfl ?_
  refine r_bipush (pc := 517) dX12_init_517 rfl (in32_of rfl) ?_
  refine r_bipush (pc := 519) dX12_init_519 rfl (in32_of rfl) ?_
  refine q_ist (pc := 521) (i := 4) (s := 9) (j := 8) (x := 50) dX12_init_521 h96 (by decide +kernel) (by decide) (fun U97 K97 h97 => ?_)
  refine q_putr (pc := 522) (i := 0) (s := 0) (b := 4) dX12_init_522 fl_X12_21 pc_X12_21 rfl h97 (by decide +kernel) (fun U98 K98 h98 => ?_)
  refine r_aload_n (pc := 525) (i := 0) dX12_init_525 rfl rfl ?_
  refine r_bipush (pc := 526) dX12_init_526 rfl (in32_of rfl) ?_
  refine q_int (pc := 528) (s := 9) (n := 5) (m2 := 299) dX12_init_528 h98 (by decide +kernel) (by decide) (by decide +kernel) (fun U99 K99 h99 => ?_)
  refine r_dup (pc := 530) dX12_init_530 rfl ?_
  refine r_iconst (pc := 531) dX12_init_531 (in32_of rfl) ?_
  refine r_bipush (pc := 532) dX12_init_532 rfl (in32_of rfl) ?_
  refine q_ist (pc := 534) (i := 5) (s := 9) (j := 0) (x := 64) dX12_init_534 h99 (by decide +kernel) (by decide) (fun U100 K100 h100 => ?_)
  refine r_dup (pc := 535) dX12_init_535 rfl ?_
  refine r_iconst (pc := 536) dX12_init_536 (in32_of rfl) ?_
  refine r_iconst (pc := 537) dX12_init_537 (in32_of rfl) ?_
  refine q_ist (pc := 538) (i := 5) (s := 9) (j := 1) (x := 1) dX12_init_538 h100 (by decide +kernel) (by decide) (fun U101 K101 h101 => ?_)
  refine r_dup (pc := 539) dX12_init_539 rfl ?_
  refine r_iconst (pc := 540) dX12_init_540 (in32_of rfl) ?_
  refine r_bipush (pc := 541) dX12_init_541 rfl (in32_of rfl) ?_
  refine q_ist (pc := 543) (i := 5) (s := 9) (j := 2) (x := 30) dX12_init_543 h101 (by decide +kernel) (by decide) (fun U102 K102 h102 => ?_)
  refine r_dup (pc := 544) dX12_init_544 rfl ?_
  refine r_iconst (pc := 545) dX12_init_545 (in32_of rfl) ?_
  refine r_iconst (pc := 546) dX12_init_546 (in32_of rfl) ?_
  refine q_ist (pc := 547) (i := 5) (s := 9) (j := 3) (x := 0) dX12_init_547 h102 (by decide +kernel) (by decide) (fun U103 K103 h103 => ?_)
  refine r_dup (pc := 548) dX12_init_548 rfl ?_
  refine r_iconst (pc := 549) dX12_init_549 (in32_of rfl) ?_
  refine r_bipush (pc := 550) dX12_init_550 rfl (in32_of rfl) ?_
  refine q_ist (pc := 552) (i := 5) (s := 9) (j := 4) (x := 8) dX12_init_552 h103 (by decide +kernel) (by decide) (fun U104 K104 h104 => ?_)
  refine r_dup (pc := 553) dX12_init_553 rfl ?_
  refine r_iconst (pc := 554) dX12_init_554 (in32_of rfl) ?_
  refine r_bipush (pc := 555) dX12_init_555 rfl (in32_of rfl) ?_
  refine q_ist (pc := 557) (i := 5) (s := 9) (j := 5) (x := 8) dX12_init_557 h104 (by decide +kernel) (by decide) (fun U105 K105 h105 => ?_)
  refine r_dup (pc := 558) dX12_init_558 rfl ?_
  refine r_bipush (pc := 559) dX12_init_559 rfl (in32_of rfl) ?_
  refine r_iconst (pc := 561) dX12_init_561 (in32_of rfl) ?_
  refine q_ist (pc := 562) (i := 5) (s := 9) (j := 6) (x := 4) dX12_init_562 h105 (by decide +kernel) (by decide) (fun U106 K106 h106 => ?_)
  refine r_dup (pc := 563) dX12_init_563 rfl ?_
  refine r_bipush (pc := 564) dX12_init_564 rfl (in32_of rfl) ?_
  refine r_bipush (pc := 566) dX12_init_566 rfl (in32_of rfl) ?_
  refine q_ist (pc := 568) (i := 5) (s := 9) (j := 7) (x := 16) dX12_init_568 h106 (by decide +kernel) (by decide) (fun U107 K107 h107 => ?_)
  refine r_dup (pc := 569) dX12_init_569 rfl ?_
  refine r_bipush (pc := 570) dX12_init_570 rfl (in32_of rfl) ?_
  refine r_bipush (pc := 572) dX12_init_572 rfl (in32_of rfl) ?_
  refine q_ist (pc := 574) (i := 5) (s := 9) (j := 8) (x := 10) dX12_init_574 h107 (by decide +kernel) (by decide) (fun U108 K108 h108 => ?_)
  refine q_putr (pc := 575) (i := 0) (s := 0) (b := 5) dX12_init_575 fl_X12_24 pc_X12_24 rfl h108 (by decide +kernel) (fun U109 K109 h109 => ?_)
  refine r_aload_n (pc := 578) (i := 0) dX12_init_578 rfl rfl ?_
  refine r_bipush (pc := 579) dX12_init_579 rfl (in32_of rfl) ?_
  refine q_int (pc := 581) (s := 9) (n := 6) (m2 := 308) dX12_init_581 h109 (by decide +kernel) (by decide) (by decide +kernel) (fun U110 K110 h110 => ?_)
  refine q_putr (pc := 583) (i := 0) (s := 0) (b := 6) dX12_init_583 fl_X12_27 pc_X12_27 rfl h110 (by decide +kernel) (fun U111 K111 h111 => ?_)
  refine r_aload_n (pc := 586) (i := 0) dX12_init_586 rfl rfl ?_
  refine r_bipush (pc := 587) dX12_init_587 rfl (in32_of rfl) ?_
  refine q_int (pc := 589) (s := 9) (n := 7) (m2 := 317) dX12_init_589 h111 (by decide +kernel) (by decide) (by decide +kernel) (fun U112 K112 h112 => ?_)
  refine q_putr (pc := 591) (i := 0) (s := 0) (b := 7) dX12_init_591 fl_X12_30 pc_X12_30 rfl h112 (by decide +kernel) (fun U113 K113 h113 => ?_)
  refine r_aload_n (pc := 594) (i := 0) dX12_init_594 rfl rfl ?_
  refine r_bipush (pc := 595) dX12_init_595 rfl (in32_of rfl) ?_
  refine q_bool (pc := 597) (s := 9) (n := 8) (m2 := 326) dX12_init_597 h113 (by decide +kernel) (by decide) (by decide +kernel) (fun U114 K114 h114 => ?_)
  refine q_putr (pc := 599) (i := 0) (s := 0) (b := 8) dX12_init_599 fl_X12_33 pc_X12_33 rfl h114 (by decide +kernel) (fun U115 K115 h115 => ?_)
  refine r_aload_n (pc := 602) (i := 0) dX12_init_602 rfl rfl ?_
  refine r_sipush (pc := 603) dX12_init_603 rfl (in32_of rfl) ?_
  refine q_int (pc := 606) (s := 17510) (n := 9) (m2 := 17836) dX12_init_606 h115 (by decide +kernel) (by decide) (by decide +kernel) (fun U116 K116 h116 => ?_)
  refine q_putr (pc := 608) (i := 0) (s := 0) (b := 9) dX12_init_608 fl_X12_37 pc_X12_37 rfl h116 (by decide +kernel) (fun U117 K117 h117 => ?_)
  refine r_aload_n (pc := 611) (i := 0) dX12_init_611 rfl rfl ?_
  refine r_sipush (pc := 612) dX12_init_612 rfl (in32_of rfl) ?_
  refine q_int (pc := 615) (s := 17510) (n := 10) (m2 := 35346) dX12_init_615 h117 (by decide +kernel) (by decide) (by decide +kernel) (fun U118 K118 h118 => ?_)
  refine q_putr (pc := 617) (i := 0) (s := 0) (b := 10) dX12_init_617 fl_X12_40 pc_X12_40 rfl h118 (by decide +kernel) (fun U119 K119 h119 => ?_)
  refine r_aload_n (pc := 620) (i := 0) dX12_init_620 rfl rfl ?_
  refine r_ldc (pc := 621) (n := 210120) dX12_init_621 cn_X12_43 (in32_of rfl) ?_
  refine q_int (pc := 623) (s := 210120) (n := 11) (m2 := 245466) dX12_init_623 h119 (by decide +kernel) (by decide) (by decide +kernel) (fun U120 K120 h120 => ?_)
  change At _ _ _ _ _ LX12_init_4 _ at h120
  refine q_putr (pc := 625) (i := 0) (s := 0) (b := 11) dX12_init_625 fl_X12_44 pc_X12_44 rfl h120 (by decide +kernel) (fun U121 K121 h121 => ?_)
  refine r_aload_n (pc := 628) (i := 0) dX12_init_628 rfl rfl ?_
  refine r_ldc (pc := 629) (n := 35020) dX12_init_629 cn_X12_47 (in32_of rfl) ?_
  refine q_int (pc := 631) (s := 35020) (n := 12) (m2 := 280486) dX12_init_631 h121 (by decide +kernel) (by decide) (by decide +kernel) (fun U122 K122 h122 => ?_)
  refine q_putr (pc := 633) (i := 0) (s := 0) (b := 12) dX12_init_633 fl_X12_48 pc_X12_48 rfl h122 (by decide +kernel) (fun U123 K123 h123 => ?_)
  refine r_aload_n (pc := 636) (i := 0) dX12_init_636 rfl rfl ?_
  refine r_iconst (pc := 637) dX12_init_637 (in32_of rfl) ?_
  refine q_bool (pc := 638) (s := 2) (n := 13) (m2 := 280488) dX12_init_638 h123 (by decide +kernel) (by decide) (by decide +kernel) (fun U124 K124 h124 => ?_)
  refine q_putr (pc := 640) (i := 0) (s := 0) (b := 13) dX12_init_640 fl_X12_51 pc_X12_51 rfl h124 (by decide +kernel) (fun U125 K125 h125 => ?_)
  refine r_aload_n (pc := 643) (i := 0) dX12_init_643 rfl rfl ?_
  refine r_iconst (pc := 644) dX12_init_644 (in32_of rfl) ?_
  refine q_puti (pc := 645) (i := 0) (s := 0) (x := -1) dX12_init_645 fl_X12_54 (pf_12_17 _ _) rfl h125 (by decide +kernel) (fun U126 K126 h126 => ?_)
  refine r_aload_n (pc := 648) (i := 0) dX12_init_648 rfl rfl ?_
  refine r_bipush (pc := 649) dX12_init_649 rfl (in32_of rfl) ?_
  refine q_int (pc := 651) (s := 8) (n := 14) (m2 := 280496) dX12_init_651 h126 (by decide +kernel) (by decide) (by decide +kernel) (fun U127 K127 h127 => ?_)
  refine q_putr (pc := 653) (i := 0) (s := 0) (b := 14) dX12_init_653 fl_X12_58 pc_X12_58 rfl h127 (by decide +kernel) (fun U128 K128 h128 => ?_)
  refine r_aload_n (pc := 656) (i := 0) dX12_init_656 rfl rfl ?_
  refine r_sipush (pc := 657) dX12_init_657 rfl (in32_of rfl) ?_
  refine q_int (pc := 660) (s := 2048) (n := 15) (m2 := 282544) dX12_init_660 h128 (by decide +kernel) (by decide) (by decide +kernel) (fun U129 K129 h129 => ?_)
  refine q_putr (pc := 662) (i := 0) (s := 0) (b := 15) dX12_init_662 fl_X12_61 pc_X12_61 rfl h129 (by decide +kernel) (fun U130 K130 h130 => ?_)
  refine r_aload_n (pc := 665) (i := 0) dX12_init_665 rfl rfl ?_
  refine r_sipush (pc := 666) dX12_init_666 rfl (in32_of rfl) ?_
  refine q_bool (pc := 669) (s := 256) (n := 16) (m2 := 282800) dX12_init_669 h130 (by decide +kernel) (by decide) (by decide +kernel) (fun U131 K131 h131 => ?_)
  refine q_putr (pc := 671) (i := 0) (s := 0) (b := 16) dX12_init_671 fl_X12_64 pc_X12_64 rfl h131 (by decide +kernel) (fun U132 K132 h132 => ?_)
  have hM := ShM_at h132
  exact k_x12b hM hd (hq _ _ h132 hM)
theorem x12_words {T0 V : Sh} {I0 J : Mi} {m : Nat} (h : At T0 I0 V J 274 LX12_init m) : (∀ q, q < 72 → J 276 q = wdT q) ∧ (∀ k, k < 9 → J 277 k = eLeast k) ∧ (∀ k, k < 9 → J 278 k = eMost k) ∧ (∀ k, k < 9 → J 279 k = eUsual k) ∧ (J 274 1 = 0 ∧ J 274 16 = 0 ∧ J 274 17 = -1) ∧ wOk (J 285) ∧ pOk (J 286) ∧ ∀ k, k < 2 → J 287 k = 0 := by
  have hH := h.row 0 3 (fun k => [1, 16, 17].getD k 0) (fun k => [0, 0, -1].getD k 0) (by decide +kernel)
  have hW := h.row 11 12 (fun k => 17510 * k + 3) (fun _ => 0) (by decide +kernel)
  have hP := h.row 12 2 (fun k => 17510 * k + 3) (fun _ => 0) (by decide +kernel)
  refine ⟨h.row 2 72 (fun k => k) wdT (by decide +kernel), h.row 3 9 (fun k => k) eLeast (by decide +kernel), h.row 4 9 (fun k => k) eMost (by decide +kernel), h.row 5 9 (fun k => k) eUsual (by decide +kernel), ⟨hH 0 (by decide), hH 1 (by decide), hH 2 (by decide)⟩, fun k hk => ?_, fun k hk => ?_, h.row 13 2 (fun k => k) (fun _ => 0) (by decide +kernel)⟩
  · have : J 285 (17510 * k + 3) = 0 := hW k hk
    omega
  · have : J 286 (17510 * k + 3) = 0 := hP k hk
    omega
end C73

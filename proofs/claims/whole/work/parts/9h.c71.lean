section C71
variable {G : Gl} {d : Nat} {T : Sh} {I : Mi} {N : Nat → Int} {Q : Option AV → Sh → Mi → Prop}
def LX11_init_0 : List En := sB 212 LX0_init (sR 0 8 208 (sB 208 LX5_init (sR 0 7 207 (sn (20, 2, z0, rN) (sR 0 6 206 (sn (24, 2, z0, rN) (sR 0 5 24 (sB 24 LX2_init (sR 0 4 9 (sB 9 LX9_init (sR 0 3 4 (sB 4 LX7_init (sR 0 2 2 (sB 2 LX6_init (sI 0 1 (0) (sR 0 0 1 (sn (20, 200, z0, rN) ([(11, 0, z0, rN)]))))))))))))))))))
def LX11_init : List En := sR 206 1 259 (sB 259 LX9_init (sR 206 0 244 (sB 244 LX9_init (sR 0 11 219 (sB 219 LX10_init (sR 0 10 215 (sB 215 LX8_init (sR 0 9 212 (LX11_init_0)))))))))
theorem k_X11_init {G : Gl} {d a : Nat} {U0 : Sh} {I0 : Mi} {Q : Option AV → Sh → Mi → Prop} (h0 : At U0 I0 U0 I0 a [(11, 0, z0, rN)] 0) (hd : 4 ≤ d) (hq : ∀ V J, At U0 I0 V J a LX11_init 71171 → Q none V J) : EvE G mX11_init d [aR a] U0 I0 Q := by
  refine EvE.mk (lv0 := [some (aR a), none]) (Nat.le_of_ble_eq_true rfl) (by decide +kernel) rfl ?_
  refine r_aload_n (pc := 0) (i := 0) dX11_init_0 rfl rfl ?_
  refine r_objInit (pc := 1) dX11_init_1 (by omega) ob_X11_3 (Nat.le_of_ble_eq_true rfl) ?_
  refine r_aload_n (pc := 4) (i := 0) dX11_init_4 rfl rfl ?_
  refine r_sipush (pc := 5) dX11_init_5 rfl (in32_of rfl) ?_
  refine q_int (pc := 8) (s := 200) (n := 1) (m2 := 200) dX11_init_8 h0 (by decide +kernel) (by decide) (by decide +kernel) (fun U1 K1 h1 => ?_)
  refine q_putr (pc := 10) (i := 0) (s := 0) (b := 1) dX11_init_10 fl_X11_9 pc_X11_9 rfl h1 (by decide +kernel) (fun U2 K2 h2 => ?_)
  refine r_aload_n (pc := 13) (i := 0) dX11_init_13 rfl rfl ?_
  refine r_iconst (pc := 14) dX11_init_14 (in32_of rfl) ?_
  refine q_puti (pc := 15) (i := 0) (s := 0) (x := 0) dX11_init_15 fl_X11_13 (pf_11_1 _ _) rfl h2 (by decide +kernel) (fun U3 K3 h3 => ?_)
  refine r_aload_n (pc := 18) (i := 0) dX11_init_18 rfl rfl ?_
  refine q_new (pc := 19) (n := 2) (m2 := 201) dX11_init_19 nl_X11_17 h3 (by decide +kernel) (by decide +kernel) (fun U4 K4 h4 => ?_)
  refine r_dup (pc := 22) dX11_init_22 rfl ?_
  refine q_call (pc := 23) (n := 2) (m2 := 210) (l2 := LX6_init) (m3 := 9) dX11_init_23 (CI.mk2 mk_X6_init lk_X11_19) (by omega) (Nat.le_of_ble_eq_true rfl) (Nat.le_of_ble_eq_true rfl) h4 (by decide +kernel) rfl (fun Q2 g1 g2 => k_X6_init g1 (by omega) g2) (by decide +kernel) (fun U5 K5 h5 => ?_)
  refine q_putr (pc := 26) (i := 0) (s := 0) (b := 2) dX11_init_26 fl_X11_20 pc_X11_20 rfl h5 (by decide +kernel) (fun U6 K6 h6 => ?_)
  refine r_aload_n (pc := 29) (i := 0) dX11_init_29 rfl rfl ?_
  refine q_new (pc := 30) (n := 4) (m2 := 215) dX11_init_30 nl_X11_24 h6 (by decide +kernel) (by decide +kernel) (fun U7 K7 h7 => ?_)
  refine r_dup (pc := 33) dX11_init_33 rfl ?_
  refine q_call (pc := 34) (n := 4) (m2 := 234) (l2 := LX7_init) (m3 := 19) dX11_init_34 (CI.mk2 mk_X7_init lk_X11_26) (by omega) (Nat.le_of_ble_eq_true rfl) (Nat.le_of_ble_eq_true rfl) h7 (by decide +kernel) rfl (fun Q2 g1 g2 => k_X7_init g1 (by omega) g2) (by decide +kernel) (fun U8 K8 h8 => ?_)
  refine q_putr (pc := 37) (i := 0) (s := 0) (b := 4) dX11_init_37 fl_X11_27 pc_X11_27 rfl h8 (by decide +kernel) (fun U9 K9 h9 => ?_)
  refine r_aload_n (pc := 40) (i := 0) dX11_init_40 rfl rfl ?_
  refine q_new (pc := 41) (n := 9) (m2 := 248) dX11_init_41 nl_X11_31 h9 (by decide +kernel) (by decide +kernel) (fun U10 K10 h10 => ?_)
  refine r_dup (pc := 44) dX11_init_44 rfl ?_
  refine q_call (pc := 45) (n := 9) (m2 := 4231) (l2 := LX9_init) (m3 := 3983) dX11_init_45 (CI.mk2 mk_X9_init lk_X11_33) (by omega) (Nat.le_of_ble_eq_true rfl) (Nat.le_of_ble_eq_true rfl) h10 (by decide +kernel) rfl (fun Q2 g1 g2 => k_X9_init g1 (by omega) g2) (by decide +kernel) (fun U11 K11 h11 => ?_)
  refine q_putr (pc := 48) (i := 0) (s := 0) (b := 9) dX11_init_48 fl_X11_34 pc_X11_34 rfl h11 (by decide +kernel) (fun U12 K12 h12 => ?_)
  refine r_aload_n (pc := 51) (i := 0) dX11_init_51 rfl rfl ?_
  refine q_new (pc := 52) (n := 24) (m2 := 4234) dX11_init_52 nl_X11_38 h12 (by decide +kernel) (by decide +kernel) (fun U13 K13 h13 => ?_)
  refine r_dup (pc := 55) dX11_init_55 rfl ?_
  refine q_call (pc := 56) (n := 24) (m2 := 52210) (l2 := LX2_init) (m3 := 47976) dX11_init_56 (CI.mk2 mk_X2_init lk_X11_40) (by omega) (Nat.le_of_ble_eq_true rfl) (Nat.le_of_ble_eq_true rfl) h13 (by decide +kernel) rfl (fun Q2 g1 g2 => k_X2_init g1 (by omega) g2) (by decide +kernel) (fun U14 K14 h14 => ?_)
  refine q_putr (pc := 59) (i := 0) (s := 0) (b := 24) dX11_init_59 fl_X11_41 pc_X11_41 rfl h14 (by decide +kernel) (fun U15 K15 h15 => ?_)
  refine r_aload_n (pc := 62) (i := 0) dX11_init_62 rfl rfl ?_
  refine r_iconst (pc := 63) dX11_init_63 (in32_of rfl) ?_
  refine q_anew (pc := 64) (s := 2) (n := 206) (m2 := 52212) dX11_init_64 cl_X11_31 h15 (by decide +kernel) (by decide) (by decide +kernel) (fun U16 K16 h16 => ?_)
  refine q_putr (pc := 67) (i := 0) (s := 0) (b := 206) dX11_init_67 fl_X11_45 pc_X11_45 rfl h16 (by decide +kernel) (fun U17 K17 h17 => ?_)
  refine r_aload_n (pc := 70) (i := 0) dX11_init_70 rfl rfl ?_
  refine r_iconst (pc := 71) dX11_init_71 (in32_of rfl) ?_
  refine q_int (pc := 72) (s := 2) (n := 207) (m2 := 52214) dX11_init_72 h17 (by decide +kernel) (by decide) (by decide +kernel) (fun U18 K18 h18 => ?_)
  refine q_putr (pc := 74) (i := 0) (s := 0) (b := 207) dX11_init_74 fl_X11_49 pc_X11_49 rfl h18 (by decide +kernel) (fun U19 K19 h19 => ?_)
  refine r_aload_n (pc := 77) (i := 0) dX11_init_77 rfl rfl ?_
  refine q_new (pc := 78) (n := 208) (m2 := 52220) dX11_init_78 nl_X11_52 h19 (by decide +kernel) (by decide +kernel) (fun U20 K20 h20 => ?_)
  refine r_dup (pc := 81) dX11_init_81 rfl ?_
  refine q_call (pc := 82) (n := 208) (m2 := 54528) (l2 := LX5_init) (m3 := 2308) dX11_init_82 (CI.mk2 mk_X5_init lk_X11_54) (by omega) (Nat.le_of_ble_eq_true rfl) (Nat.le_of_ble_eq_true rfl) h20 (by decide +kernel) rfl (fun Q2 g1 g2 => k_X5_init g1 (by omega) g2) (by decide +kernel) (fun U21 K21 h21 => ?_)
  refine q_putr (pc := 85) (i := 0) (s := 0) (b := 208) dX11_init_85 fl_X11_55 pc_X11_55 rfl h21 (by decide +kernel) (fun U22 K22 h22 => ?_)
  refine r_aload_n (pc := 88) (i := 0) dX11_init_88 rfl rfl ?_
  refine q_new (pc := 89) (n := 212) (m2 := 54530) dX11_init_89 nl_X11_59 h22 (by decide +kernel) (by decide +kernel) (fun U23 K23 h23 => ?_)
  refine r_dup (pc := 92) dX11_init_92 rfl ?_
  refine q_call (pc := 93) (n := 212) (m2 := 55046) (l2 := LX0_init) (m3 := 516) dX11_init_93 (CI.mk2 mk_X0_init lk_X11_61) (by omega) (Nat.le_of_ble_eq_true rfl) (Nat.le_of_ble_eq_true rfl) h23 (by decide +kernel) rfl (fun Q2 g1 g2 => k_X0_init g1 (by omega) g2) (by decide +kernel) (fun U24 K24 h24 => ?_)
  change At _ _ _ _ _ LX11_init_0 _ at h24
  refine q_putr (pc := 96) (i := 0) (s := 0) (b := 212) dX11_init_96 fl_X11_62 pc_X11_62 rfl h24 (by decide +kernel) (fun U25 K25 h25 => ?_)
  refine r_aload_n (pc := 99) (i := 0) dX11_init_99 rfl rfl ?_
  refine q_new (pc := 100) (n := 215) (m2 := 55050) dX11_init_100 nl_X11_66 h25 (by decide +kernel) (by decide +kernel) (fun U26 K26 h26 => ?_)
  refine r_dup (pc := 103) dX11_init_103 rfl ?_
  refine q_call (pc := 104) (n := 215) (m2 := 56334) (l2 := LX8_init) (m3 := 1284) dX11_init_104 (CI.mk2 mk_X8_init lk_X11_68) (by omega) (Nat.le_of_ble_eq_true rfl) (Nat.le_of_ble_eq_true rfl) h26 (by decide +kernel) rfl (fun Q2 g1 g2 => k_X8_init g1 (by omega) g2) (by decide +kernel) (fun U27 K27 h27 => ?_)
  refine q_putr (pc := 107) (i := 0) (s := 0) (b := 215) dX11_init_107 fl_X11_69 pc_X11_69 rfl h27 (by decide +kernel) (fun U28 K28 h28 => ?_)
  refine r_aload_n (pc := 110) (i := 0) dX11_init_110 rfl rfl ?_
  refine q_new (pc := 111) (n := 219) (m2 := 56338) dX11_init_111 nl_X11_73 h28 (by decide +kernel) (by decide +kernel) (fun U29 K29 h29 => ?_)
  refine r_dup (pc := 114) dX11_init_114 rfl ?_
  refine q_call (pc := 115) (n := 219) (m2 := 63177) (l2 := LX10_init) (m3 := 6839) dX11_init_115 (CI.mk2 mk_X10_init lk_X11_75) (by omega) (Nat.le_of_ble_eq_true rfl) (Nat.le_of_ble_eq_true rfl) h29 (by decide +kernel) rfl (fun Q2 g1 g2 => k_X10_init g1 (by omega) g2) (by decide +kernel) (fun U30 K30 h30 => ?_)
  refine q_putr (pc := 118) (i := 0) (s := 0) (b := 219) dX11_init_118 fl_X11_76 pc_X11_76 rfl h30 (by decide +kernel) (fun U31 K31 h31 => ?_)
  refine r_iconst (pc := 121) dX11_init_121 (in32_of rfl) ?_
  refine r_istore_n (pc := 122) (i := 1) (lv' := [_, _]) dX11_init_122 rfl (by decide) rfl ?_
  refine r_iload_n (pc := 123) (i := 1) dX11_init_123 rfl rfl ?_
  refine r_iconst (pc := 124) dX11_init_124 (in32_of rfl) ?_
  refine r_icmp_ge (pc := 125) (tgt := 147) dX11_init_125 rfl (fun c => absurd c (by decide)) (fun c => ?_)
  refine r_aload_n (pc := 128) (i := 0) dX11_init_128 rfl rfl ?_
  refine q_getr (pc := 129) (i := 0) (s := 0) (b := 206) dX11_init_129 fl_X11_45 rfl h31 (by decide +kernel) (by decide +kernel) ?_
  refine r_iload_n (pc := 132) (i := 1) dX11_init_132 rfl rfl ?_
  refine q_new (pc := 133) (n := 244) (m2 := 63191) dX11_init_133 nl_X11_31 h31 (by decide +kernel) (by decide +kernel) (fun U32 K32 h32 => ?_)
  refine r_dup (pc := 136) dX11_init_136 rfl ?_
  refine q_call (pc := 137) (n := 244) (m2 := 67174) (l2 := LX9_init) (m3 := 3983) dX11_init_137 (CI.mk2 mk_X9_init lk_X11_33) (by omega) (Nat.le_of_ble_eq_true rfl) (Nat.le_of_ble_eq_true rfl) h32 (by decide +kernel) rfl (fun Q2 g1 g2 => k_X9_init g1 (by omega) g2) (by decide +kernel) (fun U33 K33 h33 => ?_)
  refine q_ast (pc := 140) (i := 206) (s := 2) (j := 0) (b := 244) (s2 := 0) dX11_init_140 h33 (by decide +kernel) (by decide +kernel) (by decide) (fun U34 K34 h34 => ?_)
  refine r_iincN (pc := 141) (i := 1) (c := 1) (lv' := [_, _]) dX11_init_141 rfl (by decide) (by decide) rfl ?_
  refine r_goto (pc := 144) (tgt := 123) dX11_init_144 rfl ?_
  refine r_iload_n (pc := 123) (i := 1) dX11_init_123 rfl rfl ?_
  refine r_iconst (pc := 124) dX11_init_124 (in32_of rfl) ?_
  refine r_icmp_ge (pc := 125) (tgt := 147) dX11_init_125 rfl (fun c => absurd c (by decide)) (fun c => ?_)
  refine r_aload_n (pc := 128) (i := 0) dX11_init_128 rfl rfl ?_
  refine q_getr (pc := 129) (i := 0) (s := 0) (b := 206) dX11_init_129 fl_X11_45 rfl h34 (by decide +kernel) (by decide +kernel) ?_
  refine r_iload_n (pc := 132) (i := 1) dX11_init_132 rfl rfl ?_
  refine q_new (pc := 133) (n := 259) (m2 := 67188) dX11_init_133 nl_X11_31 h34 (by decide +kernel) (by decide +kernel) (fun U35 K35 h35 => ?_)
  refine r_dup (pc := 136) dX11_init_136 rfl ?_
  refine q_call (pc := 137) (n := 259) (m2 := 71171) (l2 := LX9_init) (m3 := 3983) dX11_init_137 (CI.mk2 mk_X9_init lk_X11_33) (by omega) (Nat.le_of_ble_eq_true rfl) (Nat.le_of_ble_eq_true rfl) h35 (by decide +kernel) rfl (fun Q2 g1 g2 => k_X9_init g1 (by omega) g2) (by decide +kernel) (fun U36 K36 h36 => ?_)
  refine q_ast (pc := 140) (i := 206) (s := 2) (j := 1) (b := 259) (s2 := 0) dX11_init_140 h36 (by decide +kernel) (by decide +kernel) (by decide) (fun U37 K37 h37 => ?_)
  refine r_iincN (pc := 141) (i := 1) (c := 2) (lv' := [_, _]) dX11_init_141 rfl (by decide) (by decide) rfl ?_
  refine r_goto (pc := 144) (tgt := 123) dX11_init_144 rfl ?_
  refine r_iload_n (pc := 123) (i := 1) dX11_init_123 rfl rfl ?_
  refine r_iconst (pc := 124) dX11_init_124 (in32_of rfl) ?_
  refine r_icmp_ge (pc := 125) (tgt := 147) dX11_init_125 rfl (fun c => ?_) (fun c => absurd (by decide) c)
  exact r_vret (pc := 147) dX11_init_147 trivial (hq _ _ h37)
end C71

section C70
variable {G : Gl} {d : Nat} {T : Sh} {I : Mi} {N : Nat → Int} {Q : Option AV → Sh → Mi → Prop}
def LX3_init : List En := sR 0 3 3 (sn (20, 256, z0, rN) (sR 0 2 2 (sn (20, 256, z0, rN) (sR 0 1 1 (sn (20, 256, z0, rN) (sI 0 0 (0) ([(3, 0, z0, rN)])))))))
theorem k_X3_init {G : Gl} {d a : Nat} {U0 : Sh} {I0 : Mi} {Q : Option AV → Sh → Mi → Prop} (h0 : At U0 I0 U0 I0 a [(3, 0, z0, rN)] 0) (hd : 1 ≤ d) (hq : ∀ V J, At U0 I0 V J a LX3_init 768 → Q none V J) : EvE G mX3_init d [aR a] U0 I0 Q := by
  refine EvE.mk (lv0 := [some (aR a)]) (Nat.le_of_ble_eq_true rfl) (by decide +kernel) rfl ?_
  refine r_aload_n (pc := 0) (i := 0) dX3_init_0 rfl rfl ?_
  refine r_objInit (pc := 1) dX3_init_1 (by omega) ob_X3_3 (Nat.le_of_ble_eq_true rfl) ?_
  refine r_aload_n (pc := 4) (i := 0) dX3_init_4 rfl rfl ?_
  refine r_iconst (pc := 5) dX3_init_5 (in32_of rfl) ?_
  refine q_puti (pc := 6) (i := 0) (s := 0) (x := 0) dX3_init_6 fl_X3_9 (pf_3_0 _ _) rfl h0 (by decide +kernel) (fun U1 K1 h1 => ?_)
  refine r_aload_n (pc := 9) (i := 0) dX3_init_9 rfl rfl ?_
  refine r_sipush (pc := 10) dX3_init_10 rfl (in32_of rfl) ?_
  refine q_int (pc := 13) (s := 256) (n := 1) (m2 := 256) dX3_init_13 h1 (by decide +kernel) (by decide) (by decide +kernel) (fun U2 K2 h2 => ?_)
  refine q_putr (pc := 15) (i := 0) (s := 0) (b := 1) dX3_init_15 fl_X3_15 pc_X3_15 rfl h2 (by decide +kernel) (fun U3 K3 h3 => ?_)
  refine r_aload_n (pc := 18) (i := 0) dX3_init_18 rfl rfl ?_
  refine r_sipush (pc := 19) dX3_init_19 rfl (in32_of rfl) ?_
  refine q_int (pc := 22) (s := 256) (n := 2) (m2 := 512) dX3_init_22 h3 (by decide +kernel) (by decide) (by decide +kernel) (fun U4 K4 h4 => ?_)
  refine q_putr (pc := 24) (i := 0) (s := 0) (b := 2) dX3_init_24 fl_X3_19 pc_X3_19 rfl h4 (by decide +kernel) (fun U5 K5 h5 => ?_)
  refine r_aload_n (pc := 27) (i := 0) dX3_init_27 rfl rfl ?_
  refine r_sipush (pc := 28) dX3_init_28 rfl (in32_of rfl) ?_
  refine q_int (pc := 31) (s := 256) (n := 3) (m2 := 768) dX3_init_31 h5 (by decide +kernel) (by decide) (by decide +kernel) (fun U6 K6 h6 => ?_)
  refine q_putr (pc := 33) (i := 0) (s := 0) (b := 3) dX3_init_33 fl_X3_22 pc_X3_22 rfl h6 (by decide +kernel) (fun U7 K7 h7 => ?_)
  exact r_vret (pc := 36) dX3_init_36 trivial (hq _ _ h7)
def LX4_init : List En := sR 0 3 3 (sn (23, 256, z0, rN) (sR 0 2 2 (sn (20, 64, z0, rN) (sR 0 1 1 (sn (20, 64, z0, rN) (sI 0 0 (0) ([(4, 0, z0, rN)])))))))
theorem k_X4_init {G : Gl} {d a : Nat} {U0 : Sh} {I0 : Mi} {Q : Option AV → Sh → Mi → Prop} (h0 : At U0 I0 U0 I0 a [(4, 0, z0, rN)] 0) (hd : 1 ≤ d) (hq : ∀ V J, At U0 I0 V J a LX4_init 384 → Q none V J) : EvE G mX4_init d [aR a] U0 I0 Q := by
  refine EvE.mk (lv0 := [some (aR a)]) (Nat.le_of_ble_eq_true rfl) (by decide +kernel) rfl ?_
  refine r_aload_n (pc := 0) (i := 0) dX4_init_0 rfl rfl ?_
  refine r_objInit (pc := 1) dX4_init_1 (by omega) ob_X4_3 (Nat.le_of_ble_eq_true rfl) ?_
  refine r_aload_n (pc := 4) (i := 0) dX4_init_4 rfl rfl ?_
  refine r_iconst (pc := 5) dX4_init_5 (in32_of rfl) ?_
  refine q_puti (pc := 6) (i := 0) (s := 0) (x := 0) dX4_init_6 fl_X4_9 (pf_4_0 _ _) rfl h0 (by decide +kernel) (fun U1 K1 h1 => ?_)
  refine r_aload_n (pc := 9) (i := 0) dX4_init_9 rfl rfl ?_
  refine r_bipush (pc := 10) dX4_init_10 rfl (in32_of rfl) ?_
  refine q_int (pc := 12) (s := 64) (n := 1) (m2 := 64) dX4_init_12 h1 (by decide +kernel) (by decide) (by decide +kernel) (fun U2 K2 h2 => ?_)
  refine q_putr (pc := 14) (i := 0) (s := 0) (b := 1) dX4_init_14 fl_X4_15 (pf_4_1 _ _) rfl h2 (by decide +kernel) (fun U3 K3 h3 => ?_)
  refine r_aload_n (pc := 17) (i := 0) dX4_init_17 rfl rfl ?_
  refine r_bipush (pc := 18) dX4_init_18 rfl (in32_of rfl) ?_
  refine q_int (pc := 20) (s := 64) (n := 2) (m2 := 128) dX4_init_20 h3 (by decide +kernel) (by decide) (by decide +kernel) (fun U4 K4 h4 => ?_)
  refine q_putr (pc := 22) (i := 0) (s := 0) (b := 2) dX4_init_22 fl_X4_19 (pf_4_2 _ _) rfl h4 (by decide +kernel) (fun U5 K5 h5 => ?_)
  refine r_aload_n (pc := 25) (i := 0) dX4_init_25 rfl rfl ?_
  refine r_sipush (pc := 26) dX4_init_26 rfl (in32_of rfl) ?_
  refine q_long (pc := 29) (s := 256) (n := 3) (m2 := 384) dX4_init_29 h5 (by decide +kernel) (by decide) (by decide +kernel) (fun U6 K6 h6 => ?_)
  refine q_putr (pc := 31) (i := 0) (s := 0) (b := 3) dX4_init_31 fl_X4_22 (pf_4_3 _ _) rfl h6 (by decide +kernel) (fun U7 K7 h7 => ?_)
  exact r_vret (pc := 34) dX4_init_34 trivial (hq _ _ h7)
def LX1_init : List En := sI 0 6 (-1) (sI 0 5 (-1) (sI 0 4 (0) (sR 0 3 3 (sn (20, 256, z0, rN) (sR 0 2 2 (sn (20, 256, z0, rN) (sR 0 1 1 (sn (20, 512, z0, rN) (sI 0 0 (0) ([(1, 0, z0, rN)]))))))))))
theorem k_X1_init {G : Gl} {d a : Nat} {U0 : Sh} {I0 : Mi} {Q : Option AV → Sh → Mi → Prop} (h0 : At U0 I0 U0 I0 a [(1, 0, z0, rN)] 0) (hd : 1 ≤ d) (hq : ∀ V J, At U0 I0 V J a LX1_init 1024 → Q none V J) : EvE G mX1_init d [aR a] U0 I0 Q := by
  refine EvE.mk (lv0 := [some (aR a)]) (Nat.le_of_ble_eq_true rfl) (by decide +kernel) rfl ?_
  refine r_aload_n (pc := 0) (i := 0) dX1_init_0 rfl rfl ?_
  refine r_objInit (pc := 1) dX1_init_1 (by omega) ob_X1_3 (Nat.le_of_ble_eq_true rfl) ?_
  refine r_aload_n (pc := 4) (i := 0) dX1_init_4 rfl rfl ?_
  refine r_iconst (pc := 5) dX1_init_5 (in32_of rfl) ?_
  refine q_puti (pc := 6) (i := 0) (s := 0) (x := 0) dX1_init_6 fl_X1_9 (pf_1_0 _ _) rfl h0 (by decide +kernel) (fun U1 K1 h1 => ?_)
  refine r_aload_n (pc := 9) (i := 0) dX1_init_9 rfl rfl ?_
  refine r_sipush (pc := 10) dX1_init_10 rfl (in32_of rfl) ?_
  refine q_int (pc := 13) (s := 512) (n := 1) (m2 := 512) dX1_init_13 h1 (by decide +kernel) (by decide) (by decide +kernel) (fun U2 K2 h2 => ?_)
  refine q_putr (pc := 15) (i := 0) (s := 0) (b := 1) dX1_init_15 fl_X1_15 pc_X1_15 rfl h2 (by decide +kernel) (fun U3 K3 h3 => ?_)
  refine r_aload_n (pc := 18) (i := 0) dX1_init_18 rfl rfl ?_
  refine r_sipush (pc := 19) dX1_init_19 rfl (in32_of rfl) ?_
  refine q_int (pc := 22) (s := 256) (n := 2) (m2 := 768) dX1_init_22 h3 (by decide +kernel) (by decide) (by decide +kernel) (fun U4 K4 h4 => ?_)
  refine q_putr (pc := 24) (i := 0) (s := 0) (b := 2) dX1_init_24 fl_X1_19 pc_X1_19 rfl h4 (by decide +kernel) (fun U5 K5 h5 => ?_)
  refine r_aload_n (pc := 27) (i := 0) dX1_init_27 rfl rfl ?_
  refine r_sipush (pc := 28) dX1_init_28 rfl (in32_of rfl) ?_
  refine q_int (pc := 31) (s := 256) (n := 3) (m2 := 1024) dX1_init_31 h5 (by decide +kernel) (by decide) (by decide +kernel) (fun U6 K6 h6 => ?_)
  refine q_putr (pc := 33) (i := 0) (s := 0) (b := 3) dX1_init_33 fl_X1_22 pc_X1_22 rfl h6 (by decide +kernel) (fun U7 K7 h7 => ?_)
  refine r_aload_n (pc := 36) (i := 0) dX1_init_36 rfl rfl ?_
  refine r_iconst (pc := 37) dX1_init_37 (in32_of rfl) ?_
  refine q_puti (pc := 38) (i := 0) (s := 0) (x := 0) dX1_init_38 fl_X1_25 (pf_1_4 _ _) rfl h7 (by decide +kernel) (fun U8 K8 h8 => ?_)
  refine r_aload_n (pc := 41) (i := 0) dX1_init_41 rfl rfl ?_
  refine r_iconst (pc := 42) dX1_init_42 (in32_of rfl) ?_
  refine q_puti (pc := 43) (i := 0) (s := 0) (x := -1) dX1_init_43 fl_X1_28 (pf_1_5 _ _) rfl h8 (by decide +kernel) (fun U9 K9 h9 => ?_)
  refine r_aload_n (pc := 46) (i := 0) dX1_init_46 rfl rfl ?_
  refine r_iconst (pc := 47) dX1_init_47 (in32_of rfl) ?_
  refine q_puti (pc := 48) (i := 0) (s := 0) (x := -1) dX1_init_48 fl_X1_31 (pf_1_6 _ _) rfl h9 (by decide +kernel) (fun U10 K10 h10 => ?_)
  exact r_vret (pc := 51) dX1_init_51 trivial (hq _ _ h10)
def LX0_init : List En := sR 0 1 2 (sn (23, 4, z0, rN) (sR 0 0 1 (sn (20, 512, z0, rN) ([(0, 0, z0, rN)]))))
theorem k_X0_init {G : Gl} {d a : Nat} {U0 : Sh} {I0 : Mi} {Q : Option AV → Sh → Mi → Prop} (h0 : At U0 I0 U0 I0 a [(0, 0, z0, rN)] 0) (hd : 1 ≤ d) (hq : ∀ V J, At U0 I0 V J a LX0_init 516 → Q none V J) : EvE G mX0_init d [aR a] U0 I0 Q := by
  refine EvE.mk (lv0 := [some (aR a)]) (Nat.le_of_ble_eq_true rfl) (by decide +kernel) rfl ?_
  refine r_aload_n (pc := 0) (i := 0) dX0_init_0 rfl rfl ?_
  refine r_objInit (pc := 1) dX0_init_1 (by omega) ob_X0_3 (Nat.le_of_ble_eq_true rfl) ?_
  refine r_aload_n (pc := 4) (i := 0) dX0_init_4 rfl rfl ?_
  refine r_sipush (pc := 5) dX0_init_5 rfl (in32_of rfl) ?_
  refine q_int (pc := 8) (s := 512) (n := 1) (m2 := 512) dX0_init_8 h0 (by decide +kernel) (by decide) (by decide +kernel) (fun U1 K1 h1 => ?_)
  refine q_putr (pc := 10) (i := 0) (s := 0) (b := 1) dX0_init_10 fl_X0_9 pc_X0_9 rfl h1 (by decide +kernel) (fun U2 K2 h2 => ?_)
  refine r_aload_n (pc := 13) (i := 0) dX0_init_13 rfl rfl ?_
  refine r_iconst (pc := 14) dX0_init_14 (in32_of rfl) ?_
  refine q_long (pc := 15) (s := 4) (n := 2) (m2 := 516) dX0_init_15 h2 (by decide +kernel) (by decide) (by decide +kernel) (fun U3 K3 h3 => ?_)
  refine q_putr (pc := 17) (i := 0) (s := 0) (b := 2) dX0_init_17 fl_X0_15 pc_X0_15 rfl h3 (by decide +kernel) (fun U4 K4 h4 => ?_)
  exact r_vret (pc := 20) dX0_init_20 trivial (hq _ _ h4)
def LX5_init : List En := sI 0 5 (0) (sI 0 4 (0) (sI 0 3 (0) (sR 0 2 3 (sn (23, 4, z0, rN) (sR 0 1 2 (sn (20, 768, z0, rN) (sR 0 0 1 (sn (20, 1536, z0, rN) ([(5, 0, z0, rN)])))))))))
theorem k_X5_init {G : Gl} {d a : Nat} {U0 : Sh} {I0 : Mi} {Q : Option AV → Sh → Mi → Prop} (h0 : At U0 I0 U0 I0 a [(5, 0, z0, rN)] 0) (hd : 1 ≤ d) (hq : ∀ V J, At U0 I0 V J a LX5_init 2308 → Q none V J) : EvE G mX5_init d [aR a] U0 I0 Q := by
  refine EvE.mk (lv0 := [some (aR a)]) (Nat.le_of_ble_eq_true rfl) (by decide +kernel) rfl ?_
  refine r_aload_n (pc := 0) (i := 0) dX5_init_0 rfl rfl ?_
  refine r_objInit (pc := 1) dX5_init_1 (by omega) ob_X5_3 (Nat.le_of_ble_eq_true rfl) ?_
  refine r_aload_n (pc := 4) (i := 0) dX5_init_4 rfl rfl ?_
  refine r_sipush (pc := 5) dX5_init_5 rfl (in32_of rfl) ?_
  refine q_int (pc := 8) (s := 1536) (n := 1) (m2 := 1536) dX5_init_8 h0 (by decide +kernel) (by decide) (by decide +kernel) (fun U1 K1 h1 => ?_)
  refine q_putr (pc := 10) (i := 0) (s := 0) (b := 1) dX5_init_10 fl_X5_9 pc_X5_9 rfl h1 (by decide +kernel) (fun U2 K2 h2 => ?_)
  refine r_aload_n (pc := 13) (i := 0) dX5_init_13 rfl rfl ?_
  refine r_sipush (pc := 14) dX5_init_14 rfl (in32_of rfl) ?_
  refine q_int (pc := 17) (s := 768) (n := 2) (m2 := 2304) dX5_init_17 h2 (by decide +kernel) (by decide) (by decide +kernel) (fun U3 K3 h3 => ?_)
  refine q_putr (pc := 19) (i := 0) (s := 0) (b := 2) dX5_init_19 fl_X5_15 pc_X5_15 rfl h3 (by decide +kernel) (fun U4 K4 h4 => ?_)
  refine r_aload_n (pc := 22) (i := 0) dX5_init_22 rfl rfl ?_
  refine r_iconst (pc := 23) dX5_init_23 (in32_of rfl) ?_
  refine q_long (pc := 24) (s := 4) (n := 3) (m2 := 2308) dX5_init_24 h4 (by decide +kernel) (by decide) (by decide +kernel) (fun U5 K5 h5 => ?_)
  refine q_putr (pc := 26) (i := 0) (s := 0) (b := 3) dX5_init_26 fl_X5_18 pc_X5_18 rfl h5 (by decide +kernel) (fun U6 K6 h6 => ?_)
  refine r_aload_n (pc := 29) (i := 0) dX5_init_29 rfl rfl ?_
  refine r_iconst (pc := 30) dX5_init_30 (in32_of rfl) ?_
  refine q_puti (pc := 31) (i := 0) (s := 0) (x := 0) dX5_init_31 fl_X5_22 (pf_5_3 _ _) rfl h6 (by decide +kernel) (fun U7 K7 h7 => ?_)
  refine r_aload_n (pc := 34) (i := 0) dX5_init_34 rfl rfl ?_
  refine r_iconst (pc := 35) dX5_init_35 (in32_of rfl) ?_
  refine q_puti (pc := 36) (i := 0) (s := 0) (x := 0) dX5_init_36 fl_X5_26 (pf_5_4 _ _) rfl h7 (by decide +kernel) (fun U8 K8 h8 => ?_)
  refine r_aload_n (pc := 39) (i := 0) dX5_init_39 rfl rfl ?_
  refine r_iconst (pc := 40) dX5_init_40 (in32_of rfl) ?_
  refine q_puti (pc := 41) (i := 0) (s := 0) (x := 0) dX5_init_41 fl_X5_29 (pf_5_5 _ _) rfl h8 (by decide +kernel) (fun U9 K9 h9 => ?_)
  exact r_vret (pc := 44) dX5_init_44 trivial (hq _ _ h9)
def LX8_init : List En := sI 0 3 (0) (sR 0 2 3 (sn (23, 4, z0, rN) (sR 0 1 2 (sn (20, 256, z0, rN) (sR 0 0 1 (sn (23, 1024, z0, rN) ([(8, 0, z0, rN)])))))))
theorem k_X8_init {G : Gl} {d a : Nat} {U0 : Sh} {I0 : Mi} {Q : Option AV → Sh → Mi → Prop} (h0 : At U0 I0 U0 I0 a [(8, 0, z0, rN)] 0) (hd : 1 ≤ d) (hq : ∀ V J, At U0 I0 V J a LX8_init 1284 → Q none V J) : EvE G mX8_init d [aR a] U0 I0 Q := by
  refine EvE.mk (lv0 := [some (aR a)]) (Nat.le_of_ble_eq_true rfl) (by decide +kernel) rfl ?_
  refine r_aload_n (pc := 0) (i := 0) dX8_init_0 rfl rfl ?_
  refine r_objInit (pc := 1) dX8_init_1 (by omega) ob_X8_3 (Nat.le_of_ble_eq_true rfl) ?_
  refine r_aload_n (pc := 4) (i := 0) dX8_init_4 rfl rfl ?_
  refine r_sipush (pc := 5) dX8_init_5 rfl (in32_of rfl) ?_
  refine q_long (pc := 8) (s := 1024) (n := 1) (m2 := 1024) dX8_init_8 h0 (by decide +kernel) (by decide) (by decide +kernel) (fun U1 K1 h1 => ?_)
  refine q_putr (pc := 10) (i := 0) (s := 0) (b := 1) dX8_init_10 fl_X8_9 pc_X8_9 rfl h1 (by decide +kernel) (fun U2 K2 h2 => ?_)
  refine r_aload_n (pc := 13) (i := 0) dX8_init_13 rfl rfl ?_
  refine r_sipush (pc := 14) dX8_init_14 rfl (in32_of rfl) ?_
  refine q_int (pc := 17) (s := 256) (n := 2) (m2 := 1280) dX8_init_17 h2 (by decide +kernel) (by decide) (by decide +kernel) (fun U3 K3 h3 => ?_)
  refine q_putr (pc := 19) (i := 0) (s := 0) (b := 2) dX8_init_19 fl_X8_15 pc_X8_15 rfl h3 (by decide +kernel) (fun U4 K4 h4 => ?_)
  refine r_aload_n (pc := 22) (i := 0) dX8_init_22 rfl rfl ?_
  refine r_iconst (pc := 23) dX8_init_23 (in32_of rfl) ?_
  refine q_long (pc := 24) (s := 4) (n := 3) (m2 := 1284) dX8_init_24 h4 (by decide +kernel) (by decide) (by decide +kernel) (fun U5 K5 h5 => ?_)
  refine q_putr (pc := 26) (i := 0) (s := 0) (b := 3) dX8_init_26 fl_X8_19 pc_X8_19 rfl h5 (by decide +kernel) (fun U6 K6 h6 => ?_)
  refine r_aload_n (pc := 29) (i := 0) dX8_init_29 rfl rfl ?_
  refine r_iconst (pc := 30) dX8_init_30 (in32_of rfl) ?_
  refine q_puti (pc := 31) (i := 0) (s := 0) (x := 0) dX8_init_31 fl_X8_22 (pf_8_3 _ _) rfl h6 (by decide +kernel) (fun U7 K7 h7 => ?_)
  exact r_vret (pc := 34) dX8_init_34 trivial (hq _ _ h7)
def LX6_init : List En := sR 0 0 1 (sn (20, 9, eUsual, rN) ([(6, 0, z0, rN)]))
theorem k_X6_init {G : Gl} {d a : Nat} {U0 : Sh} {I0 : Mi} {Q : Option AV → Sh → Mi → Prop} (h0 : At U0 I0 U0 I0 a [(6, 0, z0, rN)] 0) (hd : 1 ≤ d) (hq : ∀ V J, At U0 I0 V J a LX6_init 9 → Q none V J) : EvE G mX6_init d [aR a] U0 I0 Q := by
  refine EvE.mk (lv0 := [some (aR a)]) (Nat.le_of_ble_eq_true rfl) (by decide +kernel) rfl ?_
  refine r_aload_n (pc := 0) (i := 0) dX6_init_0 rfl rfl ?_
  refine r_objInit (pc := 1) dX6_init_1 (by omega) ob_X6_3 (Nat.le_of_ble_eq_true rfl) ?_
  refine r_aload_n (pc := 4) (i := 0) dX6_init_4 rfl rfl ?_
  refine r_getsA (pc := 5) (e := 2) (by decide) dX6_init_5 sl_X6_9 ?_
  refine q_clone (pc := 8) (n := 1) (m2 := 9) dX6_init_8 (by omega) kl_X6_13 (Nat.le_of_ble_eq_true rfl) h0 (by decide +kernel) (by decide +kernel) (fun U1 K1 h1 => ?_)
  refine q_cast (pc := 11) (i := 1) (s := 9) dX6_init_11 cl_X6_14 h1 (by decide +kernel) ?_
  refine q_putr (pc := 14) (i := 0) (s := 0) (b := 1) dX6_init_14 fl_X6_18 pc_X6_18 rfl h1 (by decide +kernel) (fun U2 K2 h2 => ?_)
  exact r_vret (pc := 17) dX6_init_17 trivial (hq _ _ h2)
def LX9_init : List En := sR 0 13 11 (sB 11 LX1_init (sR 0 12 7 (sB 7 LX4_init (sR 0 11 3 (sB 3 LX3_init (sR 0 10 2 (sn (20, 1536, z0, rN) (sR 0 9 1 (sn (20, 256, z0, rN) (sI 0 8 (0) (sI 0 7 (0) (sI 0 6 (0) (sI 0 5 (-1) (sI 0 4 (0) (sI 0 3 (0) (sI 0 2 (0) (sI 0 1 (0) (sI 0 0 (0) ([(9, 0, z0, rN)])))))))))))))))))))
theorem k_X9_init {G : Gl} {d a : Nat} {U0 : Sh} {I0 : Mi} {Q : Option AV → Sh → Mi → Prop} (h0 : At U0 I0 U0 I0 a [(9, 0, z0, rN)] 0) (hd : 2 ≤ d) (hq : ∀ V J, At U0 I0 V J a LX9_init 3983 → Q none V J) : EvE G mX9_init d [aR a] U0 I0 Q := by
  refine EvE.mk (lv0 := [some (aR a)]) (Nat.le_of_ble_eq_true rfl) (by decide +kernel) rfl ?_
  refine r_aload_n (pc := 0) (i := 0) dX9_init_0 rfl rfl ?_
  refine r_objInit (pc := 1) dX9_init_1 (by omega) ob_X9_3 (Nat.le_of_ble_eq_true rfl) ?_
  refine r_aload_n (pc := 4) (i := 0) dX9_init_4 rfl rfl ?_
  refine r_iconst (pc := 5) dX9_init_5 (in32_of rfl) ?_
  refine q_puti (pc := 6) (i := 0) (s := 0) (x := 0) dX9_init_6 fl_X9_9 (pf_9_0 _ _) rfl h0 (by decide +kernel) (fun U1 K1 h1 => ?_)
  refine r_aload_n (pc := 9) (i := 0) dX9_init_9 rfl rfl ?_
  refine r_iconst (pc := 10) dX9_init_10 (in32_of rfl) ?_
  refine q_puti (pc := 11) (i := 0) (s := 0) (x := 0) dX9_init_11 fl_X9_15 (pf_9_1 _ _) rfl h1 (by decide +kernel) (fun U2 K2 h2 => ?_)
  refine r_aload_n (pc := 14) (i := 0) dX9_init_14 rfl rfl ?_
  refine r_iconst (pc := 15) dX9_init_15 (in32_of rfl) ?_
  refine q_puti (pc := 16) (i := 0) (s := 0) (x := 0) dX9_init_16 fl_X9_18 (pf_9_2 _ _) rfl h2 (by decide +kernel) (fun U3 K3 h3 => ?_)
  refine r_aload_n (pc := 19) (i := 0) dX9_init_19 rfl rfl ?_
  refine r_iconst (pc := 20) dX9_init_20 (in32_of rfl) ?_
  refine q_puti (pc := 21) (i := 0) (s := 0) (x := 0) dX9_init_21 fl_X9_21 (pf_9_3 _ _) rfl h3 (by decide +kernel) (fun U4 K4 h4 => ?_)
  refine r_aload_n (pc := 24) (i := 0) dX9_init_24 rfl rfl ?_
  refine r_iconst (pc := 25) dX9_init_25 (in32_of rfl) ?_
  refine q_puti (pc := 26) (i := 0) (s := 0) (x := 0) dX9_init_26 fl_X9_24 (pf_9_4 _ _) rfl h4 (by decide +kernel) (fun U5 K5 h5 => ?_)
  refine r_aload_n (pc := 29) (i := 0) dX9_init_29 rfl rfl ?_
  refine r_iconst (pc := 30) dX9_init_30 (in32_of rfl) ?_
  refine q_puti (pc := 31) (i := 0) (s := 0) (x := -1) dX9_init_31 fl_X9_27 (pf_9_5 _ _) rfl h5 (by decide +kernel) (fun U6 K6 h6 => ?_)
  refine r_aload_n (pc := 34) (i := 0) dX9_init_34 rfl rfl ?_
  refine r_iconst (pc := 35) dX9_init_35 (in32_of rfl) ?_
  refine q_puti (pc := 36) (i := 0) (s := 0) (x := 0) dX9_init_36 fl_X9_30 (pf_9_6 _ _) rfl h6 (by decide +kernel) (fun U7 K7 h7 => ?_)
  refine r_aload_n (pc := 39) (i := 0) dX9_init_39 rfl rfl ?_
  refine r_iconst (pc := 40) dX9_init_40 (in32_of rfl) ?_
  refine q_puti (pc := 41) (i := 0) (s := 0) (x := 0) dX9_init_41 fl_X9_33 (pf_9_7 _ _) rfl h7 (by decide +kernel) (fun U8 K8 h8 => ?_)
  refine r_aload_n (pc := 44) (i := 0) dX9_init_44 rfl rfl ?_
  refine r_iconst (pc := 45) dX9_init_45 (in32_of rfl) ?_
  refine q_puti (pc := 46) (i := 0) (s := 0) (x := 0) dX9_init_46 fl_X9_36 (pf_9_8 _ _) rfl h8 (by decide +kernel) (fun U9 K9 h9 => ?_)
  refine r_aload_n (pc := 49) (i := 0) dX9_init_49 rfl rfl ?_
  refine r_sipush (pc := 50) dX9_init_50 rfl (in32_of rfl) ?_
  refine q_int (pc := 53) (s := 256) (n := 1) (m2 := 256) dX9_init_53 h9 (by decide +kernel) (by decide) (by decide +kernel) (fun U10 K10 h10 => ?_)
  refine q_putr (pc := 55) (i := 0) (s := 0) (b := 1) dX9_init_55 fl_X9_39 pc_X9_39 rfl h10 (by decide +kernel) (fun U11 K11 h11 => ?_)
  refine r_aload_n (pc := 58) (i := 0) dX9_init_58 rfl rfl ?_
  refine r_sipush (pc := 59) dX9_init_59 rfl (in32_of rfl) ?_
  refine q_int (pc := 62) (s := 1536) (n := 2) (m2 := 1792) dX9_init_62 h11 (by decide +kernel) (by decide) (by decide +kernel) (fun U12 K12 h12 => ?_)
  refine q_putr (pc := 64) (i := 0) (s := 0) (b := 2) dX9_init_64 fl_X9_43 pc_X9_43 rfl h12 (by decide +kernel) (fun U13 K13 h13 => ?_)
  refine r_aload_n (pc := 67) (i := 0) dX9_init_67 rfl rfl ?_
  refine q_new (pc := 68) (n := 3) (m2 := 1796) dX9_init_68 nl_X9_46 h13 (by decide +kernel) (by decide +kernel) (fun U14 K14 h14 => ?_)
  refine r_dup (pc := 71) dX9_init_71 rfl ?_
  refine q_call (pc := 72) (n := 3) (m2 := 2564) (l2 := LX3_init) (m3 := 768) dX9_init_72 (CI.mk2 mk_X3_init lk_X9_48) (by omega) (Nat.le_of_ble_eq_true rfl) (Nat.le_of_ble_eq_true rfl) h14 (by decide +kernel) rfl (fun Q2 g1 g2 => k_X3_init g1 (by omega) g2) (by decide +kernel) (fun U15 K15 h15 => ?_)
  refine q_putr (pc := 75) (i := 0) (s := 0) (b := 3) dX9_init_75 fl_X9_49 pc_X9_49 rfl h15 (by decide +kernel) (fun U16 K16 h16 => ?_)
  refine r_aload_n (pc := 78) (i := 0) dX9_init_78 rfl rfl ?_
  refine q_new (pc := 79) (n := 7) (m2 := 2568) dX9_init_79 nl_X9_53 h16 (by decide +kernel) (by decide +kernel) (fun U17 K17 h17 => ?_)
  refine r_dup (pc := 82) dX9_init_82 rfl ?_
  refine q_call (pc := 83) (n := 7) (m2 := 2952) (l2 := LX4_init) (m3 := 384) dX9_init_83 (CI.mk2 mk_X4_init lk_X9_55) (by omega) (Nat.le_of_ble_eq_true rfl) (Nat.le_of_ble_eq_true rfl) h17 (by decide +kernel) rfl (fun Q2 g1 g2 => k_X4_init g1 (by omega) g2) (by decide +kernel) (fun U18 K18 h18 => ?_)
  refine q_putr (pc := 86) (i := 0) (s := 0) (b := 7) dX9_init_86 fl_X9_56 pc_X9_56 rfl h18 (by decide +kernel) (fun U19 K19 h19 => ?_)
  refine r_aload_n (pc := 89) (i := 0) dX9_init_89 rfl rfl ?_
  refine q_new (pc := 90) (n := 11) (m2 := 2959) dX9_init_90 nl_X9_60 h19 (by decide +kernel) (by decide +kernel) (fun U20 K20 h20 => ?_)
  refine r_dup (pc := 93) dX9_init_93 rfl ?_
  refine q_call (pc := 94) (n := 11) (m2 := 3983) (l2 := LX1_init) (m3 := 1024) dX9_init_94 (CI.mk2 mk_X1_init lk_X9_62) (by omega) (Nat.le_of_ble_eq_true rfl) (Nat.le_of_ble_eq_true rfl) h20 (by decide +kernel) rfl (fun Q2 g1 g2 => k_X1_init g1 (by omega) g2) (by decide +kernel) (fun U21 K21 h21 => ?_)
  refine q_putr (pc := 97) (i := 0) (s := 0) (b := 11) dX9_init_97 fl_X9_63 pc_X9_63 rfl h21 (by decide +kernel) (fun U22 K22 h22 => ?_)
  exact r_vret (pc := 100) dX9_init_100 trivial (hq _ _ h22)
def LX7_init : List En := sI 0 4 (0) (sI 0 3 (0) (sR 0 2 4 (sn (20, 0, z0, rN) (sR 0 1 3 (sn (20, 9, z0, rN) (sR 0 0 1 (sB 1 LX6_init ([(7, 0, z0, rN)]))))))))
theorem k_X7_init {G : Gl} {d a : Nat} {U0 : Sh} {I0 : Mi} {Q : Option AV → Sh → Mi → Prop} (h0 : At U0 I0 U0 I0 a [(7, 0, z0, rN)] 0) (hd : 2 ≤ d) (hq : ∀ V J, At U0 I0 V J a LX7_init 19 → Q none V J) : EvE G mX7_init d [aR a] U0 I0 Q := by
  refine EvE.mk (lv0 := [some (aR a)]) (Nat.le_of_ble_eq_true rfl) (by decide +kernel) rfl ?_
  refine r_aload_n (pc := 0) (i := 0) dX7_init_0 rfl rfl ?_
  refine r_objInit (pc := 1) dX7_init_1 (by omega) ob_X7_3 (Nat.le_of_ble_eq_true rfl) ?_
  refine r_aload_n (pc := 4) (i := 0) dX7_init_4 rfl rfl ?_
  refine q_new (pc := 5) (n := 1) (m2 := 1) dX7_init_5 nl_X7_9 h0 (by decide +kernel) (by decide +kernel) (fun U1 K1 h1 => ?_)
  refine r_dup (pc := 8) dX7_init_8 rfl ?_
  refine q_call (pc := 9) (n := 1) (m2 := 10) (l2 := LX6_init) (m3 := 9) dX7_init_9 (CI.mk2 mk_X6_init lk_X7_11) (by omega) (Nat.le_of_ble_eq_true rfl) (Nat.le_of_ble_eq_true rfl) h1 (by decide +kernel) rfl (fun Q2 g1 g2 => k_X6_init g1 (by omega) g2) (by decide +kernel) (fun U2 K2 h2 => ?_)
  refine q_putr (pc := 12) (i := 0) (s := 0) (b := 1) dX7_init_12 fl_X7_12 pc_X7_12 rfl h2 (by decide +kernel) (fun U3 K3 h3 => ?_)
  refine r_aload_n (pc := 15) (i := 0) dX7_init_15 rfl rfl ?_
  refine r_bipush (pc := 16) dX7_init_16 rfl (in32_of rfl) ?_
  refine q_int (pc := 18) (s := 9) (n := 3) (m2 := 19) dX7_init_18 h3 (by decide +kernel) (by decide) (by decide +kernel) (fun U4 K4 h4 => ?_)
  refine q_putr (pc := 20) (i := 0) (s := 0) (b := 3) dX7_init_20 fl_X7_18 pc_X7_18 rfl h4 (by decide +kernel) (fun U5 K5 h5 => ?_)
  refine r_aload_n (pc := 23) (i := 0) dX7_init_23 rfl rfl ?_
  refine r_iconst (pc := 24) dX7_init_24 (in32_of rfl) ?_
  refine q_int (pc := 25) (s := 0) (n := 4) (m2 := 19) dX7_init_25 h5 (by decide +kernel) (by decide) (by decide +kernel) (fun U6 K6 h6 => ?_)
  refine q_putr (pc := 27) (i := 0) (s := 0) (b := 4) dX7_init_27 fl_X7_22 (pf_7_2 _ _) rfl h6 (by decide +kernel) (fun U7 K7 h7 => ?_)
  refine r_aload_n (pc := 30) (i := 0) dX7_init_30 rfl rfl ?_
  refine r_iconst (pc := 31) dX7_init_31 (in32_of rfl) ?_
  refine q_puti (pc := 32) (i := 0) (s := 0) (x := 0) dX7_init_32 fl_X7_25 (pf_7_3 _ _) rfl h7 (by decide +kernel) (fun U8 K8 h8 => ?_)
  refine r_aload_n (pc := 35) (i := 0) dX7_init_35 rfl rfl ?_
  refine r_iconst (pc := 36) dX7_init_36 (in32_of rfl) ?_
  refine q_puti (pc := 37) (i := 0) (s := 0) (x := 0) dX7_init_37 fl_X7_29 (pf_7_4 _ _) rfl h8 (by decide +kernel) (fun U9 K9 h9 => ?_)
  exact r_vret (pc := 40) dX7_init_40 trivial (hq _ _ h9)
def LX10_init : List En := sR 0 3 21 (sB 21 LX5_init (sR 0 2 18 (sB 18 LX0_init (sR 0 1 16 (sB 16 LX6_init (sR 0 0 1 (sB 1 LX9_init ([(10, 0, z0, rN)]))))))))
theorem k_X10_init {G : Gl} {d a : Nat} {U0 : Sh} {I0 : Mi} {Q : Option AV → Sh → Mi → Prop} (h0 : At U0 I0 U0 I0 a [(10, 0, z0, rN)] 0) (hd : 3 ≤ d) (hq : ∀ V J, At U0 I0 V J a LX10_init 6839 → Q none V J) : EvE G mX10_init d [aR a] U0 I0 Q := by
  refine EvE.mk (lv0 := [some (aR a)]) (Nat.le_of_ble_eq_true rfl) (by decide +kernel) rfl ?_
  refine r_aload_n (pc := 0) (i := 0) dX10_init_0 rfl rfl ?_
  refine r_objInit (pc := 1) dX10_init_1 (by omega) ob_X10_3 (Nat.le_of_ble_eq_true rfl) ?_
  refine r_aload_n (pc := 4) (i := 0) dX10_init_4 rfl rfl ?_
  refine q_new (pc := 5) (n := 1) (m2 := 14) dX10_init_5 nl_X10_9 h0 (by decide +kernel) (by decide +kernel) (fun U1 K1 h1 => ?_)
  refine r_dup (pc := 8) dX10_init_8 rfl ?_
  refine q_call (pc := 9) (n := 1) (m2 := 3997) (l2 := LX9_init) (m3 := 3983) dX10_init_9 (CI.mk2 mk_X9_init lk_X10_11) (by omega) (Nat.le_of_ble_eq_true rfl) (Nat.le_of_ble_eq_true rfl) h1 (by decide +kernel) rfl (fun Q2 g1 g2 => k_X9_init g1 (by omega) g2) (by decide +kernel) (fun U2 K2 h2 => ?_)
  refine q_putr (pc := 12) (i := 0) (s := 0) (b := 1) dX10_init_12 fl_X10_12 pc_X10_12 rfl h2 (by decide +kernel) (fun U3 K3 h3 => ?_)
  refine r_aload_n (pc := 15) (i := 0) dX10_init_15 rfl rfl ?_
  refine q_new (pc := 16) (n := 16) (m2 := 3998) dX10_init_16 nl_X10_18 h3 (by decide +kernel) (by decide +kernel) (fun U4 K4 h4 => ?_)
  refine r_dup (pc := 19) dX10_init_19 rfl ?_
  refine q_call (pc := 20) (n := 16) (m2 := 4007) (l2 := LX6_init) (m3 := 9) dX10_init_20 (CI.mk2 mk_X6_init lk_X10_20) (by omega) (Nat.le_of_ble_eq_true rfl) (Nat.le_of_ble_eq_true rfl) h4 (by decide +kernel) rfl (fun Q2 g1 g2 => k_X6_init g1 (by omega) g2) (by decide +kernel) (fun U5 K5 h5 => ?_)
  refine q_putr (pc := 23) (i := 0) (s := 0) (b := 16) dX10_init_23 fl_X10_21 pc_X10_21 rfl h5 (by decide +kernel) (fun U6 K6 h6 => ?_)
  refine r_aload_n (pc := 26) (i := 0) dX10_init_26 rfl rfl ?_
  refine q_new (pc := 27) (n := 18) (m2 := 4009) dX10_init_27 nl_X10_25 h6 (by decide +kernel) (by decide +kernel) (fun U7 K7 h7 => ?_)
  refine r_dup (pc := 30) dX10_init_30 rfl ?_
  refine q_call (pc := 31) (n := 18) (m2 := 4525) (l2 := LX0_init) (m3 := 516) dX10_init_31 (CI.mk2 mk_X0_init lk_X10_27) (by omega) (Nat.le_of_ble_eq_true rfl) (Nat.le_of_ble_eq_true rfl) h7 (by decide +kernel) rfl (fun Q2 g1 g2 => k_X0_init g1 (by omega) g2) (by decide +kernel) (fun U8 K8 h8 => ?_)
  refine q_putr (pc := 34) (i := 0) (s := 0) (b := 18) dX10_init_34 fl_X10_28 pc_X10_28 rfl h8 (by decide +kernel) (fun U9 K9 h9 => ?_)
  refine r_aload_n (pc := 37) (i := 0) dX10_init_37 rfl rfl ?_
  refine q_new (pc := 38) (n := 21) (m2 := 4531) dX10_init_38 nl_X10_32 h9 (by decide +kernel) (by decide +kernel) (fun U10 K10 h10 => ?_)
  refine r_dup (pc := 41) dX10_init_41 rfl ?_
  refine q_call (pc := 42) (n := 21) (m2 := 6839) (l2 := LX5_init) (m3 := 2308) dX10_init_42 (CI.mk2 mk_X5_init lk_X10_34) (by omega) (Nat.le_of_ble_eq_true rfl) (Nat.le_of_ble_eq_true rfl) h10 (by decide +kernel) rfl (fun Q2 g1 g2 => k_X5_init g1 (by omega) g2) (by decide +kernel) (fun U11 K11 h11 => ?_)
  refine q_putr (pc := 45) (i := 0) (s := 0) (b := 21) dX10_init_45 fl_X10_35 pc_X10_35 rfl h11 (by decide +kernel) (fun U12 K12 h12 => ?_)
  exact r_vret (pc := 48) dX10_init_48 trivial (hq _ _ h12)
def LX2_init_0 : List En := sB 92 LX9_init (sR 1 5 77 (sB 77 LX9_init (sR 1 4 62 (sB 62 LX9_init (sR 1 3 47 (sB 47 LX9_init (sR 1 2 32 (sB 32 LX9_init (sR 1 1 17 (sB 17 LX9_init (sR 1 0 2 (sB 2 LX9_init (sI 0 2 (0) (sI 0 1 (0) (sR 0 0 1 (sn (24, 12, z0, rN) ([(2, 0, z0, rN)])))))))))))))))))
def LX2_init : List En := sR 1 11 167 (sB 167 LX9_init (sR 1 10 152 (sB 152 LX9_init (sR 1 9 137 (sB 137 LX9_init (sR 1 8 122 (sB 122 LX9_init (sR 1 7 107 (sB 107 LX9_init (sR 1 6 92 (LX2_init_0)))))))))))
theorem k_X2_init {G : Gl} {d a : Nat} {U0 : Sh} {I0 : Mi} {Q : Option AV → Sh → Mi → Prop} (h0 : At U0 I0 U0 I0 a [(2, 0, z0, rN)] 0) (hd : 3 ≤ d) (hq : ∀ V J, At U0 I0 V J a LX2_init 47976 → Q none V J) : EvE G mX2_init d [aR a] U0 I0 Q := by
  refine EvE.mk (lv0 := [some (aR a), none]) (Nat.le_of_ble_eq_true rfl) (by decide +kernel) rfl ?_
  refine r_aload_n (pc := 0) (i := 0) dX2_init_0 rfl rfl ?_
  refine r_objInit (pc := 1) dX2_init_1 (by omega) ob_X2_3 (Nat.le_of_ble_eq_true rfl) ?_
  refine r_aload_n (pc := 4) (i := 0) dX2_init_4 rfl rfl ?_
  refine r_bipush (pc := 5) dX2_init_5 rfl (in32_of rfl) ?_
  refine q_anew (pc := 7) (s := 12) (n := 1) (m2 := 12) dX2_init_7 cl_X2_9 h0 (by decide +kernel) (by decide) (by decide +kernel) (fun U1 K1 h1 => ?_)
  refine q_putr (pc := 10) (i := 0) (s := 0) (b := 1) dX2_init_10 fl_X2_11 pc_X2_11 rfl h1 (by decide +kernel) (fun U2 K2 h2 => ?_)
  refine r_aload_n (pc := 13) (i := 0) dX2_init_13 rfl rfl ?_
  refine r_iconst (pc := 14) dX2_init_14 (in32_of rfl) ?_
  refine q_puti (pc := 15) (i := 0) (s := 0) (x := 0) dX2_init_15 fl_X2_17 (pf_2_1 _ _) rfl h2 (by decide +kernel) (fun U3 K3 h3 => ?_)
  refine r_aload_n (pc := 18) (i := 0) dX2_init_18 rfl rfl ?_
  refine r_iconst (pc := 19) dX2_init_19 (in32_of rfl) ?_
  refine q_puti (pc := 20) (i := 0) (s := 0) (x := 0) dX2_init_20 fl_X2_21 (pf_2_2 _ _) rfl h3 (by decide +kernel) (fun U4 K4 h4 => ?_)
  refine r_iconst (pc := 23) dX2_init_23 (in32_of rfl) ?_
  refine r_istore_n (pc := 24) (i := 1) (lv' := [_, _]) dX2_init_24 rfl (by decide) rfl ?_
  refine r_iload_n (pc := 25) (i := 1) dX2_init_25 rfl rfl ?_
  refine r_bipush (pc := 26) dX2_init_26 rfl (in32_of rfl) ?_
  refine r_icmp_ge (pc := 28) (tgt := 50) dX2_init_28 rfl (fun c => absurd c (by decide)) (fun c => ?_)
  refine r_aload_n (pc := 31) (i := 0) dX2_init_31 rfl rfl ?_
  refine q_getr (pc := 32) (i := 0) (s := 0) (b := 1) dX2_init_32 fl_X2_11 rfl h4 (by decide +kernel) (by decide +kernel) ?_
  refine r_iload_n (pc := 35) (i := 1) dX2_init_35 rfl rfl ?_
  refine q_new (pc := 36) (n := 2) (m2 := 26) dX2_init_36 nl_X2_9 h4 (by decide +kernel) (by decide +kernel) (fun U5 K5 h5 => ?_)
  refine r_dup (pc := 39) dX2_init_39 rfl ?_
  refine q_call (pc := 40) (n := 2) (m2 := 4009) (l2 := LX9_init) (m3 := 3983) dX2_init_40 (CI.mk2 mk_X9_init lk_X2_24) (by omega) (Nat.le_of_ble_eq_true rfl) (Nat.le_of_ble_eq_true rfl) h5 (by decide +kernel) rfl (fun Q2 g1 g2 => k_X9_init g1 (by omega) g2) (by decide +kernel) (fun U6 K6 h6 => ?_)
  refine q_ast (pc := 43) (i := 1) (s := 12) (j := 0) (b := 2) (s2 := 0) dX2_init_43 h6 (by decide +kernel) (by decide +kernel) (by decide) (fun U7 K7 h7 => ?_)
  refine r_iincN (pc := 44) (i := 1) (c := 1) (lv' := [_, _]) dX2_init_44 rfl (by decide) (by decide) rfl ?_
  refine r_goto (pc := 47) (tgt := 25) dX2_init_47 rfl ?_
  refine r_iload_n (pc := 25) (i := 1) dX2_init_25 rfl rfl ?_
  refine r_bipush (pc := 26) dX2_init_26 rfl (in32_of rfl) ?_
  refine r_icmp_ge (pc := 28) (tgt := 50) dX2_init_28 rfl (fun c => absurd c (by decide)) (fun c => ?_)
  refine r_aload_n (pc := 31) (i := 0) dX2_init_31 rfl rfl ?_
  refine q_getr (pc := 32) (i := 0) (s := 0) (b := 1) dX2_init_32 fl_X2_11 rfl h7 (by decide +kernel) (by decide +kernel) ?_
  refine r_iload_n (pc := 35) (i := 1) dX2_init_35 rfl rfl ?_
  refine q_new (pc := 36) (n := 17) (m2 := 4023) dX2_init_36 nl_X2_9 h7 (by decide +kernel) (by decide +kernel) (fun U8 K8 h8 => ?_)
  refine r_dup (pc := 39) dX2_init_39 rfl ?_
  refine q_call (pc := 40) (n := 17) (m2 := 8006) (l2 := LX9_init) (m3 := 3983) dX2_init_40 (CI.mk2 mk_X9_init lk_X2_24) (by omega) (Nat.le_of_ble_eq_true rfl) (Nat.le_of_ble_eq_true rfl) h8 (by decide +kernel) rfl (fun Q2 g1 g2 => k_X9_init g1 (by omega) g2) (by decide +kernel) (fun U9 K9 h9 => ?_)
  refine q_ast (pc := 43) (i := 1) (s := 12) (j := 1) (b := 17) (s2 := 0) dX2_init_43 h9 (by decide +kernel) (by decide +kernel) (by decide) (fun U10 K10 h10 => ?_)
  refine r_iincN (pc := 44) (i := 1) (c := 2) (lv' := [_, _]) dX2_init_44 rfl (by decide) (by decide) rfl ?_
  refine r_goto (pc := 47) (tgt := 25) dX2_init_47 rfl ?_
  refine r_iload_n (pc := 25) (i := 1) dX2_init_25 rfl rfl ?_
  refine r_bipush (pc := 26) dX2_init_26 rfl (in32_of rfl) ?_
  refine r_icmp_ge (pc := 28) (tgt := 50) dX2_init_28 rfl (fun c => absurd c (by decide)) (fun c => ?_)
  refine r_aload_n (pc := 31) (i := 0) dX2_init_31 rfl rfl ?_
  refine q_getr (pc := 32) (i := 0) (s := 0) (b := 1) dX2_init_32 fl_X2_11 rfl h10 (by decide +kernel) (by decide +kernel) ?_
  refine r_iload_n (pc := 35) (i := 1) dX2_init_35 rfl rfl ?_
  refine q_new (pc := 36) (n := 32) (m2 := 8020) dX2_init_36 nl_X2_9 h10 (by decide +kernel) (by decide +kernel) (fun U11 K11 h11 => ?_)
  refine r_dup (pc := 39) dX2_init_39 rfl ?_
  refine q_call (pc := 40) (n := 32) (m2 := 12003) (l2 := LX9_init) (m3 := 3983) dX2_init_40 (CI.mk2 mk_X9_init lk_X2_24) (by omega) (Nat.le_of_ble_eq_true rfl) (Nat.le_of_ble_eq_true rfl) h11 (by decide +kernel) rfl (fun Q2 g1 g2 => k_X9_init g1 (by omega) g2) (by decide +kernel) (fun U12 K12 h12 => ?_)
  refine q_ast (pc := 43) (i := 1) (s := 12) (j := 2) (b := 32) (s2 := 0) dX2_init_43 h12 (by decide +kernel) (by decide +kernel) (by decide) (fun U13 K13 h13 => ?_)
  refine r_iincN (pc := 44) (i := 1) (c := 3) (lv' := [_, _]) dX2_init_44 rfl (by decide) (by decide) rfl ?_
  refine r_goto (pc := 47) (tgt := 25) dX2_init_47 rfl ?_
  refine r_iload_n (pc := 25) (i := 1) dX2_init_25 rfl rfl ?_
  refine r_bipush (pc := 26) dX2_init_26 rfl (in32_of rfl) ?_
  refine r_icmp_ge (pc := 28) (tgt := 50) dX2_init_28 rfl (fun c => absurd c (by decide)) (fun c => ?_)
  refine r_aload_n (pc := 31) (i := 0) dX2_init_31 rfl rfl ?_
  refine q_getr (pc := 32) (i := 0) (s := 0) (b := 1) dX2_init_32 fl_X2_11 rfl h13 (by decide +kernel) (by decide +kernel) ?_
  refine r_iload_n (pc := 35) (i := 1) dX2_init_35 rfl rfl ?_
  refine q_new (pc := 36) (n := 47) (m2 := 12017) dX2_init_36 nl_X2_9 h13 (by decide +kernel) (by decide +kernel) (fun U14 K14 h14 => ?_)
  refine r_dup (pc := 39) dX2_init_39 rfl ?_
  refine q_call (pc := 40) (n := 47) (m2 := 16000) (l2 := LX9_init) (m3 := 3983) dX2_init_40 (CI.mk2 mk_X9_init lk_X2_24) (by omega) (Nat.le_of_ble_eq_true rfl) (Nat.le_of_ble_eq_true rfl) h14 (by decide +kernel) rfl (fun Q2 g1 g2 => k_X9_init g1 (by omega) g2) (by decide +kernel) (fun U15 K15 h15 => ?_)
  refine q_ast (pc := 43) (i := 1) (s := 12) (j := 3) (b := 47) (s2 := 0) dX2_init_43 h15 (by decide +kernel) (by decide +kernel) (by decide) (fun U16 K16 h16 => ?_)
  refine r_iincN (pc := 44) (i := 1) (c := 4) (lv' := [_, _]) dX2_init_44 rfl (by decide) (by decide) rfl ?_
  refine r_goto (pc := 47) (tgt := 25) dX2_init_47 rfl ?_
  refine r_iload_n (pc := 25) (i := 1) dX2_init_25 rfl rfl ?_
  refine r_bipush (pc := 26) dX2_init_26 rfl (in32_of rfl) ?_
  refine r_icmp_ge (pc := 28) (tgt := 50) dX2_init_28 rfl (fun c => absurd c (by decide)) (fun c => ?_)
  refine r_aload_n (pc := 31) (i := 0) dX2_init_31 rfl rfl ?_
  refine q_getr (pc := 32) (i := 0) (s := 0) (b := 1) dX2_init_32 fl_X2_11 rfl h16 (by decide +kernel) (by decide +kernel) ?_
  refine r_iload_n (pc := 35) (i := 1) dX2_init_35 rfl rfl ?_
  refine q_new (pc := 36) (n := 62) (m2 := 16014) dX2_init_36 nl_X2_9 h16 (by decide +kernel) (by decide +kernel) (fun U17 K17 h17 => ?_)
  refine r_dup (pc := 39) dX2_init_39 rfl ?_
  refine q_call (pc := 40) (n := 62) (m2 := 19997) (l2 := LX9_init) (m3 := 3983) dX2_init_40 (CI.mk2 mk_X9_init lk_X2_24) (by omega) (Nat.le_of_ble_eq_true rfl) (Nat.le_of_ble_eq_true rfl) h17 (by decide +kernel) rfl (fun Q2 g1 g2 => k_X9_init g1 (by omega) g2) (by decide +kernel) (fun U18 K18 h18 => ?_)
  refine q_ast (pc := 43) (i := 1) (s := 12) (j := 4) (b := 62) (s2 := 0) dX2_init_43 h18 (by decide +kernel) (by decide +kernel) (by decide) (fun U19 K19 h19 => ?_)
  refine r_iincN (pc := 44) (i := 1) (c := 5) (lv' := [_, _]) dX2_init_44 rfl (by decide) (by decide) rfl ?_
  refine r_goto (pc := 47) (tgt := 25) dX2_init_47 rfl ?_
  refine r_iload_n (pc := 25) (i := 1) dX2_init_25 rfl rfl ?_
  refine r_bipush (pc := 26) dX2_init_26 rfl (in32_of rfl) ?_
  refine r_icmp_ge (pc := 28) (tgt := 50) dX2_init_28 rfl (fun c => absurd c (by decide)) (fun c => ?_)
  refine r_aload_n (pc := 31) (i := 0) dX2_init_31 rfl rfl ?_
  refine q_getr (pc := 32) (i := 0) (s := 0) (b := 1) dX2_init_32 fl_X2_11 rfl h19 (by decide +kernel) (by decide +kernel) ?_
  refine r_iload_n (pc := 35) (i := 1) dX2_init_35 rfl rfl ?_
  refine q_new (pc := 36) (n := 77) (m2 := 20011) dX2_init_36 nl_X2_9 h19 (by decide +kernel) (by decide +kernel) (fun U20 K20 h20 => ?_)
  refine r_dup (pc := 39) dX2_init_39 rfl ?_
  refine q_call (pc := 40) (n := 77) (m2 := 23994) (l2 := LX9_init) (m3 := 3983) dX2_init_40 (CI.mk2 mk_X9_init lk_X2_24) (by omega) (Nat.le_of_ble_eq_true rfl) (Nat.le_of_ble_eq_true rfl) h20 (by decide +kernel) rfl (fun Q2 g1 g2 => k_X9_init g1 (by omega) g2) (by decide +kernel) (fun U21 K21 h21 => ?_)
  refine q_ast (pc := 43) (i := 1) (s := 12) (j := 5) (b := 77) (s2 := 0) dX2_init_43 h21 (by decide +kernel) (by decide +kernel) (by decide) (fun U22 K22 h22 => ?_)
  refine r_iincN (pc := 44) (i := 1) (c := 6) (lv' := [_, _]) dX2_init_44 rfl (by decide) (by decide) rfl ?_
  refine r_goto (pc := 47) (tgt := 25) dX2_init_47 rfl ?_
  refine r_iload_n (pc := 25) (i := 1) dX2_init_25 rfl rfl ?_
  refine r_bipush (pc := 26) dX2_init_26 rfl (in32_of rfl) ?_
  refine r_icmp_ge (pc := 28) (tgt := 50) dX2_init_28 rfl (fun c => absurd c (by decide)) (fun c => ?_)
  refine r_aload_n (pc := 31) (i := 0) dX2_init_31 rfl rfl ?_
  refine q_getr (pc := 32) (i := 0) (s := 0) (b := 1) dX2_init_32 fl_X2_11 rfl h22 (by decide +kernel) (by decide +kernel) ?_
  refine r_iload_n (pc := 35) (i := 1) dX2_init_35 rfl rfl ?_
  refine q_new (pc := 36) (n := 92) (m2 := 24008) dX2_init_36 nl_X2_9 h22 (by decide +kernel) (by decide +kernel) (fun U23 K23 h23 => ?_)
  refine r_dup (pc := 39) dX2_init_39 rfl ?_
  refine q_call (pc := 40) (n := 92) (m2 := 27991) (l2 := LX9_init) (m3 := 3983) dX2_init_40 (CI.mk2 mk_X9_init lk_X2_24) (by omega) (Nat.le_of_ble_eq_true rfl) (Nat.le_of_ble_eq_true rfl) h23 (by decide +kernel) rfl (fun Q2 g1 g2 => k_X9_init g1 (by omega) g2) (by decide +kernel) (fun U24 K24 h24 => ?_)
  change At _ _ _ _ _ LX2_init_0 _ at h24
  refine q_ast (pc := 43) (i := 1) (s := 12) (j := 6) (b := 92) (s2 := 0) dX2_init_43 h24 (by decide +kernel) (by decide +kernel) (by decide) (fun U25 K25 h25 => ?_)
  refine r_iincN (pc := 44) (i := 1) (c := 7) (lv' := [_, _]) dX2_init_44 rfl (by decide) (by decide) rfl ?_
  refine r_goto (pc := 47) (tgt := 25) dX2_init_47 rfl ?_
  refine r_iload_n (pc := 25) (i := 1) dX2_init_25 rfl rfl ?_
  refine r_bipush (pc := 26) dX2_init_26 rfl (in32_of rfl) ?_
  refine r_icmp_ge (pc := 28) (tgt := 50) dX2_init_28 rfl (fun c => absurd c (by decide)) (fun c => ?_)
  refine r_aload_n (pc := 31) (i := 0) dX2_init_31 rfl rfl ?_
  refine q_getr (pc := 32) (i := 0) (s := 0) (b := 1) dX2_init_32 fl_X2_11 rfl h25 (by decide +kernel) (by decide +kernel) ?_
  refine r_iload_n (pc := 35) (i := 1) dX2_init_35 rfl rfl ?_
  refine q_new (pc := 36) (n := 107) (m2 := 28005) dX2_init_36 nl_X2_9 h25 (by decide +kernel) (by decide +kernel) (fun U26 K26 h26 => ?_)
  refine r_dup (pc := 39) dX2_init_39 rfl ?_
  refine q_call (pc := 40) (n := 107) (m2 := 31988) (l2 := LX9_init) (m3 := 3983) dX2_init_40 (CI.mk2 mk_X9_init lk_X2_24) (by omega) (Nat.le_of_ble_eq_true rfl) (Nat.le_of_ble_eq_true rfl) h26 (by decide +kernel) rfl (fun Q2 g1 g2 => k_X9_init g1 (by omega) g2) (by decide +kernel) (fun U27 K27 h27 => ?_)
  refine q_ast (pc := 43) (i := 1) (s := 12) (j := 7) (b := 107) (s2 := 0) dX2_init_43 h27 (by decide +kernel) (by decide +kernel) (by decide) (fun U28 K28 h28 => ?_)
  refine r_iincN (pc := 44) (i := 1) (c := 8) (lv' := [_, _]) dX2_init_44 rfl (by decide) (by decide) rfl ?_
  refine r_goto (pc := 47) (tgt := 25) dX2_init_47 rfl ?_
  refine r_iload_n (pc := 25) (i := 1) dX2_init_25 rfl rfl ?_
  refine r_bipush (pc := 26) dX2_init_26 rfl (in32_of rfl) ?_
  refine r_icmp_ge (pc := 28) (tgt := 50) dX2_init_28 rfl (fun c => absurd c (by decide)) (fun c => ?_)
  refine r_aload_n (pc := 31) (i := 0) dX2_init_31 rfl rfl ?_
  refine q_getr (pc := 32) (i := 0) (s := 0) (b := 1) dX2_init_32 fl_X2_11 rfl h28 (by decide +kernel) (by decide +kernel) ?_
  refine r_iload_n (pc := 35) (i := 1) dX2_init_35 rfl rfl ?_
  refine q_new (pc := 36) (n := 122) (m2 := 32002) dX2_init_36 nl_X2_9 h28 (by decide +kernel) (by decide +kernel) (fun U29 K29 h29 => ?_)
  refine r_dup (pc := 39) dX2_init_39 rfl ?_
  refine q_call (pc := 40) (n := 122) (m2 := 35985) (l2 := LX9_init) (m3 := 3983) dX2_init_40 (CI.mk2 mk_X9_init lk_X2_24) (by omega) (Nat.le_of_ble_eq_true rfl) (Nat.le_of_ble_eq_true rfl) h29 (by decide +kernel) rfl (fun Q2 g1 g2 => k_X9_init g1 (by omega) g2) (by decide +kernel) (fun U30 K30 h30 => ?_)
  refine q_ast (pc := 43) (i := 1) (s := 12) (j := 8) (b := 122) (s2 := 0) dX2_init_43 h30 (by decide +kernel) (by decide +kernel) (by decide) (fun U31 K31 h31 => ?_)
  refine r_iincN (pc := 44) (i := 1) (c := 9) (lv' := [_, _]) dX2_init_44 rfl (by decide) (by decide) rfl ?_
  refine r_goto (pc := 47) (tgt := 25) dX2_init_47 rfl ?_
  refine r_iload_n (pc := 25) (i := 1) dX2_init_25 rfl rfl ?_
  refine r_bipush (pc := 26) dX2_init_26 rfl (in32_of rfl) ?_
  refine r_icmp_ge (pc := 28) (tgt := 50) dX2_init_28 rfl (fun c => absurd c (by decide)) (fun c => ?_)
  refine r_aload_n (pc := 31) (i := 0) dX2_init_31 rfl rfl ?_
  refine q_getr (pc := 32) (i := 0) (s := 0) (b := 1) dX2_init_32 fl_X2_11 rfl h31 (by decide +kernel) (by decide +kernel) ?_
  refine r_iload_n (pc := 35) (i := 1) dX2_init_35 rfl rfl ?_
  refine q_new (pc := 36) (n := 137) (m2 := 35999) dX2_init_36 nl_X2_9 h31 (by decide +kernel) (by decide +kernel) (fun U32 K32 h32 => ?_)
  refine r_dup (pc := 39) dX2_init_39 rfl ?_
  refine q_call (pc := 40) (n := 137) (m2 := 39982) (l2 := LX9_init) (m3 := 3983) dX2_init_40 (CI.mk2 mk_X9_init lk_X2_24) (by omega) (Nat.le_of_ble_eq_true rfl) (Nat.le_of_ble_eq_true rfl) h32 (by decide +kernel) rfl (fun Q2 g1 g2 => k_X9_init g1 (by omega) g2) (by decide +kernel) (fun U33 K33 h33 => ?_)
  refine q_ast (pc := 43) (i := 1) (s := 12) (j := 9) (b := 137) (s2 := 0) dX2_init_43 h33 (by decide +kernel) (by decide +kernel) (by decide) (fun U34 K34 h34 => ?_)
  refine r_iincN (pc := 44) (i := 1) (c := 10) (lv' := [_, _]) dX2_init_44 rfl (by decide) (by decide) rfl ?_
  refine r_goto (pc := 47) (tgt := 25) dX2_init_47 rfl ?_
  refine r_iload_n (pc := 25) (i := 1) dX2_init_25 rfl rfl ?_
  refine r_bipush (pc := 26) dX2_init_26 rfl (in32_of rfl) ?_
  refine r_icmp_ge (pc := 28) (tgt := 50) dX2_init_28 rfl (fun c => absurd c (by decide)) (fun c => ?_)
  refine r_aload_n (pc := 31) (i := 0) dX2_init_31 rfl rfl ?_
  refine q_getr (pc := 32) (i := 0) (s := 0) (b := 1) dX2_init_32 fl_X2_11 rfl h34 (by decide +kernel) (by decide +kernel) ?_
  refine r_iload_n (pc := 35) (i := 1) dX2_init_35 rfl rfl ?_
  refine q_new (pc := 36) (n := 152) (m2 := 39996) dX2_init_36 nl_X2_9 h34 (by decide +kernel) (by decide +kernel) (fun U35 K35 h35 => ?_)
  refine r_dup (pc := 39) dX2_init_39 rfl ?_
  refine q_call (pc := 40) (n := 152) (m2 := 43979) (l2 := LX9_init) (m3 := 3983) dX2_init_40 (CI.mk2 mk_X9_init lk_X2_24) (by omega) (Nat.le_of_ble_eq_true rfl) (Nat.le_of_ble_eq_true rfl) h35 (by decide +kernel) rfl (fun Q2 g1 g2 => k_X9_init g1 (by omega) g2) (by decide +kernel) (fun U36 K36 h36 => ?_)
  refine q_ast (pc := 43) (i := 1) (s := 12) (j := 10) (b := 152) (s2 := 0) dX2_init_43 h36 (by decide +kernel) (by decide +kernel) (by decide) (fun U37 K37 h37 => ?_)
  refine r_iincN (pc := 44) (i := 1) (c := 11) (lv' := [_, _]) dX2_init_44 rfl (by decide) (by decide) rfl ?_
  refine r_goto (pc := 47) (tgt := 25) dX2_init_47 rfl ?_
  refine r_iload_n (pc := 25) (i := 1) dX2_init_25 rfl rfl ?_
  refine r_bipush (pc := 26) dX2_init_26 rfl (in32_of rfl) ?_
  refine r_icmp_ge (pc := 28) (tgt := 50) dX2_init_28 rfl (fun c => absurd c (by decide)) (fun c => ?_)
  refine r_aload_n (pc := 31) (i := 0) dX2_init_31 rfl rfl ?_
  refine q_getr (pc := 32) (i := 0) (s := 0) (b := 1) dX2_init_32 fl_X2_11 rfl h37 (by decide +kernel) (by decide +kernel) ?_
  refine r_iload_n (pc := 35) (i := 1) dX2_init_35 rfl rfl ?_
  refine q_new (pc := 36) (n := 167) (m2 := 43993) dX2_init_36 nl_X2_9 h37 (by decide +kernel) (by decide +kernel) (fun U38 K38 h38 => ?_)
  refine r_dup (pc := 39) dX2_init_39 rfl ?_
  refine q_call (pc := 40) (n := 167) (m2 := 47976) (l2 := LX9_init) (m3 := 3983) dX2_init_40 (CI.mk2 mk_X9_init lk_X2_24) (by omega) (Nat.le_of_ble_eq_true rfl) (Nat.le_of_ble_eq_true rfl) h38 (by decide +kernel) rfl (fun Q2 g1 g2 => k_X9_init g1 (by omega) g2) (by decide +kernel) (fun U39 K39 h39 => ?_)
  refine q_ast (pc := 43) (i := 1) (s := 12) (j := 11) (b := 167) (s2 := 0) dX2_init_43 h39 (by decide +kernel) (by decide +kernel) (by decide) (fun U40 K40 h40 => ?_)
  refine r_iincN (pc := 44) (i := 1) (c := 12) (lv' := [_, _]) dX2_init_44 rfl (by decide) (by decide) rfl ?_
  refine r_goto (pc := 47) (tgt := 25) dX2_init_47 rfl ?_
  refine r_iload_n (pc := 25) (i := 1) dX2_init_25 rfl rfl ?_
  refine r_bipush (pc := 26) dX2_init_26 rfl (in32_of rfl) ?_
  refine r_icmp_ge (pc := 28) (tgt := 50) dX2_init_28 rfl (fun c => ?_) (fun c => absurd (by decide) c)
  exact r_vret (pc := 50) dX2_init_50 trivial (hq _ _ h40)
end C70

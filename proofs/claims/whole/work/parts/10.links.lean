/-! links: by program (wip/whole/gen_facts.py) -/
theorem lk_J0_492 : LK RJ0 492 mJ0_isLatin1_aae02 := Or.inl (gw_2 (i := 238) (by decide +kernel) rfl)
theorem sf_J0_9 : Cond.fieldLink RJ0 9 "java/lang/String" "value" "[B" ∈ goodW := (gw_7 (i := 19) (by decide +kernel) rfl)
theorem lk_J0_495 : LK RJ0 495 mJ1_charAt_3b067 := Or.inl (gw_3 (i := 2) (by decide +kernel) rfl)
theorem sl_J0_1053 : SL RJ0 1053 "jdk/internal/util/Preconditions" "SIOOBE_FORMATTER" "Ljava/util/function/BiFunction;" := Or.inl (gw_3 (i := 8) (by decide +kernel) rfl)
theorem lk_J0_1059 : LK RJ0 1059 mJ3_checkIndex_8e157 := Or.inl (gw_3 (i := 10) (by decide +kernel) rfl)
theorem sl_J0_38 : SL RJ0 38 "java/lang/String" "COMPACT_STRINGS" "Z" := Or.inl (gw_2 (i := 232) (by decide +kernel) rfl)
theorem sf_J0_15 : Cond.fieldLink RJ0 15 "java/lang/String" "coder" "B" ∈ goodW := (gw_7 (i := 20) (by decide +kernel) rfl)
theorem lk_J0_335 : LK RJ0 335 mJ0_coder_7d493 := Or.inl (gw_2 (i := 228) (by decide +kernel) rfl)
theorem cn_J13_314 : Cond.constantLong RJ13 314 (oL (6148914691236517205)) ∈ goodW := (gw_4 (i := 92) (by decide +kernel) rfl)
theorem cn_J13_316 : Cond.constantLong RJ13 316 (oL (3689348814741910323)) ∈ goodW := (gw_4 (i := 93) (by decide +kernel) rfl)
theorem cn_J13_318 : Cond.constantLong RJ13 318 (oL (1085102592571150095)) ∈ goodW := (gw_4 (i := 94) (by decide +kernel) rfl)
theorem lk_J1_9 : LK RJ1 9 mJ0_checkIndex_df160 := Or.inl (gw_3 (i := 5) (by decide +kernel) rfl)
theorem cl_J7_317 : Cond.classLink RJ7 317 "[I" ∈ goodW := (gw_3 (i := 202) (by decide +kernel) rfl)
theorem ml_J7_304 : ML RJ7 304 := ⟨(gw_3 (i := 203) (by decide +kernel) rfl), (gw_2 (i := 180) (by decide +kernel) rfl), (gw_1 (i := 14) (by decide +kernel) rfl), (gw_2 (i := 181) rfl rfl)⟩
theorem ac_J7_150 : AC RJ7 150 := ⟨(gw_3 (i := 204) (by decide +kernel) rfl), (gw_2 (i := 188) (by decide +kernel) rfl), (gw_2 (i := 187) (by decide +kernel) rfl), (gw_1 (i := 15) (by decide +kernel) rfl)⟩
theorem cl_J7_320 : Cond.classLink RJ7 320 "[J" ∈ goodW := (gw_3 (i := 212) (by decide +kernel) rfl)
theorem nl_L_7 : NL RL 7 11 := ⟨by decide, (RX11, TX11, 12), rfl, (gw_1 (i := 22) (by decide +kernel) rfl), (gw_1 (i := 23) (by decide +kernel) rfl), (gw_1 (i := 1) (by decide +kernel) rfl)⟩
theorem lk_L_9 : LK RL 9 mX11_init := Or.inl (gw_1 (i := 24) (by decide +kernel) rfl)
theorem nl_L_10 : NL RL 10 12 := ⟨by decide, (RX12, TX12, 24), rfl, (gw_5 (i := 18) (by decide +kernel) rfl), (gw_5 (i := 19) (by decide +kernel) rfl), (gw_1 (i := 13) (by decide +kernel) rfl)⟩
theorem lk_L_12 : LK RL 12 mX12_init := Or.inl (gw_5 (i := 20) (by decide +kernel) rfl)
theorem lk_L_13 : LK RL 13 mX11_feed := Or.inl (gw_2 (i := 159) (by decide +kernel) rfl)
theorem lk_L_17 : LK RL 17 mX12_feed := Or.inl (gw_5 (i := 109) (by decide +kernel) rfl)
theorem lk_L_18 : LK RL 18 mX11_end := Or.inl (gw_2 (i := 167) (by decide +kernel) rfl)
theorem lk_L_22 : LK RL 22 mX12_end := Or.inl (gw_5 (i := 113) (by decide +kernel) rfl)
theorem lk_L_23 : LK RL 23 mX11_plan := Or.inl (gw_2 (i := 171) (by decide +kernel) rfl)
theorem lk_L_27 : LK RL 27 mX12_plan := Or.inl (gw_5 (i := 120) (by decide +kernel) rfl)
theorem lk_L_28 : LK RL 28 mX11_setting := Or.inl (gw_3 (i := 66) (by decide +kernel) rfl)
theorem lk_L_31 : LK RL 31 mX12_setting := Or.inl (gw_5 (i := 153) (by decide +kernel) rfl)
theorem lk_L_32 : LK RL 32 mX11_begin := Or.inl (gw_3 (i := 74) (by decide +kernel) rfl)
theorem lk_L_35 : LK RL 35 mX12_begin := Or.inl (gw_5 (i := 165) (by decide +kernel) rfl)
theorem lk_L_36 : LK RL 36 mX11_signal := Or.inl (gw_4 (i := 56) (by decide +kernel) rfl)
theorem lk_L_40 : LK RL 40 mX12_signal := Or.inl (gw_6 (i := 78) (by decide +kernel) rfl)
theorem lk_L_41 : LK RL 41 mX11_key := Or.inl (gw_4 (i := 64) (by decide +kernel) rfl)
theorem lk_L_44 : LK RL 44 mX12_key := Or.inl (gw_6 (i := 87) (by decide +kernel) rfl)
theorem lk_L_45 : LK RL 45 mX11_sample := Or.inl (gw_3 (i := 126) (by decide +kernel) rfl)
theorem lk_L_48 : LK RL 48 mX12_sample := Or.inl (gw_5 (i := 197) (by decide +kernel) rfl)
theorem lk_L_49 : LK RL 49 mX11_pass := Or.inl (gw_3 (i := 153) (by decide +kernel) rfl)
theorem lk_L_52 : LK RL 52 mX12_pass := Or.inl (gw_5 (i := 208) (by decide +kernel) rfl)
theorem lk_L_53 : LK RL 53 mX11_check := Or.inl (gw_3 (i := 238) (by decide +kernel) rfl)
theorem lk_L_56 : LK RL 56 mX12_check := Or.inl (gw_6 (i := 32) (by decide +kernel) rfl)
theorem lk_L_57 : LK RL 57 mX11_winnow := Or.inl (gw_3 (i := 225) (by decide +kernel) rfl)
theorem lk_L_60 : LK RL 60 mX12_winnow := Or.inl (gw_6 (i := 20) (by decide +kernel) rfl)
theorem lk_L_61 : LK RL 61 mX11_send := Or.inl (gw_4 (i := 26) (by decide +kernel) rfl)
theorem lk_L_64 : LK RL 64 mX12_send := Or.inl (gw_6 (i := 56) (by decide +kernel) rfl)
theorem lk_L_65 : LK RL 65 mX11_shorten := Or.inl (gw_4 (i := 18) (by decide +kernel) rfl)
theorem lk_L_68 : LK RL 68 mX12_shorten := Or.inl (gw_6 (i := 48) (by decide +kernel) rfl)
theorem lk_L_69 : LK RL 69 mX11_slip := Or.inl (gw_4 (i := 38) (by decide +kernel) rfl)
theorem lk_L_72 : LK RL 72 mX12_slip := Or.inl (gw_6 (i := 65) (by decide +kernel) rfl)
theorem lk_L_73 : LK RL 73 mX11_undo := Or.inl (gw_4 (i := 48) (by decide +kernel) rfl)
theorem lk_L_76 : LK RL 76 mX12_undo := Or.inl (gw_5 (i := 158) (by decide +kernel) rfl)
theorem lk_L_77 : LK RL 77 mX11_order := Or.inl (gw_4 (i := 68) (by decide +kernel) rfl)
theorem lk_L_80 : LK RL 80 mX12_order := Or.inl (gw_6 (i := 91) (by decide +kernel) rfl)
theorem lk_L_81 : LK RL 81 mX11_ledger := Or.inl (gw_4 (i := 77) (by decide +kernel) rfl)
theorem lk_L_84 : LK RL 84 mX12_ledger := Or.inl (gw_6 (i := 99) (by decide +kernel) rfl)
theorem lk_L_85 : LK RL 85 mX11_isIn := Or.inl (gw_4 (i := 103) (by decide +kernel) rfl)
theorem lk_L_88 : LK RL 88 mX12_isIn := Or.inl (gw_6 (i := 139) (by decide +kernel) rfl)
theorem lk_L_89 : LK RL 89 mX11_rank := Or.inl (gw_4 (i := 128) (by decide +kernel) rfl)
theorem lk_L_92 : LK RL 92 mX12_rank := Or.inl (gw_6 (i := 143) (by decide +kernel) rfl)
theorem lk_L_93 : LK RL 93 mX11_fixed := Or.inl (gw_4 (i := 151) (by decide +kernel) rfl)
theorem lk_L_96 : LK RL 96 mX12_fixed := Or.inl (gw_6 (i := 163) (by decide +kernel) rfl)
theorem lk_L_97 : LK RL 97 mX11_last := Or.inl (gw_4 (i := 108) (by decide +kernel) rfl)
theorem lk_L_100 : LK RL 100 mX12_last := Or.inl (gw_6 (i := 176) (by decide +kernel) rfl)
theorem lk_L_101 : LK RL 101 mX11_spied := Or.inl (gw_4 (i := 164) (by decide +kernel) rfl)
theorem lk_L_104 : LK RL 104 mX12_spied := Or.inl (gw_6 (i := 180) (by decide +kernel) rfl)
theorem lk_L_105 : LK RL 105 mX11_block := Or.inl (gw_4 (i := 112) (by decide +kernel) rfl)
theorem lk_L_109 : LK RL 109 mX12_block := Or.inl (gw_6 (i := 188) (by decide +kernel) rfl)
theorem lk_L_110 : LK RL 110 mX11_secret := Or.inl (gw_4 (i := 172) (by decide +kernel) rfl)
theorem lk_L_114 : LK RL 114 mX12_secret := Or.inl (gw_6 (i := 193) (by decide +kernel) rfl)
theorem lk_L_115 : LK RL 115 mX11_would := Or.inl (gw_4 (i := 185) (by decide +kernel) rfl)
theorem lk_L_118 : LK RL 118 mX12_would := Or.inl (gw_6 (i := 197) (by decide +kernel) rfl)
theorem lk_L_119 : LK RL 119 mX11_best := Or.inl (gw_4 (i := 210) (by decide +kernel) rfl)
theorem lk_L_122 : LK RL 122 mX12_best := Or.inl (gw_6 (i := 210) (by decide +kernel) rfl)
theorem lk_L_123 : LK RL 123 mX11_seeds := Or.inl (gw_4 (i := 221) (by decide +kernel) rfl)
theorem lk_L_126 : LK RL 126 mX12_seeds := Or.inl (gw_6 (i := 218) (by decide +kernel) rfl)
theorem lk_L_127 : LK RL 127 mX11_noise := Or.inl (gw_5 (i := 1) (by decide +kernel) rfl)
theorem lk_L_130 : LK RL 130 mX12_noise := Or.inl (gw_6 (i := 231) (by decide +kernel) rfl)
theorem lk_L_131 : LK RL 131 mX11_rounds := Or.inl (gw_4 (i := 201) (by decide +kernel) rfl)
theorem lk_L_134 : LK RL 134 mX12_rounds := Or.inl (gw_6 (i := 239) (by decide +kernel) rfl)
theorem lk_L_135 : LK RL 135 mX11_image := Or.inl (gw_5 (i := 9) (by decide +kernel) rfl)
theorem lk_L_138 : LK RL 138 mX12_image := Or.inl (gw_7 (i := 3) (by decide +kernel) rfl)
theorem lk_L_139 : LK RL 139 mX11_back := Or.inl (gw_5 (i := 14) (by decide +kernel) rfl)
theorem lk_L_142 : LK RL 142 mX12_back := Or.inl (gw_7 (i := 7) (by decide +kernel) rfl)
theorem lk_L_143 : LK RL 143 mX11_count := Or.inl (gw_4 (i := 124) (by decide +kernel) rfl)
theorem lk_L_146 : LK RL 146 mX12_count := Or.inl (gw_7 (i := 11) (by decide +kernel) rfl)
theorem lk_X0_81 : LK RX0 81 mX0_rootOf := Or.inl (gw_3 (i := 149) (by decide +kernel) rfl)
theorem ml_X0_84 : ML RX0 84 := ⟨(gw_3 (i := 152) (by decide +kernel) rfl), (gw_2 (i := 180) (by decide +kernel) rfl), (gw_1 (i := 14) (by decide +kernel) rfl), (gw_2 (i := 181) rfl rfl)⟩
theorem lk_X0_24 : LK RX0 24 mX6_number := Or.inl (gw_3 (i := 108) (by decide +kernel) rfl)
theorem fl_X0_9 : FL RX0 9 0 0 := ⟨by decide +kernel, by decide, (RX0, TX0, 2), rfl, Or.inl (gw_2 (i := 67) (by decide +kernel) rfl)⟩
theorem fl_X0_45 : FL RX0 45 9 11 := ⟨by decide +kernel, by decide, (RX9, TX9, 14), rfl, Or.inr ⟨"KeyDesk", (nw_1 (i := 215) (by decide +kernel) rfl)⟩⟩
theorem fl_X0_61 : FL RX0 61 3 0 := ⟨by decide +kernel, by decide, (RX3, TX3, 4), rfl, Or.inr ⟨"KeyDesk", (nw_1 (i := 91) (by decide +kernel) rfl)⟩⟩
theorem lk_X0_89 : LK RX0 89 mX0_drawRow := Or.inl (gw_4 (i := 6) (by decide +kernel) rfl)
theorem fl_X0_93 : FL RX0 93 3 1 := ⟨by decide +kernel, by decide, (RX3, TX3, 4), rfl, Or.inr ⟨"KeyDesk", (nw_1 (i := 95) (by decide +kernel) rfl)⟩⟩
theorem lk_X0_96 : LK RX0 96 mX3_parity := Or.inl (gw_4 (i := 9) (by decide +kernel) rfl)
theorem fl_X0_100 : FL RX0 100 3 2 := ⟨by decide +kernel, by decide, (RX3, TX3, 4), rfl, Or.inr ⟨"KeyDesk", (nw_1 (i := 99) (by decide +kernel) rfl)⟩⟩
theorem fl_X0_15 : FL RX0 15 0 1 := ⟨by decide +kernel, by decide, (RX0, TX0, 2), rfl, Or.inl (gw_2 (i := 68) (by decide +kernel) rfl)⟩
theorem lk_X0_103 : LK RX0 103 mX0_setOfRow := Or.inl (gw_4 (i := 13) (by decide +kernel) rfl)
theorem fl_X0_107 : FL RX0 107 9 12 := ⟨by decide +kernel, by decide, (RX9, TX9, 14), rfl, Or.inr ⟨"KeyDesk", (nw_1 (i := 221) (by decide +kernel) rfl)⟩⟩
theorem lk_X0_111 : LK RX0 111 mX4_tell := Or.inl (gw_4 (i := 17) (by decide +kernel) rfl)
theorem fl_X0_55 : FL RX0 55 9 0 := ⟨by decide +kernel, by decide, (RX9, TX9, 14), rfl, Or.inr ⟨"KeyDesk", (nw_1 (i := 183) (by decide +kernel) rfl)⟩⟩
theorem fl_X0_78 : FL RX0 78 9 5 := ⟨by decide +kernel, by decide, (RX9, TX9, 14), rfl, Or.inr ⟨"KeyDesk", (nw_1 (i := 199) (by decide +kernel) rfl)⟩⟩
theorem fl_X0_117 : FL RX0 117 4 0 := ⟨by decide +kernel, by decide, (RX4, TX4, 4), rfl, Or.inr ⟨"KeyDesk", (nw_1 (i := 123) (by decide +kernel) rfl)⟩⟩
theorem fl_X0_120 : FL RX0 120 9 13 := ⟨by decide +kernel, by decide, (RX9, TX9, 14), rfl, Or.inr ⟨"KeyDesk", (nw_1 (i := 225) (by decide +kernel) rfl)⟩⟩
theorem fl_X0_124 : FL RX0 124 1 1 := ⟨by decide +kernel, by decide, (RX1, TX1, 7), rfl, Or.inr ⟨"KeyDesk", (nw_1 (i := 154) (by decide +kernel) rfl)⟩⟩
theorem fl_X0_127 : FL RX0 127 1 2 := ⟨by decide +kernel, by decide, (RX1, TX1, 7), rfl, Or.inr ⟨"KeyDesk", (nw_1 (i := 156) (by decide +kernel) rfl)⟩⟩
theorem fl_X0_128 : FL RX0 128 1 3 := ⟨by decide +kernel, by decide, (RX1, TX1, 7), rfl, Or.inr ⟨"KeyDesk", (nw_1 (i := 159) (by decide +kernel) rfl)⟩⟩
theorem fl_X0_129 : FL RX0 129 1 0 := ⟨by decide +kernel, by decide, (RX1, TX1, 7), rfl, Or.inr ⟨"KeyDesk", (nw_1 (i := 150) (by decide +kernel) rfl)⟩⟩
theorem lk_X0_58 : LK RX0 58 mX9_draw := Or.inl (gw_3 (i := 112) (by decide +kernel) rfl)
theorem lk_X0_19 : LK RX0 19 mX9_clear := Or.inl (gw_3 (i := 107) (by decide +kernel) rfl)
theorem fl_X0_30 : FL RX0 30 9 1 := ⟨by decide +kernel, by decide, (RX9, TX9, 14), rfl, Or.inr ⟨"KeyDesk", (nw_1 (i := 188) (by decide +kernel) rfl)⟩⟩
theorem lk_X0_34 : LK RX0 34 mX0_drawSignal := Or.inl (gw_3 (i := 109) (by decide +kernel) rfl)
theorem lk_X0_38 : LK RX0 38 mX9_addSignal := Or.inl (gw_3 (i := 118) (by decide +kernel) rfl)
theorem fl_X0_42 : FL RX0 42 9 3 := ⟨by decide +kernel, by decide, (RX9, TX9, 14), rfl, Or.inr ⟨"KeyDesk", (nw_1 (i := 193) (by decide +kernel) rfl)⟩⟩
theorem lk_X0_49 : LK RX0 49 mX3_add := Or.inl (gw_3 (i := 122) (by decide +kernel) rfl)
theorem ob_X0_3 : Cond.methodLink RX0 3 Lib.objectInit ∈ goodW ∧ Cond.instanceMethod Lib.objectInit ∈ goodW ∧ Cond.code Lib.objectInit ⟨#[0xb1]⟩ 1 none ∈ goodW := ⟨(gw_2 (i := 66) (by decide +kernel) rfl), (gw_1 (i := 28) (by decide +kernel) rfl), (gw_1 (i := 29) rfl rfl)⟩
theorem pc_X0_9 : PF mX0_init 9 0 0 := fun q hq => by cases hq; exact Or.inr ⟨rfl, rfl, (gw_2 (i := 67) (by decide +kernel) rfl)⟩
theorem pc_X0_15 : PF mX0_init 15 0 1 := fun q hq => by cases hq; exact Or.inr ⟨rfl, rfl, (gw_2 (i := 68) (by decide +kernel) rfl)⟩
theorem lk_X0_132 : LK RX0 132 mJ7_fill_d0a16 := Or.inl (gw_4 (i := 16) (by decide +kernel) rfl)
theorem fl_X0_64 : FL RX0 64 9 4 := ⟨by decide +kernel, by decide, (RX9, TX9, 14), rfl, Or.inr ⟨"KeyDesk", (nw_1 (i := 196) (by decide +kernel) rfl)⟩⟩
theorem lk_X0_67 : LK RX0 67 mX3_isUnlike := Or.inl (gw_3 (i := 134) (by decide +kernel) rfl)
theorem lk_X0_71 : LK RX0 71 mX3_drop := Or.inl (gw_3 (i := 142) (by decide +kernel) rfl)
theorem lk_X0_74 : LK RX0 74 mX0_boundOf := Or.inl (gw_3 (i := 146) (by decide +kernel) rfl)
theorem fl_X10_21 : FL RX10 21 10 1 := ⟨by decide +kernel, by decide, (RX10, TX10, 4), rfl, Or.inl (gw_2 (i := 110) (by decide +kernel) rfl)⟩
theorem lk_X10_43 : LK RX10 43 mX6_takeFrom := Or.inl (gw_4 (i := 194) (by decide +kernel) rfl)
theorem sl_X10_81 : SL RX10 81 "KeyDesk" "LEAST" "[I" := Or.inr ⟨"KeyDesk", (nw_4 (i := 218) (by decide +kernel) rfl)⟩
theorem sl_X10_85 : SL RX10 85 "KeyDesk" "MOST" "[I" := Or.inr ⟨"KeyDesk", (nw_4 (i := 219) (by decide +kernel) rfl)⟩
theorem fl_X10_12 : FL RX10 12 10 0 := ⟨by decide +kernel, by decide, (RX10, TX10, 4), rfl, Or.inl (gw_2 (i := 108) (by decide +kernel) rfl)⟩
theorem lk_X10_39 : LK RX10 39 mX9_takeFrom := Or.inl (gw_4 (i := 193) (by decide +kernel) rfl)
theorem lk_X10_88 : LK RX10 88 mX6_put := Or.inl (gw_4 (i := 220) (by decide +kernel) rfl)
theorem lk_X10_46 : LK RX10 46 mX10_passOn := Or.inl (gw_4 (i := 195) (by decide +kernel) rfl)
theorem fl_X10_72 : FL RX10 72 9 12 := ⟨by decide +kernel, by decide, (RX9, TX9, 14), rfl, Or.inr ⟨"KeyDesk", (nw_1 (i := 219) (by decide +kernel) rfl)⟩⟩
theorem fl_X10_76 : FL RX10 76 4 0 := ⟨by decide +kernel, by decide, (RX4, TX4, 4), rfl, Or.inr ⟨"KeyDesk", (nw_1 (i := 122) (by decide +kernel) rfl)⟩⟩
theorem fl_X10_62 : FL RX10 62 9 11 := ⟨by decide +kernel, by decide, (RX9, TX9, 14), rfl, Or.inr ⟨"KeyDesk", (nw_1 (i := 216) (by decide +kernel) rfl)⟩⟩
theorem lk_X10_66 : LK RX10 66 mX3_unlike := Or.inl (gw_4 (i := 209) (by decide +kernel) rfl)
theorem lk_X10_54 : LK RX10 54 mX6_number := Or.inl (gw_4 (i := 199) (by decide +kernel) rfl)
theorem lk_X10_92 : LK RX10 92 mX10_runWhole := Or.inl (gw_4 (i := 229) (by decide +kernel) rfl)
theorem fl_X10_95 : FL RX10 95 9 0 := ⟨by decide +kernel, by decide, (RX9, TX9, 14), rfl, Or.inr ⟨"KeyDesk", (nw_1 (i := 185) (by decide +kernel) rfl)⟩⟩
theorem fl_X10_98 : FL RX10 98 9 13 := ⟨by decide +kernel, by decide, (RX9, TX9, 14), rfl, Or.inr ⟨"KeyDesk", (nw_1 (i := 224) (by decide +kernel) rfl)⟩⟩
theorem lk_X10_102 : LK RX10 102 mX1_areUnlike := Or.inl (gw_4 (i := 237) (by decide +kernel) rfl)
theorem ob_X10_3 : Cond.methodLink RX10 3 Lib.objectInit ∈ goodW ∧ Cond.instanceMethod Lib.objectInit ∈ goodW ∧ Cond.code Lib.objectInit ⟨#[0xb1]⟩ 1 none ∈ goodW := ⟨(gw_2 (i := 99) (by decide +kernel) rfl), (gw_1 (i := 28) (by decide +kernel) rfl), (gw_1 (i := 29) rfl rfl)⟩
theorem nl_X10_9 : NL RX10 9 9 := ⟨by decide, (RX9, TX9, 14), rfl, (gw_2 (i := 100) (by decide +kernel) rfl), (gw_1 (i := 76) (by decide +kernel) rfl), (gw_1 (i := 4) (by decide +kernel) rfl)⟩
theorem lk_X10_11 : LK RX10 11 mX9_init := Or.inr ⟨"KeyDesk", (nw_2 (i := 101) (by decide +kernel) rfl)⟩
theorem pc_X10_12 : PF mX10_init 12 10 0 := fun q hq => by cases hq; exact Or.inr ⟨rfl, rfl, (gw_2 (i := 108) (by decide +kernel) rfl)⟩
theorem nl_X10_18 : NL RX10 18 6 := ⟨by decide, (RX6, TX6, 1), rfl, (gw_2 (i := 102) (by decide +kernel) rfl), (gw_1 (i := 31) (by decide +kernel) rfl), (gw_1 (i := 2) (by decide +kernel) rfl)⟩
theorem lk_X10_20 : LK RX10 20 mX6_init := Or.inr ⟨"KeyDesk", (nw_2 (i := 103) (by decide +kernel) rfl)⟩
theorem pc_X10_21 : PF mX10_init 21 10 1 := fun q hq => by cases hq; exact Or.inr ⟨rfl, rfl, (gw_2 (i := 110) (by decide +kernel) rfl)⟩
theorem nl_X10_25 : NL RX10 25 0 := ⟨by decide, (RX0, TX0, 2), rfl, (gw_2 (i := 104) (by decide +kernel) rfl), (gw_2 (i := 62) (by decide +kernel) rfl), (gw_1 (i := 10) (by decide +kernel) rfl)⟩
theorem lk_X10_27 : LK RX10 27 mX0_init := Or.inr ⟨"KeyDesk", (nw_2 (i := 105) (by decide +kernel) rfl)⟩
theorem fl_X10_28 : FL RX10 28 10 2 := ⟨by decide +kernel, by decide, (RX10, TX10, 4), rfl, Or.inl (gw_2 (i := 111) (by decide +kernel) rfl)⟩
theorem pc_X10_28 : PF mX10_init 28 10 2 := fun q hq => by cases hq; exact Or.inr ⟨rfl, rfl, (gw_2 (i := 111) (by decide +kernel) rfl)⟩
theorem nl_X10_32 : NL RX10 32 5 := ⟨by decide, (RX5, TX5, 6), rfl, (gw_2 (i := 106) (by decide +kernel) rfl), (gw_2 (i := 37) (by decide +kernel) rfl), (gw_1 (i := 9) (by decide +kernel) rfl)⟩
theorem lk_X10_34 : LK RX10 34 mX5_init := Or.inr ⟨"KeyDesk", (nw_2 (i := 107) (by decide +kernel) rfl)⟩
theorem fl_X10_35 : FL RX10 35 10 3 := ⟨by decide +kernel, by decide, (RX10, TX10, 4), rfl, Or.inl (gw_2 (i := 112) (by decide +kernel) rfl)⟩
theorem pc_X10_35 : PF mX10_init 35 10 3 := fun q hq => by cases hq; exact Or.inr ⟨rfl, rfl, (gw_2 (i := 112) (by decide +kernel) rfl)⟩
theorem fl_X10_108 : FL RX10 108 1 0 := ⟨by decide +kernel, by decide, (RX1, TX1, 7), rfl, Or.inr ⟨"KeyDesk", (nw_1 (i := 149) (by decide +kernel) rfl)⟩⟩
theorem fl_X10_50 : FL RX10 50 9 6 := ⟨by decide +kernel, by decide, (RX9, TX9, 14), rfl, Or.inr ⟨"KeyDesk", (nw_1 (i := 203) (by decide +kernel) rfl)⟩⟩
theorem lk_X10_58 : LK RX10 58 mX5_runPass := Or.inl (gw_4 (i := 200) (by decide +kernel) rfl)
theorem lk_X10_111 : LK RX10 111 mX0_drawSignals := Or.inl (gw_4 (i := 233) (by decide +kernel) rfl)
theorem lk_X10_115 : LK RX10 115 mX0_tellSample := Or.inl (gw_4 (i := 234) (by decide +kernel) rfl)
theorem lk_X10_118 : LK RX10 118 mX0_compare := Or.inl (gw_4 (i := 235) (by decide +kernel) rfl)
theorem lk_X10_121 : LK RX10 121 mX0_drawFinal := Or.inl (gw_4 (i := 236) (by decide +kernel) rfl)
theorem fl_X11_49 : FL RX11 49 11 7 := ⟨by decide +kernel, by decide, (RX11, TX11, 12), rfl, Or.inl (gw_2 (i := 129) (by decide +kernel) rfl)⟩
theorem fl_X11_34 : FL RX11 34 11 4 := ⟨by decide +kernel, by decide, (RX11, TX11, 12), rfl, Or.inl (gw_2 (i := 126) (by decide +kernel) rfl)⟩
theorem fl_X11_45 : FL RX11 45 11 6 := ⟨by decide +kernel, by decide, (RX11, TX11, 12), rfl, Or.inl (gw_2 (i := 128) (by decide +kernel) rfl)⟩
theorem lk_X11_313 : LK RX11 313 mX9_takeFrom := Or.inl (gw_5 (i := 13) (by decide +kernel) rfl)
theorem fl_X11_41 : FL RX11 41 11 5 := ⟨by decide +kernel, by decide, (RX11, TX11, 12), rfl, Or.inl (gw_2 (i := 127) (by decide +kernel) rfl)⟩
theorem lk_X11_98 : LK RX11 98 mX2_clear := Or.inl (gw_3 (i := 60) (by decide +kernel) rfl)
theorem fl_X11_126 : FL RX11 126 9 0 := ⟨by decide +kernel, by decide, (RX9, TX9, 14), rfl, Or.inr ⟨"KeyDesk", (nw_1 (i := 186) (by decide +kernel) rfl)⟩⟩
theorem lk_X11_109 : LK RX11 109 mX2_keep := Or.inl (gw_3 (i := 78) (by decide +kernel) rfl)
theorem fl_X11_62 : FL RX11 62 11 9 := ⟨by decide +kernel, by decide, (RX11, TX11, 12), rfl, Or.inl (gw_2 (i := 131) (by decide +kernel) rfl)⟩
theorem fl_X11_20 : FL RX11 20 11 2 := ⟨by decide +kernel, by decide, (RX11, TX11, 12), rfl, Or.inl (gw_2 (i := 124) (by decide +kernel) rfl)⟩
theorem lk_X11_113 : LK RX11 113 mX0_drawSignals := Or.inl (gw_3 (i := 103) (by decide +kernel) rfl)
theorem fl_X11_117 : FL RX11 117 9 11 := ⟨by decide +kernel, by decide, (RX9, TX9, 14), rfl, Or.inr ⟨"KeyDesk", (nw_1 (i := 217) (by decide +kernel) rfl)⟩⟩
theorem fl_X11_121 : FL RX11 121 3 0 := ⟨by decide +kernel, by decide, (RX3, TX3, 4), rfl, Or.inr ⟨"KeyDesk", (nw_1 (i := 92) (by decide +kernel) rfl)⟩⟩
theorem fl_X11_76 : FL RX11 76 11 11 := ⟨by decide +kernel, by decide, (RX11, TX11, 12), rfl, Or.inl (gw_2 (i := 133) (by decide +kernel) rfl)⟩
theorem lk_X11_302 : LK RX11 302 mX10_bestBlock := Or.inl (gw_4 (i := 214) (by decide +kernel) rfl)
theorem lk_X11_204 : LK RX11 204 mX9_hasDone := Or.inl (gw_4 (i := 72) (by decide +kernel) rfl)
theorem lk_X11_105 : LK RX11 105 mX6_number := Or.inl (gw_3 (i := 70) (by decide +kernel) rfl)
theorem lk_X11_235 : LK RX11 235 mX11_blocksOf := Or.inl (gw_4 (i := 116) (by decide +kernel) rfl)
theorem lk_X11_238 : LK RX11 238 mX11_lengthOf := Or.inl (gw_4 (i := 117) (by decide +kernel) rfl)
theorem lk_X11_242 : LK RX11 242 mX9_unlikeAlong := Or.inl (gw_4 (i := 118) (by decide +kernel) rfl)
theorem lk_X11_135 : LK RX11 135 mX11_isMending := Or.inl (gw_3 (i := 157) (by decide +kernel) rfl)
theorem lk_X11_153 : LK RX11 153 mX0_compare := Or.inl (gw_4 (i := 2) (by decide +kernel) rfl)
theorem lk_X11_182 : LK RX11 182 mX3_unlike := Or.inl (gw_4 (i := 44) (by decide +kernel) rfl)
theorem fl_X11_139 : FL RX11 139 9 6 := ⟨by decide +kernel, by decide, (RX9, TX9, 14), rfl, Or.inr ⟨"KeyDesk", (nw_1 (i := 204) (by decide +kernel) rfl)⟩⟩
theorem fl_X11_210 : FL RX11 210 9 12 := ⟨by decide +kernel, by decide, (RX9, TX9, 14), rfl, Or.inr ⟨"KeyDesk", (nw_1 (i := 222) (by decide +kernel) rfl)⟩⟩
theorem fl_X11_245 : FL RX11 245 4 0 := ⟨by decide +kernel, by decide, (RX4, TX4, 4), rfl, Or.inr ⟨"KeyDesk", (nw_1 (i := 124) (by decide +kernel) rfl)⟩⟩
theorem fl_X11_132 : FL RX11 132 9 4 := ⟨by decide +kernel, by decide, (RX9, TX9, 14), rfl, Or.inr ⟨"KeyDesk", (nw_1 (i := 197) (by decide +kernel) rfl)⟩⟩
theorem fl_X11_248 : FL RX11 248 9 5 := ⟨by decide +kernel, by decide, (RX9, TX9, 14), rfl, Or.inr ⟨"KeyDesk", (nw_1 (i := 200) (by decide +kernel) rfl)⟩⟩
theorem fl_X11_159 : FL RX11 159 9 13 := ⟨by decide +kernel, by decide, (RX9, TX9, 14), rfl, Or.inr ⟨"KeyDesk", (nw_1 (i := 226) (by decide +kernel) rfl)⟩⟩
theorem fl_X11_163 : FL RX11 163 1 0 := ⟨by decide +kernel, by decide, (RX1, TX1, 7), rfl, Or.inr ⟨"KeyDesk", (nw_1 (i := 151) (by decide +kernel) rfl)⟩⟩
theorem fl_X11_251 : FL RX11 251 9 8 := ⟨by decide +kernel, by decide, (RX9, TX9, 14), rfl, Or.inr ⟨"KeyDesk", (nw_1 (i := 210) (by decide +kernel) rfl)⟩⟩
theorem fl_X11_254 : FL RX11 254 9 3 := ⟨by decide +kernel, by decide, (RX9, TX9, 14), rfl, Or.inr ⟨"KeyDesk", (nw_1 (i := 194) (by decide +kernel) rfl)⟩⟩
theorem fl_X11_257 : FL RX11 257 9 1 := ⟨by decide +kernel, by decide, (RX9, TX9, 14), rfl, Or.inr ⟨"KeyDesk", (nw_1 (i := 189) (by decide +kernel) rfl)⟩⟩
theorem fl_X11_185 : FL RX11 185 2 2 := ⟨by decide +kernel, by decide, (RX2, TX2, 3), rfl, Or.inr ⟨"KeyDesk", (nw_2 (i := 28) (by decide +kernel) rfl)⟩⟩
theorem fl_X11_13 : FL RX11 13 11 1 := ⟨by decide +kernel, by decide, (RX11, TX11, 12), rfl, Or.inl (gw_2 (i := 123) (by decide +kernel) rfl)⟩
theorem fl_X11_191 : FL RX11 191 9 2 := ⟨by decide +kernel, by decide, (RX9, TX9, 14), rfl, Or.inr ⟨"KeyDesk", (nw_1 (i := 191) (by decide +kernel) rfl)⟩⟩
theorem fl_X11_260 : FL RX11 260 1 4 := ⟨by decide +kernel, by decide, (RX1, TX1, 7), rfl, Or.inr ⟨"KeyDesk", (nw_1 (i := 162) (by decide +kernel) rfl)⟩⟩
theorem fl_X11_263 : FL RX11 263 1 5 := ⟨by decide +kernel, by decide, (RX1, TX1, 7), rfl, Or.inr ⟨"KeyDesk", (nw_1 (i := 164) (by decide +kernel) rfl)⟩⟩
theorem fl_X11_266 : FL RX11 266 1 6 := ⟨by decide +kernel, by decide, (RX1, TX1, 7), rfl, Or.inr ⟨"KeyDesk", (nw_1 (i := 166) (by decide +kernel) rfl)⟩⟩
theorem lk_X11_80 : LK RX11 80 mX11_tapeFour := Or.inl (gw_2 (i := 163) (by decide +kernel) rfl)
theorem lk_X11_175 : LK RX11 175 mX3_has := Or.inl (gw_4 (i := 42) (by decide +kernel) rfl)
theorem fl_X11_69 : FL RX11 69 11 10 := ⟨by decide +kernel, by decide, (RX11, TX11, 12), rfl, Or.inl (gw_2 (i := 132) (by decide +kernel) rfl)⟩
theorem lk_X11_268 : LK RX11 268 mX8_clear := Or.inl (gw_4 (i := 132) (by decide +kernel) rfl)
theorem lk_X11_269 : LK RX11 269 mX8_addLedger := Or.inl (gw_4 (i := 137) (by decide +kernel) rfl)
theorem lk_X11_274 : LK RX11 274 mX8_holdsPlace := Or.inl (gw_4 (i := 155) (by decide +kernel) rfl)
theorem ob_X11_3 : Cond.methodLink RX11 3 Lib.objectInit ∈ goodW ∧ Cond.instanceMethod Lib.objectInit ∈ goodW ∧ Cond.code Lib.objectInit ⟨#[0xb1]⟩ 1 none ∈ goodW := ⟨(gw_1 (i := 27) (by decide +kernel) rfl), (gw_1 (i := 28) (by decide +kernel) rfl), (gw_1 (i := 29) rfl rfl)⟩
theorem fl_X11_9 : FL RX11 9 11 0 := ⟨by decide +kernel, by decide, (RX11, TX11, 12), rfl, Or.inl (gw_2 (i := 122) (by decide +kernel) rfl)⟩
theorem pc_X11_9 : PF mX11_init 9 11 0 := fun q hq => by cases hq; exact Or.inr ⟨rfl, rfl, (gw_2 (i := 122) (by decide +kernel) rfl)⟩
theorem nl_X11_17 : NL RX11 17 6 := ⟨by decide, (RX6, TX6, 1), rfl, (gw_1 (i := 30) (by decide +kernel) rfl), (gw_1 (i := 31) (by decide +kernel) rfl), (gw_1 (i := 2) (by decide +kernel) rfl)⟩
theorem lk_X11_19 : LK RX11 19 mX6_init := Or.inr ⟨"KeyDesk", (nw_1 (i := 32) (by decide +kernel) rfl)⟩
theorem pc_X11_20 : PF mX11_init 20 11 2 := fun q hq => by cases hq; exact Or.inr ⟨rfl, rfl, (gw_2 (i := 124) (by decide +kernel) rfl)⟩
theorem nl_X11_24 : NL RX11 24 7 := ⟨by decide, (RX7, TX7, 5), rfl, (gw_1 (i := 50) (by decide +kernel) rfl), (gw_1 (i := 51) (by decide +kernel) rfl), (gw_1 (i := 3) (by decide +kernel) rfl)⟩
theorem lk_X11_26 : LK RX11 26 mX7_init := Or.inr ⟨"KeyDesk", (nw_1 (i := 52) (by decide +kernel) rfl)⟩
theorem fl_X11_27 : FL RX11 27 11 3 := ⟨by decide +kernel, by decide, (RX11, TX11, 12), rfl, Or.inl (gw_2 (i := 125) (by decide +kernel) rfl)⟩
theorem pc_X11_27 : PF mX11_init 27 11 3 := fun q hq => by cases hq; exact Or.inr ⟨rfl, rfl, (gw_2 (i := 125) (by decide +kernel) rfl)⟩
theorem nl_X11_31 : NL RX11 31 9 := ⟨by decide, (RX9, TX9, 14), rfl, (gw_1 (i := 75) (by decide +kernel) rfl), (gw_1 (i := 76) (by decide +kernel) rfl), (gw_1 (i := 4) (by decide +kernel) rfl)⟩
theorem lk_X11_33 : LK RX11 33 mX9_init := Or.inr ⟨"KeyDesk", (nw_1 (i := 77) (by decide +kernel) rfl)⟩
theorem pc_X11_34 : PF mX11_init 34 11 4 := fun q hq => by cases hq; exact Or.inr ⟨rfl, rfl, (gw_2 (i := 126) (by decide +kernel) rfl)⟩
theorem nl_X11_38 : NL RX11 38 2 := ⟨by decide, (RX2, TX2, 3), rfl, (gw_2 (i := 16) (by decide +kernel) rfl), (gw_2 (i := 17) (by decide +kernel) rfl), (gw_1 (i := 8) (by decide +kernel) rfl)⟩
theorem lk_X11_40 : LK RX11 40 mX2_init := Or.inl (gw_2 (i := 18) (by decide +kernel) rfl)
theorem pc_X11_41 : PF mX11_init 41 11 5 := fun q hq => by cases hq; exact Or.inr ⟨rfl, rfl, (gw_2 (i := 127) (by decide +kernel) rfl)⟩
theorem cl_X11_31 : Cond.classLink RX11 31 "KeyDesk$State" ∈ goodW := (gw_1 (i := 75) (by decide +kernel) rfl)
theorem pc_X11_45 : PF mX11_init 45 11 6 := fun q hq => by cases hq; exact Or.inr ⟨rfl, rfl, (gw_2 (i := 128) (by decide +kernel) rfl)⟩
theorem pc_X11_49 : PF mX11_init 49 11 7 := fun q hq => by cases hq; exact Or.inr ⟨rfl, rfl, (gw_2 (i := 129) (by decide +kernel) rfl)⟩
theorem nl_X11_52 : NL RX11 52 5 := ⟨by decide, (RX5, TX5, 6), rfl, (gw_2 (i := 36) (by decide +kernel) rfl), (gw_2 (i := 37) (by decide +kernel) rfl), (gw_1 (i := 9) (by decide +kernel) rfl)⟩
theorem lk_X11_54 : LK RX11 54 mX5_init := Or.inr ⟨"KeyDesk", (nw_2 (i := 38) (by decide +kernel) rfl)⟩
theorem fl_X11_55 : FL RX11 55 11 8 := ⟨by decide +kernel, by decide, (RX11, TX11, 12), rfl, Or.inl (gw_2 (i := 130) (by decide +kernel) rfl)⟩
theorem pc_X11_55 : PF mX11_init 55 11 8 := fun q hq => by cases hq; exact Or.inr ⟨rfl, rfl, (gw_2 (i := 130) (by decide +kernel) rfl)⟩
theorem nl_X11_59 : NL RX11 59 0 := ⟨by decide, (RX0, TX0, 2), rfl, (gw_2 (i := 61) (by decide +kernel) rfl), (gw_2 (i := 62) (by decide +kernel) rfl), (gw_1 (i := 10) (by decide +kernel) rfl)⟩
theorem lk_X11_61 : LK RX11 61 mX0_init := Or.inr ⟨"KeyDesk", (nw_2 (i := 63) (by decide +kernel) rfl)⟩
theorem pc_X11_62 : PF mX11_init 62 11 9 := fun q hq => by cases hq; exact Or.inr ⟨rfl, rfl, (gw_2 (i := 131) (by decide +kernel) rfl)⟩
theorem nl_X11_66 : NL RX11 66 8 := ⟨by decide, (RX8, TX8, 4), rfl, (gw_2 (i := 74) (by decide +kernel) rfl), (gw_2 (i := 75) (by decide +kernel) rfl), (gw_1 (i := 11) (by decide +kernel) rfl)⟩
theorem lk_X11_68 : LK RX11 68 mX8_init := Or.inr ⟨"KeyDesk", (nw_2 (i := 76) (by decide +kernel) rfl)⟩
theorem pc_X11_69 : PF mX11_init 69 11 10 := fun q hq => by cases hq; exact Or.inr ⟨rfl, rfl, (gw_2 (i := 132) (by decide +kernel) rfl)⟩
theorem nl_X11_73 : NL RX11 73 10 := ⟨by decide, (RX10, TX10, 4), rfl, (gw_2 (i := 94) (by decide +kernel) rfl), (gw_2 (i := 95) (by decide +kernel) rfl), (gw_1 (i := 12) (by decide +kernel) rfl)⟩
theorem lk_X11_75 : LK RX11 75 mX10_init := Or.inr ⟨"KeyDesk", (nw_2 (i := 96) (by decide +kernel) rfl)⟩
theorem pc_X11_76 : PF mX11_init 76 11 11 := fun q hq => by cases hq; exact Or.inr ⟨rfl, rfl, (gw_2 (i := 133) (by decide +kernel) rfl)⟩
theorem lk_X11_214 : LK RX11 214 mX4_has := Or.inl (gw_4 (i := 81) (by decide +kernel) rfl)
theorem lk_X11_229 : LK RX11 229 mX4_holds := Or.inl (gw_4 (i := 107) (by decide +kernel) rfl)
theorem fl_X11_198 : FL RX11 198 3 1 := ⟨by decide +kernel, by decide, (RX3, TX3, 4), rfl, Or.inr ⟨"KeyDesk", (nw_1 (i := 96) (by decide +kernel) rfl)⟩⟩
theorem fl_X11_201 : FL RX11 201 3 2 := ⟨by decide +kernel, by decide, (RX3, TX3, 4), rfl, Or.inr ⟨"KeyDesk", (nw_1 (i := 100) (by decide +kernel) rfl)⟩⟩
theorem fl_X11_233 : FL RX11 233 1 2 := ⟨by decide +kernel, by decide, (RX1, TX1, 7), rfl, Or.inr ⟨"KeyDesk", (nw_1 (i := 157) (by decide +kernel) rfl)⟩⟩
theorem fl_X11_234 : FL RX11 234 1 3 := ⟨by decide +kernel, by decide, (RX1, TX1, 7), rfl, Or.inr ⟨"KeyDesk", (nw_1 (i := 160) (by decide +kernel) rfl)⟩⟩
theorem fl_X11_217 : FL RX11 217 4 1 := ⟨by decide +kernel, by decide, (RX4, TX4, 4), rfl, Or.inr ⟨"KeyDesk", (nw_1 (i := 126) (by decide +kernel) rfl)⟩⟩
theorem lk_X11_220 : LK RX11 220 mX4_places := Or.inl (gw_4 (i := 85) (by decide +kernel) rfl)
theorem fl_X11_223 : FL RX11 223 4 2 := ⟨by decide +kernel, by decide, (RX4, TX4, 4), rfl, Or.inr ⟨"KeyDesk", (nw_1 (i := 128) (by decide +kernel) rfl)⟩⟩
theorem lk_X11_226 : LK RX11 226 mX4_least := Or.inl (gw_4 (i := 95) (by decide +kernel) rfl)
theorem ml_X11_315 : ML RX11 315 := ⟨(gw_3 (i := 181) (by decide +kernel) rfl), (gw_2 (i := 180) (by decide +kernel) rfl), (gw_1 (i := 14) (by decide +kernel) rfl), (gw_2 (i := 181) rfl rfl)⟩
theorem lk_X11_309 : LK RX11 309 mX10_greatestNoise := Or.inl (gw_5 (i := 5) (by decide +kernel) rfl)
theorem lk_X11_207 : LK RX11 207 mX9_ordered := Or.inl (gw_4 (i := 76) (by decide +kernel) rfl)
theorem lk_X11_142 : LK RX11 142 mX5_runPass := Or.inl (gw_3 (i := 161) (by decide +kernel) rfl)
theorem lk_X11_84 : LK RX11 84 mX7_read := Or.inl (gw_2 (i := 175) (by decide +kernel) rfl)
theorem fl_X11_88 : FL RX11 88 7 0 := ⟨by decide +kernel, by decide, (RX7, TX7, 5), rfl, Or.inr ⟨"KeyDesk", (nw_1 (i := 59) (by decide +kernel) rfl)⟩⟩
theorem lk_X11_91 : LK RX11 91 mX6_takeFrom := Or.inl (gw_3 (i := 48) (by decide +kernel) rfl)
theorem lk_X11_95 : LK RX11 95 mX9_clear := Or.inl (gw_3 (i := 52) (by decide +kernel) rfl)
theorem lk_X11_99 : LK RX11 99 mJ7_fill_53178 := Or.inl (gw_3 (i := 64) (by decide +kernel) rfl)
theorem fl_X11_273 : FL RX11 273 8 3 := ⟨by decide +kernel, by decide, (RX8, TX8, 4), rfl, Or.inr ⟨"KeyDesk", (nw_2 (i := 84) (by decide +kernel) rfl)⟩⟩
theorem lk_X11_298 : LK RX11 298 mX10_roundsTillAlike := Or.inl (gw_4 (i := 205) (by decide +kernel) rfl)
theorem lk_X11_129 : LK RX11 129 mX0_tellSample := Or.inl (gw_3 (i := 130) (by decide +kernel) rfl)
theorem lk_X11_283 : LK RX11 283 mX8_addKnown := Or.inl (gw_4 (i := 176) (by decide +kernel) rfl)
theorem lk_X11_287 : LK RX11 287 mX8_addFinals := Or.inl (gw_4 (i := 180) (by decide +kernel) rfl)
theorem lk_X11_305 : LK RX11 305 mX10_overSeeds := Or.inl (gw_4 (i := 225) (by decide +kernel) rfl)
theorem lk_X11_168 : LK RX11 168 mX1_left := Or.inl (gw_4 (i := 30) (by decide +kernel) rfl)
theorem lk_X11_172 : LK RX11 172 mX1_useByte := Or.inl (gw_4 (i := 34) (by decide +kernel) rfl)
theorem lk_X11_156 : LK RX11 156 mX0_drawFinal := Or.inl (gw_4 (i := 22) (by decide +kernel) rfl)
theorem lk_X11_194 : LK RX11 194 mX9_mark := Or.inl (gw_4 (i := 60) (by decide +kernel) rfl)
theorem lk_X11_179 : LK RX11 179 mX3_turn := Or.inl (gw_4 (i := 43) (by decide +kernel) rfl)
theorem lk_X11_277 : LK RX11 277 mX3_knownPlaces := Or.inl (gw_4 (i := 168) (by decide +kernel) rfl)
theorem fl_X11_280 : FL RX11 280 3 3 := ⟨by decide +kernel, by decide, (RX3, TX3, 4), rfl, Or.inr ⟨"KeyDesk", (nw_1 (i := 103) (by decide +kernel) rfl)⟩⟩
theorem lk_X11_188 : LK RX11 188 mX2_giveBack := Or.inl (gw_4 (i := 52) (by decide +kernel) rfl)
theorem fl_X11_146 : FL RX11 146 9 7 := ⟨by decide +kernel, by decide, (RX9, TX9, 14), rfl, Or.inr ⟨"KeyDesk", (nw_1 (i := 207) (by decide +kernel) rfl)⟩⟩
theorem lk_X11_149 : LK RX11 149 mX5_winnowEights := Or.inl (gw_3 (i := 229) (by decide +kernel) rfl)
theorem lk_X11_291 : LK RX11 291 mX10_runPasses := Or.inl (gw_4 (i := 189) (by decide +kernel) rfl)
theorem fl_X11_295 : FL RX11 295 10 0 := ⟨by decide +kernel, by decide, (RX10, TX10, 4), rfl, Or.inr ⟨"KeyDesk", (nw_2 (i := 109) (by decide +kernel) rfl)⟩⟩
theorem fl_X12_58 : FL RX12 58 12 20 := ⟨by decide +kernel, by decide, (RX12, TX12, 24), rfl, Or.inl (gw_5 (i := 55) (by decide +kernel) rfl)⟩
theorem fl_X12_37 : FL RX12 37 12 11 := ⟨by decide +kernel, by decide, (RX12, TX12, 24), rfl, Or.inl (gw_5 (i := 46) (by decide +kernel) rfl)⟩
theorem lk_X12_161 : LK RX12 161 mX12_parityOf := Or.inl (gw_5 (i := 236) (by decide +kernel) rfl)
theorem lk_X12_165 : LK RX12 165 mX12_tells := Or.inl (gw_6 (i := 0) (by decide +kernel) rfl)
theorem lk_X12_169 : LK RX12 169 mX12_isUnlike := Or.inl (gw_6 (i := 4) (by decide +kernel) rfl)
theorem lk_X12_207 : LK RX12 207 mX12_parityOfEight := Or.inl (gw_6 (i := 28) (by decide +kernel) rfl)
theorem lk_X12_76 : LK RX12 76 mX12_isIn1 := Or.inl (gw_5 (i := 117) (by decide +kernel) rfl)
theorem fl_X12_51 : FL RX12 51 12 15 := ⟨by decide +kernel, by decide, (RX12, TX12, 24), rfl, Or.inl (gw_5 (i := 50) (by decide +kernel) rfl)⟩
theorem fl_X12_48 : FL RX12 48 12 14 := ⟨by decide +kernel, by decide, (RX12, TX12, 24), rfl, Or.inl (gw_5 (i := 49) (by decide +kernel) rfl)⟩
theorem lk_X12_123 : LK RX12 123 mX12_copies := Or.inl (gw_5 (i := 162) (by decide +kernel) rfl)
theorem fl_X12_118 : FL RX12 118 12 16 := ⟨by decide +kernel, by decide, (RX12, TX12, 24), rfl, Or.inl (gw_5 (i := 51) (by decide +kernel) rfl)⟩
theorem fl_X12_64 : FL RX12 64 12 22 := ⟨by decide +kernel, by decide, (RX12, TX12, 24), rfl, Or.inl (gw_5 (i := 57) (by decide +kernel) rfl)⟩
theorem fl_X12_275 : FL RX12 275 12 23 := ⟨by decide +kernel, by decide, (RX12, TX12, 24), rfl, Or.inl (gw_5 (i := 58) (by decide +kernel) rfl)⟩
theorem lk_X12_149 : LK RX12 149 mX12_keepsAct := Or.inl (gw_5 (i := 169) (by decide +kernel) rfl)
theorem fl_X12_27 : FL RX12 27 12 6 := ⟨by decide +kernel, by decide, (RX12, TX12, 24), rfl, Or.inl (gw_5 (i := 41) (by decide +kernel) rfl)⟩
theorem lk_X12_152 : LK RX12 152 mX12_beginsBy := Or.inl (gw_5 (i := 173) (by decide +kernel) rfl)
theorem lk_X12_70 : LK RX12 70 mX12_begins := Or.inl (gw_5 (i := 31) (by decide +kernel) rfl)
theorem lk_X12_142 : LK RX12 142 mX12_sends := Or.inl (gw_5 (i := 177) (by decide +kernel) rfl)
theorem lk_X12_146 : LK RX12 146 mX12_isSifted := Or.inl (gw_5 (i := 189) (by decide +kernel) rfl)
theorem lk_X12_138 : LK RX12 138 mX12_ofSignal := Or.inl (gw_5 (i := 193) (by decide +kernel) rfl)
theorem lk_X12_305 : LK RX12 305 mX12_keepsAside := Or.inl (gw_6 (i := 202) (by decide +kernel) rfl)
theorem lk_X12_311 : LK RX12 311 mX12_toldBy := Or.inl (gw_6 (i := 214) (by decide +kernel) rfl)
theorem lk_X12_245 : LK RX12 245 mX12_isPass := Or.inl (gw_6 (i := 95) (by decide +kernel) rfl)
theorem cn_X12_301 : Cond.constantLong RX12 301 (oL (2)) ∈ goodW := (gw_6 (i := 192) (by decide +kernel) rfl)
theorem lk_X12_179 : LK RX12 179 mX12_blockOf := Or.inl (gw_5 (i := 228) (by decide +kernel) rfl)
theorem lk_X12_182 : LK RX12 182 mX12_longOf := Or.inl (gw_5 (i := 224) (by decide +kernel) rfl)
theorem fl_X12_54 : FL RX12 54 12 17 := ⟨by decide +kernel, by decide, (RX12, TX12, 24), rfl, Or.inl (gw_5 (i := 52) (by decide +kernel) rfl)⟩
theorem fl_X12_73 : FL RX12 73 12 1 := ⟨by decide +kernel, by decide, (RX12, TX12, 24), rfl, Or.inl (gw_5 (i := 36) (by decide +kernel) rfl)⟩
theorem fl_X12_7 : FL RX12 7 12 0 := ⟨by decide +kernel, by decide, (RX12, TX12, 24), rfl, Or.inl (gw_5 (i := 35) (by decide +kernel) rfl)⟩
theorem lk_X12_201 : LK RX12 201 mX12_isMending := Or.inl (gw_5 (i := 212) (by decide +kernel) rfl)
theorem lk_X12_221 : LK RX12 221 mX12_checks := Or.inl (gw_6 (i := 36) (by decide +kernel) rfl)
theorem lk_X12_214 : LK RX12 214 mX12_drawsRow := Or.inl (gw_6 (i := 40) (by decide +kernel) rfl)
theorem lk_X12_218 : LK RX12 218 mX12_parityByRow := Or.inl (gw_6 (i := 44) (by decide +kernel) rfl)
theorem lk_X12_237 : LK RX12 237 mX12_unlikeMany := Or.inl (gw_6 (i := 74) (by decide +kernel) rfl)
theorem lk_X12_325 : LK RX12 325 mX12_spiedSignals := Or.inl (gw_7 (i := 15) (by decide +kernel) rfl)
theorem lk_X12_240 : LK RX12 240 mX12_signalMany := Or.inl (gw_6 (i := 82) (by decide +kernel) rfl)
theorem cn_X12_127 : Cond.constantLong RX12 127 (oL (1103515245)) ∈ goodW := (gw_5 (i := 185) (by decide +kernel) rfl)
theorem cn_X12_129 : Cond.constantLong RX12 129 (oL (12345)) ∈ goodW := (gw_5 (i := 186) (by decide +kernel) rfl)
theorem cn_X12_131 : Cond.constantLong RX12 131 (oL (2147483648)) ∈ goodW := (gw_5 (i := 187) (by decide +kernel) rfl)
theorem cn_X12_133 : Cond.constantLong RX12 133 (oL (65536)) ∈ goodW := (gw_5 (i := 188) (by decide +kernel) rfl)
theorem lk_X12_135 : LK RX12 135 mX12_draw := Or.inl (gw_5 (i := 181) (by decide +kernel) rfl)
theorem fl_X12_80 : FL RX12 80 12 10 := ⟨by decide +kernel, by decide, (RX12, TX12, 24), rfl, Or.inl (gw_5 (i := 45) (by decide +kernel) rfl)⟩
theorem fl_X12_185 : FL RX12 185 12 18 := ⟨by decide +kernel, by decide, (RX12, TX12, 24), rfl, Or.inl (gw_5 (i := 53) (by decide +kernel) rfl)⟩
theorem fl_X12_188 : FL RX12 188 12 19 := ⟨by decide +kernel, by decide, (RX12, TX12, 24), rfl, Or.inl (gw_5 (i := 54) (by decide +kernel) rfl)⟩
theorem lk_X12_232 : LK RX12 232 mX12_isPlace := Or.inl (gw_6 (i := 69) (by decide +kernel) rfl)
theorem lk_X12_293 : LK RX12 293 mX12_rank := Or.inl (gw_6 (i := 167) (by decide +kernel) rfl)
theorem lk_X12_295 : LK RX12 295 mX12_isFixed := Or.inl (gw_6 (i := 168) (by decide +kernel) rfl)
theorem lk_X12_158 : LK RX12 158 mX12_samples := Or.inl (gw_5 (i := 201) (by decide +kernel) rfl)
theorem lk_X12_204 : LK RX12 204 mX12_passes := Or.inl (gw_5 (i := 216) (by decide +kernel) rfl)
theorem lk_X12_224 : LK RX12 224 mX12_shortens := Or.inl (gw_6 (i := 52) (by decide +kernel) rfl)
theorem lk_X12_173 : LK RX12 173 mX12_asks := Or.inl (gw_5 (i := 232) (by decide +kernel) rfl)
theorem lk_X12_176 : LK RX12 176 mX12_mends := Or.inl (gw_6 (i := 12) (by decide +kernel) rfl)
theorem ob_X12_1 : Cond.methodLink RX12 1 Lib.objectInit ∈ goodW ∧ Cond.instanceMethod Lib.objectInit ∈ goodW ∧ Cond.code Lib.objectInit ⟨#[0xb1]⟩ 1 none ∈ goodW := ⟨(gw_5 (i := 23) (by decide +kernel) rfl), (gw_1 (i := 28) (by decide +kernel) rfl), (gw_1 (i := 29) rfl rfl)⟩
theorem pc_X12_7 : PF mX12_init 7 12 0 := fun q hq => by cases hq; exact Or.inr ⟨rfl, rfl, (gw_5 (i := 35) (by decide +kernel) rfl)⟩
theorem fl_X12_13 : FL RX12 13 12 2 := ⟨by decide +kernel, by decide, (RX12, TX12, 24), rfl, Or.inl (gw_5 (i := 37) (by decide +kernel) rfl)⟩
theorem pc_X12_13 : PF mX12_init 13 12 2 := fun q hq => by cases hq; exact Or.inr ⟨rfl, rfl, (gw_5 (i := 37) (by decide +kernel) rfl)⟩
theorem fl_X12_16 : FL RX12 16 12 3 := ⟨by decide +kernel, by decide, (RX12, TX12, 24), rfl, Or.inl (gw_5 (i := 38) (by decide +kernel) rfl)⟩
theorem pc_X12_16 : PF mX12_init 16 12 3 := fun q hq => by cases hq; exact Or.inr ⟨rfl, rfl, (gw_5 (i := 38) (by decide +kernel) rfl)⟩
theorem cn_X12_20 : Cond.constant RX12 20 (oI (99999)) ∈ goodW := (gw_5 (i := 24) (by decide +kernel) rfl)
theorem fl_X12_21 : FL RX12 21 12 4 := ⟨by decide +kernel, by decide, (RX12, TX12, 24), rfl, Or.inl (gw_5 (i := 39) (by decide +kernel) rfl)⟩
theorem pc_X12_21 : PF mX12_init 21 12 4 := fun q hq => by cases hq; exact Or.inr ⟨rfl, rfl, (gw_5 (i := 39) (by decide +kernel) rfl)⟩
theorem fl_X12_24 : FL RX12 24 12 5 := ⟨by decide +kernel, by decide, (RX12, TX12, 24), rfl, Or.inl (gw_5 (i := 40) (by decide +kernel) rfl)⟩
theorem pc_X12_24 : PF mX12_init 24 12 5 := fun q hq => by cases hq; exact Or.inr ⟨rfl, rfl, (gw_5 (i := 40) (by decide +kernel) rfl)⟩
theorem pc_X12_27 : PF mX12_init 27 12 6 := fun q hq => by cases hq; exact Or.inr ⟨rfl, rfl, (gw_5 (i := 41) (by decide +kernel) rfl)⟩
theorem fl_X12_30 : FL RX12 30 12 7 := ⟨by decide +kernel, by decide, (RX12, TX12, 24), rfl, Or.inl (gw_5 (i := 42) (by decide +kernel) rfl)⟩
theorem pc_X12_30 : PF mX12_init 30 12 7 := fun q hq => by cases hq; exact Or.inr ⟨rfl, rfl, (gw_5 (i := 42) (by decide +kernel) rfl)⟩
theorem fl_X12_33 : FL RX12 33 12 8 := ⟨by decide +kernel, by decide, (RX12, TX12, 24), rfl, Or.inl (gw_5 (i := 43) (by decide +kernel) rfl)⟩
theorem pc_X12_33 : PF mX12_init 33 12 8 := fun q hq => by cases hq; exact Or.inr ⟨rfl, rfl, (gw_5 (i := 43) (by decide +kernel) rfl)⟩
theorem pc_X12_37 : PF mX12_init 37 12 11 := fun q hq => by cases hq; exact Or.inr ⟨rfl, rfl, (gw_5 (i := 46) (by decide +kernel) rfl)⟩
theorem fl_X12_40 : FL RX12 40 12 12 := ⟨by decide +kernel, by decide, (RX12, TX12, 24), rfl, Or.inl (gw_5 (i := 47) (by decide +kernel) rfl)⟩
theorem pc_X12_40 : PF mX12_init 40 12 12 := fun q hq => by cases hq; exact Or.inr ⟨rfl, rfl, (gw_5 (i := 47) (by decide +kernel) rfl)⟩
theorem cn_X12_43 : Cond.constant RX12 43 (oI (210120)) ∈ goodW := (gw_5 (i := 25) (by decide +kernel) rfl)
theorem fl_X12_44 : FL RX12 44 12 13 := ⟨by decide +kernel, by decide, (RX12, TX12, 24), rfl, Or.inl (gw_5 (i := 48) (by decide +kernel) rfl)⟩
theorem pc_X12_44 : PF mX12_init 44 12 13 := fun q hq => by cases hq; exact Or.inr ⟨rfl, rfl, (gw_5 (i := 48) (by decide +kernel) rfl)⟩
theorem cn_X12_47 : Cond.constant RX12 47 (oI (35020)) ∈ goodW := (gw_5 (i := 26) (by decide +kernel) rfl)
theorem pc_X12_48 : PF mX12_init 48 12 14 := fun q hq => by cases hq; exact Or.inr ⟨rfl, rfl, (gw_5 (i := 49) (by decide +kernel) rfl)⟩
theorem pc_X12_51 : PF mX12_init 51 12 15 := fun q hq => by cases hq; exact Or.inr ⟨rfl, rfl, (gw_5 (i := 50) (by decide +kernel) rfl)⟩
theorem pc_X12_58 : PF mX12_init 58 12 20 := fun q hq => by cases hq; exact Or.inr ⟨rfl, rfl, (gw_5 (i := 55) (by decide +kernel) rfl)⟩
theorem fl_X12_61 : FL RX12 61 12 21 := ⟨by decide +kernel, by decide, (RX12, TX12, 24), rfl, Or.inl (gw_5 (i := 56) (by decide +kernel) rfl)⟩
theorem pc_X12_61 : PF mX12_init 61 12 21 := fun q hq => by cases hq; exact Or.inr ⟨rfl, rfl, (gw_5 (i := 56) (by decide +kernel) rfl)⟩
theorem pc_X12_64 : PF mX12_init 64 12 22 := fun q hq => by cases hq; exact Or.inr ⟨rfl, rfl, (gw_5 (i := 57) (by decide +kernel) rfl)⟩
theorem lk_X12_67 : LK RX12 67 mX12_setsPlain := Or.inl (gw_5 (i := 27) (by decide +kernel) rfl)
theorem lk_X12_290 : LK RX12 290 mX12_laysOne := Or.inl (gw_6 (i := 172) (by decide +kernel) rfl)
theorem lk_X12_278 : LK RX12 278 mX12_reduces := Or.inl (gw_6 (i := 159) (by decide +kernel) rfl)
theorem lk_X12_316 : LK RX12 316 mX12_goesAll := Or.inl (gw_6 (i := 223) (by decide +kernel) rfl)
theorem lk_X12_319 : LK RX12 319 mX12_areLastAlike := Or.inl (gw_6 (i := 227) (by decide +kernel) rfl)
theorem lk_X12_263 : LK RX12 263 mX12_isTold := Or.inl (gw_6 (i := 103) (by decide +kernel) rfl)
theorem lk_X12_266 : LK RX12 266 mX12_laysSet := Or.inl (gw_6 (i := 107) (by decide +kernel) rfl)
theorem lk_X12_260 : LK RX12 260 mX12_isInSet := Or.inl (gw_6 (i := 131) (by decide +kernel) rfl)
theorem lk_X12_248 : LK RX12 248 mX12_adds := Or.inl (gw_6 (i := 119) (by decide +kernel) rfl)
theorem lk_X12_251 : LK RX12 251 mX12_toldPart := Or.inl (gw_6 (i := 111) (by decide +kernel) rfl)
theorem lk_X12_254 : LK RX12 254 mX12_toldKind := Or.inl (gw_6 (i := 115) (by decide +kernel) rfl)
theorem lk_X12_257 : LK RX12 257 mX12_laysRowSet := Or.inl (gw_6 (i := 123) (by decide +kernel) rfl)
theorem cn_X12_235 : Cond.constantLong RX12 235 (oL (3)) ∈ goodW := (gw_6 (i := 73) (by decide +kernel) rfl)
theorem lk_X12_269 : LK RX12 269 mX12_setMany := Or.inl (gw_6 (i := 127) (by decide +kernel) rfl)
theorem lk_X12_272 : LK RX12 272 mX12_leastInSet := Or.inl (gw_6 (i := 135) (by decide +kernel) rfl)
theorem fl_X12_83 : FL RX12 83 12 9 := ⟨by decide +kernel, by decide, (RX12, TX12, 24), rfl, Or.inl (gw_5 (i := 44) (by decide +kernel) rfl)⟩
theorem lk_X12_86 : LK RX12 86 mX12_byteAt := Or.inl (gw_5 (i := 136) (by decide +kernel) rfl)
theorem cn_X12_314 : Cond.constantLong RX12 314 (oL (20)) ∈ goodW := (gw_6 (i := 222) (by decide +kernel) rfl)
theorem lk_X12_322 : LK RX12 322 mX12_isGoodBy := Or.inl (gw_6 (i := 235) (by decide +kernel) rfl)
theorem lk_X12_308 : LK RX12 308 mX12_laysBack := Or.inl (gw_6 (i := 206) (by decide +kernel) rfl)
theorem lk_X12_191 : LK RX12 191 mX12_shuffles := Or.inl (gw_5 (i := 220) (by decide +kernel) rfl)
theorem lk_X12_194 : LK RX12 194 mX12_halves := Or.inl (gw_6 (i := 8) (by decide +kernel) rfl)
theorem lk_X12_198 : LK RX12 198 mX12_finds := Or.inl (gw_6 (i := 16) (by decide +kernel) rfl)
theorem lk_X12_114 : LK RX12 114 mX12_readsLine := Or.inl (gw_5 (i := 124) (by decide +kernel) rfl)
theorem lk_X12_90 : LK RX12 90 mX12_next := Or.inl (gw_5 (i := 132) (by decide +kernel) rfl)
theorem lk_X12_101 : LK RX12 101 mX12_fails := Or.inl (gw_5 (i := 143) (by decide +kernel) rfl)
theorem lk_X12_284 : LK RX12 284 mX12_basesNone := Or.inl (gw_6 (i := 147) (by decide +kernel) rfl)
theorem lk_X12_287 : LK RX12 287 mX12_takesLedger := Or.inl (gw_6 (i := 151) (by decide +kernel) rfl)
theorem lk_X12_98 : LK RX12 98 mX12_wordHere := Or.inl (gw_5 (i := 128) (by decide +kernel) rfl)
theorem lk_X12_94 : LK RX12 94 mX12_isLetter := Or.inl (gw_5 (i := 140) (by decide +kernel) rfl)
theorem lk_X12_105 : LK RX12 105 mX12_isDigit := Or.inl (gw_5 (i := 147) (by decide +kernel) rfl)
theorem cn_X12_108 : Cond.constantLong RX12 108 (oL (999999)) ∈ goodW := (gw_5 (i := 150) (by decide +kernel) rfl)
theorem cn_X12_110 : Cond.constantLong RX12 110 (oL (10)) ∈ goodW := (gw_5 (i := 151) (by decide +kernel) rfl)
theorem cn_X12_112 : Cond.constantLong RX12 112 (oL (48)) ∈ goodW := (gw_5 (i := 152) (by decide +kernel) rfl)
theorem lk_X12_155 : LK RX12 155 mX12_root := Or.inl (gw_5 (i := 205) (by decide +kernel) rfl)
theorem lk_X12_298 : LK RX12 298 mX12_isSpied := Or.inl (gw_6 (i := 184) (by decide +kernel) rfl)
theorem lk_X12_281 : LK RX12 281 mX12_takesSet := Or.inl (gw_6 (i := 155) (by decide +kernel) rfl)
theorem cn_X12_227 : Cond.constantLong RX12 227 (oL (255)) ∈ goodW := (gw_6 (i := 60) (by decide +kernel) rfl)
theorem lk_X12_229 : LK RX12 229 mX12_byteOf := Or.inl (gw_6 (i := 61) (by decide +kernel) rfl)
theorem cn_X12_121 : Cond.constantLong RX12 121 (oL (8)) ∈ goodW := (gw_5 (i := 157) (by decide +kernel) rfl)
theorem cn_X12_243 : Cond.constantLong RX12 243 (oL (5)) ∈ goodW := (gw_6 (i := 86) (by decide +kernel) rfl)
theorem lk_X12_211 : LK RX12 211 mX12_asksEight := Or.inl (gw_6 (i := 24) (by decide +kernel) rfl)
theorem cn_X12_303 : Cond.constantLong RX12 303 (oL (6)) ∈ goodW := (gw_6 (i := 201) (by decide +kernel) rfl)
theorem fl_X1_9 : FL RX1 9 1 0 := ⟨by decide +kernel, by decide, (RX1, TX1, 7), rfl, Or.inl (gw_1 (i := 147) (by decide +kernel) rfl)⟩
theorem fl_X1_19 : FL RX1 19 1 2 := ⟨by decide +kernel, by decide, (RX1, TX1, 7), rfl, Or.inl (gw_1 (i := 155) (by decide +kernel) rfl)⟩
theorem fl_X1_22 : FL RX1 22 1 3 := ⟨by decide +kernel, by decide, (RX1, TX1, 7), rfl, Or.inl (gw_1 (i := 158) (by decide +kernel) rfl)⟩
theorem fl_X1_25 : FL RX1 25 1 4 := ⟨by decide +kernel, by decide, (RX1, TX1, 7), rfl, Or.inl (gw_1 (i := 161) (by decide +kernel) rfl)⟩
theorem fl_X1_28 : FL RX1 28 1 5 := ⟨by decide +kernel, by decide, (RX1, TX1, 7), rfl, Or.inl (gw_1 (i := 163) (by decide +kernel) rfl)⟩
theorem fl_X1_31 : FL RX1 31 1 6 := ⟨by decide +kernel, by decide, (RX1, TX1, 7), rfl, Or.inl (gw_1 (i := 165) (by decide +kernel) rfl)⟩
theorem ob_X1_3 : Cond.methodLink RX1 3 Lib.objectInit ∈ goodW ∧ Cond.instanceMethod Lib.objectInit ∈ goodW ∧ Cond.code Lib.objectInit ⟨#[0xb1]⟩ 1 none ∈ goodW := ⟨(gw_1 (i := 146) (by decide +kernel) rfl), (gw_1 (i := 28) (by decide +kernel) rfl), (gw_1 (i := 29) rfl rfl)⟩
theorem fl_X1_15 : FL RX1 15 1 1 := ⟨by decide +kernel, by decide, (RX1, TX1, 7), rfl, Or.inl (gw_1 (i := 152) (by decide +kernel) rfl)⟩
theorem pc_X1_15 : PF mX1_init 15 1 1 := fun q hq => by cases hq; exact Or.inr ⟨rfl, rfl, (gw_1 (i := 152) (by decide +kernel) rfl)⟩
theorem pc_X1_19 : PF mX1_init 19 1 2 := fun q hq => by cases hq; exact Or.inr ⟨rfl, rfl, (gw_1 (i := 155) (by decide +kernel) rfl)⟩
theorem pc_X1_22 : PF mX1_init 22 1 3 := fun q hq => by cases hq; exact Or.inr ⟨rfl, rfl, (gw_1 (i := 158) (by decide +kernel) rfl)⟩
theorem ac_X1_34 : AC RX1 34 := ⟨(gw_3 (i := 101) (by decide +kernel) rfl), (gw_2 (i := 188) (by decide +kernel) rfl), (gw_2 (i := 187) (by decide +kernel) rfl), (gw_1 (i := 15) (by decide +kernel) rfl)⟩
theorem fl_X2_21 : FL RX2 21 2 2 := ⟨by decide +kernel, by decide, (RX2, TX2, 3), rfl, Or.inl (gw_2 (i := 27) (by decide +kernel) rfl)⟩
theorem fl_X2_17 : FL RX2 17 2 1 := ⟨by decide +kernel, by decide, (RX2, TX2, 3), rfl, Or.inl (gw_2 (i := 26) (by decide +kernel) rfl)⟩
theorem fl_X2_11 : FL RX2 11 2 0 := ⟨by decide +kernel, by decide, (RX2, TX2, 3), rfl, Or.inl (gw_2 (i := 25) (by decide +kernel) rfl)⟩
theorem lk_X2_25 : LK RX2 25 mX9_takeFrom := Or.inl (gw_3 (i := 82) (by decide +kernel) rfl)
theorem ob_X2_3 : Cond.methodLink RX2 3 Lib.objectInit ∈ goodW ∧ Cond.instanceMethod Lib.objectInit ∈ goodW ∧ Cond.code Lib.objectInit ⟨#[0xb1]⟩ 1 none ∈ goodW := ⟨(gw_2 (i := 21) (by decide +kernel) rfl), (gw_1 (i := 28) (by decide +kernel) rfl), (gw_1 (i := 29) rfl rfl)⟩
theorem cl_X2_9 : Cond.classLink RX2 9 "KeyDesk$State" ∈ goodW := (gw_2 (i := 22) (by decide +kernel) rfl)
theorem pc_X2_11 : PF mX2_init 11 2 0 := fun q hq => by cases hq; exact Or.inr ⟨rfl, rfl, (gw_2 (i := 25) (by decide +kernel) rfl)⟩
theorem nl_X2_9 : NL RX2 9 9 := ⟨by decide, (RX9, TX9, 14), rfl, (gw_2 (i := 22) (by decide +kernel) rfl), (gw_1 (i := 76) (by decide +kernel) rfl), (gw_1 (i := 4) (by decide +kernel) rfl)⟩
theorem lk_X2_24 : LK RX2 24 mX9_init := Or.inr ⟨"KeyDesk", (nw_2 (i := 24) (by decide +kernel) rfl)⟩
theorem ml_X2_29 : ML RX2 29 := ⟨(gw_3 (i := 102) (by decide +kernel) rfl), (gw_2 (i := 180) (by decide +kernel) rfl), (gw_1 (i := 14) (by decide +kernel) rfl), (gw_2 (i := 181) rfl rfl)⟩
theorem fl_X3_9 : FL RX3 9 3 0 := ⟨by decide +kernel, by decide, (RX3, TX3, 4), rfl, Or.inl (gw_1 (i := 87) (by decide +kernel) rfl)⟩
theorem fl_X3_15 : FL RX3 15 3 1 := ⟨by decide +kernel, by decide, (RX3, TX3, 4), rfl, Or.inl (gw_1 (i := 93) (by decide +kernel) rfl)⟩
theorem fl_X3_19 : FL RX3 19 3 2 := ⟨by decide +kernel, by decide, (RX3, TX3, 4), rfl, Or.inl (gw_1 (i := 97) (by decide +kernel) rfl)⟩
theorem fl_X3_22 : FL RX3 22 3 3 := ⟨by decide +kernel, by decide, (RX3, TX3, 4), rfl, Or.inl (gw_1 (i := 101) (by decide +kernel) rfl)⟩
theorem lk_X3_31 : LK RX3 31 mX3_has := Or.inl (gw_3 (i := 138) (by decide +kernel) rfl)
theorem ac_X3_25 : AC RX3 25 := ⟨(gw_3 (i := 91) (by decide +kernel) rfl), (gw_2 (i := 188) (by decide +kernel) rfl), (gw_2 (i := 187) (by decide +kernel) rfl), (gw_1 (i := 15) (by decide +kernel) rfl)⟩
theorem ob_X3_3 : Cond.methodLink RX3 3 Lib.objectInit ∈ goodW ∧ Cond.instanceMethod Lib.objectInit ∈ goodW ∧ Cond.code Lib.objectInit ⟨#[0xb1]⟩ 1 none ∈ goodW := ⟨(gw_1 (i := 86) (by decide +kernel) rfl), (gw_1 (i := 28) (by decide +kernel) rfl), (gw_1 (i := 29) rfl rfl)⟩
theorem pc_X3_15 : PF mX3_init 15 3 1 := fun q hq => by cases hq; exact Or.inr ⟨rfl, rfl, (gw_1 (i := 93) (by decide +kernel) rfl)⟩
theorem pc_X3_19 : PF mX3_init 19 3 2 := fun q hq => by cases hq; exact Or.inr ⟨rfl, rfl, (gw_1 (i := 97) (by decide +kernel) rfl)⟩
theorem pc_X3_22 : PF mX3_init 22 3 3 := fun q hq => by cases hq; exact Or.inr ⟨rfl, rfl, (gw_1 (i := 101) (by decide +kernel) rfl)⟩
theorem fl_X4_9 : FL RX4 9 4 0 := ⟨by decide +kernel, by decide, (RX4, TX4, 4), rfl, Or.inl (gw_1 (i := 119) (by decide +kernel) rfl)⟩
theorem fl_X4_22 : FL RX4 22 4 3 := ⟨by decide +kernel, by decide, (RX4, TX4, 4), rfl, Or.inl (gw_1 (i := 129) (by decide +kernel) rfl)⟩
theorem ob_X4_3 : Cond.methodLink RX4 3 Lib.objectInit ∈ goodW ∧ Cond.instanceMethod Lib.objectInit ∈ goodW ∧ Cond.code Lib.objectInit ⟨#[0xb1]⟩ 1 none ∈ goodW := ⟨(gw_1 (i := 118) (by decide +kernel) rfl), (gw_1 (i := 28) (by decide +kernel) rfl), (gw_1 (i := 29) rfl rfl)⟩
theorem fl_X4_15 : FL RX4 15 4 1 := ⟨by decide +kernel, by decide, (RX4, TX4, 4), rfl, Or.inl (gw_1 (i := 125) (by decide +kernel) rfl)⟩
theorem fl_X4_19 : FL RX4 19 4 2 := ⟨by decide +kernel, by decide, (RX4, TX4, 4), rfl, Or.inl (gw_1 (i := 127) (by decide +kernel) rfl)⟩
theorem lk_X4_47 : LK RX4 47 mX4_holds := Or.inl (gw_4 (i := 99) (by decide +kernel) rfl)
theorem lk_X4_41 : LK RX4 41 mJ13_bitCount_95d88 := Or.inl (gw_4 (i := 89) (by decide +kernel) rfl)
theorem ac_X4_26 : AC RX4 26 := ⟨(gw_3 (i := 96) (by decide +kernel) rfl), (gw_2 (i := 188) (by decide +kernel) rfl), (gw_2 (i := 187) (by decide +kernel) rfl), (gw_1 (i := 15) (by decide +kernel) rfl)⟩
theorem lk_X4_32 : LK RX4 32 mJ7_copyOf_59c91 := Or.inl (gw_3 (i := 198) (by decide +kernel) rfl)
theorem lk_X4_38 : LK RX4 38 mJ7_copyOf_c38d5 := Or.inl (gw_3 (i := 205) (by decide +kernel) rfl)
theorem fl_X5_18 : FL RX5 18 5 2 := ⟨by decide +kernel, by decide, (RX5, TX5, 6), rfl, Or.inl (gw_2 (i := 44) (by decide +kernel) rfl)⟩
theorem lk_X5_92 : LK RX5 92 mJ7_fill_d0a16 := Or.inl (gw_3 (i := 191) (by decide +kernel) rfl)
theorem lk_X5_85 : LK RX5 85 mX9_ordered := Or.inl (gw_3 (i := 182) (by decide +kernel) rfl)
theorem fl_X5_48 : FL RX5 48 9 11 := ⟨by decide +kernel, by decide, (RX9, TX9, 14), rfl, Or.inr ⟨"KeyDesk", (nw_1 (i := 214) (by decide +kernel) rfl)⟩⟩
theorem fl_X5_98 : FL RX5 98 3 1 := ⟨by decide +kernel, by decide, (RX3, TX3, 4), rfl, Or.inr ⟨"KeyDesk", (nw_1 (i := 94) (by decide +kernel) rfl)⟩⟩
theorem fl_X5_101 : FL RX5 101 3 2 := ⟨by decide +kernel, by decide, (RX3, TX3, 4), rfl, Or.inr ⟨"KeyDesk", (nw_1 (i := 98) (by decide +kernel) rfl)⟩⟩
theorem fl_X5_104 : FL RX5 104 9 12 := ⟨by decide +kernel, by decide, (RX9, TX9, 14), rfl, Or.inr ⟨"KeyDesk", (nw_1 (i := 220) (by decide +kernel) rfl)⟩⟩
theorem lk_X5_108 : LK RX5 108 mX4_tell := Or.inl (gw_3 (i := 194) (by decide +kernel) rfl)
theorem lk_X5_124 : LK RX5 124 mX3_has := Or.inl (gw_3 (i := 237) (by decide +kernel) rfl)
theorem fl_X5_52 : FL RX5 52 3 0 := ⟨by decide +kernel, by decide, (RX3, TX3, 4), rfl, Or.inr ⟨"KeyDesk", (nw_1 (i := 89) (by decide +kernel) rfl)⟩⟩
theorem fl_X5_22 : FL RX5 22 5 3 := ⟨by decide +kernel, by decide, (RX5, TX5, 6), rfl, Or.inl (gw_2 (i := 45) (by decide +kernel) rfl)⟩
theorem lk_X5_61 : LK RX5 61 mX11_lengthOf := Or.inr ⟨"KeyDesk", (nw_3 (i := 178) (by decide +kernel) rfl)⟩
theorem lk_X5_65 : LK RX5 65 mX5_ask := Or.inl (gw_3 (i := 187) (by decide +kernel) rfl)
theorem lk_X5_114 : LK RX5 114 mX3_turn := Or.inl (gw_3 (i := 217) (by decide +kernel) rfl)
theorem fl_X5_37 : FL RX5 37 9 8 := ⟨by decide +kernel, by decide, (RX9, TX9, 14), rfl, Or.inr ⟨"KeyDesk", (nw_1 (i := 209) (by decide +kernel) rfl)⟩⟩
theorem fl_X5_26 : FL RX5 26 5 4 := ⟨by decide +kernel, by decide, (RX5, TX5, 6), rfl, Or.inl (gw_2 (i := 46) (by decide +kernel) rfl)⟩
theorem fl_X5_15 : FL RX5 15 5 1 := ⟨by decide +kernel, by decide, (RX5, TX5, 6), rfl, Or.inl (gw_2 (i := 43) (by decide +kernel) rfl)⟩
theorem fl_X5_9 : FL RX5 9 5 0 := ⟨by decide +kernel, by decide, (RX5, TX5, 6), rfl, Or.inl (gw_2 (i := 42) (by decide +kernel) rfl)⟩
theorem ob_X5_3 : Cond.methodLink RX5 3 Lib.objectInit ∈ goodW ∧ Cond.instanceMethod Lib.objectInit ∈ goodW ∧ Cond.code Lib.objectInit ⟨#[0xb1]⟩ 1 none ∈ goodW := ⟨(gw_2 (i := 41) (by decide +kernel) rfl), (gw_1 (i := 28) (by decide +kernel) rfl), (gw_1 (i := 29) rfl rfl)⟩
theorem pc_X5_9 : PF mX5_init 9 5 0 := fun q hq => by cases hq; exact Or.inr ⟨rfl, rfl, (gw_2 (i := 42) (by decide +kernel) rfl)⟩
theorem pc_X5_15 : PF mX5_init 15 5 1 := fun q hq => by cases hq; exact Or.inr ⟨rfl, rfl, (gw_2 (i := 43) (by decide +kernel) rfl)⟩
theorem pc_X5_18 : PF mX5_init 18 5 2 := fun q hq => by cases hq; exact Or.inr ⟨rfl, rfl, (gw_2 (i := 44) (by decide +kernel) rfl)⟩
theorem fl_X5_29 : FL RX5 29 5 5 := ⟨by decide +kernel, by decide, (RX5, TX5, 6), rfl, Or.inl (gw_2 (i := 47) (by decide +kernel) rfl)⟩
theorem lk_X5_57 : LK RX5 57 mX11_blocksOf := Or.inr ⟨"KeyDesk", (nw_3 (i := 174) (by decide +kernel) rfl)⟩
theorem ml_X5_80 : ML RX5 80 := ⟨(gw_3 (i := 177) (by decide +kernel) rfl), (gw_2 (i := 180) (by decide +kernel) rfl), (gw_1 (i := 14) (by decide +kernel) rfl), (gw_2 (i := 181) rfl rfl)⟩
theorem lk_X5_88 : LK RX5 88 mX3_isUnlike := Or.inl (gw_3 (i := 186) (by decide +kernel) rfl)
theorem fl_X5_32 : FL RX5 32 9 6 := ⟨by decide +kernel, by decide, (RX9, TX9, 14), rfl, Or.inr ⟨"KeyDesk", (nw_1 (i := 202) (by decide +kernel) rfl)⟩⟩
theorem lk_X5_40 : LK RX5 40 mX9_layOrder := Or.inl (gw_3 (i := 165) (by decide +kernel) rfl)
theorem lk_X5_44 : LK RX5 44 mX5_mapBlocks := Or.inl (gw_3 (i := 170) (by decide +kernel) rfl)
theorem lk_X5_69 : LK RX5 69 mX5_halve := Or.inl (gw_3 (i := 213) (by decide +kernel) rfl)
theorem lk_X5_73 : LK RX5 73 mX5_shortestOdd := Or.inl (gw_3 (i := 221) (by decide +kernel) rfl)
theorem fl_X5_77 : FL RX5 77 9 0 := ⟨by decide +kernel, by decide, (RX9, TX9, 14), rfl, Or.inr ⟨"KeyDesk", (nw_1 (i := 184) (by decide +kernel) rfl)⟩⟩
theorem lk_X5_117 : LK RX5 117 mX5_askEight := Or.inl (gw_3 (i := 233) (by decide +kernel) rfl)
theorem fl_X5_121 : FL RX5 121 9 7 := ⟨by decide +kernel, by decide, (RX9, TX9, 14), rfl, Or.inr ⟨"KeyDesk", (nw_1 (i := 206) (by decide +kernel) rfl)⟩⟩
theorem sl_X6_9 : SL RX6 9 "KeyDesk" "USUAL" "[I" := Or.inr ⟨"KeyDesk", (nw_1 (i := 36) (by decide +kernel) rfl)⟩
theorem fl_X6_18 : FL RX6 18 6 0 := ⟨by decide +kernel, by decide, (RX6, TX6, 1), rfl, Or.inl (gw_1 (i := 45) (by decide +kernel) rfl)⟩
theorem ac_X6_23 : AC RX6 23 := ⟨(gw_2 (i := 186) (by decide +kernel) rfl), (gw_2 (i := 188) (by decide +kernel) rfl), (gw_2 (i := 187) (by decide +kernel) rfl), (gw_1 (i := 15) (by decide +kernel) rfl)⟩
theorem ob_X6_3 : Cond.methodLink RX6 3 Lib.objectInit ∈ goodW ∧ Cond.instanceMethod Lib.objectInit ∈ goodW ∧ Cond.code Lib.objectInit ⟨#[0xb1]⟩ 1 none ∈ goodW := ⟨(gw_1 (i := 35) (by decide +kernel) rfl), (gw_1 (i := 28) (by decide +kernel) rfl), (gw_1 (i := 29) rfl rfl)⟩
theorem kl_X6_13 : KL RX6 13 := ⟨(gw_1 (i := 38) (by decide +kernel) rfl), (gw_1 (i := 39) (by decide +kernel) rfl), (gw_1 (i := 40) (by decide +kernel) rfl), (gw_1 (i := 41) (by decide +kernel) rfl), (gw_1 (i := 42) (by decide +kernel) rfl), (nw_1 (i := 43) (by decide +kernel) rfl)⟩
theorem cl_X6_14 : Cond.classLink RX6 14 "[I" ∈ goodW := (gw_1 (i := 44) (by decide +kernel) rfl)
theorem pc_X6_18 : PF mX6_init 18 6 0 := fun q hq => by cases hq; exact Or.inr ⟨rfl, rfl, (gw_1 (i := 45) (by decide +kernel) rfl)⟩
theorem ob_X7_3 : Cond.methodLink RX7 3 Lib.objectInit ∈ goodW ∧ Cond.instanceMethod Lib.objectInit ∈ goodW ∧ Cond.code Lib.objectInit ⟨#[0xb1]⟩ 1 none ∈ goodW := ⟨(gw_1 (i := 55) (by decide +kernel) rfl), (gw_1 (i := 28) (by decide +kernel) rfl), (gw_1 (i := 29) rfl rfl)⟩
theorem nl_X7_9 : NL RX7 9 6 := ⟨by decide, (RX6, TX6, 1), rfl, (gw_1 (i := 56) (by decide +kernel) rfl), (gw_1 (i := 31) (by decide +kernel) rfl), (gw_1 (i := 2) (by decide +kernel) rfl)⟩
theorem lk_X7_11 : LK RX7 11 mX6_init := Or.inr ⟨"KeyDesk", (nw_1 (i := 57) (by decide +kernel) rfl)⟩
theorem fl_X7_12 : FL RX7 12 7 0 := ⟨by decide +kernel, by decide, (RX7, TX7, 5), rfl, Or.inl (gw_1 (i := 58) (by decide +kernel) rfl)⟩
theorem pc_X7_12 : PF mX7_init 12 7 0 := fun q hq => by cases hq; exact Or.inr ⟨rfl, rfl, (gw_1 (i := 58) (by decide +kernel) rfl)⟩
theorem fl_X7_18 : FL RX7 18 7 1 := ⟨by decide +kernel, by decide, (RX7, TX7, 5), rfl, Or.inl (gw_1 (i := 60) (by decide +kernel) rfl)⟩
theorem pc_X7_18 : PF mX7_init 18 7 1 := fun q hq => by cases hq; exact Or.inr ⟨rfl, rfl, (gw_1 (i := 60) (by decide +kernel) rfl)⟩
theorem fl_X7_22 : FL RX7 22 7 2 := ⟨by decide +kernel, by decide, (RX7, TX7, 5), rfl, Or.inl (gw_1 (i := 61) (by decide +kernel) rfl)⟩
theorem fl_X7_25 : FL RX7 25 7 3 := ⟨by decide +kernel, by decide, (RX7, TX7, 5), rfl, Or.inl (gw_1 (i := 62) (by decide +kernel) rfl)⟩
theorem fl_X7_29 : FL RX7 29 7 4 := ⟨by decide +kernel, by decide, (RX7, TX7, 5), rfl, Or.inl (gw_1 (i := 63) (by decide +kernel) rfl)⟩
theorem lk_X7_85 : LK RX7 85 mJ0_length_8abf5 := Or.inl (gw_2 (i := 224) (by decide +kernel) rfl)
theorem lk_X7_89 : LK RX7 89 mJ0_charAt_5068e := Or.inl (gw_2 (i := 234) (by decide +kernel) rfl)
theorem cn_X7_93 : Cond.constant RX7 93 (oI (1000000)) ∈ goodW := (gw_3 (i := 39) (by decide +kernel) rfl)
theorem ml_X7_32 : ML RX7 32 := ⟨(gw_2 (i := 179) (by decide +kernel) rfl), (gw_2 (i := 180) (by decide +kernel) rfl), (gw_1 (i := 14) (by decide +kernel) rfl), (gw_2 (i := 181) rfl rfl)⟩
theorem lk_X7_38 : LK RX7 38 mX6_clear := Or.inl (gw_2 (i := 182) (by decide +kernel) rfl)
theorem lk_X7_41 : LK RX7 41 mJ7_fill_53178 := Or.inl (gw_2 (i := 189) (by decide +kernel) rfl)
theorem lk_X7_47 : LK RX7 47 mX7_readLine := Or.inl (gw_2 (i := 192) (by decide +kernel) rfl)
theorem lk_X7_51 : LK RX7 51 mX7_skipBlanks := Or.inl (gw_2 (i := 196) (by decide +kernel) rfl)
theorem lk_X7_54 : LK RX7 54 mX7_faultAt := Or.inl (gw_3 (i := 32) (by decide +kernel) rfl)
theorem lk_X7_57 : LK RX7 57 mX7_skipBetween := Or.inl (gw_2 (i := 200) (by decide +kernel) rfl)
theorem lk_X7_61 : LK RX7 61 mX7_wordAlong := Or.inl (gw_2 (i := 204) (by decide +kernel) rfl)
theorem lk_X7_64 : LK RX7 64 mX7_numberAlong := Or.inl (gw_3 (i := 35) (by decide +kernel) rfl)
theorem sl_X7_67 : SL RX7 67 "KeyDesk" "LEAST" "[I" := Or.inr ⟨"KeyDesk", (nw_3 (i := 40) (by decide +kernel) rfl)⟩
theorem sl_X7_70 : SL RX7 70 "KeyDesk" "MOST" "[I" := Or.inr ⟨"KeyDesk", (nw_3 (i := 42) (by decide +kernel) rfl)⟩
theorem lk_X7_73 : LK RX7 73 mX6_put := Or.inl (gw_3 (i := 44) (by decide +kernel) rfl)
theorem lk_X7_77 : LK RX7 77 mX7_wordOf := Or.inl (gw_2 (i := 208) (by decide +kernel) rfl)
theorem lk_X7_81 : LK RX7 81 mX7_isAlong := Or.inl (gw_2 (i := 220) (by decide +kernel) rfl)
theorem fl_X8_59 : FL RX8 59 1 0 := ⟨by decide +kernel, by decide, (RX1, TX1, 7), rfl, Or.inr ⟨"KeyDesk", (nw_1 (i := 148) (by decide +kernel) rfl)⟩⟩
theorem fl_X8_64 : FL RX8 64 1 1 := ⟨by decide +kernel, by decide, (RX1, TX1, 7), rfl, Or.inr ⟨"KeyDesk", (nw_1 (i := 153) (by decide +kernel) rfl)⟩⟩
theorem fl_X8_19 : FL RX8 19 8 2 := ⟨by decide +kernel, by decide, (RX8, TX8, 4), rfl, Or.inl (gw_2 (i := 82) (by decide +kernel) rfl)⟩
theorem lk_X8_67 : LK RX8 67 mX0_setOfRow := Or.inr ⟨"KeyDesk", (nw_4 (i := 184) (by decide +kernel) rfl)⟩
theorem lk_X8_44 : LK RX8 44 mX8_addWork := Or.inl (gw_4 (i := 142) (by decide +kernel) rfl)
theorem fl_X8_47 : FL RX8 47 3 0 := ⟨by decide +kernel, by decide, (RX3, TX3, 4), rfl, Or.inr ⟨"KeyDesk", (nw_1 (i := 90) (by decide +kernel) rfl)⟩⟩
theorem fl_X8_52 : FL RX8 52 3 3 := ⟨by decide +kernel, by decide, (RX3, TX3, 4), rfl, Or.inr ⟨"KeyDesk", (nw_1 (i := 102) (by decide +kernel) rfl)⟩⟩
theorem lk_X8_55 : LK RX8 55 mX8_setPlace := Or.inl (gw_4 (i := 159) (by decide +kernel) rfl)
theorem fl_X8_32 : FL RX8 32 4 0 := ⟨by decide +kernel, by decide, (RX4, TX4, 4), rfl, Or.inr ⟨"KeyDesk", (nw_1 (i := 121) (by decide +kernel) rfl)⟩⟩
theorem fl_X8_35 : FL RX8 35 4 3 := ⟨by decide +kernel, by decide, (RX4, TX4, 4), rfl, Or.inr ⟨"KeyDesk", (nw_1 (i := 130) (by decide +kernel) rfl)⟩⟩
theorem ac_X8_38 : AC RX8 38 := ⟨(gw_4 (i := 141) (by decide +kernel) rfl), (gw_2 (i := 188) (by decide +kernel) rfl), (gw_2 (i := 187) (by decide +kernel) rfl), (gw_1 (i := 15) (by decide +kernel) rfl)⟩
theorem lk_X8_73 : LK RX8 73 mX8_reduceWork := Or.inl (gw_4 (i := 146) (by decide +kernel) rfl)
theorem fl_X8_9 : FL RX8 9 8 0 := ⟨by decide +kernel, by decide, (RX8, TX8, 4), rfl, Or.inl (gw_2 (i := 80) (by decide +kernel) rfl)⟩
theorem fl_X8_15 : FL RX8 15 8 1 := ⟨by decide +kernel, by decide, (RX8, TX8, 4), rfl, Or.inl (gw_2 (i := 81) (by decide +kernel) rfl)⟩
theorem fl_X8_22 : FL RX8 22 8 3 := ⟨by decide +kernel, by decide, (RX8, TX8, 4), rfl, Or.inl (gw_2 (i := 83) (by decide +kernel) rfl)⟩
theorem lk_X8_26 : LK RX8 26 mJ7_fill_53178 := Or.inl (gw_4 (i := 136) (by decide +kernel) rfl)
theorem ob_X8_3 : Cond.methodLink RX8 3 Lib.objectInit ∈ goodW ∧ Cond.instanceMethod Lib.objectInit ∈ goodW ∧ Cond.code Lib.objectInit ⟨#[0xb1]⟩ 1 none ∈ goodW := ⟨(gw_2 (i := 79) (by decide +kernel) rfl), (gw_1 (i := 28) (by decide +kernel) rfl), (gw_1 (i := 29) rfl rfl)⟩
theorem pc_X8_9 : PF mX8_init 9 8 0 := fun q hq => by cases hq; exact Or.inr ⟨rfl, rfl, (gw_2 (i := 80) (by decide +kernel) rfl)⟩
theorem pc_X8_15 : PF mX8_init 15 8 1 := fun q hq => by cases hq; exact Or.inr ⟨rfl, rfl, (gw_2 (i := 81) (by decide +kernel) rfl)⟩
theorem pc_X8_19 : PF mX8_init 19 8 2 := fun q hq => by cases hq; exact Or.inr ⟨rfl, rfl, (gw_2 (i := 82) (by decide +kernel) rfl)⟩
theorem lk_X8_80 : LK RX8 80 mJ13_bitCount_95d88 := Or.inl (gw_4 (i := 150) (by decide +kernel) rfl)
theorem lk_X8_77 : LK RX8 77 mJ7_fill_d0a16 := Or.inl (gw_4 (i := 163) (by decide +kernel) rfl)
theorem fl_X9_18 : FL RX9 18 9 2 := ⟨by decide +kernel, by decide, (RX9, TX9, 14), rfl, Or.inl (gw_1 (i := 190) (by decide +kernel) rfl)⟩
theorem fl_X9_39 : FL RX9 39 9 9 := ⟨by decide +kernel, by decide, (RX9, TX9, 14), rfl, Or.inl (gw_1 (i := 211) (by decide +kernel) rfl)⟩
theorem fl_X9_9 : FL RX9 9 9 0 := ⟨by decide +kernel, by decide, (RX9, TX9, 14), rfl, Or.inl (gw_1 (i := 182) (by decide +kernel) rfl)⟩
theorem fl_X9_15 : FL RX9 15 9 1 := ⟨by decide +kernel, by decide, (RX9, TX9, 14), rfl, Or.inl (gw_1 (i := 187) (by decide +kernel) rfl)⟩
theorem fl_X9_21 : FL RX9 21 9 3 := ⟨by decide +kernel, by decide, (RX9, TX9, 14), rfl, Or.inl (gw_1 (i := 192) (by decide +kernel) rfl)⟩
theorem fl_X9_24 : FL RX9 24 9 4 := ⟨by decide +kernel, by decide, (RX9, TX9, 14), rfl, Or.inl (gw_1 (i := 195) (by decide +kernel) rfl)⟩
theorem fl_X9_27 : FL RX9 27 9 5 := ⟨by decide +kernel, by decide, (RX9, TX9, 14), rfl, Or.inl (gw_1 (i := 198) (by decide +kernel) rfl)⟩
theorem fl_X9_30 : FL RX9 30 9 6 := ⟨by decide +kernel, by decide, (RX9, TX9, 14), rfl, Or.inl (gw_1 (i := 201) (by decide +kernel) rfl)⟩
theorem fl_X9_33 : FL RX9 33 9 7 := ⟨by decide +kernel, by decide, (RX9, TX9, 14), rfl, Or.inl (gw_1 (i := 205) (by decide +kernel) rfl)⟩
theorem fl_X9_36 : FL RX9 36 9 8 := ⟨by decide +kernel, by decide, (RX9, TX9, 14), rfl, Or.inl (gw_1 (i := 208) (by decide +kernel) rfl)⟩
theorem fl_X9_49 : FL RX9 49 9 11 := ⟨by decide +kernel, by decide, (RX9, TX9, 14), rfl, Or.inl (gw_1 (i := 213) (by decide +kernel) rfl)⟩
theorem fl_X9_67 : FL RX9 67 3 0 := ⟨by decide +kernel, by decide, (RX3, TX3, 4), rfl, Or.inr ⟨"KeyDesk", (nw_1 (i := 88) (by decide +kernel) rfl)⟩⟩
theorem fl_X9_56 : FL RX9 56 9 12 := ⟨by decide +kernel, by decide, (RX9, TX9, 14), rfl, Or.inl (gw_1 (i := 218) (by decide +kernel) rfl)⟩
theorem fl_X9_70 : FL RX9 70 4 0 := ⟨by decide +kernel, by decide, (RX4, TX4, 4), rfl, Or.inr ⟨"KeyDesk", (nw_1 (i := 120) (by decide +kernel) rfl)⟩⟩
theorem fl_X9_63 : FL RX9 63 9 13 := ⟨by decide +kernel, by decide, (RX9, TX9, 14), rfl, Or.inl (gw_1 (i := 223) (by decide +kernel) rfl)⟩
theorem lk_X9_73 : LK RX9 73 mX1_clear := Or.inl (gw_3 (i := 56) (by decide +kernel) rfl)
theorem cn_X9_92 : Cond.constant RX9 92 (oI (1103515245)) ∈ goodW := (gw_3 (i := 116) (by decide +kernel) rfl)
theorem cn_X9_93 : Cond.constant RX9 93 (oI (2147483647)) ∈ goodW := (gw_3 (i := 117) (by decide +kernel) rfl)
theorem ob_X9_3 : Cond.methodLink RX9 3 Lib.objectInit ∈ goodW ∧ Cond.instanceMethod Lib.objectInit ∈ goodW ∧ Cond.code Lib.objectInit ⟨#[0xb1]⟩ 1 none ∈ goodW := ⟨(gw_1 (i := 80) (by decide +kernel) rfl), (gw_1 (i := 28) (by decide +kernel) rfl), (gw_1 (i := 29) rfl rfl)⟩
theorem pc_X9_39 : PF mX9_init 39 9 9 := fun q hq => by cases hq; exact Or.inr ⟨rfl, rfl, (gw_1 (i := 211) (by decide +kernel) rfl)⟩
theorem fl_X9_43 : FL RX9 43 9 10 := ⟨by decide +kernel, by decide, (RX9, TX9, 14), rfl, Or.inl (gw_1 (i := 212) (by decide +kernel) rfl)⟩
theorem pc_X9_43 : PF mX9_init 43 9 10 := fun q hq => by cases hq; exact Or.inr ⟨rfl, rfl, (gw_1 (i := 212) (by decide +kernel) rfl)⟩
theorem nl_X9_46 : NL RX9 46 3 := ⟨by decide, (RX3, TX3, 4), rfl, (gw_1 (i := 81) (by decide +kernel) rfl), (gw_1 (i := 82) (by decide +kernel) rfl), (gw_1 (i := 5) (by decide +kernel) rfl)⟩
theorem lk_X9_48 : LK RX9 48 mX3_init := Or.inr ⟨"KeyDesk", (nw_1 (i := 83) (by decide +kernel) rfl)⟩
theorem pc_X9_49 : PF mX9_init 49 9 11 := fun q hq => by cases hq; exact Or.inr ⟨rfl, rfl, (gw_1 (i := 213) (by decide +kernel) rfl)⟩
theorem nl_X9_53 : NL RX9 53 4 := ⟨by decide, (RX4, TX4, 4), rfl, (gw_1 (i := 113) (by decide +kernel) rfl), (gw_1 (i := 114) (by decide +kernel) rfl), (gw_1 (i := 6) (by decide +kernel) rfl)⟩
theorem lk_X9_55 : LK RX9 55 mX4_init := Or.inr ⟨"KeyDesk", (nw_1 (i := 115) (by decide +kernel) rfl)⟩
theorem pc_X9_56 : PF mX9_init 56 9 12 := fun q hq => by cases hq; exact Or.inr ⟨rfl, rfl, (gw_1 (i := 218) (by decide +kernel) rfl)⟩
theorem nl_X9_60 : NL RX9 60 1 := ⟨by decide, (RX1, TX1, 7), rfl, (gw_1 (i := 141) (by decide +kernel) rfl), (gw_1 (i := 142) (by decide +kernel) rfl), (gw_1 (i := 7) (by decide +kernel) rfl)⟩
theorem lk_X9_62 : LK RX9 62 mX1_init := Or.inr ⟨"KeyDesk", (nw_1 (i := 143) (by decide +kernel) rfl)⟩
theorem pc_X9_63 : PF mX9_init 63 9 13 := fun q hq => by cases hq; exact Or.inr ⟨rfl, rfl, (gw_1 (i := 223) (by decide +kernel) rfl)⟩
theorem lk_X9_94 : LK RX9 94 mX9_draw := Or.inl (gw_3 (i := 169) (by decide +kernel) rfl)
theorem ac_X9_76 : AC RX9 76 := ⟨(gw_3 (i := 86) (by decide +kernel) rfl), (gw_2 (i := 188) (by decide +kernel) rfl), (gw_2 (i := 187) (by decide +kernel) rfl), (gw_1 (i := 15) (by decide +kernel) rfl)⟩
theorem lk_X9_82 : LK RX9 82 mX3_takeFrom := Or.inl (gw_3 (i := 87) (by decide +kernel) rfl)
theorem lk_X9_86 : LK RX9 86 mX4_takeFrom := Or.inl (gw_3 (i := 92) (by decide +kernel) rfl)
theorem lk_X9_89 : LK RX9 89 mX1_takeFrom := Or.inl (gw_3 (i := 97) (by decide +kernel) rfl)
theorem lk_X9_98 : LK RX9 98 mX9_ordered := Or.inl (gw_4 (i := 122) (by decide +kernel) rfl)
theorem lk_X9_102 : LK RX9 102 mX3_isUnlike := Or.inl (gw_4 (i := 123) (by decide +kernel) rfl)
theorem aw_int : Cond.arrayClass .int ∈ goodW := (gw_1 (i := 49) (by decide +kernel) rfl)
theorem aw_byte : Cond.arrayClass .byte ∈ goodW := (gw_3 (i := 65) (by decide +kernel) rfl)
theorem aw_boolean : Cond.arrayClass .boolean ∈ goodW := (gw_5 (i := 108) (by decide +kernel) rfl)
theorem aw_long : Cond.arrayClass .long ∈ goodW := (gw_1 (i := 140) (by decide +kernel) rfl)

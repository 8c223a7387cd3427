/-! methods, classes, words: by program (wip/whole/gen_facts.py) out of the claim's printed names and words -/
theorem tb_1 {w : Cond} (h : w ∈ tables_1_1) : w ∈ tables_1 := by unfold tables_1; exact List.mem_append_left _ h
theorem gw_1 {i : Nat} {w : Cond} (h : tables_1_1[i]? = some w) (hg : goodWord w = true) : w ∈ goodW := List.mem_filter.mpr ⟨List.mem_append_right _ (tb_1 (List.mem_of_getElem? h)), hg⟩
theorem nw_1 {i : Nat} {w : Cond} (h : tables_1_1[i]? = some w) (hg : isNest w = true) : w ∈ nestW := List.mem_filter.mpr ⟨tb_1 (List.mem_of_getElem? h), hg⟩
theorem tb_2 {w : Cond} (h : w ∈ tables_1_2) : w ∈ tables_1 := by unfold tables_1; exact List.mem_append_right _ (List.mem_append_left _ h)
theorem gw_2 {i : Nat} {w : Cond} (h : tables_1_2[i]? = some w) (hg : goodWord w = true) : w ∈ goodW := List.mem_filter.mpr ⟨List.mem_append_right _ (tb_2 (List.mem_of_getElem? h)), hg⟩
theorem nw_2 {i : Nat} {w : Cond} (h : tables_1_2[i]? = some w) (hg : isNest w = true) : w ∈ nestW := List.mem_filter.mpr ⟨tb_2 (List.mem_of_getElem? h), hg⟩
theorem tb_3 {w : Cond} (h : w ∈ tables_1_3) : w ∈ tables_1 := by unfold tables_1; exact List.mem_append_right _ (List.mem_append_right _ (List.mem_append_left _ h))
theorem gw_3 {i : Nat} {w : Cond} (h : tables_1_3[i]? = some w) (hg : goodWord w = true) : w ∈ goodW := List.mem_filter.mpr ⟨List.mem_append_right _ (tb_3 (List.mem_of_getElem? h)), hg⟩
theorem nw_3 {i : Nat} {w : Cond} (h : tables_1_3[i]? = some w) (hg : isNest w = true) : w ∈ nestW := List.mem_filter.mpr ⟨tb_3 (List.mem_of_getElem? h), hg⟩
theorem tb_4 {w : Cond} (h : w ∈ tables_1_4) : w ∈ tables_1 := by unfold tables_1; exact List.mem_append_right _ (List.mem_append_right _ (List.mem_append_right _ (List.mem_append_left _ h)))
theorem gw_4 {i : Nat} {w : Cond} (h : tables_1_4[i]? = some w) (hg : goodWord w = true) : w ∈ goodW := List.mem_filter.mpr ⟨List.mem_append_right _ (tb_4 (List.mem_of_getElem? h)), hg⟩
theorem nw_4 {i : Nat} {w : Cond} (h : tables_1_4[i]? = some w) (hg : isNest w = true) : w ∈ nestW := List.mem_filter.mpr ⟨tb_4 (List.mem_of_getElem? h), hg⟩
theorem tb_5 {w : Cond} (h : w ∈ tables_1_5) : w ∈ tables_1 := by unfold tables_1; exact List.mem_append_right _ (List.mem_append_right _ (List.mem_append_right _ (List.mem_append_right _ (List.mem_append_left _ h))))
theorem gw_5 {i : Nat} {w : Cond} (h : tables_1_5[i]? = some w) (hg : goodWord w = true) : w ∈ goodW := List.mem_filter.mpr ⟨List.mem_append_right _ (tb_5 (List.mem_of_getElem? h)), hg⟩
theorem nw_5 {i : Nat} {w : Cond} (h : tables_1_5[i]? = some w) (hg : isNest w = true) : w ∈ nestW := List.mem_filter.mpr ⟨tb_5 (List.mem_of_getElem? h), hg⟩
theorem tb_6 {w : Cond} (h : w ∈ tables_1_6) : w ∈ tables_1 := by unfold tables_1; exact List.mem_append_right _ (List.mem_append_right _ (List.mem_append_right _ (List.mem_append_right _ (List.mem_append_right _ (List.mem_append_left _ h)))))
theorem gw_6 {i : Nat} {w : Cond} (h : tables_1_6[i]? = some w) (hg : goodWord w = true) : w ∈ goodW := List.mem_filter.mpr ⟨List.mem_append_right _ (tb_6 (List.mem_of_getElem? h)), hg⟩
theorem nw_6 {i : Nat} {w : Cond} (h : tables_1_6[i]? = some w) (hg : isNest w = true) : w ∈ nestW := List.mem_filter.mpr ⟨tb_6 (List.mem_of_getElem? h), hg⟩
theorem tb_7 {w : Cond} (h : w ∈ tables_1_7) : w ∈ tables_1 := by unfold tables_1; exact List.mem_append_right _ (List.mem_append_right _ (List.mem_append_right _ (List.mem_append_right _ (List.mem_append_right _ (List.mem_append_right _ (h))))))
theorem gw_7 {i : Nat} {w : Cond} (h : tables_1_7[i]? = some w) (hg : goodWord w = true) : w ∈ goodW := List.mem_filter.mpr ⟨List.mem_append_right _ (tb_7 (List.mem_of_getElem? h)), hg⟩
theorem nw_7 {i : Nat} {w : Cond} (h : tables_1_7[i]? = some w) (hg : isNest w = true) : w ∈ nestW := List.mem_filter.mpr ⟨tb_7 (List.mem_of_getElem? h), hg⟩
theorem sel_priv {i n : Nat} {y : MethodName} (h : lw_privs[i]? = some (y, n)) : Cond.selects y.cls y y ∈ goodW := List.mem_filter.mpr ⟨List.mem_append_left _ (List.mem_map.mpr ⟨(y, n), List.mem_of_getElem? h, rfl⟩), rfl⟩
/-- a method's own words -/
def MB (y2 : Mth) (n : Nat) : Prop := (y2.1.cls ≠ "java/lang/invoke/MethodHandle" ∧ y2.1.cls ≠ "java/lang/invoke/VarHandle" ∧ (parseMethodDescriptor y2.1.desc).map (fun d => d.parameters.length) = some n) ∧ Cond.initialized y2.1.cls ∈ goodW ∧ Cond.code y2.1 y2.2.1 y2.2.2.1 y2.2.2.2 ∈ goodW
def LK (own : String) (idx : Nat) (y2 : Mth) : Prop := Cond.methodLink own idx y2.1 ∈ goodW ∨ ∃ host, Cond.methodLinkNest own idx y2.1 host ∈ nestW
theorem CB.mk2 {own : String} {idx n : Nat} {y2 : Mth} (h : MB y2 n) (l : LK own idx y2) : CB own idx y2 n := ⟨h.1, h.2.1, h.2.2, l⟩
def MS (y2 : Mth) (n : Nat) : Prop := MB y2 n ∧ Cond.static y2.1 ∈ goodW
def MV (y2 : Mth) (n : Nat) : Prop := MB y2 n ∧ Cond.instanceMethod y2.1 ∈ goodW ∧ Cond.selects y2.1.cls y2.1 y2.1 ∈ goodW
def MI (y2 : Mth) (n : Nat) : Prop := MB y2 n ∧ Cond.instanceMethod y2.1 ∈ goodW ∧ y2.1.name = "<init>" ∧ y2.2.2.2 = none
theorem CS.mk2 {own : String} {idx n : Nat} {y2 : Mth} (h : MS y2 n) (l : LK own idx y2) : CS own idx y2 n := ⟨CB.mk2 h.1 l, h.2⟩
theorem CV.mk2 {own : String} {idx n : Nat} {y2 : Mth} (h : MV y2 n) (l : LK own idx y2) : CV own idx y2 n := ⟨CB.mk2 h.1 l, h.2⟩
theorem CI.mk2 {own : String} {idx n : Nat} {y2 : Mth} (h : MI y2 n) (l : LK own idx y2) : CI own idx y2 n := ⟨CB.mk2 h.1 l, h.2⟩
abbrev mJ0_charAt_5068e : Mth := (yJ0_charAt_5068e, cJ0_charAt_5068e, 2, some FieldType.char)
abbrev mJ0_checkIndex_df160 : Mth := (yJ0_checkIndex_df160, cJ0_checkIndex_df160, 2, none)
abbrev mJ0_coder_7d493 : Mth := (yJ0_coder_7d493, cJ0_coder_7d493, 1, some FieldType.byte)
abbrev mJ0_isLatin1_aae02 : Mth := (yJ0_isLatin1_aae02, cJ0_isLatin1_aae02, 1, some FieldType.boolean)
abbrev mJ0_length_8abf5 : Mth := (yJ0_length_8abf5, cJ0_length_8abf5, 1, some FieldType.int)
abbrev mJ13_bitCount_95d88 : Mth := (yJ13_bitCount_95d88, cJ13_bitCount_95d88, 2, some FieldType.int)
abbrev mJ1_charAt_3b067 : Mth := (yJ1_charAt_3b067, cJ1_charAt_3b067, 2, some FieldType.char)
abbrev mJ2_charAt_3b067 : Mth := (yJ2_charAt_3b067, cJ2_charAt_3b067, 2, some FieldType.char)
abbrev mJ2_checkIndex_2214a : Mth := (yJ2_checkIndex_2214a, cJ2_checkIndex_2214a, 2, none)
abbrev mJ2_getChar_3b067 : Mth := (yJ2_getChar_3b067, cJ2_getChar_3b067, 2, some FieldType.char)
abbrev mJ2_length_9d52b : Mth := (yJ2_length_9d52b, cJ2_length_9d52b, 1, some FieldType.int)
abbrev mJ3_checkIndex_8e157 : Mth := (yJ3_checkIndex_8e157, cJ3_checkIndex_8e157, 3, some FieldType.int)
abbrev mJ7_copyOf_59c91 : Mth := (yJ7_copyOf_59c91, cJ7_copyOf_59c91, 3, some (FieldType.array FieldType.int))
abbrev mJ7_copyOf_c38d5 : Mth := (yJ7_copyOf_c38d5, cJ7_copyOf_c38d5, 3, some (FieldType.array FieldType.long))
abbrev mJ7_fill_53178 : Mth := (yJ7_fill_53178, cJ7_fill_53178, 4, none)
abbrev mJ7_fill_d0a16 : Mth := (yJ7_fill_d0a16, cJ7_fill_d0a16, 5, none)
abbrev mJ9_min_7cf53 : Mth := (yJ9_min_7cf53, cJ9_min_7cf53, 2, some FieldType.int)
abbrev mX0_boundOf : Mth := (yX0_boundOf, cX0_boundOf, 3, some FieldType.int)
abbrev mX0_compare : Mth := (yX0_compare, cX0_compare, 7, none)
abbrev mX0_drawFinal : Mth := (yX0_drawFinal, cX0_drawFinal, 7, none)
abbrev mX0_drawRow : Mth := (yX0_drawRow, cX0_drawRow, 4, none)
abbrev mX0_drawSignal : Mth := (yX0_drawSignal, cX0_drawSignal, 12, some FieldType.int)
abbrev mX0_drawSignals : Mth := (yX0_drawSignals, cX0_drawSignals, 5, none)
abbrev mX0_init : Mth := (yX0_init, cX0_init, 1, none)
abbrev mX0_rootOf : Mth := (yX0_rootOf, cX0_rootOf, 3, some FieldType.int)
abbrev mX0_setOfRow : Mth := (yX0_setOfRow, cX0_setOfRow, 5, none)
abbrev mX0_tellSample : Mth := (yX0_tellSample, cX0_tellSample, 6, none)
abbrev mX10_bestBlock : Mth := (yX10_bestBlock, cX10_bestBlock, 8, some FieldType.int)
abbrev mX10_greatestNoise : Mth := (yX10_greatestNoise, cX10_greatestNoise, 6, some FieldType.int)
abbrev mX10_init : Mth := (yX10_init, cX10_init, 1, none)
abbrev mX10_overSeeds : Mth := (yX10_overSeeds, cX10_overSeeds, 8, some FieldType.int)
abbrev mX10_passOn : Mth := (yX10_passOn, cX10_passOn, 3, none)
abbrev mX10_roundsTillAlike : Mth := (yX10_roundsTillAlike, cX10_roundsTillAlike, 5, some FieldType.int)
abbrev mX10_runPasses : Mth := (yX10_runPasses, cX10_runPasses, 4, none)
abbrev mX10_runWhole : Mth := (yX10_runWhole, cX10_runWhole, 3, none)
abbrev mX11_back : Mth := (yX11_back, cX11_back, 2, some FieldType.int)
abbrev mX11_begin : Mth := (yX11_begin, cX11_begin, 1, some FieldType.int)
abbrev mX11_best : Mth := (yX11_best, cX11_best, 2, some FieldType.int)
abbrev mX11_block : Mth := (yX11_block, cX11_block, 7, some FieldType.int)
abbrev mX11_blocksOf : Mth := (yX11_blocksOf, cX11_blocksOf, 2, some FieldType.int)
abbrev mX11_check : Mth := (yX11_check, cX11_check, 1, some FieldType.int)
abbrev mX11_count : Mth := (yX11_count, cX11_count, 2, some FieldType.int)
abbrev mX11_end : Mth := (yX11_end, cX11_end, 2, some FieldType.int)
abbrev mX11_feed : Mth := (yX11_feed, cX11_feed, 6, some FieldType.int)
abbrev mX11_fixed : Mth := (yX11_fixed, cX11_fixed, 4, some FieldType.int)
abbrev mX11_image : Mth := (yX11_image, cX11_image, 2, some FieldType.int)
abbrev mX11_init : Mth := (yX11_init, cX11_init, 2, none)
abbrev mX11_isIn : Mth := (yX11_isIn, cX11_isIn, 3, some FieldType.int)
abbrev mX11_isMending : Mth := (yX11_isMending, cX11_isMending, 1, some FieldType.boolean)
abbrev mX11_key : Mth := (yX11_key, cX11_key, 3, some FieldType.int)
abbrev mX11_last : Mth := (yX11_last, cX11_last, 3, some FieldType.int)
abbrev mX11_ledger : Mth := (yX11_ledger, cX11_ledger, 3, some FieldType.int)
abbrev mX11_lengthOf : Mth := (yX11_lengthOf, cX11_lengthOf, 3, some FieldType.int)
abbrev mX11_noise : Mth := (yX11_noise, cX11_noise, 2, some FieldType.int)
abbrev mX11_order : Mth := (yX11_order, cX11_order, 3, some FieldType.int)
abbrev mX11_pass : Mth := (yX11_pass, cX11_pass, 1, some FieldType.int)
abbrev mX11_plan : Mth := (yX11_plan, cX11_plan, 2, some FieldType.int)
abbrev mX11_rank : Mth := (yX11_rank, cX11_rank, 1, some FieldType.int)
abbrev mX11_rounds : Mth := (yX11_rounds, cX11_rounds, 2, some FieldType.int)
abbrev mX11_sample : Mth := (yX11_sample, cX11_sample, 1, some FieldType.int)
abbrev mX11_secret : Mth := (yX11_secret, cX11_secret, 3, some FieldType.int)
abbrev mX11_seeds : Mth := (yX11_seeds, cX11_seeds, 3, some FieldType.int)
abbrev mX11_send : Mth := (yX11_send, cX11_send, 2, some FieldType.int)
abbrev mX11_setting : Mth := (yX11_setting, cX11_setting, 2, some FieldType.int)
abbrev mX11_shorten : Mth := (yX11_shorten, cX11_shorten, 1, some FieldType.int)
abbrev mX11_signal : Mth := (yX11_signal, cX11_signal, 3, some FieldType.int)
abbrev mX11_slip : Mth := (yX11_slip, cX11_slip, 2, some FieldType.int)
abbrev mX11_spied : Mth := (yX11_spied, cX11_spied, 2, some FieldType.int)
abbrev mX11_tapeFour : Mth := (yX11_tapeFour, cX11_tapeFour, 3, none)
abbrev mX11_undo : Mth := (yX11_undo, cX11_undo, 1, some FieldType.int)
abbrev mX11_winnow : Mth := (yX11_winnow, cX11_winnow, 1, some FieldType.int)
abbrev mX11_would : Mth := (yX11_would, cX11_would, 3, some FieldType.int)
abbrev mX12_adds : Mth := (yX12_adds, cX12_adds, 2, none)
abbrev mX12_areLastAlike : Mth := (yX12_areLastAlike, cX12_areLastAlike, 2, some FieldType.boolean)
abbrev mX12_asks : Mth := (yX12_asks, cX12_asks, 4, some FieldType.boolean)
abbrev mX12_asksEight : Mth := (yX12_asksEight, cX12_asksEight, 4, some FieldType.boolean)
abbrev mX12_back : Mth := (yX12_back, cX12_back, 2, some FieldType.int)
abbrev mX12_basesNone : Mth := (yX12_basesNone, cX12_basesNone, 2, none)
abbrev mX12_begin : Mth := (yX12_begin, cX12_begin, 1, some FieldType.int)
abbrev mX12_begins : Mth := (yX12_begins, cX12_begins, 2, none)
abbrev mX12_beginsBy : Mth := (yX12_beginsBy, cX12_beginsBy, 3, some FieldType.int)
abbrev mX12_best : Mth := (yX12_best, cX12_best, 6, some FieldType.int)
abbrev mX12_block : Mth := (yX12_block, cX12_block, 8, some FieldType.int)
abbrev mX12_blockOf : Mth := (yX12_blockOf, cX12_blockOf, 2, some FieldType.int)
abbrev mX12_byteAt : Mth := (yX12_byteAt, cX12_byteAt, 2, some FieldType.int)
abbrev mX12_byteOf : Mth := (yX12_byteOf, cX12_byteOf, 4, some FieldType.int)
abbrev mX12_check : Mth := (yX12_check, cX12_check, 1, some FieldType.int)
abbrev mX12_checks : Mth := (yX12_checks, cX12_checks, 4, some FieldType.boolean)
abbrev mX12_copies : Mth := (yX12_copies, cX12_copies, 6, none)
abbrev mX12_count : Mth := (yX12_count, cX12_count, 2, some FieldType.int)
abbrev mX12_draw : Mth := (yX12_draw, cX12_draw, 4, some FieldType.int)
abbrev mX12_drawsRow : Mth := (yX12_drawsRow, cX12_drawsRow, 4, none)
abbrev mX12_end : Mth := (yX12_end, cX12_end, 2, some FieldType.int)
abbrev mX12_fails : Mth := (yX12_fails, cX12_fails, 3, some FieldType.boolean)
abbrev mX12_feed : Mth := (yX12_feed, cX12_feed, 8, some FieldType.int)
abbrev mX12_finds : Mth := (yX12_finds, cX12_finds, 8, some FieldType.boolean)
abbrev mX12_fixed : Mth := (yX12_fixed, cX12_fixed, 4, some FieldType.int)
abbrev mX12_goesAll : Mth := (yX12_goesAll, cX12_goesAll, 2, some FieldType.boolean)
abbrev mX12_halves : Mth := (yX12_halves, cX12_halves, 7, none)
abbrev mX12_image : Mth := (yX12_image, cX12_image, 2, some FieldType.int)
abbrev mX12_init : Mth := (yX12_init, cX12_init, 2, none)
abbrev mX12_isDigit : Mth := (yX12_isDigit, cX12_isDigit, 1, some FieldType.boolean)
abbrev mX12_isFixed : Mth := (yX12_isFixed, cX12_isFixed, 2, some FieldType.boolean)
abbrev mX12_isGoodBy : Mth := (yX12_isGoodBy, cX12_isGoodBy, 3, some FieldType.boolean)
abbrev mX12_isIn : Mth := (yX12_isIn, cX12_isIn, 3, some FieldType.int)
abbrev mX12_isIn1 : Mth := (yX12_isIn1, cX12_isIn1, 6, some FieldType.boolean)
abbrev mX12_isInSet : Mth := (yX12_isInSet, cX12_isInSet, 2, some FieldType.boolean)
abbrev mX12_isLetter : Mth := (yX12_isLetter, cX12_isLetter, 1, some FieldType.boolean)
abbrev mX12_isMending : Mth := (yX12_isMending, cX12_isMending, 1, some FieldType.boolean)
abbrev mX12_isPass : Mth := (yX12_isPass, cX12_isPass, 2, some FieldType.boolean)
abbrev mX12_isPlace : Mth := (yX12_isPlace, cX12_isPlace, 2, some FieldType.boolean)
abbrev mX12_isSifted : Mth := (yX12_isSifted, cX12_isSifted, 2, some FieldType.boolean)
abbrev mX12_isSpied : Mth := (yX12_isSpied, cX12_isSpied, 3, some FieldType.boolean)
abbrev mX12_isTold : Mth := (yX12_isTold, cX12_isTold, 2, some FieldType.boolean)
abbrev mX12_isUnlike : Mth := (yX12_isUnlike, cX12_isUnlike, 4, some FieldType.boolean)
abbrev mX12_keepsAct : Mth := (yX12_keepsAct, cX12_keepsAct, 2, none)
abbrev mX12_keepsAside : Mth := (yX12_keepsAside, cX12_keepsAside, 1, none)
abbrev mX12_key : Mth := (yX12_key, cX12_key, 3, some FieldType.int)
abbrev mX12_last : Mth := (yX12_last, cX12_last, 3, some FieldType.int)
abbrev mX12_laysBack : Mth := (yX12_laysBack, cX12_laysBack, 1, none)
abbrev mX12_laysOne : Mth := (yX12_laysOne, cX12_laysOne, 3, none)
abbrev mX12_laysRowSet : Mth := (yX12_laysRowSet, cX12_laysRowSet, 4, none)
abbrev mX12_laysSet : Mth := (yX12_laysSet, cX12_laysSet, 5, none)
abbrev mX12_leastInSet : Mth := (yX12_leastInSet, cX12_leastInSet, 2, some FieldType.int)
abbrev mX12_ledger : Mth := (yX12_ledger, cX12_ledger, 3, some FieldType.int)
abbrev mX12_longOf : Mth := (yX12_longOf, cX12_longOf, 4, some FieldType.int)
abbrev mX12_mends : Mth := (yX12_mends, cX12_mends, 2, none)
abbrev mX12_next : Mth := (yX12_next, cX12_next, 1, some FieldType.int)
abbrev mX12_noise : Mth := (yX12_noise, cX12_noise, 5, some FieldType.int)
abbrev mX12_ofSignal : Mth := (yX12_ofSignal, cX12_ofSignal, 3, some FieldType.int)
abbrev mX12_order : Mth := (yX12_order, cX12_order, 3, some FieldType.int)
abbrev mX12_parityByRow : Mth := (yX12_parityByRow, cX12_parityByRow, 6, some FieldType.int)
abbrev mX12_parityOf : Mth := (yX12_parityOf, cX12_parityOf, 7, some FieldType.int)
abbrev mX12_parityOfEight : Mth := (yX12_parityOfEight, cX12_parityOfEight, 6, some FieldType.int)
abbrev mX12_pass : Mth := (yX12_pass, cX12_pass, 2, some FieldType.int)
abbrev mX12_passes : Mth := (yX12_passes, cX12_passes, 4, none)
abbrev mX12_plan : Mth := (yX12_plan, cX12_plan, 5, some FieldType.int)
abbrev mX12_rank : Mth := (yX12_rank, cX12_rank, 1, some FieldType.int)
abbrev mX12_readsLine : Mth := (yX12_readsLine, cX12_readsLine, 5, some FieldType.boolean)
abbrev mX12_reduces : Mth := (yX12_reduces, cX12_reduces, 3, some FieldType.boolean)
abbrev mX12_root : Mth := (yX12_root, cX12_root, 2, some FieldType.int)
abbrev mX12_rounds : Mth := (yX12_rounds, cX12_rounds, 6, some FieldType.int)
abbrev mX12_sample : Mth := (yX12_sample, cX12_sample, 1, some FieldType.int)
abbrev mX12_samples : Mth := (yX12_samples, cX12_samples, 5, none)
abbrev mX12_secret : Mth := (yX12_secret, cX12_secret, 5, some FieldType.int)
abbrev mX12_seeds : Mth := (yX12_seeds, cX12_seeds, 7, some FieldType.int)
abbrev mX12_send : Mth := (yX12_send, cX12_send, 2, some FieldType.int)
abbrev mX12_sends : Mth := (yX12_sends, cX12_sends, 10, none)
abbrev mX12_setMany : Mth := (yX12_setMany, cX12_setMany, 3, some FieldType.int)
abbrev mX12_setsPlain : Mth := (yX12_setsPlain, cX12_setsPlain, 2, none)
abbrev mX12_setting : Mth := (yX12_setting, cX12_setting, 2, some FieldType.int)
abbrev mX12_shorten : Mth := (yX12_shorten, cX12_shorten, 1, some FieldType.int)
abbrev mX12_shortens : Mth := (yX12_shortens, cX12_shortens, 3, some FieldType.int)
abbrev mX12_shuffles : Mth := (yX12_shuffles, cX12_shuffles, 6, none)
abbrev mX12_signal : Mth := (yX12_signal, cX12_signal, 3, some FieldType.int)
abbrev mX12_signalMany : Mth := (yX12_signalMany, cX12_signalMany, 1, some FieldType.int)
abbrev mX12_slip : Mth := (yX12_slip, cX12_slip, 2, some FieldType.int)
abbrev mX12_spied : Mth := (yX12_spied, cX12_spied, 4, some FieldType.int)
abbrev mX12_spiedSignals : Mth := (yX12_spiedSignals, cX12_spiedSignals, 3, some FieldType.int)
abbrev mX12_takesLedger : Mth := (yX12_takesLedger, cX12_takesLedger, 2, none)
abbrev mX12_takesSet : Mth := (yX12_takesSet, cX12_takesSet, 3, none)
abbrev mX12_tells : Mth := (yX12_tells, cX12_tells, 6, none)
abbrev mX12_toldBy : Mth := (yX12_toldBy, cX12_toldBy, 3, some FieldType.int)
abbrev mX12_toldKind : Mth := (yX12_toldKind, cX12_toldKind, 2, some FieldType.int)
abbrev mX12_toldPart : Mth := (yX12_toldPart, cX12_toldPart, 4, some FieldType.int)
abbrev mX12_undo : Mth := (yX12_undo, cX12_undo, 1, some FieldType.int)
abbrev mX12_unlikeMany : Mth := (yX12_unlikeMany, cX12_unlikeMany, 3, some FieldType.int)
abbrev mX12_winnow : Mth := (yX12_winnow, cX12_winnow, 5, some FieldType.int)
abbrev mX12_wordHere : Mth := (yX12_wordHere, cX12_wordHere, 3, some FieldType.int)
abbrev mX12_would : Mth := (yX12_would, cX12_would, 4, some FieldType.int)
abbrev mX1_areUnlike : Mth := (yX1_areUnlike, cX1_areUnlike, 2, some FieldType.boolean)
abbrev mX1_clear : Mth := (yX1_clear, cX1_clear, 1, none)
abbrev mX1_init : Mth := (yX1_init, cX1_init, 1, none)
abbrev mX1_left : Mth := (yX1_left, cX1_left, 1, some FieldType.int)
abbrev mX1_takeFrom : Mth := (yX1_takeFrom, cX1_takeFrom, 2, none)
abbrev mX1_useByte : Mth := (yX1_useByte, cX1_useByte, 5, some FieldType.int)
abbrev mX2_clear : Mth := (yX2_clear, cX2_clear, 1, none)
abbrev mX2_giveBack : Mth := (yX2_giveBack, cX2_giveBack, 2, none)
abbrev mX2_init : Mth := (yX2_init, cX2_init, 2, none)
abbrev mX2_keep : Mth := (yX2_keep, cX2_keep, 2, none)
abbrev mX3_add : Mth := (yX3_add, cX3_add, 4, none)
abbrev mX3_drop : Mth := (yX3_drop, cX3_drop, 2, none)
abbrev mX3_has : Mth := (yX3_has, cX3_has, 2, some FieldType.boolean)
abbrev mX3_init : Mth := (yX3_init, cX3_init, 1, none)
abbrev mX3_isUnlike : Mth := (yX3_isUnlike, cX3_isUnlike, 2, some FieldType.boolean)
abbrev mX3_knownPlaces : Mth := (yX3_knownPlaces, cX3_knownPlaces, 3, some FieldType.int)
abbrev mX3_parity : Mth := (yX3_parity, cX3_parity, 6, some FieldType.int)
abbrev mX3_takeFrom : Mth := (yX3_takeFrom, cX3_takeFrom, 2, none)
abbrev mX3_turn : Mth := (yX3_turn, cX3_turn, 2, none)
abbrev mX3_unlike : Mth := (yX3_unlike, cX3_unlike, 3, some FieldType.int)
abbrev mX4_has : Mth := (yX4_has, cX4_has, 2, some FieldType.boolean)
abbrev mX4_holds : Mth := (yX4_holds, cX4_holds, 3, some FieldType.boolean)
abbrev mX4_init : Mth := (yX4_init, cX4_init, 1, none)
abbrev mX4_least : Mth := (yX4_least, cX4_least, 3, some FieldType.int)
abbrev mX4_places : Mth := (yX4_places, cX4_places, 4, some FieldType.int)
abbrev mX4_takeFrom : Mth := (yX4_takeFrom, cX4_takeFrom, 2, none)
abbrev mX4_tell : Mth := (yX4_tell, cX4_tell, 4, none)
abbrev mX5_ask : Mth := (yX5_ask, cX5_ask, 9, some FieldType.boolean)
abbrev mX5_askEight : Mth := (yX5_askEight, cX5_askEight, 8, some FieldType.boolean)
abbrev mX5_halve : Mth := (yX5_halve, cX5_halve, 8, none)
abbrev mX5_init : Mth := (yX5_init, cX5_init, 1, none)
abbrev mX5_mapBlocks : Mth := (yX5_mapBlocks, cX5_mapBlocks, 9, none)
abbrev mX5_runPass : Mth := (yX5_runPass, cX5_runPass, 11, some FieldType.int)
abbrev mX5_shortestOdd : Mth := (yX5_shortestOdd, cX5_shortestOdd, 8, some FieldType.int)
abbrev mX5_winnowEights : Mth := (yX5_winnowEights, cX5_winnowEights, 6, some FieldType.int)
abbrev mX6_clear : Mth := (yX6_clear, cX6_clear, 1, none)
abbrev mX6_init : Mth := (yX6_init, cX6_init, 1, none)
abbrev mX6_number : Mth := (yX6_number, cX6_number, 2, some FieldType.int)
abbrev mX6_put : Mth := (yX6_put, cX6_put, 3, none)
abbrev mX6_takeFrom : Mth := (yX6_takeFrom, cX6_takeFrom, 2, none)
abbrev mX7_faultAt : Mth := (yX7_faultAt, cX7_faultAt, 2, some FieldType.int)
abbrev mX7_init : Mth := (yX7_init, cX7_init, 1, none)
abbrev mX7_isAlong : Mth := (yX7_isAlong, cX7_isAlong, 5, some FieldType.boolean)
abbrev mX7_numberAlong : Mth := (yX7_numberAlong, cX7_numberAlong, 5, some FieldType.int)
abbrev mX7_read : Mth := (yX7_read, cX7_read, 5, some FieldType.int)
abbrev mX7_readLine : Mth := (yX7_readLine, cX7_readLine, 4, some FieldType.int)
abbrev mX7_skipBetween : Mth := (yX7_skipBetween, cX7_skipBetween, 3, none)
abbrev mX7_skipBlanks : Mth := (yX7_skipBlanks, cX7_skipBlanks, 1, none)
abbrev mX7_wordAlong : Mth := (yX7_wordAlong, cX7_wordAlong, 4, some FieldType.int)
abbrev mX7_wordOf : Mth := (yX7_wordOf, cX7_wordOf, 1, some (FieldType.object "java/lang/String"))
abbrev mX8_addFinals : Mth := (yX8_addFinals, cX8_addFinals, 4, none)
abbrev mX8_addKnown : Mth := (yX8_addKnown, cX8_addKnown, 3, none)
abbrev mX8_addLedger : Mth := (yX8_addLedger, cX8_addLedger, 3, none)
abbrev mX8_addWork : Mth := (yX8_addWork, cX8_addWork, 2, none)
abbrev mX8_clear : Mth := (yX8_clear, cX8_clear, 1, none)
abbrev mX8_holdsPlace : Mth := (yX8_holdsPlace, cX8_holdsPlace, 2, some FieldType.boolean)
abbrev mX8_init : Mth := (yX8_init, cX8_init, 1, none)
abbrev mX8_reduceWork : Mth := (yX8_reduceWork, cX8_reduceWork, 5, some FieldType.int)
abbrev mX8_setPlace : Mth := (yX8_setPlace, cX8_setPlace, 2, none)
abbrev mX9_addSignal : Mth := (yX9_addSignal, cX9_addSignal, 2, none)
abbrev mX9_clear : Mth := (yX9_clear, cX9_clear, 1, none)
abbrev mX9_draw : Mth := (yX9_draw, cX9_draw, 2, some FieldType.int)
abbrev mX9_hasDone : Mth := (yX9_hasDone, cX9_hasDone, 2, some FieldType.boolean)
abbrev mX9_init : Mth := (yX9_init, cX9_init, 1, none)
abbrev mX9_layOrder : Mth := (yX9_layOrder, cX9_layOrder, 6, none)
abbrev mX9_mark : Mth := (yX9_mark, cX9_mark, 3, some FieldType.int)
abbrev mX9_ordered : Mth := (yX9_ordered, cX9_ordered, 3, some FieldType.int)
abbrev mX9_takeFrom : Mth := (yX9_takeFrom, cX9_takeFrom, 2, none)
abbrev mX9_unlikeAlong : Mth := (yX9_unlikeAlong, cX9_unlikeAlong, 6, some FieldType.int)
abbrev mL_law : Mth := (yL_law, cL_law, 4, some FieldType.boolean)
theorem ini_J0 : Cond.initialized RJ0 ∈ goodW := (gw_1 (i := 17) (by decide +kernel) rfl)
theorem mk_J0_charAt_5068e : MV mJ0_charAt_5068e 1 := ⟨⟨⟨by decide, by decide, by decide +kernel⟩, ini_J0, (gw_2 (i := 237) rfl rfl)⟩, (gw_2 (i := 235) (by decide +kernel) rfl), (gw_2 (i := 236) (by decide +kernel) rfl)⟩
theorem mk_J0_checkIndex_df160 : MS mJ0_checkIndex_df160 2 := ⟨⟨⟨by decide, by decide, by decide +kernel⟩, ini_J0, (gw_3 (i := 7) rfl rfl)⟩, (gw_3 (i := 6) (by decide +kernel) rfl)⟩
theorem mk_J0_coder_7d493 : MV mJ0_coder_7d493 0 := ⟨⟨⟨by decide, by decide, by decide +kernel⟩, ini_J0, (gw_2 (i := 231) rfl rfl)⟩, (gw_2 (i := 229) (by decide +kernel) rfl), (gw_2 (i := 230) (by decide +kernel) rfl)⟩
theorem mk_J0_isLatin1_aae02 : MV mJ0_isLatin1_aae02 0 := ⟨⟨⟨by decide, by decide, by decide +kernel⟩, ini_J0, (gw_3 (i := 1) rfl rfl)⟩, (gw_2 (i := 239) (by decide +kernel) rfl), (gw_3 (i := 0) (by decide +kernel) rfl)⟩
theorem mk_J0_length_8abf5 : MV mJ0_length_8abf5 0 := ⟨⟨⟨by decide, by decide, by decide +kernel⟩, ini_J0, (gw_2 (i := 227) rfl rfl)⟩, (gw_2 (i := 225) (by decide +kernel) rfl), (gw_2 (i := 226) (by decide +kernel) rfl)⟩
theorem ini_J13 : Cond.initialized RJ13 ∈ goodW := (gw_1 (i := 21) (by decide +kernel) rfl)
theorem mk_J13_bitCount_95d88 : MS mJ13_bitCount_95d88 1 := ⟨⟨⟨by decide, by decide, by decide +kernel⟩, ini_J13, (gw_4 (i := 91) rfl rfl)⟩, (gw_4 (i := 90) (by decide +kernel) rfl)⟩
theorem ini_J1 : Cond.initialized RJ1 ∈ goodW := (gw_1 (i := 18) (by decide +kernel) rfl)
theorem mk_J1_charAt_3b067 : MS mJ1_charAt_3b067 2 := ⟨⟨⟨by decide, by decide, by decide +kernel⟩, ini_J1, (gw_3 (i := 4) rfl rfl)⟩, (gw_3 (i := 3) (by decide +kernel) rfl)⟩
theorem ini_J3 : Cond.initialized RJ3 ∈ goodW := (gw_1 (i := 19) (by decide +kernel) rfl)
theorem mk_J3_checkIndex_8e157 : MS mJ3_checkIndex_8e157 3 := ⟨⟨⟨by decide, by decide, by decide +kernel⟩, ini_J3, (gw_3 (i := 12) rfl rfl)⟩, (gw_3 (i := 11) (by decide +kernel) rfl)⟩
theorem ini_J7 : Cond.initialized RJ7 ∈ goodW := (gw_1 (i := 16) (by decide +kernel) rfl)
theorem mk_J7_copyOf_59c91 : MS mJ7_copyOf_59c91 2 := ⟨⟨⟨by decide, by decide, by decide +kernel⟩, ini_J7, (gw_3 (i := 200) rfl rfl)⟩, (gw_3 (i := 199) (by decide +kernel) rfl)⟩
theorem mk_J7_copyOf_c38d5 : MS mJ7_copyOf_c38d5 2 := ⟨⟨⟨by decide, by decide, by decide +kernel⟩, ini_J7, (gw_3 (i := 207) rfl rfl)⟩, (gw_3 (i := 206) (by decide +kernel) rfl)⟩
theorem mk_J7_fill_53178 : MS mJ7_fill_53178 2 := ⟨⟨⟨by decide, by decide, by decide +kernel⟩, ini_J7, (gw_2 (i := 191) rfl rfl)⟩, (gw_2 (i := 190) (by decide +kernel) rfl)⟩
theorem mk_J7_fill_d0a16 : MS mJ7_fill_d0a16 2 := ⟨⟨⟨by decide, by decide, by decide +kernel⟩, ini_J7, (gw_3 (i := 193) rfl rfl)⟩, (gw_3 (i := 192) (by decide +kernel) rfl)⟩
theorem ini_X0 : Cond.initialized RX0 ∈ goodW := (gw_1 (i := 10) (by decide +kernel) rfl)
theorem mk_X0_boundOf : MS mX0_boundOf 2 := ⟨⟨⟨by decide, by decide, by decide +kernel⟩, ini_X0, (gw_3 (i := 148) rfl rfl)⟩, (gw_3 (i := 147) (by decide +kernel) rfl)⟩
theorem mk_X0_compare : MV mX0_compare 2 := ⟨⟨⟨by decide, by decide, by decide +kernel⟩, ini_X0, (gw_4 (i := 5) rfl rfl)⟩, (gw_4 (i := 3) (by decide +kernel) rfl), (gw_4 (i := 4) (by decide +kernel) rfl)⟩
theorem mk_X0_drawFinal : MV mX0_drawFinal 2 := ⟨⟨⟨by decide, by decide, by decide +kernel⟩, ini_X0, (gw_4 (i := 25) rfl rfl)⟩, (gw_4 (i := 23) (by decide +kernel) rfl), (gw_4 (i := 24) (by decide +kernel) rfl)⟩
theorem mk_X0_drawRow : MS mX0_drawRow 3 := ⟨⟨⟨by decide, by decide, by decide +kernel⟩, ini_X0, (gw_4 (i := 8) rfl rfl)⟩, (gw_4 (i := 7) (by decide +kernel) rfl)⟩
theorem mk_X0_drawSignal : MS mX0_drawSignal 3 := ⟨⟨⟨by decide, by decide, by decide +kernel⟩, ini_X0, (gw_3 (i := 111) rfl rfl)⟩, (gw_3 (i := 110) (by decide +kernel) rfl)⟩
theorem mk_X0_drawSignals : MV mX0_drawSignals 2 := ⟨⟨⟨by decide, by decide, by decide +kernel⟩, ini_X0, (gw_3 (i := 106) rfl rfl)⟩, (gw_3 (i := 104) (by decide +kernel) rfl), (gw_3 (i := 105) (by decide +kernel) rfl)⟩
theorem mk_X0_init : MI mX0_init 0 := ⟨⟨⟨by decide, by decide, by decide +kernel⟩, ini_X0, (gw_2 (i := 65) rfl rfl)⟩, (gw_2 (i := 64) (by decide +kernel) rfl), rfl, rfl⟩
theorem mk_X0_rootOf : MS mX0_rootOf 1 := ⟨⟨⟨by decide, by decide, by decide +kernel⟩, ini_X0, (gw_3 (i := 151) rfl rfl)⟩, (gw_3 (i := 150) (by decide +kernel) rfl)⟩
theorem mk_X0_setOfRow : MS mX0_setOfRow 4 := ⟨⟨⟨by decide, by decide, by decide +kernel⟩, ini_X0, (gw_4 (i := 15) rfl rfl)⟩, (gw_4 (i := 14) (by decide +kernel) rfl)⟩
theorem mk_X0_tellSample : MV mX0_tellSample 2 := ⟨⟨⟨by decide, by decide, by decide +kernel⟩, ini_X0, (gw_3 (i := 133) rfl rfl)⟩, (gw_3 (i := 131) (by decide +kernel) rfl), (gw_3 (i := 132) (by decide +kernel) rfl)⟩
theorem ini_X10 : Cond.initialized RX10 ∈ goodW := (gw_1 (i := 12) (by decide +kernel) rfl)
theorem mk_X10_bestBlock : MV mX10_bestBlock 3 := ⟨⟨⟨by decide, by decide, by decide +kernel⟩, ini_X10, (gw_4 (i := 217) rfl rfl)⟩, (gw_4 (i := 215) (by decide +kernel) rfl), (gw_4 (i := 216) (by decide +kernel) rfl)⟩
theorem mk_X10_greatestNoise : MV mX10_greatestNoise 2 := ⟨⟨⟨by decide, by decide, by decide +kernel⟩, ini_X10, (gw_5 (i := 8) rfl rfl)⟩, (gw_5 (i := 6) (by decide +kernel) rfl), (gw_5 (i := 7) (by decide +kernel) rfl)⟩
theorem mk_X10_init : MI mX10_init 0 := ⟨⟨⟨by decide, by decide, by decide +kernel⟩, ini_X10, (gw_2 (i := 98) rfl rfl)⟩, (gw_2 (i := 97) (by decide +kernel) rfl), rfl, rfl⟩
theorem mk_X10_overSeeds : MV mX10_overSeeds 3 := ⟨⟨⟨by decide, by decide, by decide +kernel⟩, ini_X10, (gw_4 (i := 228) rfl rfl)⟩, (gw_4 (i := 226) (by decide +kernel) rfl), (gw_4 (i := 227) (by decide +kernel) rfl)⟩
theorem mk_X10_passOn : MV mX10_passOn 1 := ⟨⟨⟨by decide, by decide, by decide +kernel⟩, ini_X10, (gw_4 (i := 198) rfl rfl)⟩, (gw_4 (i := 197) (by decide +kernel) rfl), (sel_priv (i := 16) (n := 4) (by decide +kernel))⟩
theorem mk_X10_roundsTillAlike : MV mX10_roundsTillAlike 3 := ⟨⟨⟨by decide, by decide, by decide +kernel⟩, ini_X10, (gw_4 (i := 208) rfl rfl)⟩, (gw_4 (i := 206) (by decide +kernel) rfl), (gw_4 (i := 207) (by decide +kernel) rfl)⟩
theorem mk_X10_runPasses : MV mX10_runPasses 3 := ⟨⟨⟨by decide, by decide, by decide +kernel⟩, ini_X10, (gw_4 (i := 192) rfl rfl)⟩, (gw_4 (i := 190) (by decide +kernel) rfl), (gw_4 (i := 191) (by decide +kernel) rfl)⟩
theorem mk_X10_runWhole : MV mX10_runWhole 1 := ⟨⟨⟨by decide, by decide, by decide +kernel⟩, ini_X10, (gw_4 (i := 232) rfl rfl)⟩, (gw_4 (i := 231) (by decide +kernel) rfl), (sel_priv (i := 17) (n := 4) (by decide +kernel))⟩
theorem ini_X11 : Cond.initialized RX11 ∈ goodW := (gw_1 (i := 1) (by decide +kernel) rfl)
theorem mk_X11_back : MV mX11_back 1 := ⟨⟨⟨by decide, by decide, by decide +kernel⟩, ini_X11, (gw_5 (i := 17) rfl rfl)⟩, (gw_5 (i := 15) (by decide +kernel) rfl), (gw_5 (i := 16) (by decide +kernel) rfl)⟩
theorem mk_X11_begin : MV mX11_begin 0 := ⟨⟨⟨by decide, by decide, by decide +kernel⟩, ini_X11, (gw_3 (i := 77) rfl rfl)⟩, (gw_3 (i := 75) (by decide +kernel) rfl), (gw_3 (i := 76) (by decide +kernel) rfl)⟩
theorem mk_X11_best : MV mX11_best 1 := ⟨⟨⟨by decide, by decide, by decide +kernel⟩, ini_X11, (gw_4 (i := 213) rfl rfl)⟩, (gw_4 (i := 211) (by decide +kernel) rfl), (gw_4 (i := 212) (by decide +kernel) rfl)⟩
theorem mk_X11_block : MV mX11_block 3 := ⟨⟨⟨by decide, by decide, by decide +kernel⟩, ini_X11, (gw_4 (i := 115) rfl rfl)⟩, (gw_4 (i := 113) (by decide +kernel) rfl), (gw_4 (i := 114) (by decide +kernel) rfl)⟩
theorem mk_X11_blocksOf : MS mX11_blocksOf 2 := ⟨⟨⟨by decide, by decide, by decide +kernel⟩, ini_X11, (gw_3 (i := 176) rfl rfl)⟩, (gw_3 (i := 175) (by decide +kernel) rfl)⟩
theorem mk_X11_check : MV mX11_check 0 := ⟨⟨⟨by decide, by decide, by decide +kernel⟩, ini_X11, (gw_4 (i := 1) rfl rfl)⟩, (gw_3 (i := 239) (by decide +kernel) rfl), (gw_4 (i := 0) (by decide +kernel) rfl)⟩
theorem mk_X11_count : MV mX11_count 1 := ⟨⟨⟨by decide, by decide, by decide +kernel⟩, ini_X11, (gw_4 (i := 127) rfl rfl)⟩, (gw_4 (i := 125) (by decide +kernel) rfl), (gw_4 (i := 126) (by decide +kernel) rfl)⟩
theorem mk_X11_end : MV mX11_end 1 := ⟨⟨⟨by decide, by decide, by decide +kernel⟩, ini_X11, (gw_2 (i := 170) rfl rfl)⟩, (gw_2 (i := 168) (by decide +kernel) rfl), (gw_2 (i := 169) (by decide +kernel) rfl)⟩
theorem mk_X11_feed : MV mX11_feed 5 := ⟨⟨⟨by decide, by decide, by decide +kernel⟩, ini_X11, (gw_2 (i := 162) rfl rfl)⟩, (gw_2 (i := 160) (by decide +kernel) rfl), (gw_2 (i := 161) (by decide +kernel) rfl)⟩
theorem mk_X11_fixed : MV mX11_fixed 1 := ⟨⟨⟨by decide, by decide, by decide +kernel⟩, ini_X11, (gw_4 (i := 154) rfl rfl)⟩, (gw_4 (i := 152) (by decide +kernel) rfl), (gw_4 (i := 153) (by decide +kernel) rfl)⟩
theorem mk_X11_image : MV mX11_image 1 := ⟨⟨⟨by decide, by decide, by decide +kernel⟩, ini_X11, (gw_5 (i := 12) rfl rfl)⟩, (gw_5 (i := 10) (by decide +kernel) rfl), (gw_5 (i := 11) (by decide +kernel) rfl)⟩
theorem mk_X11_init : MI mX11_init 0 := ⟨⟨⟨by decide, by decide, by decide +kernel⟩, ini_X11, (gw_1 (i := 26) rfl rfl)⟩, (gw_1 (i := 25) (by decide +kernel) rfl), rfl, rfl⟩
theorem mk_X11_isIn : MV mX11_isIn 2 := ⟨⟨⟨by decide, by decide, by decide +kernel⟩, ini_X11, (gw_4 (i := 106) rfl rfl)⟩, (gw_4 (i := 104) (by decide +kernel) rfl), (gw_4 (i := 105) (by decide +kernel) rfl)⟩
theorem mk_X11_isMending : MV mX11_isMending 0 := ⟨⟨⟨by decide, by decide, by decide +kernel⟩, ini_X11, (gw_3 (i := 160) rfl rfl)⟩, (gw_3 (i := 159) (by decide +kernel) rfl), (sel_priv (i := 7) (n := 12) (by decide +kernel))⟩
theorem mk_X11_key : MV mX11_key 2 := ⟨⟨⟨by decide, by decide, by decide +kernel⟩, ini_X11, (gw_4 (i := 67) rfl rfl)⟩, (gw_4 (i := 65) (by decide +kernel) rfl), (gw_4 (i := 66) (by decide +kernel) rfl)⟩
theorem mk_X11_last : MV mX11_last 2 := ⟨⟨⟨by decide, by decide, by decide +kernel⟩, ini_X11, (gw_4 (i := 111) rfl rfl)⟩, (gw_4 (i := 109) (by decide +kernel) rfl), (gw_4 (i := 110) (by decide +kernel) rfl)⟩
theorem mk_X11_ledger : MV mX11_ledger 2 := ⟨⟨⟨by decide, by decide, by decide +kernel⟩, ini_X11, (gw_4 (i := 80) rfl rfl)⟩, (gw_4 (i := 78) (by decide +kernel) rfl), (gw_4 (i := 79) (by decide +kernel) rfl)⟩
theorem mk_X11_lengthOf : MS mX11_lengthOf 3 := ⟨⟨⟨by decide, by decide, by decide +kernel⟩, ini_X11, (gw_3 (i := 180) rfl rfl)⟩, (gw_3 (i := 179) (by decide +kernel) rfl)⟩
theorem mk_X11_noise : MV mX11_noise 1 := ⟨⟨⟨by decide, by decide, by decide +kernel⟩, ini_X11, (gw_5 (i := 4) rfl rfl)⟩, (gw_5 (i := 2) (by decide +kernel) rfl), (gw_5 (i := 3) (by decide +kernel) rfl)⟩
theorem mk_X11_order : MV mX11_order 2 := ⟨⟨⟨by decide, by decide, by decide +kernel⟩, ini_X11, (gw_4 (i := 71) rfl rfl)⟩, (gw_4 (i := 69) (by decide +kernel) rfl), (gw_4 (i := 70) (by decide +kernel) rfl)⟩
theorem mk_X11_pass : MV mX11_pass 0 := ⟨⟨⟨by decide, by decide, by decide +kernel⟩, ini_X11, (gw_3 (i := 156) rfl rfl)⟩, (gw_3 (i := 154) (by decide +kernel) rfl), (gw_3 (i := 155) (by decide +kernel) rfl)⟩
theorem mk_X11_plan : MV mX11_plan 0 := ⟨⟨⟨by decide, by decide, by decide +kernel⟩, ini_X11, (gw_2 (i := 174) rfl rfl)⟩, (gw_2 (i := 172) (by decide +kernel) rfl), (gw_2 (i := 173) (by decide +kernel) rfl)⟩
theorem mk_X11_rank : MV mX11_rank 0 := ⟨⟨⟨by decide, by decide, by decide +kernel⟩, ini_X11, (gw_4 (i := 131) rfl rfl)⟩, (gw_4 (i := 129) (by decide +kernel) rfl), (gw_4 (i := 130) (by decide +kernel) rfl)⟩
theorem mk_X11_rounds : MV mX11_rounds 1 := ⟨⟨⟨by decide, by decide, by decide +kernel⟩, ini_X11, (gw_4 (i := 204) rfl rfl)⟩, (gw_4 (i := 202) (by decide +kernel) rfl), (gw_4 (i := 203) (by decide +kernel) rfl)⟩
theorem mk_X11_sample : MV mX11_sample 0 := ⟨⟨⟨by decide, by decide, by decide +kernel⟩, ini_X11, (gw_3 (i := 129) rfl rfl)⟩, (gw_3 (i := 127) (by decide +kernel) rfl), (gw_3 (i := 128) (by decide +kernel) rfl)⟩
theorem mk_X11_secret : MV mX11_secret 1 := ⟨⟨⟨by decide, by decide, by decide +kernel⟩, ini_X11, (gw_4 (i := 175) rfl rfl)⟩, (gw_4 (i := 173) (by decide +kernel) rfl), (gw_4 (i := 174) (by decide +kernel) rfl)⟩
theorem mk_X11_seeds : MV mX11_seeds 2 := ⟨⟨⟨by decide, by decide, by decide +kernel⟩, ini_X11, (gw_4 (i := 224) rfl rfl)⟩, (gw_4 (i := 222) (by decide +kernel) rfl), (gw_4 (i := 223) (by decide +kernel) rfl)⟩
theorem mk_X11_send : MV mX11_send 1 := ⟨⟨⟨by decide, by decide, by decide +kernel⟩, ini_X11, (gw_4 (i := 29) rfl rfl)⟩, (gw_4 (i := 27) (by decide +kernel) rfl), (gw_4 (i := 28) (by decide +kernel) rfl)⟩
theorem mk_X11_setting : MV mX11_setting 1 := ⟨⟨⟨by decide, by decide, by decide +kernel⟩, ini_X11, (gw_3 (i := 69) rfl rfl)⟩, (gw_3 (i := 67) (by decide +kernel) rfl), (gw_3 (i := 68) (by decide +kernel) rfl)⟩
theorem mk_X11_shorten : MV mX11_shorten 0 := ⟨⟨⟨by decide, by decide, by decide +kernel⟩, ini_X11, (gw_4 (i := 21) rfl rfl)⟩, (gw_4 (i := 19) (by decide +kernel) rfl), (gw_4 (i := 20) (by decide +kernel) rfl)⟩
theorem mk_X11_signal : MV mX11_signal 2 := ⟨⟨⟨by decide, by decide, by decide +kernel⟩, ini_X11, (gw_4 (i := 59) rfl rfl)⟩, (gw_4 (i := 57) (by decide +kernel) rfl), (gw_4 (i := 58) (by decide +kernel) rfl)⟩
theorem mk_X11_slip : MV mX11_slip 1 := ⟨⟨⟨by decide, by decide, by decide +kernel⟩, ini_X11, (gw_4 (i := 41) rfl rfl)⟩, (gw_4 (i := 39) (by decide +kernel) rfl), (gw_4 (i := 40) (by decide +kernel) rfl)⟩
theorem mk_X11_spied : MV mX11_spied 1 := ⟨⟨⟨by decide, by decide, by decide +kernel⟩, ini_X11, (gw_4 (i := 167) rfl rfl)⟩, (gw_4 (i := 165) (by decide +kernel) rfl), (gw_4 (i := 166) (by decide +kernel) rfl)⟩
theorem mk_X11_tapeFour : MV mX11_tapeFour 1 := ⟨⟨⟨by decide, by decide, by decide +kernel⟩, ini_X11, (gw_2 (i := 166) rfl rfl)⟩, (gw_2 (i := 165) (by decide +kernel) rfl), (sel_priv (i := 0) (n := 12) (by decide +kernel))⟩
theorem mk_X11_undo : MV mX11_undo 0 := ⟨⟨⟨by decide, by decide, by decide +kernel⟩, ini_X11, (gw_4 (i := 51) rfl rfl)⟩, (gw_4 (i := 49) (by decide +kernel) rfl), (gw_4 (i := 50) (by decide +kernel) rfl)⟩
theorem mk_X11_winnow : MV mX11_winnow 0 := ⟨⟨⟨by decide, by decide, by decide +kernel⟩, ini_X11, (gw_3 (i := 228) rfl rfl)⟩, (gw_3 (i := 226) (by decide +kernel) rfl), (gw_3 (i := 227) (by decide +kernel) rfl)⟩
theorem mk_X11_would : MV mX11_would 2 := ⟨⟨⟨by decide, by decide, by decide +kernel⟩, ini_X11, (gw_4 (i := 188) rfl rfl)⟩, (gw_4 (i := 186) (by decide +kernel) rfl), (gw_4 (i := 187) (by decide +kernel) rfl)⟩
theorem ini_X12 : Cond.initialized RX12 ∈ goodW := (gw_1 (i := 13) (by decide +kernel) rfl)
theorem mk_X12_adds : MV mX12_adds 1 := ⟨⟨⟨by decide, by decide, by decide +kernel⟩, ini_X12, (gw_6 (i := 122) rfl rfl)⟩, (gw_6 (i := 121) (by decide +kernel) rfl), (sel_priv (i := 59) (n := 24) (by decide +kernel))⟩
theorem mk_X12_areLastAlike : MV mX12_areLastAlike 0 := ⟨⟨⟨by decide, by decide, by decide +kernel⟩, ini_X12, (gw_6 (i := 230) rfl rfl)⟩, (gw_6 (i := 229) (by decide +kernel) rfl), (sel_priv (i := 75) (n := 24) (by decide +kernel))⟩
theorem mk_X12_asks : MV mX12_asks 3 := ⟨⟨⟨by decide, by decide, by decide +kernel⟩, ini_X12, (gw_5 (i := 235) rfl rfl)⟩, (gw_5 (i := 234) (by decide +kernel) rfl), (sel_priv (i := 37) (n := 24) (by decide +kernel))⟩
theorem mk_X12_asksEight : MV mX12_asksEight 2 := ⟨⟨⟨by decide, by decide, by decide +kernel⟩, ini_X12, (gw_6 (i := 27) rfl rfl)⟩, (gw_6 (i := 26) (by decide +kernel) rfl), (sel_priv (i := 44) (n := 24) (by decide +kernel))⟩
theorem mk_X12_back : MV mX12_back 1 := ⟨⟨⟨by decide, by decide, by decide +kernel⟩, ini_X12, (gw_7 (i := 10) rfl rfl)⟩, (gw_7 (i := 8) (by decide +kernel) rfl), (gw_7 (i := 9) (by decide +kernel) rfl)⟩
theorem mk_X12_basesNone : MV mX12_basesNone 0 := ⟨⟨⟨by decide, by decide, by decide +kernel⟩, ini_X12, (gw_6 (i := 150) rfl rfl)⟩, (gw_6 (i := 149) (by decide +kernel) rfl), (sel_priv (i := 64) (n := 24) (by decide +kernel))⟩
theorem mk_X12_begin : MV mX12_begin 0 := ⟨⟨⟨by decide, by decide, by decide +kernel⟩, ini_X12, (gw_5 (i := 168) rfl rfl)⟩, (gw_5 (i := 166) (by decide +kernel) rfl), (gw_5 (i := 167) (by decide +kernel) rfl)⟩
theorem mk_X12_begins : MV mX12_begins 0 := ⟨⟨⟨by decide, by decide, by decide +kernel⟩, ini_X12, (gw_5 (i := 34) rfl rfl)⟩, (gw_5 (i := 33) (by decide +kernel) rfl), (sel_priv (i := 19) (n := 24) (by decide +kernel))⟩
theorem mk_X12_beginsBy : MV mX12_beginsBy 1 := ⟨⟨⟨by decide, by decide, by decide +kernel⟩, ini_X12, (gw_5 (i := 176) rfl rfl)⟩, (gw_5 (i := 175) (by decide +kernel) rfl), (sel_priv (i := 26) (n := 24) (by decide +kernel))⟩
theorem mk_X12_best : MV mX12_best 1 := ⟨⟨⟨by decide, by decide, by decide +kernel⟩, ini_X12, (gw_6 (i := 213) rfl rfl)⟩, (gw_6 (i := 211) (by decide +kernel) rfl), (gw_6 (i := 212) (by decide +kernel) rfl)⟩
theorem mk_X12_block : MV mX12_block 3 := ⟨⟨⟨by decide, by decide, by decide +kernel⟩, ini_X12, (gw_6 (i := 191) rfl rfl)⟩, (gw_6 (i := 189) (by decide +kernel) rfl), (gw_6 (i := 190) (by decide +kernel) rfl)⟩
theorem mk_X12_blockOf : MV mX12_blockOf 1 := ⟨⟨⟨by decide, by decide, by decide +kernel⟩, ini_X12, (gw_5 (i := 231) rfl rfl)⟩, (gw_5 (i := 230) (by decide +kernel) rfl), (sel_priv (i := 36) (n := 24) (by decide +kernel))⟩
theorem mk_X12_byteAt : MV mX12_byteAt 1 := ⟨⟨⟨by decide, by decide, by decide +kernel⟩, ini_X12, (gw_5 (i := 139) rfl rfl)⟩, (gw_5 (i := 138) (by decide +kernel) rfl), (sel_priv (i := 23) (n := 24) (by decide +kernel))⟩
theorem mk_X12_byteOf : MV mX12_byteOf 1 := ⟨⟨⟨by decide, by decide, by decide +kernel⟩, ini_X12, (gw_6 (i := 64) rfl rfl)⟩, (gw_6 (i := 63) (by decide +kernel) rfl), (sel_priv (i := 50) (n := 24) (by decide +kernel))⟩
theorem mk_X12_check : MV mX12_check 0 := ⟨⟨⟨by decide, by decide, by decide +kernel⟩, ini_X12, (gw_6 (i := 35) rfl rfl)⟩, (gw_6 (i := 33) (by decide +kernel) rfl), (gw_6 (i := 34) (by decide +kernel) rfl)⟩
theorem mk_X12_checks : MV mX12_checks 0 := ⟨⟨⟨by decide, by decide, by decide +kernel⟩, ini_X12, (gw_6 (i := 39) rfl rfl)⟩, (gw_6 (i := 38) (by decide +kernel) rfl), (sel_priv (i := 46) (n := 24) (by decide +kernel))⟩
theorem mk_X12_copies : MS mX12_copies 4 := ⟨⟨⟨by decide, by decide, by decide +kernel⟩, ini_X12, (gw_5 (i := 164) rfl rfl)⟩, (gw_5 (i := 163) (by decide +kernel) rfl)⟩
theorem mk_X12_count : MV mX12_count 1 := ⟨⟨⟨by decide, by decide, by decide +kernel⟩, ini_X12, (gw_7 (i := 14) rfl rfl)⟩, (gw_7 (i := 12) (by decide +kernel) rfl), (gw_7 (i := 13) (by decide +kernel) rfl)⟩
theorem mk_X12_draw : MV mX12_draw 1 := ⟨⟨⟨by decide, by decide, by decide +kernel⟩, ini_X12, (gw_5 (i := 184) rfl rfl)⟩, (gw_5 (i := 183) (by decide +kernel) rfl), (sel_priv (i := 28) (n := 24) (by decide +kernel))⟩
theorem mk_X12_drawsRow : MV mX12_drawsRow 2 := ⟨⟨⟨by decide, by decide, by decide +kernel⟩, ini_X12, (gw_6 (i := 43) rfl rfl)⟩, (gw_6 (i := 42) (by decide +kernel) rfl), (sel_priv (i := 47) (n := 24) (by decide +kernel))⟩
theorem mk_X12_end : MV mX12_end 1 := ⟨⟨⟨by decide, by decide, by decide +kernel⟩, ini_X12, (gw_5 (i := 116) rfl rfl)⟩, (gw_5 (i := 114) (by decide +kernel) rfl), (gw_5 (i := 115) (by decide +kernel) rfl)⟩
theorem mk_X12_fails : MV mX12_fails 2 := ⟨⟨⟨by decide, by decide, by decide +kernel⟩, ini_X12, (gw_5 (i := 146) rfl rfl)⟩, (gw_5 (i := 145) (by decide +kernel) rfl), (sel_priv (i := 24) (n := 24) (by decide +kernel))⟩
theorem mk_X12_feed : MV mX12_feed 5 := ⟨⟨⟨by decide, by decide, by decide +kernel⟩, ini_X12, (gw_5 (i := 112) rfl rfl)⟩, (gw_5 (i := 110) (by decide +kernel) rfl), (gw_5 (i := 111) (by decide +kernel) rfl)⟩
theorem mk_X12_finds : MV mX12_finds 2 := ⟨⟨⟨by decide, by decide, by decide +kernel⟩, ini_X12, (gw_6 (i := 19) rfl rfl)⟩, (gw_6 (i := 18) (by decide +kernel) rfl), (sel_priv (i := 43) (n := 24) (by decide +kernel))⟩
theorem mk_X12_fixed : MV mX12_fixed 1 := ⟨⟨⟨by decide, by decide, by decide +kernel⟩, ini_X12, (gw_6 (i := 166) rfl rfl)⟩, (gw_6 (i := 164) (by decide +kernel) rfl), (gw_6 (i := 165) (by decide +kernel) rfl)⟩
theorem mk_X12_goesAll : MV mX12_goesAll 1 := ⟨⟨⟨by decide, by decide, by decide +kernel⟩, ini_X12, (gw_6 (i := 226) rfl rfl)⟩, (gw_6 (i := 225) (by decide +kernel) rfl), (sel_priv (i := 74) (n := 24) (by decide +kernel))⟩
theorem mk_X12_halves : MV mX12_halves 3 := ⟨⟨⟨by decide, by decide, by decide +kernel⟩, ini_X12, (gw_6 (i := 11) rfl rfl)⟩, (gw_6 (i := 10) (by decide +kernel) rfl), (sel_priv (i := 41) (n := 24) (by decide +kernel))⟩
theorem mk_X12_image : MV mX12_image 1 := ⟨⟨⟨by decide, by decide, by decide +kernel⟩, ini_X12, (gw_7 (i := 6) rfl rfl)⟩, (gw_7 (i := 4) (by decide +kernel) rfl), (gw_7 (i := 5) (by decide +kernel) rfl)⟩
theorem mk_X12_init : MI mX12_init 0 := ⟨⟨⟨by decide, by decide, by decide +kernel⟩, ini_X12, (gw_5 (i := 22) rfl rfl)⟩, (gw_5 (i := 21) (by decide +kernel) rfl), rfl, rfl⟩
theorem mk_X12_isDigit : MS mX12_isDigit 1 := ⟨⟨⟨by decide, by decide, by decide +kernel⟩, ini_X12, (gw_5 (i := 149) rfl rfl)⟩, (gw_5 (i := 148) (by decide +kernel) rfl)⟩
theorem mk_X12_isFixed : MV mX12_isFixed 1 := ⟨⟨⟨by decide, by decide, by decide +kernel⟩, ini_X12, (gw_6 (i := 171) rfl rfl)⟩, (gw_6 (i := 170) (by decide +kernel) rfl), (sel_priv (i := 68) (n := 24) (by decide +kernel))⟩
theorem mk_X12_isGoodBy : MV mX12_isGoodBy 1 := ⟨⟨⟨by decide, by decide, by decide +kernel⟩, ini_X12, (gw_6 (i := 238) rfl rfl)⟩, (gw_6 (i := 237) (by decide +kernel) rfl), (sel_priv (i := 76) (n := 24) (by decide +kernel))⟩
theorem mk_X12_isIn : MV mX12_isIn 2 := ⟨⟨⟨by decide, by decide, by decide +kernel⟩, ini_X12, (gw_6 (i := 142) rfl rfl)⟩, (gw_6 (i := 140) (by decide +kernel) rfl), (gw_6 (i := 141) (by decide +kernel) rfl)⟩
theorem mk_X12_isIn1 : MS mX12_isIn1 3 := ⟨⟨⟨by decide, by decide, by decide +kernel⟩, ini_X12, (gw_5 (i := 119) rfl rfl)⟩, (gw_5 (i := 118) (by decide +kernel) rfl)⟩
theorem mk_X12_isInSet : MV mX12_isInSet 1 := ⟨⟨⟨by decide, by decide, by decide +kernel⟩, ini_X12, (gw_6 (i := 134) rfl rfl)⟩, (gw_6 (i := 133) (by decide +kernel) rfl), (sel_priv (i := 62) (n := 24) (by decide +kernel))⟩
theorem mk_X12_isLetter : MS mX12_isLetter 1 := ⟨⟨⟨by decide, by decide, by decide +kernel⟩, ini_X12, (gw_5 (i := 142) rfl rfl)⟩, (gw_5 (i := 141) (by decide +kernel) rfl)⟩
theorem mk_X12_isMending : MV mX12_isMending 0 := ⟨⟨⟨by decide, by decide, by decide +kernel⟩, ini_X12, (gw_5 (i := 215) rfl rfl)⟩, (gw_5 (i := 214) (by decide +kernel) rfl), (sel_priv (i := 32) (n := 24) (by decide +kernel))⟩
theorem mk_X12_isPass : MV mX12_isPass 1 := ⟨⟨⟨by decide, by decide, by decide +kernel⟩, ini_X12, (gw_6 (i := 98) rfl rfl)⟩, (gw_6 (i := 97) (by decide +kernel) rfl), (sel_priv (i := 54) (n := 24) (by decide +kernel))⟩
theorem mk_X12_isPlace : MV mX12_isPlace 1 := ⟨⟨⟨by decide, by decide, by decide +kernel⟩, ini_X12, (gw_6 (i := 72) rfl rfl)⟩, (gw_6 (i := 71) (by decide +kernel) rfl), (sel_priv (i := 51) (n := 24) (by decide +kernel))⟩
theorem mk_X12_isSifted : MV mX12_isSifted 1 := ⟨⟨⟨by decide, by decide, by decide +kernel⟩, ini_X12, (gw_5 (i := 192) rfl rfl)⟩, (gw_5 (i := 191) (by decide +kernel) rfl), (sel_priv (i := 29) (n := 24) (by decide +kernel))⟩
theorem mk_X12_isSpied : MV mX12_isSpied 1 := ⟨⟨⟨by decide, by decide, by decide +kernel⟩, ini_X12, (gw_6 (i := 187) rfl rfl)⟩, (gw_6 (i := 186) (by decide +kernel) rfl), (sel_priv (i := 70) (n := 24) (by decide +kernel))⟩
theorem mk_X12_isTold : MV mX12_isTold 1 := ⟨⟨⟨by decide, by decide, by decide +kernel⟩, ini_X12, (gw_6 (i := 106) rfl rfl)⟩, (gw_6 (i := 105) (by decide +kernel) rfl), (sel_priv (i := 55) (n := 24) (by decide +kernel))⟩
theorem mk_X12_isUnlike : MV mX12_isUnlike 3 := ⟨⟨⟨by decide, by decide, by decide +kernel⟩, ini_X12, (gw_6 (i := 7) rfl rfl)⟩, (gw_6 (i := 6) (by decide +kernel) rfl), (sel_priv (i := 40) (n := 24) (by decide +kernel))⟩
theorem mk_X12_keepsAct : MV mX12_keepsAct 0 := ⟨⟨⟨by decide, by decide, by decide +kernel⟩, ini_X12, (gw_5 (i := 172) rfl rfl)⟩, (gw_5 (i := 171) (by decide +kernel) rfl), (sel_priv (i := 25) (n := 24) (by decide +kernel))⟩
theorem mk_X12_keepsAside : MV mX12_keepsAside 0 := ⟨⟨⟨by decide, by decide, by decide +kernel⟩, ini_X12, (gw_6 (i := 205) rfl rfl)⟩, (gw_6 (i := 204) (by decide +kernel) rfl), (sel_priv (i := 71) (n := 24) (by decide +kernel))⟩
theorem mk_X12_key : MV mX12_key 2 := ⟨⟨⟨by decide, by decide, by decide +kernel⟩, ini_X12, (gw_6 (i := 90) rfl rfl)⟩, (gw_6 (i := 88) (by decide +kernel) rfl), (gw_6 (i := 89) (by decide +kernel) rfl)⟩
theorem mk_X12_last : MV mX12_last 2 := ⟨⟨⟨by decide, by decide, by decide +kernel⟩, ini_X12, (gw_6 (i := 179) rfl rfl)⟩, (gw_6 (i := 177) (by decide +kernel) rfl), (gw_6 (i := 178) (by decide +kernel) rfl)⟩
theorem mk_X12_laysBack : MV mX12_laysBack 0 := ⟨⟨⟨by decide, by decide, by decide +kernel⟩, ini_X12, (gw_6 (i := 209) rfl rfl)⟩, (gw_6 (i := 208) (by decide +kernel) rfl), (sel_priv (i := 72) (n := 24) (by decide +kernel))⟩
theorem mk_X12_laysOne : MV mX12_laysOne 1 := ⟨⟨⟨by decide, by decide, by decide +kernel⟩, ini_X12, (gw_6 (i := 175) rfl rfl)⟩, (gw_6 (i := 174) (by decide +kernel) rfl), (sel_priv (i := 69) (n := 24) (by decide +kernel))⟩
theorem mk_X12_laysRowSet : MV mX12_laysRowSet 2 := ⟨⟨⟨by decide, by decide, by decide +kernel⟩, ini_X12, (gw_6 (i := 126) rfl rfl)⟩, (gw_6 (i := 125) (by decide +kernel) rfl), (sel_priv (i := 60) (n := 24) (by decide +kernel))⟩
theorem mk_X12_laysSet : MV mX12_laysSet 1 := ⟨⟨⟨by decide, by decide, by decide +kernel⟩, ini_X12, (gw_6 (i := 110) rfl rfl)⟩, (gw_6 (i := 109) (by decide +kernel) rfl), (sel_priv (i := 56) (n := 24) (by decide +kernel))⟩
theorem mk_X12_leastInSet : MV mX12_leastInSet 0 := ⟨⟨⟨by decide, by decide, by decide +kernel⟩, ini_X12, (gw_6 (i := 138) rfl rfl)⟩, (gw_6 (i := 137) (by decide +kernel) rfl), (sel_priv (i := 63) (n := 24) (by decide +kernel))⟩
theorem mk_X12_ledger : MV mX12_ledger 2 := ⟨⟨⟨by decide, by decide, by decide +kernel⟩, ini_X12, (gw_6 (i := 102) rfl rfl)⟩, (gw_6 (i := 100) (by decide +kernel) rfl), (gw_6 (i := 101) (by decide +kernel) rfl)⟩
theorem mk_X12_longOf : MV mX12_longOf 2 := ⟨⟨⟨by decide, by decide, by decide +kernel⟩, ini_X12, (gw_5 (i := 227) rfl rfl)⟩, (gw_5 (i := 226) (by decide +kernel) rfl), (sel_priv (i := 35) (n := 24) (by decide +kernel))⟩
theorem mk_X12_mends : MV mX12_mends 1 := ⟨⟨⟨by decide, by decide, by decide +kernel⟩, ini_X12, (gw_6 (i := 15) rfl rfl)⟩, (gw_6 (i := 14) (by decide +kernel) rfl), (sel_priv (i := 42) (n := 24) (by decide +kernel))⟩
theorem mk_X12_next : MV mX12_next 0 := ⟨⟨⟨by decide, by decide, by decide +kernel⟩, ini_X12, (gw_5 (i := 135) rfl rfl)⟩, (gw_5 (i := 134) (by decide +kernel) rfl), (sel_priv (i := 22) (n := 24) (by decide +kernel))⟩
theorem mk_X12_noise : MV mX12_noise 1 := ⟨⟨⟨by decide, by decide, by decide +kernel⟩, ini_X12, (gw_6 (i := 234) rfl rfl)⟩, (gw_6 (i := 232) (by decide +kernel) rfl), (gw_6 (i := 233) (by decide +kernel) rfl)⟩
theorem mk_X12_ofSignal : MV mX12_ofSignal 2 := ⟨⟨⟨by decide, by decide, by decide +kernel⟩, ini_X12, (gw_5 (i := 196) rfl rfl)⟩, (gw_5 (i := 195) (by decide +kernel) rfl), (sel_priv (i := 30) (n := 24) (by decide +kernel))⟩
theorem mk_X12_order : MV mX12_order 2 := ⟨⟨⟨by decide, by decide, by decide +kernel⟩, ini_X12, (gw_6 (i := 94) rfl rfl)⟩, (gw_6 (i := 92) (by decide +kernel) rfl), (gw_6 (i := 93) (by decide +kernel) rfl)⟩
theorem mk_X12_parityByRow : MV mX12_parityByRow 3 := ⟨⟨⟨by decide, by decide, by decide +kernel⟩, ini_X12, (gw_6 (i := 47) rfl rfl)⟩, (gw_6 (i := 46) (by decide +kernel) rfl), (sel_priv (i := 48) (n := 24) (by decide +kernel))⟩
theorem mk_X12_parityOf : MV mX12_parityOf 4 := ⟨⟨⟨by decide, by decide, by decide +kernel⟩, ini_X12, (gw_5 (i := 239) rfl rfl)⟩, (gw_5 (i := 238) (by decide +kernel) rfl), (sel_priv (i := 38) (n := 24) (by decide +kernel))⟩
theorem mk_X12_parityOfEight : MV mX12_parityOfEight 3 := ⟨⟨⟨by decide, by decide, by decide +kernel⟩, ini_X12, (gw_6 (i := 31) rfl rfl)⟩, (gw_6 (i := 30) (by decide +kernel) rfl), (sel_priv (i := 45) (n := 24) (by decide +kernel))⟩
theorem mk_X12_pass : MV mX12_pass 0 := ⟨⟨⟨by decide, by decide, by decide +kernel⟩, ini_X12, (gw_5 (i := 211) rfl rfl)⟩, (gw_5 (i := 209) (by decide +kernel) rfl), (gw_5 (i := 210) (by decide +kernel) rfl)⟩
theorem mk_X12_passes : MV mX12_passes 0 := ⟨⟨⟨by decide, by decide, by decide +kernel⟩, ini_X12, (gw_5 (i := 219) rfl rfl)⟩, (gw_5 (i := 218) (by decide +kernel) rfl), (sel_priv (i := 33) (n := 24) (by decide +kernel))⟩
theorem mk_X12_plan : MV mX12_plan 0 := ⟨⟨⟨by decide, by decide, by decide +kernel⟩, ini_X12, (gw_5 (i := 123) rfl rfl)⟩, (gw_5 (i := 121) (by decide +kernel) rfl), (gw_5 (i := 122) (by decide +kernel) rfl)⟩
theorem mk_X12_rank : MV mX12_rank 0 := ⟨⟨⟨by decide, by decide, by decide +kernel⟩, ini_X12, (gw_6 (i := 146) rfl rfl)⟩, (gw_6 (i := 144) (by decide +kernel) rfl), (gw_6 (i := 145) (by decide +kernel) rfl)⟩
theorem mk_X12_readsLine : MV mX12_readsLine 0 := ⟨⟨⟨by decide, by decide, by decide +kernel⟩, ini_X12, (gw_5 (i := 127) rfl rfl)⟩, (gw_5 (i := 126) (by decide +kernel) rfl), (sel_priv (i := 20) (n := 24) (by decide +kernel))⟩
theorem mk_X12_reduces : MV mX12_reduces 0 := ⟨⟨⟨by decide, by decide, by decide +kernel⟩, ini_X12, (gw_6 (i := 162) rfl rfl)⟩, (gw_6 (i := 161) (by decide +kernel) rfl), (sel_priv (i := 67) (n := 24) (by decide +kernel))⟩
theorem mk_X12_root : MS mX12_root 1 := ⟨⟨⟨by decide, by decide, by decide +kernel⟩, ini_X12, (gw_5 (i := 207) rfl rfl)⟩, (gw_5 (i := 206) (by decide +kernel) rfl)⟩
theorem mk_X12_rounds : MV mX12_rounds 1 := ⟨⟨⟨by decide, by decide, by decide +kernel⟩, ini_X12, (gw_7 (i := 2) rfl rfl)⟩, (gw_7 (i := 0) (by decide +kernel) rfl), (gw_7 (i := 1) (by decide +kernel) rfl)⟩
theorem mk_X12_sample : MV mX12_sample 0 := ⟨⟨⟨by decide, by decide, by decide +kernel⟩, ini_X12, (gw_5 (i := 200) rfl rfl)⟩, (gw_5 (i := 198) (by decide +kernel) rfl), (gw_5 (i := 199) (by decide +kernel) rfl)⟩
theorem mk_X12_samples : MV mX12_samples 0 := ⟨⟨⟨by decide, by decide, by decide +kernel⟩, ini_X12, (gw_5 (i := 204) rfl rfl)⟩, (gw_5 (i := 203) (by decide +kernel) rfl), (sel_priv (i := 31) (n := 24) (by decide +kernel))⟩
theorem mk_X12_secret : MV mX12_secret 1 := ⟨⟨⟨by decide, by decide, by decide +kernel⟩, ini_X12, (gw_6 (i := 196) rfl rfl)⟩, (gw_6 (i := 194) (by decide +kernel) rfl), (gw_6 (i := 195) (by decide +kernel) rfl)⟩
theorem mk_X12_seeds : MV mX12_seeds 2 := ⟨⟨⟨by decide, by decide, by decide +kernel⟩, ini_X12, (gw_6 (i := 221) rfl rfl)⟩, (gw_6 (i := 219) (by decide +kernel) rfl), (gw_6 (i := 220) (by decide +kernel) rfl)⟩
theorem mk_X12_send : MV mX12_send 1 := ⟨⟨⟨by decide, by decide, by decide +kernel⟩, ini_X12, (gw_6 (i := 59) rfl rfl)⟩, (gw_6 (i := 57) (by decide +kernel) rfl), (gw_6 (i := 58) (by decide +kernel) rfl)⟩
theorem mk_X12_sends : MV mX12_sends 1 := ⟨⟨⟨by decide, by decide, by decide +kernel⟩, ini_X12, (gw_5 (i := 180) rfl rfl)⟩, (gw_5 (i := 179) (by decide +kernel) rfl), (sel_priv (i := 27) (n := 24) (by decide +kernel))⟩
theorem mk_X12_setMany : MV mX12_setMany 0 := ⟨⟨⟨by decide, by decide, by decide +kernel⟩, ini_X12, (gw_6 (i := 130) rfl rfl)⟩, (gw_6 (i := 129) (by decide +kernel) rfl), (sel_priv (i := 61) (n := 24) (by decide +kernel))⟩
theorem mk_X12_setsPlain : MV mX12_setsPlain 0 := ⟨⟨⟨by decide, by decide, by decide +kernel⟩, ini_X12, (gw_5 (i := 30) rfl rfl)⟩, (gw_5 (i := 29) (by decide +kernel) rfl), (sel_priv (i := 18) (n := 24) (by decide +kernel))⟩
theorem mk_X12_setting : MV mX12_setting 1 := ⟨⟨⟨by decide, by decide, by decide +kernel⟩, ini_X12, (gw_5 (i := 156) rfl rfl)⟩, (gw_5 (i := 154) (by decide +kernel) rfl), (gw_5 (i := 155) (by decide +kernel) rfl)⟩
theorem mk_X12_shorten : MV mX12_shorten 0 := ⟨⟨⟨by decide, by decide, by decide +kernel⟩, ini_X12, (gw_6 (i := 51) rfl rfl)⟩, (gw_6 (i := 49) (by decide +kernel) rfl), (gw_6 (i := 50) (by decide +kernel) rfl)⟩
theorem mk_X12_shortens : MV mX12_shortens 0 := ⟨⟨⟨by decide, by decide, by decide +kernel⟩, ini_X12, (gw_6 (i := 55) rfl rfl)⟩, (gw_6 (i := 54) (by decide +kernel) rfl), (sel_priv (i := 49) (n := 24) (by decide +kernel))⟩
theorem mk_X12_shuffles : MV mX12_shuffles 1 := ⟨⟨⟨by decide, by decide, by decide +kernel⟩, ini_X12, (gw_5 (i := 223) rfl rfl)⟩, (gw_5 (i := 222) (by decide +kernel) rfl), (sel_priv (i := 34) (n := 24) (by decide +kernel))⟩
theorem mk_X12_signal : MV mX12_signal 2 := ⟨⟨⟨by decide, by decide, by decide +kernel⟩, ini_X12, (gw_6 (i := 81) rfl rfl)⟩, (gw_6 (i := 79) (by decide +kernel) rfl), (gw_6 (i := 80) (by decide +kernel) rfl)⟩
theorem mk_X12_signalMany : MV mX12_signalMany 0 := ⟨⟨⟨by decide, by decide, by decide +kernel⟩, ini_X12, (gw_6 (i := 85) rfl rfl)⟩, (gw_6 (i := 84) (by decide +kernel) rfl), (sel_priv (i := 53) (n := 24) (by decide +kernel))⟩
theorem mk_X12_slip : MV mX12_slip 1 := ⟨⟨⟨by decide, by decide, by decide +kernel⟩, ini_X12, (gw_6 (i := 68) rfl rfl)⟩, (gw_6 (i := 66) (by decide +kernel) rfl), (gw_6 (i := 67) (by decide +kernel) rfl)⟩
theorem mk_X12_spied : MV mX12_spied 1 := ⟨⟨⟨by decide, by decide, by decide +kernel⟩, ini_X12, (gw_6 (i := 183) rfl rfl)⟩, (gw_6 (i := 181) (by decide +kernel) rfl), (gw_6 (i := 182) (by decide +kernel) rfl)⟩
theorem mk_X12_spiedSignals : MV mX12_spiedSignals 0 := ⟨⟨⟨by decide, by decide, by decide +kernel⟩, ini_X12, (gw_7 (i := 18) rfl rfl)⟩, (gw_7 (i := 17) (by decide +kernel) rfl), (sel_priv (i := 77) (n := 24) (by decide +kernel))⟩
theorem mk_X12_takesLedger : MV mX12_takesLedger 0 := ⟨⟨⟨by decide, by decide, by decide +kernel⟩, ini_X12, (gw_6 (i := 154) rfl rfl)⟩, (gw_6 (i := 153) (by decide +kernel) rfl), (sel_priv (i := 65) (n := 24) (by decide +kernel))⟩
theorem mk_X12_takesSet : MV mX12_takesSet 0 := ⟨⟨⟨by decide, by decide, by decide +kernel⟩, ini_X12, (gw_6 (i := 158) rfl rfl)⟩, (gw_6 (i := 157) (by decide +kernel) rfl), (sel_priv (i := 66) (n := 24) (by decide +kernel))⟩
theorem mk_X12_tells : MV mX12_tells 5 := ⟨⟨⟨by decide, by decide, by decide +kernel⟩, ini_X12, (gw_6 (i := 3) rfl rfl)⟩, (gw_6 (i := 2) (by decide +kernel) rfl), (sel_priv (i := 39) (n := 24) (by decide +kernel))⟩
theorem mk_X12_toldBy : MV mX12_toldBy 1 := ⟨⟨⟨by decide, by decide, by decide +kernel⟩, ini_X12, (gw_6 (i := 217) rfl rfl)⟩, (gw_6 (i := 216) (by decide +kernel) rfl), (sel_priv (i := 73) (n := 24) (by decide +kernel))⟩
theorem mk_X12_toldKind : MV mX12_toldKind 1 := ⟨⟨⟨by decide, by decide, by decide +kernel⟩, ini_X12, (gw_6 (i := 118) rfl rfl)⟩, (gw_6 (i := 117) (by decide +kernel) rfl), (sel_priv (i := 58) (n := 24) (by decide +kernel))⟩
theorem mk_X12_toldPart : MV mX12_toldPart 3 := ⟨⟨⟨by decide, by decide, by decide +kernel⟩, ini_X12, (gw_6 (i := 114) rfl rfl)⟩, (gw_6 (i := 113) (by decide +kernel) rfl), (sel_priv (i := 57) (n := 24) (by decide +kernel))⟩
theorem mk_X12_undo : MV mX12_undo 0 := ⟨⟨⟨by decide, by decide, by decide +kernel⟩, ini_X12, (gw_5 (i := 161) rfl rfl)⟩, (gw_5 (i := 159) (by decide +kernel) rfl), (gw_5 (i := 160) (by decide +kernel) rfl)⟩
theorem mk_X12_unlikeMany : MV mX12_unlikeMany 0 := ⟨⟨⟨by decide, by decide, by decide +kernel⟩, ini_X12, (gw_6 (i := 77) rfl rfl)⟩, (gw_6 (i := 76) (by decide +kernel) rfl), (sel_priv (i := 52) (n := 24) (by decide +kernel))⟩
theorem mk_X12_winnow : MV mX12_winnow 0 := ⟨⟨⟨by decide, by decide, by decide +kernel⟩, ini_X12, (gw_6 (i := 23) rfl rfl)⟩, (gw_6 (i := 21) (by decide +kernel) rfl), (gw_6 (i := 22) (by decide +kernel) rfl)⟩
theorem mk_X12_wordHere : MV mX12_wordHere 0 := ⟨⟨⟨by decide, by decide, by decide +kernel⟩, ini_X12, (gw_5 (i := 131) rfl rfl)⟩, (gw_5 (i := 130) (by decide +kernel) rfl), (sel_priv (i := 21) (n := 24) (by decide +kernel))⟩
theorem mk_X12_would : MV mX12_would 2 := ⟨⟨⟨by decide, by decide, by decide +kernel⟩, ini_X12, (gw_6 (i := 200) rfl rfl)⟩, (gw_6 (i := 198) (by decide +kernel) rfl), (gw_6 (i := 199) (by decide +kernel) rfl)⟩
theorem ini_X1 : Cond.initialized RX1 ∈ goodW := (gw_1 (i := 7) (by decide +kernel) rfl)
theorem mk_X1_areUnlike : MV mX1_areUnlike 0 := ⟨⟨⟨by decide, by decide, by decide +kernel⟩, ini_X1, (gw_5 (i := 0) rfl rfl)⟩, (gw_4 (i := 238) (by decide +kernel) rfl), (gw_4 (i := 239) (by decide +kernel) rfl)⟩
theorem mk_X1_clear : MV mX1_clear 0 := ⟨⟨⟨by decide, by decide, by decide +kernel⟩, ini_X1, (gw_3 (i := 59) rfl rfl)⟩, (gw_3 (i := 57) (by decide +kernel) rfl), (gw_3 (i := 58) (by decide +kernel) rfl)⟩
theorem mk_X1_init : MI mX1_init 0 := ⟨⟨⟨by decide, by decide, by decide +kernel⟩, ini_X1, (gw_1 (i := 145) rfl rfl)⟩, (gw_1 (i := 144) (by decide +kernel) rfl), rfl, rfl⟩
theorem mk_X1_left : MV mX1_left 0 := ⟨⟨⟨by decide, by decide, by decide +kernel⟩, ini_X1, (gw_4 (i := 33) rfl rfl)⟩, (gw_4 (i := 31) (by decide +kernel) rfl), (gw_4 (i := 32) (by decide +kernel) rfl)⟩
theorem mk_X1_takeFrom : MV mX1_takeFrom 1 := ⟨⟨⟨by decide, by decide, by decide +kernel⟩, ini_X1, (gw_3 (i := 100) rfl rfl)⟩, (gw_3 (i := 98) (by decide +kernel) rfl), (gw_3 (i := 99) (by decide +kernel) rfl)⟩
theorem mk_X1_useByte : MV mX1_useByte 1 := ⟨⟨⟨by decide, by decide, by decide +kernel⟩, ini_X1, (gw_4 (i := 37) rfl rfl)⟩, (gw_4 (i := 35) (by decide +kernel) rfl), (gw_4 (i := 36) (by decide +kernel) rfl)⟩
theorem ini_X2 : Cond.initialized RX2 ∈ goodW := (gw_1 (i := 8) (by decide +kernel) rfl)
theorem mk_X2_clear : MV mX2_clear 0 := ⟨⟨⟨by decide, by decide, by decide +kernel⟩, ini_X2, (gw_3 (i := 63) rfl rfl)⟩, (gw_3 (i := 61) (by decide +kernel) rfl), (gw_3 (i := 62) (by decide +kernel) rfl)⟩
theorem mk_X2_giveBack : MV mX2_giveBack 1 := ⟨⟨⟨by decide, by decide, by decide +kernel⟩, ini_X2, (gw_4 (i := 55) rfl rfl)⟩, (gw_4 (i := 53) (by decide +kernel) rfl), (gw_4 (i := 54) (by decide +kernel) rfl)⟩
theorem mk_X2_init : MI mX2_init 0 := ⟨⟨⟨by decide, by decide, by decide +kernel⟩, ini_X2, (gw_2 (i := 20) rfl rfl)⟩, (gw_2 (i := 19) (by decide +kernel) rfl), rfl, rfl⟩
theorem mk_X2_keep : MV mX2_keep 1 := ⟨⟨⟨by decide, by decide, by decide +kernel⟩, ini_X2, (gw_3 (i := 81) rfl rfl)⟩, (gw_3 (i := 79) (by decide +kernel) rfl), (gw_3 (i := 80) (by decide +kernel) rfl)⟩
theorem ini_X3 : Cond.initialized RX3 ∈ goodW := (gw_1 (i := 5) (by decide +kernel) rfl)
theorem mk_X3_add : MV mX3_add 3 := ⟨⟨⟨by decide, by decide, by decide +kernel⟩, ini_X3, (gw_3 (i := 125) rfl rfl)⟩, (gw_3 (i := 123) (by decide +kernel) rfl), (gw_3 (i := 124) (by decide +kernel) rfl)⟩
theorem mk_X3_drop : MV mX3_drop 1 := ⟨⟨⟨by decide, by decide, by decide +kernel⟩, ini_X3, (gw_3 (i := 145) rfl rfl)⟩, (gw_3 (i := 143) (by decide +kernel) rfl), (gw_3 (i := 144) (by decide +kernel) rfl)⟩
theorem mk_X3_has : MV mX3_has 1 := ⟨⟨⟨by decide, by decide, by decide +kernel⟩, ini_X3, (gw_3 (i := 141) rfl rfl)⟩, (gw_3 (i := 139) (by decide +kernel) rfl), (gw_3 (i := 140) (by decide +kernel) rfl)⟩
theorem mk_X3_init : MI mX3_init 0 := ⟨⟨⟨by decide, by decide, by decide +kernel⟩, ini_X3, (gw_1 (i := 85) rfl rfl)⟩, (gw_1 (i := 84) (by decide +kernel) rfl), rfl, rfl⟩
theorem mk_X3_isUnlike : MV mX3_isUnlike 1 := ⟨⟨⟨by decide, by decide, by decide +kernel⟩, ini_X3, (gw_3 (i := 137) rfl rfl)⟩, (gw_3 (i := 135) (by decide +kernel) rfl), (gw_3 (i := 136) (by decide +kernel) rfl)⟩
theorem mk_X3_knownPlaces : MV mX3_knownPlaces 0 := ⟨⟨⟨by decide, by decide, by decide +kernel⟩, ini_X3, (gw_4 (i := 171) rfl rfl)⟩, (gw_4 (i := 169) (by decide +kernel) rfl), (gw_4 (i := 170) (by decide +kernel) rfl)⟩
theorem mk_X3_parity : MV mX3_parity 3 := ⟨⟨⟨by decide, by decide, by decide +kernel⟩, ini_X3, (gw_4 (i := 12) rfl rfl)⟩, (gw_4 (i := 10) (by decide +kernel) rfl), (gw_4 (i := 11) (by decide +kernel) rfl)⟩
theorem mk_X3_takeFrom : MV mX3_takeFrom 1 := ⟨⟨⟨by decide, by decide, by decide +kernel⟩, ini_X3, (gw_3 (i := 90) rfl rfl)⟩, (gw_3 (i := 88) (by decide +kernel) rfl), (gw_3 (i := 89) (by decide +kernel) rfl)⟩
theorem mk_X3_turn : MV mX3_turn 1 := ⟨⟨⟨by decide, by decide, by decide +kernel⟩, ini_X3, (gw_3 (i := 220) rfl rfl)⟩, (gw_3 (i := 218) (by decide +kernel) rfl), (gw_3 (i := 219) (by decide +kernel) rfl)⟩
theorem mk_X3_unlike : MV mX3_unlike 0 := ⟨⟨⟨by decide, by decide, by decide +kernel⟩, ini_X3, (gw_4 (i := 47) rfl rfl)⟩, (gw_4 (i := 45) (by decide +kernel) rfl), (gw_4 (i := 46) (by decide +kernel) rfl)⟩
theorem ini_X4 : Cond.initialized RX4 ∈ goodW := (gw_1 (i := 6) (by decide +kernel) rfl)
theorem mk_X4_has : MV mX4_has 1 := ⟨⟨⟨by decide, by decide, by decide +kernel⟩, ini_X4, (gw_4 (i := 84) rfl rfl)⟩, (gw_4 (i := 82) (by decide +kernel) rfl), (gw_4 (i := 83) (by decide +kernel) rfl)⟩
theorem mk_X4_holds : MV mX4_holds 2 := ⟨⟨⟨by decide, by decide, by decide +kernel⟩, ini_X4, (gw_4 (i := 102) rfl rfl)⟩, (gw_4 (i := 100) (by decide +kernel) rfl), (gw_4 (i := 101) (by decide +kernel) rfl)⟩
theorem mk_X4_init : MI mX4_init 0 := ⟨⟨⟨by decide, by decide, by decide +kernel⟩, ini_X4, (gw_1 (i := 117) rfl rfl)⟩, (gw_1 (i := 116) (by decide +kernel) rfl), rfl, rfl⟩
theorem mk_X4_least : MV mX4_least 1 := ⟨⟨⟨by decide, by decide, by decide +kernel⟩, ini_X4, (gw_4 (i := 98) rfl rfl)⟩, (gw_4 (i := 96) (by decide +kernel) rfl), (gw_4 (i := 97) (by decide +kernel) rfl)⟩
theorem mk_X4_places : MV mX4_places 1 := ⟨⟨⟨by decide, by decide, by decide +kernel⟩, ini_X4, (gw_4 (i := 88) rfl rfl)⟩, (gw_4 (i := 86) (by decide +kernel) rfl), (gw_4 (i := 87) (by decide +kernel) rfl)⟩
theorem mk_X4_takeFrom : MV mX4_takeFrom 1 := ⟨⟨⟨by decide, by decide, by decide +kernel⟩, ini_X4, (gw_3 (i := 95) rfl rfl)⟩, (gw_3 (i := 93) (by decide +kernel) rfl), (gw_3 (i := 94) (by decide +kernel) rfl)⟩
theorem mk_X4_tell : MV mX4_tell 3 := ⟨⟨⟨by decide, by decide, by decide +kernel⟩, ini_X4, (gw_3 (i := 197) rfl rfl)⟩, (gw_3 (i := 195) (by decide +kernel) rfl), (gw_3 (i := 196) (by decide +kernel) rfl)⟩
theorem ini_X5 : Cond.initialized RX5 ∈ goodW := (gw_1 (i := 9) (by decide +kernel) rfl)
theorem mk_X5_ask : MV mX5_ask 4 := ⟨⟨⟨by decide, by decide, by decide +kernel⟩, ini_X5, (gw_3 (i := 190) rfl rfl)⟩, (gw_3 (i := 189) (by decide +kernel) rfl), (sel_priv (i := 9) (n := 6) (by decide +kernel))⟩
theorem mk_X5_askEight : MV mX5_askEight 3 := ⟨⟨⟨by decide, by decide, by decide +kernel⟩, ini_X5, (gw_3 (i := 236) rfl rfl)⟩, (gw_3 (i := 235) (by decide +kernel) rfl), (sel_priv (i := 12) (n := 6) (by decide +kernel))⟩
theorem mk_X5_halve : MV mX5_halve 3 := ⟨⟨⟨by decide, by decide, by decide +kernel⟩, ini_X5, (gw_3 (i := 216) rfl rfl)⟩, (gw_3 (i := 215) (by decide +kernel) rfl), (sel_priv (i := 10) (n := 6) (by decide +kernel))⟩
theorem mk_X5_init : MI mX5_init 0 := ⟨⟨⟨by decide, by decide, by decide +kernel⟩, ini_X5, (gw_2 (i := 40) rfl rfl)⟩, (gw_2 (i := 39) (by decide +kernel) rfl), rfl, rfl⟩
theorem mk_X5_mapBlocks : MV mX5_mapBlocks 2 := ⟨⟨⟨by decide, by decide, by decide +kernel⟩, ini_X5, (gw_3 (i := 173) rfl rfl)⟩, (gw_3 (i := 172) (by decide +kernel) rfl), (sel_priv (i := 8) (n := 6) (by decide +kernel))⟩
theorem mk_X5_runPass : MV mX5_runPass 2 := ⟨⟨⟨by decide, by decide, by decide +kernel⟩, ini_X5, (gw_3 (i := 164) rfl rfl)⟩, (gw_3 (i := 162) (by decide +kernel) rfl), (gw_3 (i := 163) (by decide +kernel) rfl)⟩
theorem mk_X5_shortestOdd : MV mX5_shortestOdd 1 := ⟨⟨⟨by decide, by decide, by decide +kernel⟩, ini_X5, (gw_3 (i := 224) rfl rfl)⟩, (gw_3 (i := 223) (by decide +kernel) rfl), (sel_priv (i := 11) (n := 6) (by decide +kernel))⟩
theorem mk_X5_winnowEights : MV mX5_winnowEights 1 := ⟨⟨⟨by decide, by decide, by decide +kernel⟩, ini_X5, (gw_3 (i := 232) rfl rfl)⟩, (gw_3 (i := 230) (by decide +kernel) rfl), (gw_3 (i := 231) (by decide +kernel) rfl)⟩
theorem ini_X6 : Cond.initialized RX6 ∈ goodW := (gw_1 (i := 2) (by decide +kernel) rfl)
theorem mk_X6_clear : MV mX6_clear 0 := ⟨⟨⟨by decide, by decide, by decide +kernel⟩, ini_X6, (gw_2 (i := 185) rfl rfl)⟩, (gw_2 (i := 183) (by decide +kernel) rfl), (gw_2 (i := 184) (by decide +kernel) rfl)⟩
theorem mk_X6_init : MI mX6_init 0 := ⟨⟨⟨by decide, by decide, by decide +kernel⟩, ini_X6, (gw_1 (i := 34) rfl rfl)⟩, (gw_1 (i := 33) (by decide +kernel) rfl), rfl, rfl⟩
theorem mk_X6_number : MV mX6_number 1 := ⟨⟨⟨by decide, by decide, by decide +kernel⟩, ini_X6, (gw_3 (i := 73) rfl rfl)⟩, (gw_3 (i := 71) (by decide +kernel) rfl), (gw_3 (i := 72) (by decide +kernel) rfl)⟩
theorem mk_X6_put : MV mX6_put 2 := ⟨⟨⟨by decide, by decide, by decide +kernel⟩, ini_X6, (gw_3 (i := 47) rfl rfl)⟩, (gw_3 (i := 45) (by decide +kernel) rfl), (gw_3 (i := 46) (by decide +kernel) rfl)⟩
theorem mk_X6_takeFrom : MV mX6_takeFrom 1 := ⟨⟨⟨by decide, by decide, by decide +kernel⟩, ini_X6, (gw_3 (i := 51) rfl rfl)⟩, (gw_3 (i := 49) (by decide +kernel) rfl), (gw_3 (i := 50) (by decide +kernel) rfl)⟩
theorem ini_X7 : Cond.initialized RX7 ∈ goodW := (gw_1 (i := 3) (by decide +kernel) rfl)
theorem mk_X7_faultAt : MS mX7_faultAt 2 := ⟨⟨⟨by decide, by decide, by decide +kernel⟩, ini_X7, (gw_3 (i := 34) rfl rfl)⟩, (gw_3 (i := 33) (by decide +kernel) rfl)⟩
theorem mk_X7_init : MI mX7_init 0 := ⟨⟨⟨by decide, by decide, by decide +kernel⟩, ini_X7, (gw_1 (i := 54) rfl rfl)⟩, (gw_1 (i := 53) (by decide +kernel) rfl), rfl, rfl⟩
theorem mk_X7_isAlong : MV mX7_isAlong 3 := ⟨⟨⟨by decide, by decide, by decide +kernel⟩, ini_X7, (gw_2 (i := 223) rfl rfl)⟩, (gw_2 (i := 222) (by decide +kernel) rfl), (sel_priv (i := 5) (n := 5) (by decide +kernel))⟩
theorem mk_X7_numberAlong : MV mX7_numberAlong 2 := ⟨⟨⟨by decide, by decide, by decide +kernel⟩, ini_X7, (gw_3 (i := 38) rfl rfl)⟩, (gw_3 (i := 37) (by decide +kernel) rfl), (sel_priv (i := 6) (n := 5) (by decide +kernel))⟩
theorem mk_X7_read : MV mX7_read 2 := ⟨⟨⟨by decide, by decide, by decide +kernel⟩, ini_X7, (gw_2 (i := 178) rfl rfl)⟩, (gw_2 (i := 176) (by decide +kernel) rfl), (gw_2 (i := 177) (by decide +kernel) rfl)⟩
theorem mk_X7_readLine : MV mX7_readLine 0 := ⟨⟨⟨by decide, by decide, by decide +kernel⟩, ini_X7, (gw_2 (i := 195) rfl rfl)⟩, (gw_2 (i := 194) (by decide +kernel) rfl), (sel_priv (i := 1) (n := 5) (by decide +kernel))⟩
theorem mk_X7_skipBetween : MV mX7_skipBetween 2 := ⟨⟨⟨by decide, by decide, by decide +kernel⟩, ini_X7, (gw_2 (i := 203) rfl rfl)⟩, (gw_2 (i := 202) (by decide +kernel) rfl), (sel_priv (i := 3) (n := 5) (by decide +kernel))⟩
theorem mk_X7_skipBlanks : MV mX7_skipBlanks 0 := ⟨⟨⟨by decide, by decide, by decide +kernel⟩, ini_X7, (gw_2 (i := 199) rfl rfl)⟩, (gw_2 (i := 198) (by decide +kernel) rfl), (sel_priv (i := 2) (n := 5) (by decide +kernel))⟩
theorem mk_X7_wordAlong : MV mX7_wordAlong 2 := ⟨⟨⟨by decide, by decide, by decide +kernel⟩, ini_X7, (gw_2 (i := 207) rfl rfl)⟩, (gw_2 (i := 206) (by decide +kernel) rfl), (sel_priv (i := 4) (n := 5) (by decide +kernel))⟩
theorem mk_X7_wordOf : MS mX7_wordOf 1 := ⟨⟨⟨by decide, by decide, by decide +kernel⟩, ini_X7, (gw_2 (i := 210) rfl rfl)⟩, (gw_2 (i := 209) (by decide +kernel) rfl)⟩
theorem ini_X8 : Cond.initialized RX8 ∈ goodW := (gw_1 (i := 11) (by decide +kernel) rfl)
theorem mk_X8_addFinals : MV mX8_addFinals 2 := ⟨⟨⟨by decide, by decide, by decide +kernel⟩, ini_X8, (gw_4 (i := 183) rfl rfl)⟩, (gw_4 (i := 181) (by decide +kernel) rfl), (gw_4 (i := 182) (by decide +kernel) rfl)⟩
theorem mk_X8_addKnown : MV mX8_addKnown 1 := ⟨⟨⟨by decide, by decide, by decide +kernel⟩, ini_X8, (gw_4 (i := 179) rfl rfl)⟩, (gw_4 (i := 177) (by decide +kernel) rfl), (gw_4 (i := 178) (by decide +kernel) rfl)⟩
theorem mk_X8_addLedger : MV mX8_addLedger 1 := ⟨⟨⟨by decide, by decide, by decide +kernel⟩, ini_X8, (gw_4 (i := 140) rfl rfl)⟩, (gw_4 (i := 138) (by decide +kernel) rfl), (gw_4 (i := 139) (by decide +kernel) rfl)⟩
theorem mk_X8_addWork : MV mX8_addWork 0 := ⟨⟨⟨by decide, by decide, by decide +kernel⟩, ini_X8, (gw_4 (i := 145) rfl rfl)⟩, (gw_4 (i := 144) (by decide +kernel) rfl), (sel_priv (i := 13) (n := 4) (by decide +kernel))⟩
theorem mk_X8_clear : MV mX8_clear 0 := ⟨⟨⟨by decide, by decide, by decide +kernel⟩, ini_X8, (gw_4 (i := 135) rfl rfl)⟩, (gw_4 (i := 133) (by decide +kernel) rfl), (gw_4 (i := 134) (by decide +kernel) rfl)⟩
theorem mk_X8_holdsPlace : MV mX8_holdsPlace 1 := ⟨⟨⟨by decide, by decide, by decide +kernel⟩, ini_X8, (gw_4 (i := 158) rfl rfl)⟩, (gw_4 (i := 156) (by decide +kernel) rfl), (gw_4 (i := 157) (by decide +kernel) rfl)⟩
theorem mk_X8_init : MI mX8_init 0 := ⟨⟨⟨by decide, by decide, by decide +kernel⟩, ini_X8, (gw_2 (i := 78) rfl rfl)⟩, (gw_2 (i := 77) (by decide +kernel) rfl), rfl, rfl⟩
theorem mk_X8_reduceWork : MV mX8_reduceWork 0 := ⟨⟨⟨by decide, by decide, by decide +kernel⟩, ini_X8, (gw_4 (i := 149) rfl rfl)⟩, (gw_4 (i := 148) (by decide +kernel) rfl), (sel_priv (i := 14) (n := 4) (by decide +kernel))⟩
theorem mk_X8_setPlace : MV mX8_setPlace 1 := ⟨⟨⟨by decide, by decide, by decide +kernel⟩, ini_X8, (gw_4 (i := 162) rfl rfl)⟩, (gw_4 (i := 161) (by decide +kernel) rfl), (sel_priv (i := 15) (n := 4) (by decide +kernel))⟩
theorem ini_X9 : Cond.initialized RX9 ∈ goodW := (gw_1 (i := 4) (by decide +kernel) rfl)
theorem mk_X9_addSignal : MV mX9_addSignal 1 := ⟨⟨⟨by decide, by decide, by decide +kernel⟩, ini_X9, (gw_3 (i := 121) rfl rfl)⟩, (gw_3 (i := 119) (by decide +kernel) rfl), (gw_3 (i := 120) (by decide +kernel) rfl)⟩
theorem mk_X9_clear : MV mX9_clear 0 := ⟨⟨⟨by decide, by decide, by decide +kernel⟩, ini_X9, (gw_3 (i := 55) rfl rfl)⟩, (gw_3 (i := 53) (by decide +kernel) rfl), (gw_3 (i := 54) (by decide +kernel) rfl)⟩
theorem mk_X9_draw : MV mX9_draw 1 := ⟨⟨⟨by decide, by decide, by decide +kernel⟩, ini_X9, (gw_3 (i := 115) rfl rfl)⟩, (gw_3 (i := 113) (by decide +kernel) rfl), (gw_3 (i := 114) (by decide +kernel) rfl)⟩
theorem mk_X9_hasDone : MV mX9_hasDone 1 := ⟨⟨⟨by decide, by decide, by decide +kernel⟩, ini_X9, (gw_4 (i := 75) rfl rfl)⟩, (gw_4 (i := 73) (by decide +kernel) rfl), (gw_4 (i := 74) (by decide +kernel) rfl)⟩
theorem mk_X9_init : MI mX9_init 0 := ⟨⟨⟨by decide, by decide, by decide +kernel⟩, ini_X9, (gw_1 (i := 79) rfl rfl)⟩, (gw_1 (i := 78) (by decide +kernel) rfl), rfl, rfl⟩
theorem mk_X9_layOrder : MV mX9_layOrder 1 := ⟨⟨⟨by decide, by decide, by decide +kernel⟩, ini_X9, (gw_3 (i := 168) rfl rfl)⟩, (gw_3 (i := 166) (by decide +kernel) rfl), (gw_3 (i := 167) (by decide +kernel) rfl)⟩
theorem mk_X9_mark : MV mX9_mark 2 := ⟨⟨⟨by decide, by decide, by decide +kernel⟩, ini_X9, (gw_4 (i := 63) rfl rfl)⟩, (gw_4 (i := 61) (by decide +kernel) rfl), (gw_4 (i := 62) (by decide +kernel) rfl)⟩
theorem mk_X9_ordered : MV mX9_ordered 2 := ⟨⟨⟨by decide, by decide, by decide +kernel⟩, ini_X9, (gw_3 (i := 185) rfl rfl)⟩, (gw_3 (i := 183) (by decide +kernel) rfl), (gw_3 (i := 184) (by decide +kernel) rfl)⟩
theorem mk_X9_takeFrom : MV mX9_takeFrom 1 := ⟨⟨⟨by decide, by decide, by decide +kernel⟩, ini_X9, (gw_3 (i := 85) rfl rfl)⟩, (gw_3 (i := 83) (by decide +kernel) rfl), (gw_3 (i := 84) (by decide +kernel) rfl)⟩
theorem mk_X9_unlikeAlong : MV mX9_unlikeAlong 3 := ⟨⟨⟨by decide, by decide, by decide +kernel⟩, ini_X9, (gw_4 (i := 121) rfl rfl)⟩, (gw_4 (i := 119) (by decide +kernel) rfl), (gw_4 (i := 120) (by decide +kernel) rfl)⟩
theorem ck_0 : CK 0 := by
  refine ⟨(RX0, TX0, 2), rfl, fun w hw => List.mem_filter.mpr ⟨(by decide +kernel : ∀ w ∈ u_ws RX0 TX0 2, w ∈ lw_tbl) w hw, (by decide +kernel : ∀ w ∈ u_ws RX0 TX0 2, goodWord w = true) w hw⟩, ⟨tyX0, tyX0_ok, fun k hk => ?_⟩, nmX0⟩
  have hk : k < 2 := hk
  rcases (show k = 0 ∨ k = 1 by omega) with rfl | rfl
  · rw [if_pos (by decide +kernel)]; exact Or.inr ⟨_, rfl⟩
  · rw [if_pos (by decide +kernel)]; exact Or.inr ⟨_, rfl⟩
theorem ck_1 : CK 1 := by
  refine ⟨(RX1, TX1, 7), rfl, fun w hw => List.mem_filter.mpr ⟨(by decide +kernel : ∀ w ∈ u_ws RX1 TX1 7, w ∈ lw_tbl) w hw, (by decide +kernel : ∀ w ∈ u_ws RX1 TX1 7, goodWord w = true) w hw⟩, ⟨tyX1, tyX1_ok, fun k hk => ?_⟩, nmX1⟩
  have hk : k < 7 := hk
  rcases (show k = 0 ∨ k = 1 ∨ k = 2 ∨ k = 3 ∨ k = 4 ∨ k = 5 ∨ k = 6 by omega) with rfl | rfl | rfl | rfl | rfl | rfl | rfl
  · rw [if_neg (by decide +kernel)]; rfl
  · rw [if_pos (by decide +kernel)]; exact Or.inr ⟨_, rfl⟩
  · rw [if_pos (by decide +kernel)]; exact Or.inr ⟨_, rfl⟩
  · rw [if_pos (by decide +kernel)]; exact Or.inr ⟨_, rfl⟩
  · rw [if_neg (by decide +kernel)]; rfl
  · rw [if_neg (by decide +kernel)]; rfl
  · rw [if_neg (by decide +kernel)]; rfl
theorem ck_2 : CK 2 := by
  refine ⟨(RX2, TX2, 3), rfl, fun w hw => List.mem_filter.mpr ⟨(by decide +kernel : ∀ w ∈ u_ws RX2 TX2 3, w ∈ lw_tbl) w hw, (by decide +kernel : ∀ w ∈ u_ws RX2 TX2 3, goodWord w = true) w hw⟩, ⟨tyX2, tyX2_ok, fun k hk => ?_⟩, nmX2⟩
  have hk : k < 3 := hk
  rcases (show k = 0 ∨ k = 1 ∨ k = 2 by omega) with rfl | rfl | rfl
  · rw [if_pos (by decide +kernel)]; exact Or.inr ⟨_, rfl⟩
  · rw [if_neg (by decide +kernel)]; rfl
  · rw [if_neg (by decide +kernel)]; rfl
theorem ck_3 : CK 3 := by
  refine ⟨(RX3, TX3, 4), rfl, fun w hw => List.mem_filter.mpr ⟨(by decide +kernel : ∀ w ∈ u_ws RX3 TX3 4, w ∈ lw_tbl) w hw, (by decide +kernel : ∀ w ∈ u_ws RX3 TX3 4, goodWord w = true) w hw⟩, ⟨tyX3, tyX3_ok, fun k hk => ?_⟩, nmX3⟩
  have hk : k < 4 := hk
  rcases (show k = 0 ∨ k = 1 ∨ k = 2 ∨ k = 3 by omega) with rfl | rfl | rfl | rfl
  · rw [if_neg (by decide +kernel)]; rfl
  · rw [if_pos (by decide +kernel)]; exact Or.inr ⟨_, rfl⟩
  · rw [if_pos (by decide +kernel)]; exact Or.inr ⟨_, rfl⟩
  · rw [if_pos (by decide +kernel)]; exact Or.inr ⟨_, rfl⟩
theorem ck_4 : CK 4 := by
  refine ⟨(RX4, TX4, 4), rfl, fun w hw => List.mem_filter.mpr ⟨(by decide +kernel : ∀ w ∈ u_ws RX4 TX4 4, w ∈ lw_tbl) w hw, (by decide +kernel : ∀ w ∈ u_ws RX4 TX4 4, goodWord w = true) w hw⟩, ⟨tyX4, tyX4_ok, fun k hk => ?_⟩, nmX4⟩
  have hk : k < 4 := hk
  rcases (show k = 0 ∨ k = 1 ∨ k = 2 ∨ k = 3 by omega) with rfl | rfl | rfl | rfl
  · rw [if_neg (by decide +kernel)]; rfl
  · rw [if_pos (by decide +kernel)]; exact Or.inr ⟨_, rfl⟩
  · rw [if_pos (by decide +kernel)]; exact Or.inr ⟨_, rfl⟩
  · rw [if_pos (by decide +kernel)]; exact Or.inr ⟨_, rfl⟩
theorem ck_5 : CK 5 := by
  refine ⟨(RX5, TX5, 6), rfl, fun w hw => List.mem_filter.mpr ⟨(by decide +kernel : ∀ w ∈ u_ws RX5 TX5 6, w ∈ lw_tbl) w hw, (by decide +kernel : ∀ w ∈ u_ws RX5 TX5 6, goodWord w = true) w hw⟩, ⟨tyX5, tyX5_ok, fun k hk => ?_⟩, nmX5⟩
  have hk : k < 6 := hk
  rcases (show k = 0 ∨ k = 1 ∨ k = 2 ∨ k = 3 ∨ k = 4 ∨ k = 5 by omega) with rfl | rfl | rfl | rfl | rfl | rfl
  · rw [if_pos (by decide +kernel)]; exact Or.inr ⟨_, rfl⟩
  · rw [if_pos (by decide +kernel)]; exact Or.inr ⟨_, rfl⟩
  · rw [if_pos (by decide +kernel)]; exact Or.inr ⟨_, rfl⟩
  · rw [if_neg (by decide +kernel)]; rfl
  · rw [if_neg (by decide +kernel)]; rfl
  · rw [if_neg (by decide +kernel)]; rfl
theorem ck_6 : CK 6 := by
  refine ⟨(RX6, TX6, 1), rfl, fun w hw => List.mem_filter.mpr ⟨(by decide +kernel : ∀ w ∈ u_ws RX6 TX6 1, w ∈ lw_tbl) w hw, (by decide +kernel : ∀ w ∈ u_ws RX6 TX6 1, goodWord w = true) w hw⟩, ⟨tyX6, tyX6_ok, fun k hk => ?_⟩, nmX6⟩
  have hk : k < 1 := hk
  rcases (show k = 0 by omega) with rfl
  · rw [if_pos (by decide +kernel)]; exact Or.inr ⟨_, rfl⟩
theorem ck_7 : CK 7 := by
  refine ⟨(RX7, TX7, 5), rfl, fun w hw => List.mem_filter.mpr ⟨(by decide +kernel : ∀ w ∈ u_ws RX7 TX7 5, w ∈ lw_tbl) w hw, (by decide +kernel : ∀ w ∈ u_ws RX7 TX7 5, goodWord w = true) w hw⟩, ⟨tyX7, tyX7_ok, fun k hk => ?_⟩, nmX7⟩
  have hk : k < 5 := hk
  rcases (show k = 0 ∨ k = 1 ∨ k = 2 ∨ k = 3 ∨ k = 4 by omega) with rfl | rfl | rfl | rfl | rfl
  · rw [if_pos (by decide +kernel)]; exact Or.inl ⟨_, rfl⟩
  · rw [if_pos (by decide +kernel)]; exact Or.inr ⟨_, rfl⟩
  · rw [if_pos (by decide +kernel)]; exact Or.inr ⟨_, rfl⟩
  · rw [if_neg (by decide +kernel)]; rfl
  · rw [if_neg (by decide +kernel)]; rfl
theorem ck_8 : CK 8 := by
  refine ⟨(RX8, TX8, 4), rfl, fun w hw => List.mem_filter.mpr ⟨(by decide +kernel : ∀ w ∈ u_ws RX8 TX8 4, w ∈ lw_tbl) w hw, (by decide +kernel : ∀ w ∈ u_ws RX8 TX8 4, goodWord w = true) w hw⟩, ⟨tyX8, tyX8_ok, fun k hk => ?_⟩, nmX8⟩
  have hk : k < 4 := hk
  rcases (show k = 0 ∨ k = 1 ∨ k = 2 ∨ k = 3 by omega) with rfl | rfl | rfl | rfl
  · rw [if_pos (by decide +kernel)]; exact Or.inr ⟨_, rfl⟩
  · rw [if_pos (by decide +kernel)]; exact Or.inr ⟨_, rfl⟩
  · rw [if_pos (by decide +kernel)]; exact Or.inr ⟨_, rfl⟩
  · rw [if_neg (by decide +kernel)]; rfl
theorem ck_9 : CK 9 := by
  refine ⟨(RX9, TX9, 14), rfl, fun w hw => List.mem_filter.mpr ⟨(by decide +kernel : ∀ w ∈ u_ws RX9 TX9 14, w ∈ lw_tbl) w hw, (by decide +kernel : ∀ w ∈ u_ws RX9 TX9 14, goodWord w = true) w hw⟩, ⟨tyX9, tyX9_ok, fun k hk => ?_⟩, nmX9⟩
  have hk : k < 14 := hk
  rcases (show k = 0 ∨ k = 1 ∨ k = 2 ∨ k = 3 ∨ k = 4 ∨ k = 5 ∨ k = 6 ∨ k = 7 ∨ k = 8 ∨ k = 9 ∨ k = 10 ∨ k = 11 ∨ k = 12 ∨ k = 13 by omega) with rfl | rfl | rfl | rfl | rfl | rfl | rfl | rfl | rfl | rfl | rfl | rfl | rfl | rfl
  · rw [if_neg (by decide +kernel)]; rfl
  · rw [if_neg (by decide +kernel)]; rfl
  · rw [if_neg (by decide +kernel)]; rfl
  · rw [if_neg (by decide +kernel)]; rfl
  · rw [if_neg (by decide +kernel)]; rfl
  · rw [if_neg (by decide +kernel)]; rfl
  · rw [if_neg (by decide +kernel)]; rfl
  · rw [if_neg (by decide +kernel)]; rfl
  · rw [if_neg (by decide +kernel)]; rfl
  · rw [if_pos (by decide +kernel)]; exact Or.inr ⟨_, rfl⟩
  · rw [if_pos (by decide +kernel)]; exact Or.inr ⟨_, rfl⟩
  · rw [if_pos (by decide +kernel)]; exact Or.inl ⟨_, rfl⟩
  · rw [if_pos (by decide +kernel)]; exact Or.inl ⟨_, rfl⟩
  · rw [if_pos (by decide +kernel)]; exact Or.inl ⟨_, rfl⟩
theorem ck_10 : CK 10 := by
  refine ⟨(RX10, TX10, 4), rfl, fun w hw => List.mem_filter.mpr ⟨(by decide +kernel : ∀ w ∈ u_ws RX10 TX10 4, w ∈ lw_tbl) w hw, (by decide +kernel : ∀ w ∈ u_ws RX10 TX10 4, goodWord w = true) w hw⟩, ⟨tyX10, tyX10_ok, fun k hk => ?_⟩, nmX10⟩
  have hk : k < 4 := hk
  rcases (show k = 0 ∨ k = 1 ∨ k = 2 ∨ k = 3 by omega) with rfl | rfl | rfl | rfl
  · rw [if_pos (by decide +kernel)]; exact Or.inl ⟨_, rfl⟩
  · rw [if_pos (by decide +kernel)]; exact Or.inl ⟨_, rfl⟩
  · rw [if_pos (by decide +kernel)]; exact Or.inl ⟨_, rfl⟩
  · rw [if_pos (by decide +kernel)]; exact Or.inl ⟨_, rfl⟩
theorem ck_11 : CK 11 := by
  refine ⟨(RX11, TX11, 12), rfl, fun w hw => List.mem_filter.mpr ⟨(by decide +kernel : ∀ w ∈ u_ws RX11 TX11 12, w ∈ lw_tbl) w hw, (by decide +kernel : ∀ w ∈ u_ws RX11 TX11 12, goodWord w = true) w hw⟩, ⟨tyX11, tyX11_ok, fun k hk => ?_⟩, nmX11⟩
  have hk : k < 12 := hk
  rcases (show k = 0 ∨ k = 1 ∨ k = 2 ∨ k = 3 ∨ k = 4 ∨ k = 5 ∨ k = 6 ∨ k = 7 ∨ k = 8 ∨ k = 9 ∨ k = 10 ∨ k = 11 by omega) with rfl | rfl | rfl | rfl | rfl | rfl | rfl | rfl | rfl | rfl | rfl | rfl
  · rw [if_pos (by decide +kernel)]; exact Or.inr ⟨_, rfl⟩
  · rw [if_neg (by decide +kernel)]; rfl
  · rw [if_pos (by decide +kernel)]; exact Or.inl ⟨_, rfl⟩
  · rw [if_pos (by decide +kernel)]; exact Or.inl ⟨_, rfl⟩
  · rw [if_pos (by decide +kernel)]; exact Or.inl ⟨_, rfl⟩
  · rw [if_pos (by decide +kernel)]; exact Or.inl ⟨_, rfl⟩
  · rw [if_pos (by decide +kernel)]; exact Or.inr ⟨_, rfl⟩
  · rw [if_pos (by decide +kernel)]; exact Or.inr ⟨_, rfl⟩
  · rw [if_pos (by decide +kernel)]; exact Or.inl ⟨_, rfl⟩
  · rw [if_pos (by decide +kernel)]; exact Or.inl ⟨_, rfl⟩
  · rw [if_pos (by decide +kernel)]; exact Or.inl ⟨_, rfl⟩
  · rw [if_pos (by decide +kernel)]; exact Or.inl ⟨_, rfl⟩
theorem ck_12 : CK 12 := by
  refine ⟨(RX12, TX12, 24), rfl, fun w hw => List.mem_filter.mpr ⟨(by decide +kernel : ∀ w ∈ u_ws RX12 TX12 24, w ∈ lw_tbl) w hw, (by decide +kernel : ∀ w ∈ u_ws RX12 TX12 24, goodWord w = true) w hw⟩, ⟨tyX12, tyX12_ok, fun k hk => ?_⟩, nmX12⟩
  have hk : k < 24 := hk
  rcases (show k = 0 ∨ k = 1 ∨ k = 2 ∨ k = 3 ∨ k = 4 ∨ k = 5 ∨ k = 6 ∨ k = 7 ∨ k = 8 ∨ k = 9 ∨ k = 10 ∨ k = 11 ∨ k = 12 ∨ k = 13 ∨ k = 14 ∨ k = 15 ∨ k = 16 ∨ k = 17 ∨ k = 18 ∨ k = 19 ∨ k = 20 ∨ k = 21 ∨ k = 22 ∨ k = 23 by omega) with rfl | rfl | rfl | rfl | rfl | rfl | rfl | rfl | rfl | rfl | rfl | rfl | rfl | rfl | rfl | rfl | rfl | rfl | rfl | rfl | rfl | rfl | rfl | rfl
  · rw [if_pos (by decide +kernel)]; exact Or.inr ⟨_, rfl⟩
  · rw [if_neg (by decide +kernel)]; rfl
  · rw [if_pos (by decide +kernel)]; exact Or.inr ⟨_, rfl⟩
  · rw [if_pos (by decide +kernel)]; exact Or.inr ⟨_, rfl⟩
  · rw [if_pos (by decide +kernel)]; exact Or.inr ⟨_, rfl⟩
  · rw [if_pos (by decide +kernel)]; exact Or.inr ⟨_, rfl⟩
  · rw [if_pos (by decide +kernel)]; exact Or.inr ⟨_, rfl⟩
  · rw [if_pos (by decide +kernel)]; exact Or.inr ⟨_, rfl⟩
  · rw [if_pos (by decide +kernel)]; exact Or.inr ⟨_, rfl⟩
  · rw [if_neg (by decide +kernel)]; rfl
  · rw [if_neg (by decide +kernel)]; rfl
  · rw [if_pos (by decide +kernel)]; exact Or.inr ⟨_, rfl⟩
  · rw [if_pos (by decide +kernel)]; exact Or.inr ⟨_, rfl⟩
  · rw [if_pos (by decide +kernel)]; exact Or.inr ⟨_, rfl⟩
  · rw [if_pos (by decide +kernel)]; exact Or.inr ⟨_, rfl⟩
  · rw [if_pos (by decide +kernel)]; exact Or.inr ⟨_, rfl⟩
  · rw [if_neg (by decide +kernel)]; rfl
  · rw [if_neg (by decide +kernel)]; rfl
  · rw [if_neg (by decide +kernel)]; rfl
  · rw [if_neg (by decide +kernel)]; rfl
  · rw [if_pos (by decide +kernel)]; exact Or.inr ⟨_, rfl⟩
  · rw [if_pos (by decide +kernel)]; exact Or.inr ⟨_, rfl⟩
  · rw [if_pos (by decide +kernel)]; exact Or.inr ⟨_, rfl⟩
  · rw [if_neg (by decide +kernel)]; rfl
theorem cks : ∀ ci, ci < 13 → CK ci := fun ci h => by
  rcases (show ci = 0 ∨ ci = 1 ∨ ci = 2 ∨ ci = 3 ∨ ci = 4 ∨ ci = 5 ∨ ci = 6 ∨ ci = 7 ∨ ci = 8 ∨ ci = 9 ∨ ci = 10 ∨ ci = 11 ∨ ci = 12 by omega) with rfl | rfl | rfl | rfl | rfl | rfl | rfl | rfl | rfl | rfl | rfl | rfl | rfl
  · exact ck_0
  · exact ck_1
  · exact ck_2
  · exact ck_3
  · exact ck_4
  · exact ck_5
  · exact ck_6
  · exact ck_7
  · exact ck_8
  · exact ck_9
  · exact ck_10
  · exact ck_11
  · exact ck_12
theorem pf_1_0 (y : Mth) (idx : Nat) : PF y idx 1 0 := fun q hq => by cases hq; exact Or.inl rfl
theorem pf_1_4 (y : Mth) (idx : Nat) : PF y idx 1 4 := fun q hq => by cases hq; exact Or.inl rfl
theorem pf_1_5 (y : Mth) (idx : Nat) : PF y idx 1 5 := fun q hq => by cases hq; exact Or.inl rfl
theorem pf_1_6 (y : Mth) (idx : Nat) : PF y idx 1 6 := fun q hq => by cases hq; exact Or.inl rfl
theorem pf_2_1 (y : Mth) (idx : Nat) : PF y idx 2 1 := fun q hq => by cases hq; exact Or.inl rfl
theorem pf_2_2 (y : Mth) (idx : Nat) : PF y idx 2 2 := fun q hq => by cases hq; exact Or.inl rfl
theorem pf_3_0 (y : Mth) (idx : Nat) : PF y idx 3 0 := fun q hq => by cases hq; exact Or.inl rfl
theorem pf_4_0 (y : Mth) (idx : Nat) : PF y idx 4 0 := fun q hq => by cases hq; exact Or.inl rfl
theorem pf_4_1 (y : Mth) (idx : Nat) : PF y idx 4 1 := fun q hq => by cases hq; exact Or.inl rfl
theorem pf_4_2 (y : Mth) (idx : Nat) : PF y idx 4 2 := fun q hq => by cases hq; exact Or.inl rfl
theorem pf_4_3 (y : Mth) (idx : Nat) : PF y idx 4 3 := fun q hq => by cases hq; exact Or.inl rfl
theorem pf_5_3 (y : Mth) (idx : Nat) : PF y idx 5 3 := fun q hq => by cases hq; exact Or.inl rfl
theorem pf_5_4 (y : Mth) (idx : Nat) : PF y idx 5 4 := fun q hq => by cases hq; exact Or.inl rfl
theorem pf_5_5 (y : Mth) (idx : Nat) : PF y idx 5 5 := fun q hq => by cases hq; exact Or.inl rfl
theorem pf_7_2 (y : Mth) (idx : Nat) : PF y idx 7 2 := fun q hq => by cases hq; exact Or.inl rfl
theorem pf_7_3 (y : Mth) (idx : Nat) : PF y idx 7 3 := fun q hq => by cases hq; exact Or.inl rfl
theorem pf_7_4 (y : Mth) (idx : Nat) : PF y idx 7 4 := fun q hq => by cases hq; exact Or.inl rfl
theorem pf_8_3 (y : Mth) (idx : Nat) : PF y idx 8 3 := fun q hq => by cases hq; exact Or.inl rfl
theorem pf_9_0 (y : Mth) (idx : Nat) : PF y idx 9 0 := fun q hq => by cases hq; exact Or.inl rfl
theorem pf_9_1 (y : Mth) (idx : Nat) : PF y idx 9 1 := fun q hq => by cases hq; exact Or.inl rfl
theorem pf_9_2 (y : Mth) (idx : Nat) : PF y idx 9 2 := fun q hq => by cases hq; exact Or.inl rfl
theorem pf_9_3 (y : Mth) (idx : Nat) : PF y idx 9 3 := fun q hq => by cases hq; exact Or.inl rfl
theorem pf_9_4 (y : Mth) (idx : Nat) : PF y idx 9 4 := fun q hq => by cases hq; exact Or.inl rfl
theorem pf_9_5 (y : Mth) (idx : Nat) : PF y idx 9 5 := fun q hq => by cases hq; exact Or.inl rfl
theorem pf_9_6 (y : Mth) (idx : Nat) : PF y idx 9 6 := fun q hq => by cases hq; exact Or.inl rfl
theorem pf_9_7 (y : Mth) (idx : Nat) : PF y idx 9 7 := fun q hq => by cases hq; exact Or.inl rfl
theorem pf_9_8 (y : Mth) (idx : Nat) : PF y idx 9 8 := fun q hq => by cases hq; exact Or.inl rfl
theorem pf_11_1 (y : Mth) (idx : Nat) : PF y idx 11 1 := fun q hq => by cases hq; exact Or.inl rfl
theorem pf_12_1 (y : Mth) (idx : Nat) : PF y idx 12 1 := fun q hq => by cases hq; exact Or.inl rfl
theorem pf_12_9 (y : Mth) (idx : Nat) : PF y idx 12 9 := fun q hq => by cases hq; exact Or.inl rfl
theorem pf_12_10 (y : Mth) (idx : Nat) : PF y idx 12 10 := fun q hq => by cases hq; exact Or.inl rfl
theorem pf_12_16 (y : Mth) (idx : Nat) : PF y idx 12 16 := fun q hq => by cases hq; exact Or.inl rfl
theorem pf_12_17 (y : Mth) (idx : Nat) : PF y idx 12 17 := fun q hq => by cases hq; exact Or.inl rfl
theorem pf_12_18 (y : Mth) (idx : Nat) : PF y idx 12 18 := fun q hq => by cases hq; exact Or.inl rfl
theorem pf_12_19 (y : Mth) (idx : Nat) : PF y idx 12 19 := fun q hq => by cases hq; exact Or.inl rfl
theorem pf_12_23 (y : Mth) (idx : Nat) : PF y idx 12 23 := fun q hq => by cases hq; exact Or.inl rfl

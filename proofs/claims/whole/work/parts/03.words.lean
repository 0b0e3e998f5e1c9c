def k_nest : Cond → Bool
  | .fieldLinkNest .. => true
  | .methodLinkNest .. => true
  | _ => false
def k_ok (w : Cond) : Bool := goodWord w || k_nest w
def k_Tb (U : State) : Prop := ∀ w ∈ lw_tbl, k_ok w = true → ∀ a : Array Value, w.before a U = true
theorem k_rf (s : State) : s.WarmedH s.vm := ⟨rfl, rfl, fun d k h => ⟨k, h, rfl, rfl, fun i => Or.inl rfl, Or.inl ⟨rfl, rfl⟩⟩⟩
theorem k_Tb.moved {s U : State} (hW : s.WarmedH U.vm) (h : k_Tb s) : k_Tb U := by
  intro w hw hk a
  have h0 := h w hw hk #[]
  by_cases hg : goodWord w = true
  · exact word_at hW (good_of_word hg) h0
  · have hn : k_nest w = true := by
      unfold k_ok at hk
      cases hq : goodWord w with
      | true => exact absurd hq hg
      | false => rw [hq] at hk; exact hk
    cases w <;> first | (simp [k_nest] at hn; done) | exact va_Nw.use rfl (va_Nw.warmF hW (va_Nw.of rfl h0)) | exact va_Nw.use rfl (va_Nw.warmM hW (va_Nw.of rfl h0))
/-- a word that may be used: by its place among the tables' -/
def k_in (w : Cond) : Prop := w ∈ lw_tbl ∧ k_ok w = true
theorem k_in.use {w : Cond} (h : k_in w) {s : State} (hT : k_Tb s) {a : Array Value} : w.before a s = true := hT w h.1 h.2 a
theorem q_0 : k_in (.selects RX11 yX11_refuse yX11_refuse) := ⟨List.mem_of_getElem? (i := 0) (by decide +kernel), by decide +kernel⟩
theorem q_1 : k_in (.selects RX10 yX10_addTune yX10_addTune) := ⟨List.mem_of_getElem? (i := 1) (by decide +kernel), by decide +kernel⟩
theorem q_2 : k_in (.selects RX11 yX11_done yX11_done) := ⟨List.mem_of_getElem? (i := 2) (by decide +kernel), by decide +kernel⟩
theorem q_3 : k_in (.selects RX10 yX10_hasTune yX10_hasTune) := ⟨List.mem_of_getElem? (i := 3) (by decide +kernel), by decide +kernel⟩
theorem q_4 : k_in (.selects RX1 yX1_add yX1_add) := ⟨List.mem_of_getElem? (i := 4) (by decide +kernel), by decide +kernel⟩
theorem q_5 : k_in (.selects RX1 yX1_has yX1_has) := ⟨List.mem_of_getElem? (i := 5) (by decide +kernel), by decide +kernel⟩
theorem q_6 : k_in (.selects RX1 yX1_told yX1_told) := ⟨List.mem_of_getElem? (i := 6) (by decide +kernel), by decide +kernel⟩
theorem q_7 : k_in (.selects RX3 yX3_hear yX3_hear) := ⟨List.mem_of_getElem? (i := 7) (by decide +kernel), by decide +kernel⟩
theorem q_8 : k_in (.selects RX10 yX10_lawInForce yX10_lawInForce) := ⟨List.mem_of_getElem? (i := 8) (by decide +kernel), by decide +kernel⟩
theorem q_9 : k_in (.selects RX10 yX10_hasLaw yX10_hasLaw) := ⟨List.mem_of_getElem? (i := 9) (by decide +kernel), by decide +kernel⟩
theorem q_10 : k_in (.selects RX10 yX10_lengthOfDebt yX10_lengthOfDebt) := ⟨List.mem_of_getElem? (i := 10) (by decide +kernel), by decide +kernel⟩
theorem q_11 : k_in (.selects RX3 yX3_hearDebt yX3_hearDebt) := ⟨List.mem_of_getElem? (i := 11) (by decide +kernel), by decide +kernel⟩
theorem q_12 : k_in (.selects RX3 yX3_holds yX3_holds) := ⟨List.mem_of_getElem? (i := 12) (by decide +kernel), by decide +kernel⟩
theorem q_13 : k_in (.selects RX3 yX3_push yX3_push) := ⟨List.mem_of_getElem? (i := 13) (by decide +kernel), by decide +kernel⟩
theorem q_14 : k_in (.selects RX3 yX3_wordOf yX3_wordOf) := ⟨List.mem_of_getElem? (i := 14) (by decide +kernel), by decide +kernel⟩
theorem q_15 : k_in (.selects RX3 yX3_top yX3_top) := ⟨List.mem_of_getElem? (i := 15) (by decide +kernel), by decide +kernel⟩
theorem q_16 : k_in (.selects RX3 yX3_pop yX3_pop) := ⟨List.mem_of_getElem? (i := 16) (by decide +kernel), by decide +kernel⟩
theorem q_17 : k_in (.selects RX3 yX3_join yX3_join) := ⟨List.mem_of_getElem? (i := 17) (by decide +kernel), by decide +kernel⟩
theorem q_18 : k_in (.selects RX1 yX1_dropPlayed yX1_dropPlayed) := ⟨List.mem_of_getElem? (i := 18) (by decide +kernel), by decide +kernel⟩
theorem q_19 : k_in (.selects RX1 yX1_bury yX1_bury) := ⟨List.mem_of_getElem? (i := 19) (by decide +kernel), by decide +kernel⟩
theorem q_20 : k_in (.selects RX9 yX9_hasRoomFor yX9_hasRoomFor) := ⟨List.mem_of_getElem? (i := 20) (by decide +kernel), by decide +kernel⟩
theorem q_21 : k_in (.selects RX9 yX9_write yX9_write) := ⟨List.mem_of_getElem? (i := 21) (by decide +kernel), by decide +kernel⟩
theorem q_22 : k_in (.selects RX11 yX11_comes yX11_comes) := ⟨List.mem_of_getElem? (i := 22) (by decide +kernel), by decide +kernel⟩
theorem q_23 : k_in (.selects RX9 yX9_byteAt yX9_byteAt) := ⟨List.mem_of_getElem? (i := 23) (by decide +kernel), by decide +kernel⟩
theorem q_24 : k_in (.selects RX7 yX7_read yX7_read) := ⟨List.mem_of_getElem? (i := 24) (by decide +kernel), by decide +kernel⟩
theorem q_25 : k_in (.selects RX7 yX7_step yX7_step) := ⟨List.mem_of_getElem? (i := 25) (by decide +kernel), by decide +kernel⟩
theorem q_26 : k_in (.selects RX7 yX7_isLetter yX7_isLetter) := ⟨List.mem_of_getElem? (i := 26) (by decide +kernel), by decide +kernel⟩
theorem q_27 : k_in (.selects RX7 yX7_isDigit yX7_isDigit) := ⟨List.mem_of_getElem? (i := 27) (by decide +kernel), by decide +kernel⟩
theorem q_28 : k_in (.selects RX7 yX7_readClause yX7_readClause) := ⟨List.mem_of_getElem? (i := 28) (by decide +kernel), by decide +kernel⟩
theorem q_29 : k_in (.selects RX7 yX7_clauseKind yX7_clauseKind) := ⟨List.mem_of_getElem? (i := 29) (by decide +kernel), by decide +kernel⟩
theorem q_30 : k_in (.selects RX7 yX7_sees yX7_sees) := ⟨List.mem_of_getElem? (i := 30) (by decide +kernel), by decide +kernel⟩
theorem q_31 : k_in (.selects RX7 yX7_put yX7_put) := ⟨List.mem_of_getElem? (i := 31) (by decide +kernel), by decide +kernel⟩
theorem q_32 : k_in (.selects RX7 yX7_readSum yX7_readSum) := ⟨List.mem_of_getElem? (i := 32) (by decide +kernel), by decide +kernel⟩
theorem q_33 : k_in (.selects RX7 yX7_readTerm yX7_readTerm) := ⟨List.mem_of_getElem? (i := 33) (by decide +kernel), by decide +kernel⟩
theorem q_34 : k_in (.selects RX7 yX7_readPart yX7_readPart) := ⟨List.mem_of_getElem? (i := 34) (by decide +kernel), by decide +kernel⟩
theorem q_35 : k_in (.selects RX7 yX7_seesSign yX7_seesSign) := ⟨List.mem_of_getElem? (i := 35) (by decide +kernel), by decide +kernel⟩
theorem q_36 : k_in (.selects RX7 yX7_readInBrackets yX7_readInBrackets) := ⟨List.mem_of_getElem? (i := 36) (by decide +kernel), by decide +kernel⟩
theorem q_37 : k_in (.selects RX7 yX7_readTest yX7_readTest) := ⟨List.mem_of_getElem? (i := 37) (by decide +kernel), by decide +kernel⟩
theorem q_38 : k_in (.selects RX7 yX7_readBoth yX7_readBoth) := ⟨List.mem_of_getElem? (i := 38) (by decide +kernel), by decide +kernel⟩
theorem q_39 : k_in (.selects RX7 yX7_readPlain yX7_readPlain) := ⟨List.mem_of_getElem? (i := 39) (by decide +kernel), by decide +kernel⟩
theorem q_40 : k_in (.selects RX7 yX7_readComparison yX7_readComparison) := ⟨List.mem_of_getElem? (i := 40) (by decide +kernel), by decide +kernel⟩
theorem q_41 : k_in (.selects RX7 yX7_leadHere yX7_leadHere) := ⟨List.mem_of_getElem? (i := 41) (by decide +kernel), by decide +kernel⟩
theorem q_42 : k_in (.selects RX7 yX7_wordHere yX7_wordHere) := ⟨List.mem_of_getElem? (i := 42) (by decide +kernel), by decide +kernel⟩
theorem q_43 : k_in (.selects RX10 yX10_addLaw yX10_addLaw) := ⟨List.mem_of_getElem? (i := 43) (by decide +kernel), by decide +kernel⟩
theorem q_44 : k_in (.selects RX3 yX3_balanceOf yX3_balanceOf) := ⟨List.mem_of_getElem? (i := 44) (by decide +kernel), by decide +kernel⟩
theorem q_45 : k_in (.selects RX4 yX4_addUp yX4_addUp) := ⟨List.mem_of_getElem? (i := 45) (by decide +kernel), by decide +kernel⟩
theorem q_46 : k_in (.selects RX4 yX4_change yX4_change) := ⟨List.mem_of_getElem? (i := 46) (by decide +kernel), by decide +kernel⟩
theorem q_47 : k_in (.selects RX4 yX4_least yX4_least) := ⟨List.mem_of_getElem? (i := 47) (by decide +kernel), by decide +kernel⟩
theorem q_48 : k_in (.selects RX4 yX4_fewestPayments yX4_fewestPayments) := ⟨List.mem_of_getElem? (i := 48) (by decide +kernel), by decide +kernel⟩
theorem q_49 : k_in (.selects RX4 yX4_group yX4_group) := ⟨List.mem_of_getElem? (i := 49) (by decide +kernel), by decide +kernel⟩
theorem q_50 : k_in (.selects RX8 yX8_find yX8_find) := ⟨List.mem_of_getElem? (i := 50) (by decide +kernel), by decide +kernel⟩
theorem q_51 : k_in (.selects RX8 yX8_counts yX8_counts) := ⟨List.mem_of_getElem? (i := 51) (by decide +kernel), by decide +kernel⟩
theorem q_52 : k_in (.selects RX8 yX8_goesRound yX8_goesRound) := ⟨List.mem_of_getElem? (i := 52) (by decide +kernel), by decide +kernel⟩
theorem q_53 : k_in (.selects RX8 yX8_drop yX8_drop) := ⟨List.mem_of_getElem? (i := 53) (by decide +kernel), by decide +kernel⟩
theorem q_54 : k_in (.selects RX8 yX8_dancerAt yX8_dancerAt) := ⟨List.mem_of_getElem? (i := 54) (by decide +kernel), by decide +kernel⟩
theorem q_55 : k_in (.selects RX8 yX8_between yX8_between) := ⟨List.mem_of_getElem? (i := 55) (by decide +kernel), by decide +kernel⟩
theorem q_56 : k_in (.selects RX8 yX8_isBetween yX8_isBetween) := ⟨List.mem_of_getElem? (i := 56) (by decide +kernel), by decide +kernel⟩
theorem q_57 : k_in (.selects RX8 yX8_take yX8_take) := ⟨List.mem_of_getElem? (i := 57) (by decide +kernel), by decide +kernel⟩
theorem q_58 : k_in (.selects RX2 yX2_find yX2_find) := ⟨List.mem_of_getElem? (i := 58) (by decide +kernel), by decide +kernel⟩
theorem q_59 : k_in (.selects RX2 yX2_isPlayable yX2_isPlayable) := ⟨List.mem_of_getElem? (i := 59) (by decide +kernel), by decide +kernel⟩
theorem q_60 : k_in (.selects RX2 yX2_clear yX2_clear) := ⟨List.mem_of_getElem? (i := 60) (by decide +kernel), by decide +kernel⟩
theorem q_61 : k_in (.selects RX2 yX2_join yX2_join) := ⟨List.mem_of_getElem? (i := 61) (by decide +kernel), by decide +kernel⟩
theorem q_62 : k_in (.selects RX2 yX2_offer yX2_offer) := ⟨List.mem_of_getElem? (i := 62) (by decide +kernel), by decide +kernel⟩
theorem q_63 : k_in (.selects RX2 yX2_offerBundle yX2_offerBundle) := ⟨List.mem_of_getElem? (i := 63) (by decide +kernel), by decide +kernel⟩
theorem q_64 : k_in (.selects RX2 yX2_read yX2_read) := ⟨List.mem_of_getElem? (i := 64) (by decide +kernel), by decide +kernel⟩
theorem q_65 : k_in (.selects RX2 yX2_payAll yX2_payAll) := ⟨List.mem_of_getElem? (i := 65) (by decide +kernel), by decide +kernel⟩
theorem q_66 : k_in (.selects RX0 yX0_find yX0_find) := ⟨List.mem_of_getElem? (i := 66) (by decide +kernel), by decide +kernel⟩
theorem q_67 : k_in (.selects RX0 yX0_share yX0_share) := ⟨List.mem_of_getElem? (i := 67) (by decide +kernel), by decide +kernel⟩
theorem q_68 : k_in (.selects RX0 yX0_choose yX0_choose) := ⟨List.mem_of_getElem? (i := 68) (by decide +kernel), by decide +kernel⟩
theorem q_69 : k_in (.selects RX10 yX10_addWedding yX10_addWedding) := ⟨List.mem_of_getElem? (i := 69) (by decide +kernel), by decide +kernel⟩
theorem q_70 : k_in (.selects RX2 yX2_freeBehind yX2_freeBehind) := ⟨List.mem_of_getElem? (i := 70) (by decide +kernel), by decide +kernel⟩
theorem q_71 : k_in (.selects RX2 yX2_playAlone yX2_playAlone) := ⟨List.mem_of_getElem? (i := 71) (by decide +kernel), by decide +kernel⟩
theorem q_72 : k_in (.selects RX10 yX10_addDance yX10_addDance) := ⟨List.mem_of_getElem? (i := 72) (by decide +kernel), by decide +kernel⟩
theorem q_73 : k_in (.selects RX10 yX10_hasDance yX10_hasDance) := ⟨List.mem_of_getElem? (i := 73) (by decide +kernel), by decide +kernel⟩
theorem q_74 : k_in (.selects RX10 yX10_addAhead yX10_addAhead) := ⟨List.mem_of_getElem? (i := 74) (by decide +kernel), by decide +kernel⟩
theorem q_75 : k_in (.selects RX5 yX5_find yX5_find) := ⟨List.mem_of_getElem? (i := 75) (by decide +kernel), by decide +kernel⟩
theorem q_76 : k_in (.selects RX5 yX5_followAhead yX5_followAhead) := ⟨List.mem_of_getElem? (i := 76) (by decide +kernel), by decide +kernel⟩
theorem q_77 : k_in (.selects RX5 yX5_waysOf yX5_waysOf) := ⟨List.mem_of_getElem? (i := 77) (by decide +kernel), by decide +kernel⟩
theorem q_78 : k_in (.selects RX5 yX5_endingWith yX5_endingWith) := ⟨List.mem_of_getElem? (i := 78) (by decide +kernel), by decide +kernel⟩
theorem q_79 : k_in (.selects RX5 yX5_all yX5_all) := ⟨List.mem_of_getElem? (i := 79) (by decide +kernel), by decide +kernel⟩
theorem q_80 : k_in (.selects RX5 yX5_endedBy yX5_endedBy) := ⟨List.mem_of_getElem? (i := 80) (by decide +kernel), by decide +kernel⟩
theorem q_81 : k_in (.selects RX6 yX6_write yX6_write) := ⟨List.mem_of_getElem? (i := 81) (by decide +kernel), by decide +kernel⟩
theorem q_82 : k_in (.selects RX6 yX6_draw yX6_draw) := ⟨List.mem_of_getElem? (i := 82) (by decide +kernel), by decide +kernel⟩
theorem q_83 : k_in (.selects RX6 yX6_takesOver yX6_takesOver) := ⟨List.mem_of_getElem? (i := 83) (by decide +kernel), by decide +kernel⟩
theorem q_84 : k_in (.selects RX6 yX6_addUp yX6_addUp) := ⟨List.mem_of_getElem? (i := 84) (by decide +kernel), by decide +kernel⟩
theorem q_85 : k_in (.selects RX10 yX10_become yX10_become) := ⟨List.mem_of_getElem? (i := 85) (by decide +kernel), by decide +kernel⟩
theorem q_86 : k_in (.selects RX1 yX1_become yX1_become) := ⟨List.mem_of_getElem? (i := 86) (by decide +kernel), by decide +kernel⟩
theorem q_87 : k_in (.selects RX1 yX1_allHalves yX1_allHalves) := ⟨List.mem_of_getElem? (i := 87) (by decide +kernel), by decide +kernel⟩
theorem q_88 : k_in (.selects RX11 yX11_refused yX11_refused) := ⟨List.mem_of_getElem? (i := 88) (by decide +kernel), by decide +kernel⟩
theorem q_89 : k_in (.selects RX12 yX12_tell yX12_tell) := ⟨List.mem_of_getElem? (i := 89) (by decide +kernel), by decide +kernel⟩
theorem q_90 : k_in (.selects RX12 yX12_isTune yX12_isTune) := ⟨List.mem_of_getElem? (i := 90) (by decide +kernel), by decide +kernel⟩
theorem q_91 : k_in (.selects RX12 yX12_debts yX12_debts) := ⟨List.mem_of_getElem? (i := 91) (by decide +kernel), by decide +kernel⟩
theorem q_92 : k_in (.selects RX12 yX12_addDebt yX12_addDebt) := ⟨List.mem_of_getElem? (i := 92) (by decide +kernel), by decide +kernel⟩
theorem q_93 : k_in (.selects RX12 yX12_isDebt yX12_isDebt) := ⟨List.mem_of_getElem? (i := 93) (by decide +kernel), by decide +kernel⟩
theorem q_94 : k_in (.selects RX12 yX12_ofDebt yX12_ofDebt) := ⟨List.mem_of_getElem? (i := 94) (by decide +kernel), by decide +kernel⟩
theorem q_95 : k_in (.selects RX12 yX12_askAll yX12_askAll) := ⟨List.mem_of_getElem? (i := 95) (by decide +kernel), by decide +kernel⟩
theorem q_96 : k_in (.selects RX12 yX12_askOne yX12_askOne) := ⟨List.mem_of_getElem? (i := 96) (by decide +kernel), by decide +kernel⟩
theorem q_97 : k_in (.selects RX12 yX12_lengthOf yX12_lengthOf) := ⟨List.mem_of_getElem? (i := 97) (by decide +kernel), by decide +kernel⟩
theorem q_98 : k_in (.selects RX12 yX12_isSo yX12_isSo) := ⟨List.mem_of_getElem? (i := 98) (by decide +kernel), by decide +kernel⟩
theorem q_99 : k_in (.selects RX12 yX12_reckonAll yX12_reckonAll) := ⟨List.mem_of_getElem? (i := 99) (by decide +kernel), by decide +kernel⟩
theorem q_100 : k_in (.selects RX12 yX12_reckon yX12_reckon) := ⟨List.mem_of_getElem? (i := 100) (by decide +kernel), by decide +kernel⟩
theorem q_101 : k_in (.selects RX12 yX12_sweep yX12_sweep) := ⟨List.mem_of_getElem? (i := 101) (by decide +kernel), by decide +kernel⟩
theorem q_102 : k_in (.selects RX12 yX12_change yX12_change) := ⟨List.mem_of_getElem? (i := 102) (by decide +kernel), by decide +kernel⟩
theorem q_103 : k_in (.selects RX12 yX12_four yX12_four) := ⟨List.mem_of_getElem? (i := 103) (by decide +kernel), by decide +kernel⟩
theorem q_104 : k_in (.selects RX12 yX12_begin yX12_begin) := ⟨List.mem_of_getElem? (i := 104) (by decide +kernel), by decide +kernel⟩
theorem q_105 : k_in (.selects RX12 yX12_next yX12_next) := ⟨List.mem_of_getElem? (i := 105) (by decide +kernel), by decide +kernel⟩
theorem q_106 : k_in (.selects RX12 yX12_readClause yX12_readClause) := ⟨List.mem_of_getElem? (i := 106) (by decide +kernel), by decide +kernel⟩
theorem q_107 : k_in (.selects RX12 yX12_isWord yX12_isWord) := ⟨List.mem_of_getElem? (i := 107) (by decide +kernel), by decide +kernel⟩
theorem q_108 : k_in (.selects RX12 yX12_must yX12_must) := ⟨List.mem_of_getElem? (i := 108) (by decide +kernel), by decide +kernel⟩
theorem q_109 : k_in (.selects RX12 yX12_readExpression yX12_readExpression) := ⟨List.mem_of_getElem? (i := 109) (by decide +kernel), by decide +kernel⟩
theorem q_110 : k_in (.selects RX12 yX12_readPlain yX12_readPlain) := ⟨List.mem_of_getElem? (i := 110) (by decide +kernel), by decide +kernel⟩
theorem q_111 : k_in (.selects RX12 yX12_push yX12_push) := ⟨List.mem_of_getElem? (i := 111) (by decide +kernel), by decide +kernel⟩
theorem q_112 : k_in (.selects RX12 yX12_isSign yX12_isSign) := ⟨List.mem_of_getElem? (i := 112) (by decide +kernel), by decide +kernel⟩
theorem q_113 : k_in (.selects RX12 yX12_openBracket yX12_openBracket) := ⟨List.mem_of_getElem? (i := 113) (by decide +kernel), by decide +kernel⟩
theorem q_114 : k_in (.selects RX12 yX12_readPart yX12_readPart) := ⟨List.mem_of_getElem? (i := 114) (by decide +kernel), by decide +kernel⟩
theorem q_115 : k_in (.selects RX12 yX12_partAt yX12_partAt) := ⟨List.mem_of_getElem? (i := 115) (by decide +kernel), by decide +kernel⟩
theorem q_116 : k_in (.selects RX12 yX12_leaf yX12_leaf) := ⟨List.mem_of_getElem? (i := 116) (by decide +kernel), by decide +kernel⟩
theorem q_117 : k_in (.selects RX12 yX12_emit yX12_emit) := ⟨List.mem_of_getElem? (i := 117) (by decide +kernel), by decide +kernel⟩
theorem q_118 : k_in (.selects RX12 yX12_behindSum yX12_behindSum) := ⟨List.mem_of_getElem? (i := 118) (by decide +kernel), by decide +kernel⟩
theorem q_119 : k_in (.selects RX12 yX12_settle yX12_settle) := ⟨List.mem_of_getElem? (i := 119) (by decide +kernel), by decide +kernel⟩
theorem q_120 : k_in (.selects RX12 yX12_inner yX12_inner) := ⟨List.mem_of_getElem? (i := 120) (by decide +kernel), by decide +kernel⟩
theorem q_121 : k_in (.selects RX12 yX12_isCompared yX12_isCompared) := ⟨List.mem_of_getElem? (i := 121) (by decide +kernel), by decide +kernel⟩
theorem q_122 : k_in (.selects RX12 yX12_behindTest yX12_behindTest) := ⟨List.mem_of_getElem? (i := 122) (by decide +kernel), by decide +kernel⟩
theorem q_123 : k_in (.selects RX12 yX12_balanceOf yX12_balanceOf) := ⟨List.mem_of_getElem? (i := 123) (by decide +kernel), by decide +kernel⟩
theorem q_124 : k_in (.selects RX12 yX12_netOf yX12_netOf) := ⟨List.mem_of_getElem? (i := 124) (by decide +kernel), by decide +kernel⟩
theorem q_125 : k_in (.selects RX12 yX12_counts yX12_counts) := ⟨List.mem_of_getElem? (i := 125) (by decide +kernel), by decide +kernel⟩
theorem q_126 : k_in (.selects RX12 yX12_payments yX12_payments) := ⟨List.mem_of_getElem? (i := 126) (by decide +kernel), by decide +kernel⟩
theorem q_127 : k_in (.selects RX12 yX12_findRing yX12_findRing) := ⟨List.mem_of_getElem? (i := 127) (by decide +kernel), by decide +kernel⟩
theorem q_128 : k_in (.selects RX12 yX12_between yX12_between) := ⟨List.mem_of_getElem? (i := 128) (by decide +kernel), by decide +kernel⟩
theorem q_129 : k_in (.selects RX12 yX12_goRound yX12_goRound) := ⟨List.mem_of_getElem? (i := 129) (by decide +kernel), by decide +kernel⟩
theorem q_130 : k_in (.selects RX12 yX12_keepRing yX12_keepRing) := ⟨List.mem_of_getElem? (i := 130) (by decide +kernel), by decide +kernel⟩
theorem q_131 : k_in (.selects RX12 yX12_findBest yX12_findBest) := ⟨List.mem_of_getElem? (i := 131) (by decide +kernel), by decide +kernel⟩
theorem q_132 : k_in (.selects RX12 yX12_findMosts yX12_findMosts) := ⟨List.mem_of_getElem? (i := 132) (by decide +kernel), by decide +kernel⟩
theorem q_133 : k_in (.selects RX12 yX12_isPlayed yX12_isPlayed) := ⟨List.mem_of_getElem? (i := 133) (by decide +kernel), by decide +kernel⟩
theorem q_134 : k_in (.selects RX12 yX12_isDance yX12_isDance) := ⟨List.mem_of_getElem? (i := 134) (by decide +kernel), by decide +kernel⟩
theorem q_135 : k_in (.selects RX12 yX12_findBefore yX12_findBefore) := ⟨List.mem_of_getElem? (i := 135) (by decide +kernel), by decide +kernel⟩
theorem q_136 : k_in (.selects RX12 yX12_dancesOf yX12_dancesOf) := ⟨List.mem_of_getElem? (i := 136) (by decide +kernel), by decide +kernel⟩
theorem q_137 : k_in (.selects RX12 yX12_findOrders yX12_findOrders) := ⟨List.mem_of_getElem? (i := 137) (by decide +kernel), by decide +kernel⟩
theorem q_138 : k_in (.selects RX12 yX12_lasts yX12_lasts) := ⟨List.mem_of_getElem? (i := 138) (by decide +kernel), by decide +kernel⟩
theorem q_139 : k_in (.selects RX12 yX12_draw yX12_draw) := ⟨List.mem_of_getElem? (i := 139) (by decide +kernel), by decide +kernel⟩
theorem q_140 : k_in (.initialized "FiddlerDebtsLaw") := ⟨List.mem_of_getElem? (i := 140) (by decide +kernel), by decide +kernel⟩
theorem q_141 : k_in (.initialized RX11) := ⟨List.mem_of_getElem? (i := 141) (by decide +kernel), by decide +kernel⟩
theorem q_142 : k_in (.initialized RX10) := ⟨List.mem_of_getElem? (i := 142) (by decide +kernel), by decide +kernel⟩
theorem q_143 : k_in (.initialized RX1) := ⟨List.mem_of_getElem? (i := 143) (by decide +kernel), by decide +kernel⟩
theorem q_144 : k_in (.initialized RX9) := ⟨List.mem_of_getElem? (i := 144) (by decide +kernel), by decide +kernel⟩
theorem q_145 : k_in (.initialized RX7) := ⟨List.mem_of_getElem? (i := 145) (by decide +kernel), by decide +kernel⟩
theorem q_146 : k_in (.initialized RX3) := ⟨List.mem_of_getElem? (i := 146) (by decide +kernel), by decide +kernel⟩
theorem q_147 : k_in (.initialized RX4) := ⟨List.mem_of_getElem? (i := 147) (by decide +kernel), by decide +kernel⟩
theorem q_148 : k_in (.initialized RX8) := ⟨List.mem_of_getElem? (i := 148) (by decide +kernel), by decide +kernel⟩
theorem q_149 : k_in (.initialized RX2) := ⟨List.mem_of_getElem? (i := 149) (by decide +kernel), by decide +kernel⟩
theorem q_150 : k_in (.initialized RX0) := ⟨List.mem_of_getElem? (i := 150) (by decide +kernel), by decide +kernel⟩
theorem q_151 : k_in (.initialized RX5) := ⟨List.mem_of_getElem? (i := 151) (by decide +kernel), by decide +kernel⟩
theorem q_152 : k_in (.initialized RX6) := ⟨List.mem_of_getElem? (i := 152) (by decide +kernel), by decide +kernel⟩
theorem q_153 : k_in (.initialized RX12) := ⟨List.mem_of_getElem? (i := 153) (by decide +kernel), by decide +kernel⟩
theorem q_154 : k_in (.initialized "java/util/Arrays") := ⟨List.mem_of_getElem? (i := 154) (by decide +kernel), by decide +kernel⟩
theorem q_155 : k_in (.initialized "java/lang/Math") := ⟨List.mem_of_getElem? (i := 155) (by decide +kernel), by decide +kernel⟩
theorem q_156 : k_in (.initialized "java/lang/String") := ⟨List.mem_of_getElem? (i := 156) (by decide +kernel), by decide +kernel⟩
theorem q_157 : k_in (.initialized "java/lang/StringLatin1") := ⟨List.mem_of_getElem? (i := 157) (by decide +kernel), by decide +kernel⟩
theorem q_158 : k_in (.initialized "jdk/internal/util/Preconditions") := ⟨List.mem_of_getElem? (i := 158) (by decide +kernel), by decide +kernel⟩
theorem q_159 : k_in (.initialized "java/lang/StringUTF16") := ⟨List.mem_of_getElem? (i := 159) (by decide +kernel), by decide +kernel⟩
theorem q_160 : k_in (.initialized "java/lang/System") := ⟨List.mem_of_getElem? (i := 160) (by decide +kernel), by decide +kernel⟩
theorem q_161 : k_in (.initialized "java/lang/Integer") := ⟨List.mem_of_getElem? (i := 161) (by decide +kernel), by decide +kernel⟩
theorem q_162 : k_in (.classLink "FiddlerDebtsLaw" 7 RX11) := ⟨List.mem_of_getElem? (i := 162) (by decide +kernel), by decide +kernel⟩
theorem q_163 : k_in (.instantiable RX11 15) := ⟨List.mem_of_getElem? (i := 163) (by decide +kernel), by decide +kernel⟩
theorem q_164 : k_in (.methodLink "FiddlerDebtsLaw" 9 yX11_init) := ⟨List.mem_of_getElem? (i := 164) (by decide +kernel), by decide +kernel⟩
theorem q_165 : k_in (.instanceMethod yX11_init) := ⟨List.mem_of_getElem? (i := 165) (by decide +kernel), by decide +kernel⟩
theorem q_166 : k_in (.code yX11_init cX11_init 1 none) := ⟨List.mem_of_getElem? (i := 166) (by decide +kernel), by decide +kernel⟩
theorem q_170 : k_in (.classLink RX11 7 RX10) := ⟨List.mem_of_getElem? (i := 170) (by decide +kernel), by decide +kernel⟩
theorem q_171 : k_in (.instantiable RX10 16) := ⟨List.mem_of_getElem? (i := 171) (by decide +kernel), by decide +kernel⟩
theorem q_172 : k_in (.methodLinkNest RX11 9 yX10_init RX11) := ⟨List.mem_of_getElem? (i := 172) (by decide +kernel), by decide +kernel⟩
theorem q_173 : k_in (.instanceMethod yX10_init) := ⟨List.mem_of_getElem? (i := 173) (by decide +kernel), by decide +kernel⟩
theorem q_174 : k_in (.code yX10_init cX10_init 1 none) := ⟨List.mem_of_getElem? (i := 174) (by decide +kernel), by decide +kernel⟩
theorem q_176 : k_in (.classLink RX10 19 RX1) := ⟨List.mem_of_getElem? (i := 176) (by decide +kernel), by decide +kernel⟩
theorem q_177 : k_in (.instantiable RX1 6) := ⟨List.mem_of_getElem? (i := 177) (by decide +kernel), by decide +kernel⟩
theorem q_178 : k_in (.methodLinkNest RX10 21 yX1_init RX11) := ⟨List.mem_of_getElem? (i := 178) (by decide +kernel), by decide +kernel⟩
theorem q_179 : k_in (.instanceMethod yX1_init) := ⟨List.mem_of_getElem? (i := 179) (by decide +kernel), by decide +kernel⟩
theorem q_180 : k_in (.code yX1_init cX1_init 1 none) := ⟨List.mem_of_getElem? (i := 180) (by decide +kernel), by decide +kernel⟩
theorem q_182 : k_in (.fieldLink RX1 9 RX1 "owers" "[I") := ⟨List.mem_of_getElem? (i := 182) (by decide +kernel), by decide +kernel⟩
theorem q_183 : k_in (.fieldLinkNest RX6 40 RX1 "owers" "[I" RX11) := ⟨List.mem_of_getElem? (i := 183) (by decide +kernel), by decide +kernel⟩
theorem q_184 : k_in (.fieldLinkNest RX3 54 RX1 "owers" "[I" RX11) := ⟨List.mem_of_getElem? (i := 184) (by decide +kernel), by decide +kernel⟩
theorem q_185 : k_in (.fieldLinkNest RX8 50 RX1 "owers" "[I" RX11) := ⟨List.mem_of_getElem? (i := 185) (by decide +kernel), by decide +kernel⟩
theorem q_186 : k_in (.fieldLinkNest RX2 78 RX1 "owers" "[I" RX11) := ⟨List.mem_of_getElem? (i := 186) (by decide +kernel), by decide +kernel⟩
theorem q_187 : k_in (.fieldLinkNest RX4 69 RX1 "owers" "[I" RX11) := ⟨List.mem_of_getElem? (i := 187) (by decide +kernel), by decide +kernel⟩
theorem q_188 : k_in (.fieldLink RX1 15 RX1 "creditors" "[I") := ⟨List.mem_of_getElem? (i := 188) (by decide +kernel), by decide +kernel⟩
theorem q_189 : k_in (.fieldLinkNest RX0 47 RX1 "creditors" "[I" RX11) := ⟨List.mem_of_getElem? (i := 189) (by decide +kernel), by decide +kernel⟩
theorem q_190 : k_in (.fieldLinkNest RX8 60 RX1 "creditors" "[I" RX11) := ⟨List.mem_of_getElem? (i := 190) (by decide +kernel), by decide +kernel⟩
theorem q_191 : k_in (.fieldLinkNest RX4 62 RX1 "creditors" "[I" RX11) := ⟨List.mem_of_getElem? (i := 191) (by decide +kernel), by decide +kernel⟩
theorem q_192 : k_in (.fieldLinkNest RX2 114 RX1 "creditors" "[I" RX11) := ⟨List.mem_of_getElem? (i := 192) (by decide +kernel), by decide +kernel⟩
theorem q_193 : k_in (.fieldLinkNest RX3 75 RX1 "creditors" "[I" RX11) := ⟨List.mem_of_getElem? (i := 193) (by decide +kernel), by decide +kernel⟩
theorem q_194 : k_in (.fieldLinkNest RX6 69 RX1 "creditors" "[I" RX11) := ⟨List.mem_of_getElem? (i := 194) (by decide +kernel), by decide +kernel⟩
theorem q_195 : k_in (.fieldLink RX1 18 RX1 "tunes" "[I") := ⟨List.mem_of_getElem? (i := 195) (by decide +kernel), by decide +kernel⟩
theorem q_196 : k_in (.fieldLinkNest RX4 52 RX1 "tunes" "[I" RX11) := ⟨List.mem_of_getElem? (i := 196) (by decide +kernel), by decide +kernel⟩
theorem q_197 : k_in (.fieldLinkNest RX8 76 RX1 "tunes" "[I" RX11) := ⟨List.mem_of_getElem? (i := 197) (by decide +kernel), by decide +kernel⟩
theorem q_198 : k_in (.fieldLinkNest RX6 67 RX1 "tunes" "[I" RX11) := ⟨List.mem_of_getElem? (i := 198) (by decide +kernel), by decide +kernel⟩
theorem q_199 : k_in (.fieldLinkNest RX3 119 RX1 "tunes" "[I" RX11) := ⟨List.mem_of_getElem? (i := 199) (by decide +kernel), by decide +kernel⟩
theorem q_200 : k_in (.fieldLinkNest RX10 84 RX1 "tunes" "[I" RX11) := ⟨List.mem_of_getElem? (i := 200) (by decide +kernel), by decide +kernel⟩
theorem q_201 : k_in (.fieldLink RX1 21 RX1 "halves" "[I") := ⟨List.mem_of_getElem? (i := 201) (by decide +kernel), by decide +kernel⟩
theorem q_202 : k_in (.fieldLinkNest RX0 54 RX1 "halves" "[I" RX11) := ⟨List.mem_of_getElem? (i := 202) (by decide +kernel), by decide +kernel⟩
theorem q_203 : k_in (.fieldLinkNest RX4 59 RX1 "halves" "[I" RX11) := ⟨List.mem_of_getElem? (i := 203) (by decide +kernel), by decide +kernel⟩
theorem q_204 : k_in (.fieldLinkNest RX2 80 RX1 "halves" "[I" RX11) := ⟨List.mem_of_getElem? (i := 204) (by decide +kernel), by decide +kernel⟩
theorem q_205 : k_in (.fieldLinkNest RX3 72 RX1 "halves" "[I" RX11) := ⟨List.mem_of_getElem? (i := 205) (by decide +kernel), by decide +kernel⟩
theorem q_206 : k_in (.fieldLinkNest RX6 80 RX1 "halves" "[I" RX11) := ⟨List.mem_of_getElem? (i := 206) (by decide +kernel), by decide +kernel⟩
theorem q_207 : k_in (.fieldLinkNest RX11 157 RX1 "halves" "[I" RX11) := ⟨List.mem_of_getElem? (i := 207) (by decide +kernel), by decide +kernel⟩
theorem q_208 : k_in (.fieldLinkNest RX8 109 RX1 "halves" "[I" RX11) := ⟨List.mem_of_getElem? (i := 208) (by decide +kernel), by decide +kernel⟩
theorem q_209 : k_in (.fieldLink RX1 24 RX1 "since" "[I") := ⟨List.mem_of_getElem? (i := 209) (by decide +kernel), by decide +kernel⟩
theorem q_210 : k_in (.fieldLinkNest RX3 125 RX1 "since" "[I" RX11) := ⟨List.mem_of_getElem? (i := 210) (by decide +kernel), by decide +kernel⟩
theorem q_211 : k_in (.fieldLink RX1 27 RX1 "size" "I") := ⟨List.mem_of_getElem? (i := 211) (by decide +kernel), by decide +kernel⟩
theorem q_212 : k_in (.fieldLinkNest RX3 49 RX1 "size" "I" RX11) := ⟨List.mem_of_getElem? (i := 212) (by decide +kernel), by decide +kernel⟩
theorem q_213 : k_in (.fieldLinkNest RX0 42 RX1 "size" "I" RX11) := ⟨List.mem_of_getElem? (i := 213) (by decide +kernel), by decide +kernel⟩
theorem q_214 : k_in (.fieldLinkNest RX4 47 RX1 "size" "I" RX11) := ⟨List.mem_of_getElem? (i := 214) (by decide +kernel), by decide +kernel⟩
theorem q_215 : k_in (.fieldLinkNest RX2 69 RX1 "size" "I" RX11) := ⟨List.mem_of_getElem? (i := 215) (by decide +kernel), by decide +kernel⟩
theorem q_216 : k_in (.fieldLinkNest RX8 47 RX1 "size" "I" RX11) := ⟨List.mem_of_getElem? (i := 216) (by decide +kernel), by decide +kernel⟩
theorem q_217 : k_in (.fieldLinkNest RX6 64 RX1 "size" "I" RX11) := ⟨List.mem_of_getElem? (i := 217) (by decide +kernel), by decide +kernel⟩
theorem q_218 : k_in (.fieldLinkNest RX10 81 RX1 "size" "I" RX11) := ⟨List.mem_of_getElem? (i := 218) (by decide +kernel), by decide +kernel⟩
theorem q_219 : k_in (.fieldLinkNest RX11 311 RX1 "size" "I" RX11) := ⟨List.mem_of_getElem? (i := 219) (by decide +kernel), by decide +kernel⟩
theorem q_233 : k_in (.arrayClass .int) := ⟨List.mem_of_getElem? (i := 233) (by decide +kernel), by decide +kernel⟩
theorem q_234 : k_in (.classLink RX10 29 "[I") := ⟨List.mem_of_getElem? (i := 234) (by decide +kernel), by decide +kernel⟩
theorem q_236 : k_in (.fieldLink RX10 9 RX10 "lengths" "[I") := ⟨List.mem_of_getElem? (i := 236) (by decide +kernel), by decide +kernel⟩
theorem q_237 : k_in (.fieldLinkNest RX11 117 RX10 "lengths" "[I" RX11) := ⟨List.mem_of_getElem? (i := 237) (by decide +kernel), by decide +kernel⟩
theorem q_238 : k_in (.fieldLink RX10 15 RX10 "tunes" "I") := ⟨List.mem_of_getElem? (i := 238) (by decide +kernel), by decide +kernel⟩
theorem q_239 : k_in (.fieldLinkNest RX6 49 RX10 "tunes" "I" RX11) := ⟨List.mem_of_getElem? (i := 239) (by decide +kernel), by decide +kernel⟩
theorem q_240 : k_in (.fieldLinkNest RX11 308 RX10 "tunes" "I" RX11) := ⟨List.mem_of_getElem? (i := 240) (by decide +kernel), by decide +kernel⟩
theorem q_241 : k_in (.fieldLink RX10 22 RX10 "debts" "LFiddlerDebts$Debts;") := ⟨List.mem_of_getElem? (i := 241) (by decide +kernel), by decide +kernel⟩
theorem q_242 : k_in (.fieldLinkNest RX0 26 RX10 "debts" "LFiddlerDebts$Debts;" RX11) := ⟨List.mem_of_getElem? (i := 242) (by decide +kernel), by decide +kernel⟩
theorem q_243 : k_in (.fieldLinkNest RX8 25 RX10 "debts" "LFiddlerDebts$Debts;" RX11) := ⟨List.mem_of_getElem? (i := 243) (by decide +kernel), by decide +kernel⟩
theorem q_244 : k_in (.fieldLinkNest RX4 25 RX10 "debts" "LFiddlerDebts$Debts;" RX11) := ⟨List.mem_of_getElem? (i := 244) (by decide +kernel), by decide +kernel⟩
theorem q_245 : k_in (.fieldLinkNest RX6 33 RX10 "debts" "LFiddlerDebts$Debts;" RX11) := ⟨List.mem_of_getElem? (i := 245) (by decide +kernel), by decide +kernel⟩
theorem q_246 : k_in (.fieldLinkNest RX3 36 RX10 "debts" "LFiddlerDebts$Debts;" RX11) := ⟨List.mem_of_getElem? (i := 246) (by decide +kernel), by decide +kernel⟩
theorem q_247 : k_in (.fieldLinkNest RX2 51 RX10 "debts" "LFiddlerDebts$Debts;" RX11) := ⟨List.mem_of_getElem? (i := 247) (by decide +kernel), by decide +kernel⟩
theorem q_248 : k_in (.fieldLinkNest RX11 124 RX10 "debts" "LFiddlerDebts$Debts;" RX11) := ⟨List.mem_of_getElem? (i := 248) (by decide +kernel), by decide +kernel⟩
theorem q_249 : k_in (.fieldLink RX10 26 RX10 "evening" "I") := ⟨List.mem_of_getElem? (i := 249) (by decide +kernel), by decide +kernel⟩
theorem q_250 : k_in (.fieldLinkNest RX11 128 RX10 "evening" "I" RX11) := ⟨List.mem_of_getElem? (i := 250) (by decide +kernel), by decide +kernel⟩
theorem q_251 : k_in (.fieldLinkNest RX3 122 RX10 "evening" "I" RX11) := ⟨List.mem_of_getElem? (i := 251) (by decide +kernel), by decide +kernel⟩
theorem q_252 : k_in (.fieldLink RX10 30 RX10 "laws" "[[I") := ⟨List.mem_of_getElem? (i := 252) (by decide +kernel), by decide +kernel⟩
theorem q_253 : k_in (.fieldLink RX10 34 RX10 "lawCount" "I") := ⟨List.mem_of_getElem? (i := 253) (by decide +kernel), by decide +kernel⟩
theorem q_254 : k_in (.fieldLinkNest RX11 182 RX10 "lawCount" "I" RX11) := ⟨List.mem_of_getElem? (i := 254) (by decide +kernel), by decide +kernel⟩
theorem q_255 : k_in (.fieldLink RX10 37 RX10 "forced" "I") := ⟨List.mem_of_getElem? (i := 255) (by decide +kernel), by decide +kernel⟩
theorem q_256 : k_in (.fieldLinkNest RX11 199 RX10 "forced" "I" RX11) := ⟨List.mem_of_getElem? (i := 256) (by decide +kernel), by decide +kernel⟩
theorem q_257 : k_in (.fieldLink RX10 40 RX10 "hosts" "[I") := ⟨List.mem_of_getElem? (i := 257) (by decide +kernel), by decide +kernel⟩
theorem q_258 : k_in (.fieldLinkNest RX2 150 RX10 "hosts" "[I" RX11) := ⟨List.mem_of_getElem? (i := 258) (by decide +kernel), by decide +kernel⟩
theorem q_259 : k_in (.fieldLink RX10 43 RX10 "minutes" "[I") := ⟨List.mem_of_getElem? (i := 259) (by decide +kernel), by decide +kernel⟩
theorem q_260 : k_in (.fieldLinkNest RX2 153 RX10 "minutes" "[I" RX11) := ⟨List.mem_of_getElem? (i := 260) (by decide +kernel), by decide +kernel⟩
theorem q_261 : k_in (.fieldLink RX10 46 RX10 "weddings" "I") := ⟨List.mem_of_getElem? (i := 261) (by decide +kernel), by decide +kernel⟩
theorem q_262 : k_in (.fieldLinkNest RX2 147 RX10 "weddings" "I" RX11) := ⟨List.mem_of_getElem? (i := 262) (by decide +kernel), by decide +kernel⟩
theorem q_263 : k_in (.fieldLinkNest RX11 260 RX10 "weddings" "I" RX11) := ⟨List.mem_of_getElem? (i := 263) (by decide +kernel), by decide +kernel⟩
theorem q_264 : k_in (.fieldLink RX10 49 RX10 "dancers" "[I") := ⟨List.mem_of_getElem? (i := 264) (by decide +kernel), by decide +kernel⟩
theorem q_265 : k_in (.fieldLinkNest RX5 64 RX10 "dancers" "[I" RX11) := ⟨List.mem_of_getElem? (i := 265) (by decide +kernel), by decide +kernel⟩
theorem q_266 : k_in (.fieldLink RX10 52 RX10 "danced" "[I") := ⟨List.mem_of_getElem? (i := 266) (by decide +kernel), by decide +kernel⟩
theorem q_267 : k_in (.fieldLinkNest RX5 34 RX10 "danced" "[I" RX11) := ⟨List.mem_of_getElem? (i := 267) (by decide +kernel), by decide +kernel⟩
theorem q_268 : k_in (.fieldLink RX10 55 RX10 "dances" "I") := ⟨List.mem_of_getElem? (i := 268) (by decide +kernel), by decide +kernel⟩
theorem q_269 : k_in (.fieldLinkNest RX5 29 RX10 "dances" "I" RX11) := ⟨List.mem_of_getElem? (i := 269) (by decide +kernel), by decide +kernel⟩
theorem q_270 : k_in (.fieldLinkNest RX11 278 RX10 "dances" "I" RX11) := ⟨List.mem_of_getElem? (i := 270) (by decide +kernel), by decide +kernel⟩
theorem q_271 : k_in (.fieldLink RX10 58 RX10 "firsts" "[I") := ⟨List.mem_of_getElem? (i := 271) (by decide +kernel), by decide +kernel⟩
theorem q_272 : k_in (.fieldLinkNest RX5 57 RX10 "firsts" "[I" RX11) := ⟨List.mem_of_getElem? (i := 272) (by decide +kernel), by decide +kernel⟩
theorem q_273 : k_in (.fieldLink RX10 61 RX10 "laters" "[I") := ⟨List.mem_of_getElem? (i := 273) (by decide +kernel), by decide +kernel⟩
theorem q_274 : k_in (.fieldLinkNest RX5 50 RX10 "laters" "[I" RX11) := ⟨List.mem_of_getElem? (i := 274) (by decide +kernel), by decide +kernel⟩
theorem q_275 : k_in (.fieldLink RX10 64 RX10 "aheads" "I") := ⟨List.mem_of_getElem? (i := 275) (by decide +kernel), by decide +kernel⟩
theorem q_276 : k_in (.fieldLinkNest RX5 47 RX10 "aheads" "I" RX11) := ⟨List.mem_of_getElem? (i := 276) (by decide +kernel), by decide +kernel⟩
theorem q_277 : k_in (.fieldLinkNest RX11 275 RX10 "aheads" "I" RX11) := ⟨List.mem_of_getElem? (i := 277) (by decide +kernel), by decide +kernel⟩
theorem q_312 : k_in (.classLink RX11 20 RX9) := ⟨List.mem_of_getElem? (i := 312) (by decide +kernel), by decide +kernel⟩
theorem q_313 : k_in (.instantiable RX9 2) := ⟨List.mem_of_getElem? (i := 313) (by decide +kernel), by decide +kernel⟩
theorem q_314 : k_in (.methodLinkNest RX11 22 yX9_init RX11) := ⟨List.mem_of_getElem? (i := 314) (by decide +kernel), by decide +kernel⟩
theorem q_315 : k_in (.instanceMethod yX9_init) := ⟨List.mem_of_getElem? (i := 315) (by decide +kernel), by decide +kernel⟩
theorem q_316 : k_in (.code yX9_init cX9_init 1 none) := ⟨List.mem_of_getElem? (i := 316) (by decide +kernel), by decide +kernel⟩
theorem q_318 : k_in (.fieldLink RX9 9 RX9 "bytes" "[B") := ⟨List.mem_of_getElem? (i := 318) (by decide +kernel), by decide +kernel⟩
theorem q_319 : k_in (.fieldLink RX9 15 RX9 "size" "I") := ⟨List.mem_of_getElem? (i := 319) (by decide +kernel), by decide +kernel⟩
theorem q_320 : k_in (.fieldLinkNest RX11 176 RX9 "size" "I" RX11) := ⟨List.mem_of_getElem? (i := 320) (by decide +kernel), by decide +kernel⟩
theorem q_321 : k_in (.fieldLinkNest RX7 137 RX9 "size" "I" RX11) := ⟨List.mem_of_getElem? (i := 321) (by decide +kernel), by decide +kernel⟩
theorem q_327 : k_in (.arrayClass .byte) := ⟨List.mem_of_getElem? (i := 327) (by decide +kernel), by decide +kernel⟩
theorem q_328 : k_in (.classLink RX11 27 RX7) := ⟨List.mem_of_getElem? (i := 328) (by decide +kernel), by decide +kernel⟩
theorem q_329 : k_in (.instantiable RX7 9) := ⟨List.mem_of_getElem? (i := 329) (by decide +kernel), by decide +kernel⟩
theorem q_330 : k_in (.methodLinkNest RX11 29 yX7_init RX11) := ⟨List.mem_of_getElem? (i := 330) (by decide +kernel), by decide +kernel⟩
theorem q_331 : k_in (.instanceMethod yX7_init) := ⟨List.mem_of_getElem? (i := 331) (by decide +kernel), by decide +kernel⟩
theorem q_332 : k_in (.code yX7_init cX7_init 2 none) := ⟨List.mem_of_getElem? (i := 332) (by decide +kernel), by decide +kernel⟩
theorem q_334 : k_in (.fieldLink RX7 37 RX7 "tape" "LFiddlerDebts$Tape;") := ⟨List.mem_of_getElem? (i := 334) (by decide +kernel), by decide +kernel⟩
theorem q_335 : k_in (.fieldLink RX7 11 RX7 "code" "[I") := ⟨List.mem_of_getElem? (i := 335) (by decide +kernel), by decide +kernel⟩
theorem q_336 : k_in (.fieldLink RX7 15 RX7 "size" "I") := ⟨List.mem_of_getElem? (i := 336) (by decide +kernel), by decide +kernel⟩
theorem q_337 : k_in (.fieldLink RX7 19 RX7 "parts" "I") := ⟨List.mem_of_getElem? (i := 337) (by decide +kernel), by decide +kernel⟩
theorem q_338 : k_in (.fieldLink RX7 22 RX7 "clauses" "I") := ⟨List.mem_of_getElem? (i := 338) (by decide +kernel), by decide +kernel⟩
theorem q_339 : k_in (.fieldLink RX7 25 RX7 "kind" "I") := ⟨List.mem_of_getElem? (i := 339) (by decide +kernel), by decide +kernel⟩
theorem q_340 : k_in (.fieldLink RX7 28 RX7 "number" "I") := ⟨List.mem_of_getElem? (i := 340) (by decide +kernel), by decide +kernel⟩
theorem q_341 : k_in (.fieldLink RX7 31 RX7 "at" "I") := ⟨List.mem_of_getElem? (i := 341) (by decide +kernel), by decide +kernel⟩
theorem q_342 : k_in (.fieldLinkNest RX11 189 RX7 "at" "I" RX11) := ⟨List.mem_of_getElem? (i := 342) (by decide +kernel), by decide +kernel⟩
theorem q_343 : k_in (.fieldLink RX7 34 RX7 "after" "I") := ⟨List.mem_of_getElem? (i := 343) (by decide +kernel), by decide +kernel⟩
theorem q_363 : k_in (.classLink RX11 36 RX3) := ⟨List.mem_of_getElem? (i := 363) (by decide +kernel), by decide +kernel⟩
theorem q_364 : k_in (.instantiable RX3 8) := ⟨List.mem_of_getElem? (i := 364) (by decide +kernel), by decide +kernel⟩
theorem q_365 : k_in (.methodLinkNest RX11 38 yX3_init RX11) := ⟨List.mem_of_getElem? (i := 365) (by decide +kernel), by decide +kernel⟩
theorem q_366 : k_in (.instanceMethod yX3_init) := ⟨List.mem_of_getElem? (i := 366) (by decide +kernel), by decide +kernel⟩
theorem q_367 : k_in (.code yX3_init cX3_init 2 none) := ⟨List.mem_of_getElem? (i := 367) (by decide +kernel), by decide +kernel⟩
theorem q_369 : k_in (.fieldLink RX3 32 RX3 "village" "LFiddlerDebts$Village;") := ⟨List.mem_of_getElem? (i := 369) (by decide +kernel), by decide +kernel⟩
theorem q_370 : k_in (.fieldLink RX3 42 RX3 "debts" "LFiddlerDebts$Debts;") := ⟨List.mem_of_getElem? (i := 370) (by decide +kernel), by decide +kernel⟩
theorem q_371 : k_in (.fieldLink RX3 9 RX3 "worths" "[I") := ⟨List.mem_of_getElem? (i := 371) (by decide +kernel), by decide +kernel⟩
theorem q_372 : k_in (.fieldLinkNest RX11 147 RX3 "worths" "[I" RX11) := ⟨List.mem_of_getElem? (i := 372) (by decide +kernel), by decide +kernel⟩
theorem q_373 : k_in (.fieldLinkNest RX2 141 RX3 "worths" "[I" RX11) := ⟨List.mem_of_getElem? (i := 373) (by decide +kernel), by decide +kernel⟩
theorem q_374 : k_in (.fieldLink RX3 15 RX3 "voided" "[Z") := ⟨List.mem_of_getElem? (i := 374) (by decide +kernel), by decide +kernel⟩
theorem q_375 : k_in (.fieldLinkNest RX0 50 RX3 "voided" "[Z" RX11) := ⟨List.mem_of_getElem? (i := 375) (by decide +kernel), by decide +kernel⟩
theorem q_376 : k_in (.fieldLinkNest RX4 55 RX3 "voided" "[Z" RX11) := ⟨List.mem_of_getElem? (i := 376) (by decide +kernel), by decide +kernel⟩
theorem q_377 : k_in (.fieldLinkNest RX8 79 RX3 "voided" "[Z" RX11) := ⟨List.mem_of_getElem? (i := 377) (by decide +kernel), by decide +kernel⟩
theorem q_378 : k_in (.fieldLinkNest RX2 117 RX3 "voided" "[Z" RX11) := ⟨List.mem_of_getElem? (i := 378) (by decide +kernel), by decide +kernel⟩
theorem q_379 : k_in (.fieldLinkNest RX11 150 RX3 "voided" "[Z" RX11) := ⟨List.mem_of_getElem? (i := 379) (by decide +kernel), by decide +kernel⟩
theorem q_380 : k_in (.fieldLink RX3 19 RX3 "barred" "[Z") := ⟨List.mem_of_getElem? (i := 380) (by decide +kernel), by decide +kernel⟩
theorem q_381 : k_in (.fieldLinkNest RX2 121 RX3 "barred" "[Z" RX11) := ⟨List.mem_of_getElem? (i := 381) (by decide +kernel), by decide +kernel⟩
theorem q_382 : k_in (.fieldLinkNest RX11 154 RX3 "barred" "[Z" RX11) := ⟨List.mem_of_getElem? (i := 382) (by decide +kernel), by decide +kernel⟩
theorem q_383 : k_in (.fieldLink RX3 22 RX3 "debtsOf" "[I") := ⟨List.mem_of_getElem? (i := 383) (by decide +kernel), by decide +kernel⟩
theorem q_384 : k_in (.fieldLink RX3 25 RX3 "stack" "[I") := ⟨List.mem_of_getElem? (i := 384) (by decide +kernel), by decide +kernel⟩
theorem q_385 : k_in (.fieldLink RX3 28 RX3 "depth" "I") := ⟨List.mem_of_getElem? (i := 385) (by decide +kernel), by decide +kernel⟩
theorem q_403 : k_in (.arrayClass .boolean) := ⟨List.mem_of_getElem? (i := 403) (by decide +kernel), by decide +kernel⟩
theorem q_404 : k_in (.classLink RX11 45 RX4) := ⟨List.mem_of_getElem? (i := 404) (by decide +kernel), by decide +kernel⟩
theorem q_405 : k_in (.instantiable RX4 6) := ⟨List.mem_of_getElem? (i := 405) (by decide +kernel), by decide +kernel⟩
theorem q_406 : k_in (.methodLinkNest RX11 47 yX4_init RX11) := ⟨List.mem_of_getElem? (i := 406) (by decide +kernel), by decide +kernel⟩
theorem q_407 : k_in (.instanceMethod yX4_init) := ⟨List.mem_of_getElem? (i := 407) (by decide +kernel), by decide +kernel⟩
theorem q_408 : k_in (.code yX4_init cX4_init 3 none) := ⟨List.mem_of_getElem? (i := 408) (by decide +kernel), by decide +kernel⟩
theorem q_410 : k_in (.fieldLink RX4 31 RX4 "debts" "LFiddlerDebts$Debts;") := ⟨List.mem_of_getElem? (i := 410) (by decide +kernel), by decide +kernel⟩
theorem q_411 : k_in (.fieldLink RX4 32 RX4 "judge" "LFiddlerDebts$Judge;") := ⟨List.mem_of_getElem? (i := 411) (by decide +kernel), by decide +kernel⟩
theorem q_412 : k_in (.fieldLink RX4 9 RX4 "nets" "[I") := ⟨List.mem_of_getElem? (i := 412) (by decide +kernel), by decide +kernel⟩
theorem q_413 : k_in (.fieldLinkNest RX11 209 RX4 "nets" "[I" RX11) := ⟨List.mem_of_getElem? (i := 413) (by decide +kernel), by decide +kernel⟩
theorem q_414 : k_in (.fieldLink RX4 15 RX4 "sums" "[I") := ⟨List.mem_of_getElem? (i := 414) (by decide +kernel), by decide +kernel⟩
theorem q_415 : k_in (.fieldLink RX4 18 RX4 "groups" "[I") := ⟨List.mem_of_getElem? (i := 415) (by decide +kernel), by decide +kernel⟩
theorem q_416 : k_in (.fieldLink RX4 21 RX4 "all" "I") := ⟨List.mem_of_getElem? (i := 416) (by decide +kernel), by decide +kernel⟩
theorem q_417 : k_in (.fieldLinkNest RX11 211 RX4 "all" "I" RX11) := ⟨List.mem_of_getElem? (i := 417) (by decide +kernel), by decide +kernel⟩
theorem q_431 : k_in (.classLink RX11 54 RX8) := ⟨List.mem_of_getElem? (i := 431) (by decide +kernel), by decide +kernel⟩
theorem q_432 : k_in (.instantiable RX8 6) := ⟨List.mem_of_getElem? (i := 432) (by decide +kernel), by decide +kernel⟩
theorem q_433 : k_in (.methodLinkNest RX11 56 yX8_init RX11) := ⟨List.mem_of_getElem? (i := 433) (by decide +kernel), by decide +kernel⟩
theorem q_434 : k_in (.instanceMethod yX8_init) := ⟨List.mem_of_getElem? (i := 434) (by decide +kernel), by decide +kernel⟩
theorem q_435 : k_in (.code yX8_init cX8_init 3 none) := ⟨List.mem_of_getElem? (i := 435) (by decide +kernel), by decide +kernel⟩
theorem q_437 : k_in (.fieldLink RX8 31 RX8 "debts" "LFiddlerDebts$Debts;") := ⟨List.mem_of_getElem? (i := 437) (by decide +kernel), by decide +kernel⟩
theorem q_438 : k_in (.fieldLink RX8 32 RX8 "judge" "LFiddlerDebts$Judge;") := ⟨List.mem_of_getElem? (i := 438) (by decide +kernel), by decide +kernel⟩
theorem q_439 : k_in (.fieldLink RX8 9 RX8 "owes" "[I") := ⟨List.mem_of_getElem? (i := 439) (by decide +kernel), by decide +kernel⟩
theorem q_440 : k_in (.fieldLink RX8 15 RX8 "dancers" "[I") := ⟨List.mem_of_getElem? (i := 440) (by decide +kernel), by decide +kernel⟩
theorem q_441 : k_in (.fieldLinkNest RX11 225 RX8 "dancers" "[I" RX11) := ⟨List.mem_of_getElem? (i := 441) (by decide +kernel), by decide +kernel⟩
theorem q_442 : k_in (.fieldLink RX8 18 RX8 "size" "I") := ⟨List.mem_of_getElem? (i := 442) (by decide +kernel), by decide +kernel⟩
theorem q_443 : k_in (.fieldLinkNest RX11 224 RX8 "size" "I" RX11) := ⟨List.mem_of_getElem? (i := 443) (by decide +kernel), by decide +kernel⟩
theorem q_444 : k_in (.fieldLink RX8 22 RX8 "tune" "I") := ⟨List.mem_of_getElem? (i := 444) (by decide +kernel), by decide +kernel⟩
theorem q_458 : k_in (.classLink RX11 61 RX2) := ⟨List.mem_of_getElem? (i := 458) (by decide +kernel), by decide +kernel⟩
theorem q_459 : k_in (.instantiable RX2 14) := ⟨List.mem_of_getElem? (i := 459) (by decide +kernel), by decide +kernel⟩
theorem q_460 : k_in (.methodLinkNest RX11 63 yX2_init RX11) := ⟨List.mem_of_getElem? (i := 460) (by decide +kernel), by decide +kernel⟩
theorem q_461 : k_in (.instanceMethod yX2_init) := ⟨List.mem_of_getElem? (i := 461) (by decide +kernel), by decide +kernel⟩
theorem q_462 : k_in (.code yX2_init cX2_init 6 none) := ⟨List.mem_of_getElem? (i := 462) (by decide +kernel), by decide +kernel⟩
theorem q_464 : k_in (.constantLong RX2 62 (10)) := ⟨List.mem_of_getElem? (i := 464) (by decide +kernel), by decide +kernel⟩
theorem q_465 : k_in (.fieldLink RX2 47 RX2 "village" "LFiddlerDebts$Village;") := ⟨List.mem_of_getElem? (i := 465) (by decide +kernel), by decide +kernel⟩
theorem q_466 : k_in (.fieldLink RX2 57 RX2 "debts" "LFiddlerDebts$Debts;") := ⟨List.mem_of_getElem? (i := 466) (by decide +kernel), by decide +kernel⟩
theorem q_467 : k_in (.fieldLink RX2 58 RX2 "judge" "LFiddlerDebts$Judge;") := ⟨List.mem_of_getElem? (i := 467) (by decide +kernel), by decide +kernel⟩
theorem q_468 : k_in (.fieldLink RX2 11 RX2 "goods" "[J") := ⟨List.mem_of_getElem? (i := 468) (by decide +kernel), by decide +kernel⟩
theorem q_469 : k_in (.fieldLink RX2 15 RX2 "digits" "[J") := ⟨List.mem_of_getElem? (i := 469) (by decide +kernel), by decide +kernel⟩
theorem q_470 : k_in (.fieldLink RX2 18 RX2 "withGoods" "[J") := ⟨List.mem_of_getElem? (i := 470) (by decide +kernel), by decide +kernel⟩
theorem q_471 : k_in (.fieldLink RX2 21 RX2 "withDigits" "[J") := ⟨List.mem_of_getElem? (i := 471) (by decide +kernel), by decide +kernel⟩
theorem q_472 : k_in (.fieldLink RX2 24 RX2 "places" "[J") := ⟨List.mem_of_getElem? (i := 472) (by decide +kernel), by decide +kernel⟩
theorem q_473 : k_in (.fieldLink RX2 27 RX2 "halves" "[I") := ⟨List.mem_of_getElem? (i := 473) (by decide +kernel), by decide +kernel⟩
theorem q_474 : k_in (.fieldLinkNest RX11 247 RX2 "halves" "[I" RX11) := ⟨List.mem_of_getElem? (i := 474) (by decide +kernel), by decide +kernel⟩
theorem q_475 : k_in (.fieldLink RX2 31 RX2 "host" "I") := ⟨List.mem_of_getElem? (i := 475) (by decide +kernel), by decide +kernel⟩
theorem q_476 : k_in (.fieldLink RX2 35 RX2 "most" "I") := ⟨List.mem_of_getElem? (i := 476) (by decide +kernel), by decide +kernel⟩
theorem q_477 : k_in (.fieldLink RX2 38 RX2 "worth" "I") := ⟨List.mem_of_getElem? (i := 477) (by decide +kernel), by decide +kernel⟩
theorem q_478 : k_in (.fieldLinkNest RX11 238 RX2 "worth" "I" RX11) := ⟨List.mem_of_getElem? (i := 478) (by decide +kernel), by decide +kernel⟩
theorem q_479 : k_in (.fieldLink RX2 41 RX2 "owers" "I") := ⟨List.mem_of_getElem? (i := 479) (by decide +kernel), by decide +kernel⟩
theorem q_480 : k_in (.fieldLinkNest RX11 241 RX2 "owers" "I" RX11) := ⟨List.mem_of_getElem? (i := 480) (by decide +kernel), by decide +kernel⟩
theorem q_481 : k_in (.fieldLink RX2 44 RX2 "minutes" "I") := ⟨List.mem_of_getElem? (i := 481) (by decide +kernel), by decide +kernel⟩
theorem q_482 : k_in (.fieldLinkNest RX11 244 RX2 "minutes" "I" RX11) := ⟨List.mem_of_getElem? (i := 482) (by decide +kernel), by decide +kernel⟩
theorem q_512 : k_in (.arrayClass .long) := ⟨List.mem_of_getElem? (i := 512) (by decide +kernel), by decide +kernel⟩
theorem q_513 : k_in (.classLink RX11 68 RX0) := ⟨List.mem_of_getElem? (i := 513) (by decide +kernel), by decide +kernel⟩
theorem q_514 : k_in (.instantiable RX0 6) := ⟨List.mem_of_getElem? (i := 514) (by decide +kernel), by decide +kernel⟩
theorem q_515 : k_in (.methodLinkNest RX11 70 yX0_init RX11) := ⟨List.mem_of_getElem? (i := 515) (by decide +kernel), by decide +kernel⟩
theorem q_516 : k_in (.instanceMethod yX0_init) := ⟨List.mem_of_getElem? (i := 516) (by decide +kernel), by decide +kernel⟩
theorem q_517 : k_in (.code yX0_init cX0_init 3 none) := ⟨List.mem_of_getElem? (i := 517) (by decide +kernel), by decide +kernel⟩
theorem q_519 : k_in (.fieldLink RX0 22 RX0 "village" "LFiddlerDebts$Village;") := ⟨List.mem_of_getElem? (i := 519) (by decide +kernel), by decide +kernel⟩
theorem q_520 : k_in (.fieldLink RX0 32 RX0 "debts" "LFiddlerDebts$Debts;") := ⟨List.mem_of_getElem? (i := 520) (by decide +kernel), by decide +kernel⟩
theorem q_521 : k_in (.fieldLink RX0 33 RX0 "judge" "LFiddlerDebts$Judge;") := ⟨List.mem_of_getElem? (i := 521) (by decide +kernel), by decide +kernel⟩
theorem q_522 : k_in (.fieldLink RX0 9 RX0 "lowest" "[I") := ⟨List.mem_of_getElem? (i := 522) (by decide +kernel), by decide +kernel⟩
theorem q_523 : k_in (.fieldLink RX0 15 RX0 "minutes" "I") := ⟨List.mem_of_getElem? (i := 523) (by decide +kernel), by decide +kernel⟩
theorem q_524 : k_in (.fieldLinkNest RX11 253 RX0 "minutes" "I" RX11) := ⟨List.mem_of_getElem? (i := 524) (by decide +kernel), by decide +kernel⟩
theorem q_525 : k_in (.fieldLink RX0 19 RX0 "first" "I") := ⟨List.mem_of_getElem? (i := 525) (by decide +kernel), by decide +kernel⟩
theorem q_526 : k_in (.fieldLinkNest RX11 254 RX0 "first" "I" RX11) := ⟨List.mem_of_getElem? (i := 526) (by decide +kernel), by decide +kernel⟩
theorem q_540 : k_in (.classLink RX11 75 RX5) := ⟨List.mem_of_getElem? (i := 540) (by decide +kernel), by decide +kernel⟩
theorem q_541 : k_in (.instantiable RX5 4) := ⟨List.mem_of_getElem? (i := 541) (by decide +kernel), by decide +kernel⟩
theorem q_542 : k_in (.methodLinkNest RX11 77 yX5_init RX11) := ⟨List.mem_of_getElem? (i := 542) (by decide +kernel), by decide +kernel⟩
theorem q_543 : k_in (.instanceMethod yX5_init) := ⟨List.mem_of_getElem? (i := 543) (by decide +kernel), by decide +kernel⟩
theorem q_544 : k_in (.code yX5_init cX5_init 2 none) := ⟨List.mem_of_getElem? (i := 544) (by decide +kernel), by decide +kernel⟩
theorem q_546 : k_in (.fieldLink RX5 22 RX5 "village" "LFiddlerDebts$Village;") := ⟨List.mem_of_getElem? (i := 546) (by decide +kernel), by decide +kernel⟩
theorem q_547 : k_in (.fieldLink RX5 9 RX5 "aheadOf" "[I") := ⟨List.mem_of_getElem? (i := 547) (by decide +kernel), by decide +kernel⟩
theorem q_548 : k_in (.fieldLink RX5 15 RX5 "ways" "[I") := ⟨List.mem_of_getElem? (i := 548) (by decide +kernel), by decide +kernel⟩
theorem q_549 : k_in (.fieldLink RX5 18 RX5 "mine" "I") := ⟨List.mem_of_getElem? (i := 549) (by decide +kernel), by decide +kernel⟩
theorem q_559 : k_in (.classLink RX11 82 RX6) := ⟨List.mem_of_getElem? (i := 559) (by decide +kernel), by decide +kernel⟩
theorem q_560 : k_in (.instantiable RX6 7) := ⟨List.mem_of_getElem? (i := 560) (by decide +kernel), by decide +kernel⟩
theorem q_561 : k_in (.methodLinkNest RX11 84 yX6_init RX11) := ⟨List.mem_of_getElem? (i := 561) (by decide +kernel), by decide +kernel⟩
theorem q_562 : k_in (.instanceMethod yX6_init) := ⟨List.mem_of_getElem? (i := 562) (by decide +kernel), by decide +kernel⟩
theorem q_563 : k_in (.code yX6_init cX6_init 2 none) := ⟨List.mem_of_getElem? (i := 563) (by decide +kernel), by decide +kernel⟩
theorem q_565 : k_in (.fieldLink RX6 29 RX6 "village" "LFiddlerDebts$Village;") := ⟨List.mem_of_getElem? (i := 565) (by decide +kernel), by decide +kernel⟩
theorem q_566 : k_in (.fieldLink RX6 39 RX6 "debts" "LFiddlerDebts$Debts;") := ⟨List.mem_of_getElem? (i := 566) (by decide +kernel), by decide +kernel⟩
theorem q_567 : k_in (.fieldLink RX6 9 RX6 "owers" "[I") := ⟨List.mem_of_getElem? (i := 567) (by decide +kernel), by decide +kernel⟩
theorem q_568 : k_in (.fieldLink RX6 15 RX6 "owes" "[I") := ⟨List.mem_of_getElem? (i := 568) (by decide +kernel), by decide +kernel⟩
theorem q_569 : k_in (.fieldLinkNest RX11 294 RX6 "owes" "[I" RX11) := ⟨List.mem_of_getElem? (i := 569) (by decide +kernel), by decide +kernel⟩
theorem q_570 : k_in (.fieldLink RX6 18 RX6 "creditors" "[I") := ⟨List.mem_of_getElem? (i := 570) (by decide +kernel), by decide +kernel⟩
theorem q_571 : k_in (.fieldLinkNest RX11 297 RX6 "creditors" "[I" RX11) := ⟨List.mem_of_getElem? (i := 571) (by decide +kernel), by decide +kernel⟩
theorem q_572 : k_in (.fieldLink RX6 21 RX6 "written" "Z") := ⟨List.mem_of_getElem? (i := 572) (by decide +kernel), by decide +kernel⟩
theorem q_573 : k_in (.fieldLinkNest RX11 290 RX6 "written" "Z" RX11) := ⟨List.mem_of_getElem? (i := 573) (by decide +kernel), by decide +kernel⟩
theorem q_574 : k_in (.fieldLink RX6 25 RX6 "state" "I") := ⟨List.mem_of_getElem? (i := 574) (by decide +kernel), by decide +kernel⟩
theorem q_590 : k_in (.fieldLink RX11 10 RX11 "village" "LFiddlerDebts$Village;") := ⟨List.mem_of_getElem? (i := 590) (by decide +kernel), by decide +kernel⟩
theorem q_591 : k_in (.fieldLink RX11 16 RX11 "images" "[LFiddlerDebts$Village;") := ⟨List.mem_of_getElem? (i := 591) (by decide +kernel), by decide +kernel⟩
theorem q_592 : k_in (.fieldLink RX11 23 RX11 "tape" "LFiddlerDebts$Tape;") := ⟨List.mem_of_getElem? (i := 592) (by decide +kernel), by decide +kernel⟩
theorem q_593 : k_in (.fieldLink RX11 32 RX11 "reader" "LFiddlerDebts$Reader;") := ⟨List.mem_of_getElem? (i := 593) (by decide +kernel), by decide +kernel⟩
theorem q_594 : k_in (.fieldLink RX11 41 RX11 "judge" "LFiddlerDebts$Judge;") := ⟨List.mem_of_getElem? (i := 594) (by decide +kernel), by decide +kernel⟩
theorem q_595 : k_in (.fieldLink RX11 50 RX11 "nets" "LFiddlerDebts$Nets;") := ⟨List.mem_of_getElem? (i := 595) (by decide +kernel), by decide +kernel⟩
theorem q_596 : k_in (.fieldLink RX11 57 RX11 "ring" "LFiddlerDebts$Ring;") := ⟨List.mem_of_getElem? (i := 596) (by decide +kernel), by decide +kernel⟩
theorem q_597 : k_in (.fieldLink RX11 64 RX11 "feast" "LFiddlerDebts$Feast;") := ⟨List.mem_of_getElem? (i := 597) (by decide +kernel), by decide +kernel⟩
theorem q_598 : k_in (.fieldLink RX11 71 RX11 "bands" "LFiddlerDebts$Bands;") := ⟨List.mem_of_getElem? (i := 598) (by decide +kernel), by decide +kernel⟩
theorem q_599 : k_in (.fieldLink RX11 78 RX11 "orders" "LFiddlerDebts$Orders;") := ⟨List.mem_of_getElem? (i := 599) (by decide +kernel), by decide +kernel⟩
theorem q_600 : k_in (.fieldLink RX11 85 RX11 "paper" "LFiddlerDebts$Paper;") := ⟨List.mem_of_getElem? (i := 600) (by decide +kernel), by decide +kernel⟩
theorem q_601 : k_in (.fieldLink RX11 89 RX11 "refusals" "[I") := ⟨List.mem_of_getElem? (i := 601) (by decide +kernel), by decide +kernel⟩
theorem q_602 : k_in (.fieldLink RX11 93 RX11 "sung" "I") := ⟨List.mem_of_getElem? (i := 602) (by decide +kernel), by decide +kernel⟩
theorem q_603 : k_in (.fieldLink RX11 97 RX11 "fault" "I") := ⟨List.mem_of_getElem? (i := 603) (by decide +kernel), by decide +kernel⟩
theorem q_604 : k_in (.fieldLink RX11 100 RX11 "status" "I") := ⟨List.mem_of_getElem? (i := 604) (by decide +kernel), by decide +kernel⟩
theorem q_636 : k_in (.methodLink "FiddlerDebtsLaw" 13 yX11_tune) := ⟨List.mem_of_getElem? (i := 636) (by decide +kernel), by decide +kernel⟩
theorem q_637 : k_in (.instanceMethod yX11_tune) := ⟨List.mem_of_getElem? (i := 637) (by decide +kernel), by decide +kernel⟩
theorem q_638 : k_in (.selects RX11 yX11_tune yX11_tune) := ⟨List.mem_of_getElem? (i := 638) (by decide +kernel), by decide +kernel⟩
theorem q_639 : k_in (.code yX11_tune cX11_tune 3 (some .int)) := ⟨List.mem_of_getElem? (i := 639) (by decide +kernel), by decide +kernel⟩
theorem q_640 : k_in (.methodLink RX11 103 yX11_refuse) := ⟨List.mem_of_getElem? (i := 640) (by decide +kernel), by decide +kernel⟩
theorem q_642 : k_in (.instanceMethod yX11_refuse) := ⟨List.mem_of_getElem? (i := 642) (by decide +kernel), by decide +kernel⟩
theorem q_643 : k_in (.code yX11_refuse cX11_refuse 3 (some .int)) := ⟨List.mem_of_getElem? (i := 643) (by decide +kernel), by decide +kernel⟩
theorem q_644 : k_in (.methodLinkNest RX11 107 yX10_addTune RX11) := ⟨List.mem_of_getElem? (i := 644) (by decide +kernel), by decide +kernel⟩
theorem q_646 : k_in (.instanceMethod yX10_addTune) := ⟨List.mem_of_getElem? (i := 646) (by decide +kernel), by decide +kernel⟩
theorem q_647 : k_in (.code yX10_addTune cX10_addTune 2 (some .int)) := ⟨List.mem_of_getElem? (i := 647) (by decide +kernel), by decide +kernel⟩
theorem q_648 : k_in (.methodLink RX11 110 yX11_done) := ⟨List.mem_of_getElem? (i := 648) (by decide +kernel), by decide +kernel⟩
theorem q_650 : k_in (.instanceMethod yX11_done) := ⟨List.mem_of_getElem? (i := 650) (by decide +kernel), by decide +kernel⟩
theorem q_651 : k_in (.code yX11_done cX11_done 2 (some .int)) := ⟨List.mem_of_getElem? (i := 651) (by decide +kernel), by decide +kernel⟩
theorem q_652 : k_in (.methodLink "FiddlerDebtsLaw" 18 yX11_length) := ⟨List.mem_of_getElem? (i := 652) (by decide +kernel), by decide +kernel⟩
theorem q_653 : k_in (.instanceMethod yX11_length) := ⟨List.mem_of_getElem? (i := 653) (by decide +kernel), by decide +kernel⟩
theorem q_654 : k_in (.selects RX11 yX11_length yX11_length) := ⟨List.mem_of_getElem? (i := 654) (by decide +kernel), by decide +kernel⟩
theorem q_655 : k_in (.code yX11_length cX11_length 2 (some .int)) := ⟨List.mem_of_getElem? (i := 655) (by decide +kernel), by decide +kernel⟩
theorem q_656 : k_in (.methodLinkNest RX11 113 yX10_hasTune RX11) := ⟨List.mem_of_getElem? (i := 656) (by decide +kernel), by decide +kernel⟩
theorem q_658 : k_in (.instanceMethod yX10_hasTune) := ⟨List.mem_of_getElem? (i := 658) (by decide +kernel), by decide +kernel⟩
theorem q_659 : k_in (.code yX10_hasTune cX10_hasTune 2 (some .boolean)) := ⟨List.mem_of_getElem? (i := 659) (by decide +kernel), by decide +kernel⟩
theorem q_660 : k_in (.methodLink "FiddlerDebtsLaw" 22 yX11_owe) := ⟨List.mem_of_getElem? (i := 660) (by decide +kernel), by decide +kernel⟩
theorem q_661 : k_in (.instanceMethod yX11_owe) := ⟨List.mem_of_getElem? (i := 661) (by decide +kernel), by decide +kernel⟩
theorem q_662 : k_in (.selects RX11 yX11_owe yX11_owe) := ⟨List.mem_of_getElem? (i := 662) (by decide +kernel), by decide +kernel⟩
theorem q_663 : k_in (.code yX11_owe cX11_owe 6 (some .int)) := ⟨List.mem_of_getElem? (i := 663) (by decide +kernel), by decide +kernel⟩
theorem q_664 : k_in (.methodLink RX11 120 yX11_canOwe) := ⟨List.mem_of_getElem? (i := 664) (by decide +kernel), by decide +kernel⟩
theorem q_665 : k_in (.static yX11_canOwe) := ⟨List.mem_of_getElem? (i := 665) (by decide +kernel), by decide +kernel⟩
theorem q_666 : k_in (.code yX11_canOwe cX11_canOwe 3 (some .boolean)) := ⟨List.mem_of_getElem? (i := 666) (by decide +kernel), by decide +kernel⟩
theorem q_667 : k_in (.methodLink RX11 163 yX11_isDancer) := ⟨List.mem_of_getElem? (i := 667) (by decide +kernel), by decide +kernel⟩
theorem q_668 : k_in (.static yX11_isDancer) := ⟨List.mem_of_getElem? (i := 668) (by decide +kernel), by decide +kernel⟩
theorem q_669 : k_in (.code yX11_isDancer cX11_isDancer 1 (some .boolean)) := ⟨List.mem_of_getElem? (i := 669) (by decide +kernel), by decide +kernel⟩
theorem q_670 : k_in (.methodLinkNest RX11 131 yX1_add RX11) := ⟨List.mem_of_getElem? (i := 670) (by decide +kernel), by decide +kernel⟩
theorem q_672 : k_in (.instanceMethod yX1_add) := ⟨List.mem_of_getElem? (i := 672) (by decide +kernel), by decide +kernel⟩
theorem q_673 : k_in (.code yX1_add cX1_add 6 (some .int)) := ⟨List.mem_of_getElem? (i := 673) (by decide +kernel), by decide +kernel⟩
theorem q_674 : k_in (.methodLink "FiddlerDebtsLaw" 27 yX11_of) := ⟨List.mem_of_getElem? (i := 674) (by decide +kernel), by decide +kernel⟩
theorem q_675 : k_in (.instanceMethod yX11_of) := ⟨List.mem_of_getElem? (i := 675) (by decide +kernel), by decide +kernel⟩
theorem q_676 : k_in (.selects RX11 yX11_of yX11_of) := ⟨List.mem_of_getElem? (i := 676) (by decide +kernel), by decide +kernel⟩
theorem q_677 : k_in (.code yX11_of cX11_of 5 (some .int)) := ⟨List.mem_of_getElem? (i := 677) (by decide +kernel), by decide +kernel⟩
theorem q_678 : k_in (.methodLinkNest RX11 137 yX1_has RX11) := ⟨List.mem_of_getElem? (i := 678) (by decide +kernel), by decide +kernel⟩
theorem q_680 : k_in (.instanceMethod yX1_has) := ⟨List.mem_of_getElem? (i := 680) (by decide +kernel), by decide +kernel⟩
theorem q_681 : k_in (.code yX1_has cX1_has 2 (some .boolean)) := ⟨List.mem_of_getElem? (i := 681) (by decide +kernel), by decide +kernel⟩
theorem q_682 : k_in (.methodLinkNest RX11 140 yX1_told RX11) := ⟨List.mem_of_getElem? (i := 682) (by decide +kernel), by decide +kernel⟩
theorem q_684 : k_in (.instanceMethod yX1_told) := ⟨List.mem_of_getElem? (i := 684) (by decide +kernel), by decide +kernel⟩
theorem q_685 : k_in (.code yX1_told cX1_told 3 (some .int)) := ⟨List.mem_of_getElem? (i := 685) (by decide +kernel), by decide +kernel⟩
theorem q_686 : k_in (.methodLink RX1 37 yX1_has) := ⟨List.mem_of_getElem? (i := 686) (by decide +kernel), by decide +kernel⟩
theorem q_687 : k_in (.methodLinkNest RX11 144 yX3_hear RX11) := ⟨List.mem_of_getElem? (i := 687) (by decide +kernel), by decide +kernel⟩
theorem q_689 : k_in (.instanceMethod yX3_hear) := ⟨List.mem_of_getElem? (i := 689) (by decide +kernel), by decide +kernel⟩
theorem q_690 : k_in (.code yX3_hear cX3_hear 3 none) := ⟨List.mem_of_getElem? (i := 690) (by decide +kernel), by decide +kernel⟩
theorem q_691 : k_in (.methodLink RX3 43 yJ7_fill_53178) := ⟨List.mem_of_getElem? (i := 691) (by decide +kernel), by decide +kernel⟩
theorem q_692 : k_in (.static yJ7_fill_53178) := ⟨List.mem_of_getElem? (i := 692) (by decide +kernel), by decide +kernel⟩
theorem q_693 : k_in (.code yJ7_fill_53178 cJ7_fill_53178 4 none) := ⟨List.mem_of_getElem? (i := 693) (by decide +kernel), by decide +kernel⟩
theorem q_694 : k_in (.methodLinkNest RX3 57 yX11_isDancer RX11) := ⟨List.mem_of_getElem? (i := 694) (by decide +kernel), by decide +kernel⟩
theorem q_695 : k_in (.methodLinkNest RX3 61 yX10_lawInForce RX11) := ⟨List.mem_of_getElem? (i := 695) (by decide +kernel), by decide +kernel⟩
theorem q_697 : k_in (.instanceMethod yX10_lawInForce) := ⟨List.mem_of_getElem? (i := 697) (by decide +kernel), by decide +kernel⟩
theorem q_698 : k_in (.code yX10_lawInForce cX10_lawInForce 1 (some (.array .int))) := ⟨List.mem_of_getElem? (i := 698) (by decide +kernel), by decide +kernel⟩
theorem q_699 : k_in (.methodLink RX10 77 yX10_hasLaw) := ⟨List.mem_of_getElem? (i := 699) (by decide +kernel), by decide +kernel⟩
theorem q_701 : k_in (.instanceMethod yX10_hasLaw) := ⟨List.mem_of_getElem? (i := 701) (by decide +kernel), by decide +kernel⟩
theorem q_702 : k_in (.code yX10_hasLaw cX10_hasLaw 2 (some .boolean)) := ⟨List.mem_of_getElem? (i := 702) (by decide +kernel), by decide +kernel⟩
theorem q_703 : k_in (.methodLinkNest RX3 65 yX10_lengthOfDebt RX11) := ⟨List.mem_of_getElem? (i := 703) (by decide +kernel), by decide +kernel⟩
theorem q_705 : k_in (.instanceMethod yX10_lengthOfDebt) := ⟨List.mem_of_getElem? (i := 705) (by decide +kernel), by decide +kernel⟩
theorem q_706 : k_in (.code yX10_lengthOfDebt cX10_lengthOfDebt 3 (some .int)) := ⟨List.mem_of_getElem? (i := 706) (by decide +kernel), by decide +kernel⟩
theorem q_707 : k_in (.methodLink RX3 69 yX3_hearDebt) := ⟨List.mem_of_getElem? (i := 707) (by decide +kernel), by decide +kernel⟩
theorem q_709 : k_in (.instanceMethod yX3_hearDebt) := ⟨List.mem_of_getElem? (i := 709) (by decide +kernel), by decide +kernel⟩
theorem q_710 : k_in (.code yX3_hearDebt cX3_hearDebt 7 none) := ⟨List.mem_of_getElem? (i := 710) (by decide +kernel), by decide +kernel⟩
theorem q_711 : k_in (.methodLink RX3 78 yX3_holds) := ⟨List.mem_of_getElem? (i := 711) (by decide +kernel), by decide +kernel⟩
theorem q_713 : k_in (.instanceMethod yX3_holds) := ⟨List.mem_of_getElem? (i := 713) (by decide +kernel), by decide +kernel⟩
theorem q_714 : k_in (.code yX3_holds cX3_holds 10 (some .boolean)) := ⟨List.mem_of_getElem? (i := 714) (by decide +kernel), by decide +kernel⟩
theorem q_715 : k_in (.methodLink RX3 91 yX3_push) := ⟨List.mem_of_getElem? (i := 715) (by decide +kernel), by decide +kernel⟩
theorem q_717 : k_in (.instanceMethod yX3_push) := ⟨List.mem_of_getElem? (i := 717) (by decide +kernel), by decide +kernel⟩
theorem q_718 : k_in (.code yX3_push cX3_push 2 none) := ⟨List.mem_of_getElem? (i := 718) (by decide +kernel), by decide +kernel⟩
theorem q_719 : k_in (.methodLink RX3 95 yX3_wordOf) := ⟨List.mem_of_getElem? (i := 719) (by decide +kernel), by decide +kernel⟩
theorem q_721 : k_in (.instanceMethod yX3_wordOf) := ⟨List.mem_of_getElem? (i := 721) (by decide +kernel), by decide +kernel⟩
theorem q_722 : k_in (.code yX3_wordOf cX3_wordOf 4 (some .int)) := ⟨List.mem_of_getElem? (i := 722) (by decide +kernel), by decide +kernel⟩
theorem q_723 : k_in (.methodLinkNest RX3 116 yX1_has RX11) := ⟨List.mem_of_getElem? (i := 723) (by decide +kernel), by decide +kernel⟩
theorem q_724 : k_in (.methodLink RX3 98 yX3_top) := ⟨List.mem_of_getElem? (i := 724) (by decide +kernel), by decide +kernel⟩
theorem q_726 : k_in (.instanceMethod yX3_top) := ⟨List.mem_of_getElem? (i := 726) (by decide +kernel), by decide +kernel⟩
theorem q_727 : k_in (.code yX3_top cX3_top 1 (some .int)) := ⟨List.mem_of_getElem? (i := 727) (by decide +kernel), by decide +kernel⟩
theorem q_728 : k_in (.methodLink RX3 88 yJ9_max_7cf53) := ⟨List.mem_of_getElem? (i := 728) (by decide +kernel), by decide +kernel⟩
theorem q_729 : k_in (.static yJ9_max_7cf53) := ⟨List.mem_of_getElem? (i := 729) (by decide +kernel), by decide +kernel⟩
theorem q_730 : k_in (.code yJ9_max_7cf53 cJ9_max_7cf53 2 (some .int)) := ⟨List.mem_of_getElem? (i := 730) (by decide +kernel), by decide +kernel⟩
theorem q_731 : k_in (.methodLink RX3 102 yX3_pop) := ⟨List.mem_of_getElem? (i := 731) (by decide +kernel), by decide +kernel⟩
theorem q_733 : k_in (.instanceMethod yX3_pop) := ⟨List.mem_of_getElem? (i := 733) (by decide +kernel), by decide +kernel⟩
theorem q_734 : k_in (.code yX3_pop cX3_pop 1 none) := ⟨List.mem_of_getElem? (i := 734) (by decide +kernel), by decide +kernel⟩
theorem q_735 : k_in (.methodLink RX3 105 yX3_join) := ⟨List.mem_of_getElem? (i := 735) (by decide +kernel), by decide +kernel⟩
theorem q_737 : k_in (.instanceMethod yX3_join) := ⟨List.mem_of_getElem? (i := 737) (by decide +kernel), by decide +kernel⟩
theorem q_738 : k_in (.code yX3_join cX3_join 8 (some .boolean)) := ⟨List.mem_of_getElem? (i := 738) (by decide +kernel), by decide +kernel⟩
theorem q_739 : k_in (.methodLink RX3 108 yX3_joined) := ⟨List.mem_of_getElem? (i := 739) (by decide +kernel), by decide +kernel⟩
theorem q_740 : k_in (.static yX3_joined) := ⟨List.mem_of_getElem? (i := 740) (by decide +kernel), by decide +kernel⟩
theorem q_741 : k_in (.code yX3_joined cX3_joined 5 (some .long)) := ⟨List.mem_of_getElem? (i := 741) (by decide +kernel), by decide +kernel⟩
theorem q_742 : k_in (.constantLong RX3 112 (1000000000)) := ⟨List.mem_of_getElem? (i := 742) (by decide +kernel), by decide +kernel⟩
theorem q_743 : k_in (.constantLong RX3 114 (-1000000000)) := ⟨List.mem_of_getElem? (i := 743) (by decide +kernel), by decide +kernel⟩
theorem q_744 : k_in (.methodLink RX3 82 yJ9_min_7cf53) := ⟨List.mem_of_getElem? (i := 744) (by decide +kernel), by decide +kernel⟩
theorem q_745 : k_in (.static yJ9_min_7cf53) := ⟨List.mem_of_getElem? (i := 745) (by decide +kernel), by decide +kernel⟩
theorem q_746 : k_in (.code yJ9_min_7cf53 cJ9_min_7cf53 2 (some .int)) := ⟨List.mem_of_getElem? (i := 746) (by decide +kernel), by decide +kernel⟩
theorem q_747 : k_in (.methodLink "FiddlerDebtsLaw" 32 yX11_pay) := ⟨List.mem_of_getElem? (i := 747) (by decide +kernel), by decide +kernel⟩
theorem q_748 : k_in (.instanceMethod yX11_pay) := ⟨List.mem_of_getElem? (i := 748) (by decide +kernel), by decide +kernel⟩
theorem q_749 : k_in (.selects RX11 yX11_pay yX11_pay) := ⟨List.mem_of_getElem? (i := 749) (by decide +kernel), by decide +kernel⟩
theorem q_750 : k_in (.code yX11_pay cX11_pay 5 (some .int)) := ⟨List.mem_of_getElem? (i := 750) (by decide +kernel), by decide +kernel⟩
theorem q_751 : k_in (.methodLinkNest RX11 160 yX1_dropPlayed RX11) := ⟨List.mem_of_getElem? (i := 751) (by decide +kernel), by decide +kernel⟩
theorem q_753 : k_in (.instanceMethod yX1_dropPlayed) := ⟨List.mem_of_getElem? (i := 753) (by decide +kernel), by decide +kernel⟩
theorem q_754 : k_in (.code yX1_dropPlayed cX1_dropPlayed 3 none) := ⟨List.mem_of_getElem? (i := 754) (by decide +kernel), by decide +kernel⟩
theorem q_755 : k_in (.methodLink "FiddlerDebtsLaw" 36 yX11_funeral) := ⟨List.mem_of_getElem? (i := 755) (by decide +kernel), by decide +kernel⟩
theorem q_756 : k_in (.instanceMethod yX11_funeral) := ⟨List.mem_of_getElem? (i := 756) (by decide +kernel), by decide +kernel⟩
theorem q_757 : k_in (.selects RX11 yX11_funeral yX11_funeral) := ⟨List.mem_of_getElem? (i := 757) (by decide +kernel), by decide +kernel⟩
theorem q_758 : k_in (.code yX11_funeral cX11_funeral 2 (some .int)) := ⟨List.mem_of_getElem? (i := 758) (by decide +kernel), by decide +kernel⟩
theorem q_759 : k_in (.methodLinkNest RX11 166 yX1_bury RX11) := ⟨List.mem_of_getElem? (i := 759) (by decide +kernel), by decide +kernel⟩
theorem q_761 : k_in (.instanceMethod yX1_bury) := ⟨List.mem_of_getElem? (i := 761) (by decide +kernel), by decide +kernel⟩
theorem q_762 : k_in (.code yX1_bury cX1_bury 4 (some .int)) := ⟨List.mem_of_getElem? (i := 762) (by decide +kernel), by decide +kernel⟩
theorem q_763 : k_in (.methodLink RX1 41 yX1_dropPlayed) := ⟨List.mem_of_getElem? (i := 763) (by decide +kernel), by decide +kernel⟩
theorem q_764 : k_in (.methodLink "FiddlerDebtsLaw" 40 yX11_terms) := ⟨List.mem_of_getElem? (i := 764) (by decide +kernel), by decide +kernel⟩
theorem q_765 : k_in (.instanceMethod yX11_terms) := ⟨List.mem_of_getElem? (i := 765) (by decide +kernel), by decide +kernel⟩
theorem q_766 : k_in (.selects RX11 yX11_terms yX11_terms) := ⟨List.mem_of_getElem? (i := 766) (by decide +kernel), by decide +kernel⟩
theorem q_767 : k_in (.code yX11_terms cX11_terms 4 (some .int)) := ⟨List.mem_of_getElem? (i := 767) (by decide +kernel), by decide +kernel⟩
theorem q_768 : k_in (.methodLink "FiddlerDebtsLaw" 44 yX11_feed) := ⟨List.mem_of_getElem? (i := 768) (by decide +kernel), by decide +kernel⟩
theorem q_769 : k_in (.instanceMethod yX11_feed) := ⟨List.mem_of_getElem? (i := 769) (by decide +kernel), by decide +kernel⟩
theorem q_770 : k_in (.selects RX11 yX11_feed yX11_feed) := ⟨List.mem_of_getElem? (i := 770) (by decide +kernel), by decide +kernel⟩
theorem q_771 : k_in (.code yX11_feed cX11_feed 6 (some .int)) := ⟨List.mem_of_getElem? (i := 771) (by decide +kernel), by decide +kernel⟩
theorem q_772 : k_in (.methodLinkNest RX11 169 yX9_hasRoomFor RX11) := ⟨List.mem_of_getElem? (i := 772) (by decide +kernel), by decide +kernel⟩
theorem q_774 : k_in (.instanceMethod yX9_hasRoomFor) := ⟨List.mem_of_getElem? (i := 774) (by decide +kernel), by decide +kernel⟩
theorem q_775 : k_in (.code yX9_hasRoomFor cX9_hasRoomFor 2 (some .boolean)) := ⟨List.mem_of_getElem? (i := 775) (by decide +kernel), by decide +kernel⟩
theorem q_776 : k_in (.methodLinkNest RX11 172 yX9_write RX11) := ⟨List.mem_of_getElem? (i := 776) (by decide +kernel), by decide +kernel⟩
theorem q_778 : k_in (.instanceMethod yX9_write) := ⟨List.mem_of_getElem? (i := 778) (by decide +kernel), by decide +kernel⟩
theorem q_779 : k_in (.code yX9_write cX9_write 3 none) := ⟨List.mem_of_getElem? (i := 779) (by decide +kernel), by decide +kernel⟩
theorem q_780 : k_in (.methodLink "FiddlerDebtsLaw" 49 yX11_end) := ⟨List.mem_of_getElem? (i := 780) (by decide +kernel), by decide +kernel⟩
theorem q_781 : k_in (.instanceMethod yX11_end) := ⟨List.mem_of_getElem? (i := 781) (by decide +kernel), by decide +kernel⟩
theorem q_782 : k_in (.selects RX11 yX11_end yX11_end) := ⟨List.mem_of_getElem? (i := 782) (by decide +kernel), by decide +kernel⟩
theorem q_783 : k_in (.code yX11_end cX11_end 2 (some .int)) := ⟨List.mem_of_getElem? (i := 783) (by decide +kernel), by decide +kernel⟩
theorem q_784 : k_in (.methodLink "FiddlerDebtsLaw" 53 yX11_row) := ⟨List.mem_of_getElem? (i := 784) (by decide +kernel), by decide +kernel⟩
theorem q_785 : k_in (.instanceMethod yX11_row) := ⟨List.mem_of_getElem? (i := 785) (by decide +kernel), by decide +kernel⟩
theorem q_786 : k_in (.selects RX11 yX11_row yX11_row) := ⟨List.mem_of_getElem? (i := 786) (by decide +kernel), by decide +kernel⟩
theorem q_787 : k_in (.code yX11_row cX11_row 4 (some .int)) := ⟨List.mem_of_getElem? (i := 787) (by decide +kernel), by decide +kernel⟩
theorem q_788 : k_in (.methodLink RX11 179 yX11_comes) := ⟨List.mem_of_getElem? (i := 788) (by decide +kernel), by decide +kernel⟩
theorem q_790 : k_in (.instanceMethod yX11_comes) := ⟨List.mem_of_getElem? (i := 790) (by decide +kernel), by decide +kernel⟩
theorem q_791 : k_in (.code yX11_comes cX11_comes 6 (some .boolean)) := ⟨List.mem_of_getElem? (i := 791) (by decide +kernel), by decide +kernel⟩
theorem q_792 : k_in (.methodLinkNest RX11 318 yX9_byteAt RX11) := ⟨List.mem_of_getElem? (i := 792) (by decide +kernel), by decide +kernel⟩
theorem q_794 : k_in (.instanceMethod yX9_byteAt) := ⟨List.mem_of_getElem? (i := 794) (by decide +kernel), by decide +kernel⟩
theorem q_795 : k_in (.code yX9_byteAt cX9_byteAt 2 (some .int)) := ⟨List.mem_of_getElem? (i := 795) (by decide +kernel), by decide +kernel⟩
theorem q_796 : k_in (.methodLink "FiddlerDebtsLaw" 58 yX11_sung) := ⟨List.mem_of_getElem? (i := 796) (by decide +kernel), by decide +kernel⟩
theorem q_797 : k_in (.instanceMethod yX11_sung) := ⟨List.mem_of_getElem? (i := 797) (by decide +kernel), by decide +kernel⟩
theorem q_798 : k_in (.selects RX11 yX11_sung yX11_sung) := ⟨List.mem_of_getElem? (i := 798) (by decide +kernel), by decide +kernel⟩
theorem q_799 : k_in (.code yX11_sung cX11_sung 1 (some .int)) := ⟨List.mem_of_getElem? (i := 799) (by decide +kernel), by decide +kernel⟩
theorem q_800 : k_in (.methodLink "FiddlerDebtsLaw" 62 yX11_law) := ⟨List.mem_of_getElem? (i := 800) (by decide +kernel), by decide +kernel⟩
theorem q_801 : k_in (.instanceMethod yX11_law) := ⟨List.mem_of_getElem? (i := 801) (by decide +kernel), by decide +kernel⟩
theorem q_802 : k_in (.selects RX11 yX11_law yX11_law) := ⟨List.mem_of_getElem? (i := 802) (by decide +kernel), by decide +kernel⟩
theorem q_803 : k_in (.code yX11_law cX11_law 4 (some .int)) := ⟨List.mem_of_getElem? (i := 803) (by decide +kernel), by decide +kernel⟩
theorem q_804 : k_in (.methodLinkNest RX11 185 yX7_read RX11) := ⟨List.mem_of_getElem? (i := 804) (by decide +kernel), by decide +kernel⟩
theorem q_806 : k_in (.instanceMethod yX7_read) := ⟨List.mem_of_getElem? (i := 806) (by decide +kernel), by decide +kernel⟩
theorem q_807 : k_in (.code yX7_read cX7_read 3 (some (.array .int))) := ⟨List.mem_of_getElem? (i := 807) (by decide +kernel), by decide +kernel⟩
theorem q_808 : k_in (.methodLink RX7 41 yX7_step) := ⟨List.mem_of_getElem? (i := 808) (by decide +kernel), by decide +kernel⟩
theorem q_810 : k_in (.instanceMethod yX7_step) := ⟨List.mem_of_getElem? (i := 810) (by decide +kernel), by decide +kernel⟩
theorem q_811 : k_in (.code yX7_step cX7_step 1 none) := ⟨List.mem_of_getElem? (i := 811) (by decide +kernel), by decide +kernel⟩
theorem q_812 : k_in (.methodLinkNest RX7 131 yX9_byteAt RX11) := ⟨List.mem_of_getElem? (i := 812) (by decide +kernel), by decide +kernel⟩
theorem q_813 : k_in (.methodLink RX7 138 yX7_isLetter) := ⟨List.mem_of_getElem? (i := 813) (by decide +kernel), by decide +kernel⟩
theorem q_815 : k_in (.instanceMethod yX7_isLetter) := ⟨List.mem_of_getElem? (i := 815) (by decide +kernel), by decide +kernel⟩
theorem q_816 : k_in (.code yX7_isLetter cX7_isLetter 3 (some .boolean)) := ⟨List.mem_of_getElem? (i := 816) (by decide +kernel), by decide +kernel⟩
theorem q_817 : k_in (.methodLink RX7 141 yX7_isDigit) := ⟨List.mem_of_getElem? (i := 817) (by decide +kernel), by decide +kernel⟩
theorem q_819 : k_in (.instanceMethod yX7_isDigit) := ⟨List.mem_of_getElem? (i := 819) (by decide +kernel), by decide +kernel⟩
theorem q_820 : k_in (.code yX7_isDigit cX7_isDigit 3 (some .boolean)) := ⟨List.mem_of_getElem? (i := 820) (by decide +kernel), by decide +kernel⟩
theorem q_821 : k_in (.methodLink RX7 144 yJ9_min_7cf53) := ⟨List.mem_of_getElem? (i := 821) (by decide +kernel), by decide +kernel⟩
theorem q_822 : k_in (.methodLink RX7 44 yX7_readClause) := ⟨List.mem_of_getElem? (i := 822) (by decide +kernel), by decide +kernel⟩
theorem q_824 : k_in (.instanceMethod yX7_readClause) := ⟨List.mem_of_getElem? (i := 824) (by decide +kernel), by decide +kernel⟩
theorem q_825 : k_in (.code yX7_readClause cX7_readClause 3 (some .boolean)) := ⟨List.mem_of_getElem? (i := 825) (by decide +kernel), by decide +kernel⟩
theorem q_826 : k_in (.methodLink RX7 58 yX7_clauseKind) := ⟨List.mem_of_getElem? (i := 826) (by decide +kernel), by decide +kernel⟩
theorem q_828 : k_in (.instanceMethod yX7_clauseKind) := ⟨List.mem_of_getElem? (i := 828) (by decide +kernel), by decide +kernel⟩
theorem q_829 : k_in (.code yX7_clauseKind cX7_clauseKind 1 (some .int)) := ⟨List.mem_of_getElem? (i := 829) (by decide +kernel), by decide +kernel⟩
theorem q_831 : k_in (.methodLink RX7 72 yX7_sees) := ⟨List.mem_of_getElem? (i := 831) (by decide +kernel), by decide +kernel⟩
theorem q_833 : k_in (.instanceMethod yX7_sees) := ⟨List.mem_of_getElem? (i := 833) (by decide +kernel), by decide +kernel⟩
theorem q_834 : k_in (.code yX7_sees cX7_sees 3 (some .boolean)) := ⟨List.mem_of_getElem? (i := 834) (by decide +kernel), by decide +kernel⟩
theorem q_835 : k_in (.methodLink RX7 149 yJ0_length_8abf5) := ⟨List.mem_of_getElem? (i := 835) (by decide +kernel), by decide +kernel⟩
theorem q_836 : k_in (.instanceMethod yJ0_length_8abf5) := ⟨List.mem_of_getElem? (i := 836) (by decide +kernel), by decide +kernel⟩
theorem q_837 : k_in (.selects "java/lang/String" yJ0_length_8abf5 yJ0_length_8abf5) := ⟨List.mem_of_getElem? (i := 837) (by decide +kernel), by decide +kernel⟩
theorem q_838 : k_in (.code yJ0_length_8abf5 cJ0_length_8abf5 1 (some .int)) := ⟨List.mem_of_getElem? (i := 838) (by decide +kernel), by decide +kernel⟩
theorem q_839 : k_in (.methodLink "java/lang/String" 335 yJ0_coder_7d493) := ⟨List.mem_of_getElem? (i := 839) (by decide +kernel), by decide +kernel⟩
theorem q_840 : k_in (.instanceMethod yJ0_coder_7d493) := ⟨List.mem_of_getElem? (i := 840) (by decide +kernel), by decide +kernel⟩
theorem q_841 : k_in (.selects "java/lang/String" yJ0_coder_7d493 yJ0_coder_7d493) := ⟨List.mem_of_getElem? (i := 841) (by decide +kernel), by decide +kernel⟩
theorem q_842 : k_in (.code yJ0_coder_7d493 cJ0_coder_7d493 1 (some .byte)) := ⟨List.mem_of_getElem? (i := 842) (by decide +kernel), by decide +kernel⟩
theorem q_843 : k_in (.fieldLink "java/lang/String" 38 "java/lang/String" "COMPACT_STRINGS" "Z") := ⟨List.mem_of_getElem? (i := 843) (by decide +kernel), by decide +kernel⟩
theorem q_845 : k_in (.methodLink RX7 153 yJ0_charAt_5068e) := ⟨List.mem_of_getElem? (i := 845) (by decide +kernel), by decide +kernel⟩
theorem q_846 : k_in (.instanceMethod yJ0_charAt_5068e) := ⟨List.mem_of_getElem? (i := 846) (by decide +kernel), by decide +kernel⟩
theorem q_847 : k_in (.selects "java/lang/String" yJ0_charAt_5068e yJ0_charAt_5068e) := ⟨List.mem_of_getElem? (i := 847) (by decide +kernel), by decide +kernel⟩
theorem q_848 : k_in (.code yJ0_charAt_5068e cJ0_charAt_5068e 2 (some .char)) := ⟨List.mem_of_getElem? (i := 848) (by decide +kernel), by decide +kernel⟩
theorem q_849 : k_in (.methodLink "java/lang/String" 492 yJ0_isLatin1_aae02) := ⟨List.mem_of_getElem? (i := 849) (by decide +kernel), by decide +kernel⟩
theorem q_850 : k_in (.instanceMethod yJ0_isLatin1_aae02) := ⟨List.mem_of_getElem? (i := 850) (by decide +kernel), by decide +kernel⟩
theorem q_851 : k_in (.selects "java/lang/String" yJ0_isLatin1_aae02 yJ0_isLatin1_aae02) := ⟨List.mem_of_getElem? (i := 851) (by decide +kernel), by decide +kernel⟩
theorem q_852 : k_in (.code yJ0_isLatin1_aae02 cJ0_isLatin1_aae02 1 (some .boolean)) := ⟨List.mem_of_getElem? (i := 852) (by decide +kernel), by decide +kernel⟩
theorem q_853 : k_in (.methodLink "java/lang/String" 495 yJ1_charAt_3b067) := ⟨List.mem_of_getElem? (i := 853) (by decide +kernel), by decide +kernel⟩
theorem q_854 : k_in (.static yJ1_charAt_3b067) := ⟨List.mem_of_getElem? (i := 854) (by decide +kernel), by decide +kernel⟩
theorem q_855 : k_in (.code yJ1_charAt_3b067 cJ1_charAt_3b067 2 (some .char)) := ⟨List.mem_of_getElem? (i := 855) (by decide +kernel), by decide +kernel⟩
theorem q_856 : k_in (.methodLink "java/lang/StringLatin1" 9 yJ0_checkIndex_df160) := ⟨List.mem_of_getElem? (i := 856) (by decide +kernel), by decide +kernel⟩
theorem q_857 : k_in (.static yJ0_checkIndex_df160) := ⟨List.mem_of_getElem? (i := 857) (by decide +kernel), by decide +kernel⟩
theorem q_858 : k_in (.code yJ0_checkIndex_df160 cJ0_checkIndex_df160 2 none) := ⟨List.mem_of_getElem? (i := 858) (by decide +kernel), by decide +kernel⟩
theorem q_859 : k_in (.fieldLink "java/lang/String" 1053 "jdk/internal/util/Preconditions" "SIOOBE_FORMATTER" "Ljava/util/function/BiFunction;") := ⟨List.mem_of_getElem? (i := 859) (by decide +kernel), by decide +kernel⟩
theorem q_861 : k_in (.methodLink "java/lang/String" 1059 yJ3_checkIndex_8e157) := ⟨List.mem_of_getElem? (i := 861) (by decide +kernel), by decide +kernel⟩
theorem q_862 : k_in (.static yJ3_checkIndex_8e157) := ⟨List.mem_of_getElem? (i := 862) (by decide +kernel), by decide +kernel⟩
theorem q_863 : k_in (.code yJ3_checkIndex_8e157 cJ3_checkIndex_8e157 3 (some .int)) := ⟨List.mem_of_getElem? (i := 863) (by decide +kernel), by decide +kernel⟩
theorem q_864 : k_in (.methodLink "java/lang/String" 498 yJ2_charAt_3b067) := ⟨List.mem_of_getElem? (i := 864) (by decide +kernel), by decide +kernel⟩
theorem q_865 : k_in (.static yJ2_charAt_3b067) := ⟨List.mem_of_getElem? (i := 865) (by decide +kernel), by decide +kernel⟩
theorem q_866 : k_in (.code yJ2_charAt_3b067 cJ2_charAt_3b067 2 (some .char)) := ⟨List.mem_of_getElem? (i := 866) (by decide +kernel), by decide +kernel⟩
theorem q_867 : k_in (.methodLink "java/lang/StringUTF16" 67 yJ2_checkIndex_2214a) := ⟨List.mem_of_getElem? (i := 867) (by decide +kernel), by decide +kernel⟩
theorem q_868 : k_in (.static yJ2_checkIndex_2214a) := ⟨List.mem_of_getElem? (i := 868) (by decide +kernel), by decide +kernel⟩
theorem q_869 : k_in (.code yJ2_checkIndex_2214a cJ2_checkIndex_2214a 2 none) := ⟨List.mem_of_getElem? (i := 869) (by decide +kernel), by decide +kernel⟩
theorem q_870 : k_in (.methodLink "java/lang/StringUTF16" 48 yJ2_length_9d52b) := ⟨List.mem_of_getElem? (i := 870) (by decide +kernel), by decide +kernel⟩
theorem q_871 : k_in (.static yJ2_length_9d52b) := ⟨List.mem_of_getElem? (i := 871) (by decide +kernel), by decide +kernel⟩
theorem q_872 : k_in (.code yJ2_length_9d52b cJ2_length_9d52b 1 (some .int)) := ⟨List.mem_of_getElem? (i := 872) (by decide +kernel), by decide +kernel⟩
theorem q_873 : k_in (.methodLink "java/lang/StringUTF16" 414 yJ0_checkIndex_df160) := ⟨List.mem_of_getElem? (i := 873) (by decide +kernel), by decide +kernel⟩
theorem q_874 : k_in (.methodLink "java/lang/StringUTF16" 71 yJ2_getChar_3b067) := ⟨List.mem_of_getElem? (i := 874) (by decide +kernel), by decide +kernel⟩
theorem q_875 : k_in (.static yJ2_getChar_3b067) := ⟨List.mem_of_getElem? (i := 875) (by decide +kernel), by decide +kernel⟩
theorem q_876 : k_in (.code yJ2_getChar_3b067 cJ2_getChar_3b067 2 (some .char)) := ⟨List.mem_of_getElem? (i := 876) (by decide +kernel), by decide +kernel⟩
theorem q_877 : k_in (.fieldLink "java/lang/StringUTF16" 44 "java/lang/StringUTF16" "$assertionsDisabled" "Z") := ⟨List.mem_of_getElem? (i := 877) (by decide +kernel), by decide +kernel⟩
theorem q_879 : k_in (.fieldLink "java/lang/StringUTF16" 59 "java/lang/StringUTF16" "HI_BYTE_SHIFT" "I") := ⟨List.mem_of_getElem? (i := 879) (by decide +kernel), by decide +kernel⟩
theorem q_881 : k_in (.fieldLink "java/lang/StringUTF16" 63 "java/lang/StringUTF16" "LO_BYTE_SHIFT" "I") := ⟨List.mem_of_getElem? (i := 881) (by decide +kernel), by decide +kernel⟩
theorem q_885 : k_in (.methodLink RX7 62 yX7_put) := ⟨List.mem_of_getElem? (i := 885) (by decide +kernel), by decide +kernel⟩
theorem q_887 : k_in (.instanceMethod yX7_put) := ⟨List.mem_of_getElem? (i := 887) (by decide +kernel), by decide +kernel⟩
theorem q_888 : k_in (.code yX7_put cX7_put 4 (some .int)) := ⟨List.mem_of_getElem? (i := 888) (by decide +kernel), by decide +kernel⟩
theorem q_889 : k_in (.methodLink RX7 66 yX7_readSum) := ⟨List.mem_of_getElem? (i := 889) (by decide +kernel), by decide +kernel⟩
theorem q_891 : k_in (.instanceMethod yX7_readSum) := ⟨List.mem_of_getElem? (i := 891) (by decide +kernel), by decide +kernel⟩
theorem q_892 : k_in (.code yX7_readSum cX7_readSum 5 (some .boolean)) := ⟨List.mem_of_getElem? (i := 892) (by decide +kernel), by decide +kernel⟩
theorem q_893 : k_in (.methodLink RX7 108 yX7_readTerm) := ⟨List.mem_of_getElem? (i := 893) (by decide +kernel), by decide +kernel⟩
theorem q_895 : k_in (.instanceMethod yX7_readTerm) := ⟨List.mem_of_getElem? (i := 895) (by decide +kernel), by decide +kernel⟩
theorem q_896 : k_in (.code yX7_readTerm cX7_readTerm 5 (some .boolean)) := ⟨List.mem_of_getElem? (i := 896) (by decide +kernel), by decide +kernel⟩
theorem q_897 : k_in (.methodLink RX7 111 yX7_readPart) := ⟨List.mem_of_getElem? (i := 897) (by decide +kernel), by decide +kernel⟩
theorem q_899 : k_in (.instanceMethod yX7_readPart) := ⟨List.mem_of_getElem? (i := 899) (by decide +kernel), by decide +kernel⟩
theorem q_900 : k_in (.code yX7_readPart cX7_readPart 4 (some .boolean)) := ⟨List.mem_of_getElem? (i := 900) (by decide +kernel), by decide +kernel⟩
theorem q_901 : k_in (.methodLink RX7 48 yX7_seesSign) := ⟨List.mem_of_getElem? (i := 901) (by decide +kernel), by decide +kernel⟩
theorem q_903 : k_in (.instanceMethod yX7_seesSign) := ⟨List.mem_of_getElem? (i := 903) (by decide +kernel), by decide +kernel⟩
theorem q_904 : k_in (.code yX7_seesSign cX7_seesSign 2 (some .boolean)) := ⟨List.mem_of_getElem? (i := 904) (by decide +kernel), by decide +kernel⟩
theorem q_905 : k_in (.methodLink RX7 101 yX7_readInBrackets) := ⟨List.mem_of_getElem? (i := 905) (by decide +kernel), by decide +kernel⟩
theorem q_907 : k_in (.instanceMethod yX7_readInBrackets) := ⟨List.mem_of_getElem? (i := 907) (by decide +kernel), by decide +kernel⟩
theorem q_908 : k_in (.code yX7_readInBrackets cX7_readInBrackets 4 (some .boolean)) := ⟨List.mem_of_getElem? (i := 908) (by decide +kernel), by decide +kernel⟩
theorem q_909 : k_in (.methodLink RX7 76 yX7_readTest) := ⟨List.mem_of_getElem? (i := 909) (by decide +kernel), by decide +kernel⟩
theorem q_911 : k_in (.instanceMethod yX7_readTest) := ⟨List.mem_of_getElem? (i := 911) (by decide +kernel), by decide +kernel⟩
theorem q_912 : k_in (.code yX7_readTest cX7_readTest 5 (some .boolean)) := ⟨List.mem_of_getElem? (i := 912) (by decide +kernel), by decide +kernel⟩
theorem q_913 : k_in (.methodLink RX7 89 yX7_readBoth) := ⟨List.mem_of_getElem? (i := 913) (by decide +kernel), by decide +kernel⟩
theorem q_915 : k_in (.instanceMethod yX7_readBoth) := ⟨List.mem_of_getElem? (i := 915) (by decide +kernel), by decide +kernel⟩
theorem q_916 : k_in (.code yX7_readBoth cX7_readBoth 5 (some .boolean)) := ⟨List.mem_of_getElem? (i := 916) (by decide +kernel), by decide +kernel⟩
theorem q_917 : k_in (.methodLink RX7 94 yX7_readPlain) := ⟨List.mem_of_getElem? (i := 917) (by decide +kernel), by decide +kernel⟩
theorem q_919 : k_in (.instanceMethod yX7_readPlain) := ⟨List.mem_of_getElem? (i := 919) (by decide +kernel), by decide +kernel⟩
theorem q_920 : k_in (.code yX7_readPlain cX7_readPlain 4 (some .boolean)) := ⟨List.mem_of_getElem? (i := 920) (by decide +kernel), by decide +kernel⟩
theorem q_922 : k_in (.methodLink RX7 105 yX7_readComparison) := ⟨List.mem_of_getElem? (i := 922) (by decide +kernel), by decide +kernel⟩
theorem q_924 : k_in (.instanceMethod yX7_readComparison) := ⟨List.mem_of_getElem? (i := 924) (by decide +kernel), by decide +kernel⟩
theorem q_925 : k_in (.code yX7_readComparison cX7_readComparison 4 (some .boolean)) := ⟨List.mem_of_getElem? (i := 925) (by decide +kernel), by decide +kernel⟩
theorem q_927 : k_in (.methodLink RX7 79 yX7_leadHere) := ⟨List.mem_of_getElem? (i := 927) (by decide +kernel), by decide +kernel⟩
theorem q_929 : k_in (.instanceMethod yX7_leadHere) := ⟨List.mem_of_getElem? (i := 929) (by decide +kernel), by decide +kernel⟩
theorem q_930 : k_in (.code yX7_leadHere cX7_leadHere 2 none) := ⟨List.mem_of_getElem? (i := 930) (by decide +kernel), by decide +kernel⟩
theorem q_932 : k_in (.methodLink RX7 114 yX7_wordHere) := ⟨List.mem_of_getElem? (i := 932) (by decide +kernel), by decide +kernel⟩
theorem q_934 : k_in (.instanceMethod yX7_wordHere) := ⟨List.mem_of_getElem? (i := 934) (by decide +kernel), by decide +kernel⟩
theorem q_935 : k_in (.code yX7_wordHere cX7_wordHere 1 (some .int)) := ⟨List.mem_of_getElem? (i := 935) (by decide +kernel), by decide +kernel⟩
theorem q_944 : k_in (.methodLink RX7 52 yJ7_copyOf_59c91) := ⟨List.mem_of_getElem? (i := 944) (by decide +kernel), by decide +kernel⟩
theorem q_945 : k_in (.static yJ7_copyOf_59c91) := ⟨List.mem_of_getElem? (i := 945) (by decide +kernel), by decide +kernel⟩
theorem q_946 : k_in (.code yJ7_copyOf_59c91 cJ7_copyOf_59c91 3 (some (.array .int))) := ⟨List.mem_of_getElem? (i := 946) (by decide +kernel), by decide +kernel⟩
theorem q_953 : k_in (.classLink "java/util/Arrays" 317 "[I") := ⟨List.mem_of_getElem? (i := 953) (by decide +kernel), by decide +kernel⟩
theorem q_954 : k_in (.methodLink "java/util/Arrays" 304 yJ9_min_7cf53) := ⟨List.mem_of_getElem? (i := 954) (by decide +kernel), by decide +kernel⟩
theorem q_958 : k_in (.methodLinkNest RX11 192 yX10_addLaw RX11) := ⟨List.mem_of_getElem? (i := 958) (by decide +kernel), by decide +kernel⟩
theorem q_960 : k_in (.instanceMethod yX10_addLaw) := ⟨List.mem_of_getElem? (i := 960) (by decide +kernel), by decide +kernel⟩
theorem q_961 : k_in (.code yX10_addLaw cX10_addLaw 2 (some .int)) := ⟨List.mem_of_getElem? (i := 961) (by decide +kernel), by decide +kernel⟩
theorem q_962 : k_in (.methodLink "FiddlerDebtsLaw" 66 yX11_fault) := ⟨List.mem_of_getElem? (i := 962) (by decide +kernel), by decide +kernel⟩
theorem q_963 : k_in (.instanceMethod yX11_fault) := ⟨List.mem_of_getElem? (i := 963) (by decide +kernel), by decide +kernel⟩
theorem q_964 : k_in (.selects RX11 yX11_fault yX11_fault) := ⟨List.mem_of_getElem? (i := 964) (by decide +kernel), by decide +kernel⟩
theorem q_965 : k_in (.code yX11_fault cX11_fault 1 (some .int)) := ⟨List.mem_of_getElem? (i := 965) (by decide +kernel), by decide +kernel⟩
theorem q_966 : k_in (.methodLink "FiddlerDebtsLaw" 70 yX11_force) := ⟨List.mem_of_getElem? (i := 966) (by decide +kernel), by decide +kernel⟩
theorem q_967 : k_in (.instanceMethod yX11_force) := ⟨List.mem_of_getElem? (i := 967) (by decide +kernel), by decide +kernel⟩
theorem q_968 : k_in (.selects RX11 yX11_force yX11_force) := ⟨List.mem_of_getElem? (i := 968) (by decide +kernel), by decide +kernel⟩
theorem q_969 : k_in (.code yX11_force cX11_force 3 (some .int)) := ⟨List.mem_of_getElem? (i := 969) (by decide +kernel), by decide +kernel⟩
theorem q_970 : k_in (.methodLinkNest RX11 196 yX10_hasLaw RX11) := ⟨List.mem_of_getElem? (i := 970) (by decide +kernel), by decide +kernel⟩
theorem q_971 : k_in (.methodLink "FiddlerDebtsLaw" 74 yX11_balance) := ⟨List.mem_of_getElem? (i := 971) (by decide +kernel), by decide +kernel⟩
theorem q_972 : k_in (.instanceMethod yX11_balance) := ⟨List.mem_of_getElem? (i := 972) (by decide +kernel), by decide +kernel⟩
theorem q_973 : k_in (.selects RX11 yX11_balance yX11_balance) := ⟨List.mem_of_getElem? (i := 973) (by decide +kernel), by decide +kernel⟩
theorem q_974 : k_in (.code yX11_balance cX11_balance 2 (some .int)) := ⟨List.mem_of_getElem? (i := 974) (by decide +kernel), by decide +kernel⟩
theorem q_975 : k_in (.constant RX11 202 (-1000000000)) := ⟨List.mem_of_getElem? (i := 975) (by decide +kernel), by decide +kernel⟩
theorem q_976 : k_in (.methodLinkNest RX11 203 yX3_balanceOf RX11) := ⟨List.mem_of_getElem? (i := 976) (by decide +kernel), by decide +kernel⟩
theorem q_978 : k_in (.instanceMethod yX3_balanceOf) := ⟨List.mem_of_getElem? (i := 978) (by decide +kernel), by decide +kernel⟩
theorem q_979 : k_in (.code yX3_balanceOf cX3_balanceOf 5 (some .int)) := ⟨List.mem_of_getElem? (i := 979) (by decide +kernel), by decide +kernel⟩
theorem q_980 : k_in (.methodLink "FiddlerDebtsLaw" 78 yX11_richest) := ⟨List.mem_of_getElem? (i := 980) (by decide +kernel), by decide +kernel⟩
theorem q_981 : k_in (.instanceMethod yX11_richest) := ⟨List.mem_of_getElem? (i := 981) (by decide +kernel), by decide +kernel⟩
theorem q_982 : k_in (.selects RX11 yX11_richest yX11_richest) := ⟨List.mem_of_getElem? (i := 982) (by decide +kernel), by decide +kernel⟩
theorem q_983 : k_in (.code yX11_richest cX11_richest 5 (some .int)) := ⟨List.mem_of_getElem? (i := 983) (by decide +kernel), by decide +kernel⟩
theorem q_984 : k_in (.methodLink "FiddlerDebtsLaw" 82 yX11_net) := ⟨List.mem_of_getElem? (i := 984) (by decide +kernel), by decide +kernel⟩
theorem q_985 : k_in (.instanceMethod yX11_net) := ⟨List.mem_of_getElem? (i := 985) (by decide +kernel), by decide +kernel⟩
theorem q_986 : k_in (.selects RX11 yX11_net yX11_net) := ⟨List.mem_of_getElem? (i := 986) (by decide +kernel), by decide +kernel⟩
theorem q_987 : k_in (.code yX11_net cX11_net 3 (some .int)) := ⟨List.mem_of_getElem? (i := 987) (by decide +kernel), by decide +kernel⟩
theorem q_988 : k_in (.methodLinkNest RX11 206 yX4_addUp RX11) := ⟨List.mem_of_getElem? (i := 988) (by decide +kernel), by decide +kernel⟩
theorem q_990 : k_in (.instanceMethod yX4_addUp) := ⟨List.mem_of_getElem? (i := 990) (by decide +kernel), by decide +kernel⟩
theorem q_991 : k_in (.code yX4_addUp cX4_addUp 4 none) := ⟨List.mem_of_getElem? (i := 991) (by decide +kernel), by decide +kernel⟩
theorem q_992 : k_in (.methodLinkNest RX4 36 yX3_hear RX11) := ⟨List.mem_of_getElem? (i := 992) (by decide +kernel), by decide +kernel⟩
theorem q_993 : k_in (.methodLink RX4 41 yJ7_fill_53178) := ⟨List.mem_of_getElem? (i := 993) (by decide +kernel), by decide +kernel⟩
theorem q_994 : k_in (.methodLink RX4 65 yX4_change) := ⟨List.mem_of_getElem? (i := 994) (by decide +kernel), by decide +kernel⟩
theorem q_996 : k_in (.instanceMethod yX4_change) := ⟨List.mem_of_getElem? (i := 996) (by decide +kernel), by decide +kernel⟩
theorem q_997 : k_in (.code yX4_change cX4_change 3 none) := ⟨List.mem_of_getElem? (i := 997) (by decide +kernel), by decide +kernel⟩
theorem q_998 : k_in (.methodLinkNest RX4 72 yX11_isDancer RX11) := ⟨List.mem_of_getElem? (i := 998) (by decide +kernel), by decide +kernel⟩
theorem q_999 : k_in (.methodLink "FiddlerDebtsLaw" 86 yX11_left) := ⟨List.mem_of_getElem? (i := 999) (by decide +kernel), by decide +kernel⟩
theorem q_1000 : k_in (.instanceMethod yX11_left) := ⟨List.mem_of_getElem? (i := 1000) (by decide +kernel), by decide +kernel⟩
theorem q_1001 : k_in (.selects RX11 yX11_left yX11_left) := ⟨List.mem_of_getElem? (i := 1001) (by decide +kernel), by decide +kernel⟩
theorem q_1002 : k_in (.code yX11_left cX11_left 3 (some .int)) := ⟨List.mem_of_getElem? (i := 1002) (by decide +kernel), by decide +kernel⟩
theorem q_1003 : k_in (.methodLinkNest RX11 214 yX4_least RX11) := ⟨List.mem_of_getElem? (i := 1003) (by decide +kernel), by decide +kernel⟩
theorem q_1005 : k_in (.instanceMethod yX4_least) := ⟨List.mem_of_getElem? (i := 1005) (by decide +kernel), by decide +kernel⟩
theorem q_1006 : k_in (.code yX4_least cX4_least 6 (some .int)) := ⟨List.mem_of_getElem? (i := 1006) (by decide +kernel), by decide +kernel⟩
theorem q_1007 : k_in (.methodLink RX4 76 yJ9_max_7cf53) := ⟨List.mem_of_getElem? (i := 1007) (by decide +kernel), by decide +kernel⟩
theorem q_1008 : k_in (.methodLinkNest RX11 218 yX4_fewestPayments RX11) := ⟨List.mem_of_getElem? (i := 1008) (by decide +kernel), by decide +kernel⟩
theorem q_1010 : k_in (.instanceMethod yX4_fewestPayments) := ⟨List.mem_of_getElem? (i := 1010) (by decide +kernel), by decide +kernel⟩
theorem q_1011 : k_in (.code yX4_fewestPayments cX4_fewestPayments 3 (some .int)) := ⟨List.mem_of_getElem? (i := 1011) (by decide +kernel), by decide +kernel⟩
theorem q_1012 : k_in (.methodLink RX4 82 yX4_group) := ⟨List.mem_of_getElem? (i := 1012) (by decide +kernel), by decide +kernel⟩
theorem q_1014 : k_in (.instanceMethod yX4_group) := ⟨List.mem_of_getElem? (i := 1014) (by decide +kernel), by decide +kernel⟩
theorem q_1015 : k_in (.code yX4_group cX4_group 6 none) := ⟨List.mem_of_getElem? (i := 1015) (by decide +kernel), by decide +kernel⟩
theorem q_1016 : k_in (.methodLink RX4 86 yJ6_bitCount_0f7a4) := ⟨List.mem_of_getElem? (i := 1016) (by decide +kernel), by decide +kernel⟩
theorem q_1017 : k_in (.static yJ6_bitCount_0f7a4) := ⟨List.mem_of_getElem? (i := 1017) (by decide +kernel), by decide +kernel⟩
theorem q_1018 : k_in (.code yJ6_bitCount_0f7a4 cJ6_bitCount_0f7a4 1 (some .int)) := ⟨List.mem_of_getElem? (i := 1018) (by decide +kernel), by decide +kernel⟩
theorem q_1019 : k_in (.constant "java/lang/Integer" 265 (1431655765)) := ⟨List.mem_of_getElem? (i := 1019) (by decide +kernel), by decide +kernel⟩
theorem q_1020 : k_in (.constant "java/lang/Integer" 266 (858993459)) := ⟨List.mem_of_getElem? (i := 1020) (by decide +kernel), by decide +kernel⟩
theorem q_1021 : k_in (.constant "java/lang/Integer" 267 (252645135)) := ⟨List.mem_of_getElem? (i := 1021) (by decide +kernel), by decide +kernel⟩
theorem q_1022 : k_in (.methodLink "FiddlerDebtsLaw" 90 yX11_ring) := ⟨List.mem_of_getElem? (i := 1022) (by decide +kernel), by decide +kernel⟩
theorem q_1023 : k_in (.instanceMethod yX11_ring) := ⟨List.mem_of_getElem? (i := 1023) (by decide +kernel), by decide +kernel⟩
theorem q_1024 : k_in (.selects RX11 yX11_ring yX11_ring) := ⟨List.mem_of_getElem? (i := 1024) (by decide +kernel), by decide +kernel⟩
theorem q_1025 : k_in (.code yX11_ring cX11_ring 3 (some .int)) := ⟨List.mem_of_getElem? (i := 1025) (by decide +kernel), by decide +kernel⟩
theorem q_1026 : k_in (.methodLinkNest RX11 221 yX8_find RX11) := ⟨List.mem_of_getElem? (i := 1026) (by decide +kernel), by decide +kernel⟩
theorem q_1028 : k_in (.instanceMethod yX8_find) := ⟨List.mem_of_getElem? (i := 1028) (by decide +kernel), by decide +kernel⟩
theorem q_1029 : k_in (.code yX8_find cX8_find 7 (some .boolean)) := ⟨List.mem_of_getElem? (i := 1029) (by decide +kernel), by decide +kernel⟩
theorem q_1030 : k_in (.methodLinkNest RX8 36 yX3_hear RX11) := ⟨List.mem_of_getElem? (i := 1030) (by decide +kernel), by decide +kernel⟩
theorem q_1031 : k_in (.methodLink RX8 41 yJ7_fill_53178) := ⟨List.mem_of_getElem? (i := 1031) (by decide +kernel), by decide +kernel⟩
theorem q_1032 : k_in (.methodLink RX8 53 yX8_counts) := ⟨List.mem_of_getElem? (i := 1032) (by decide +kernel), by decide +kernel⟩
theorem q_1034 : k_in (.instanceMethod yX8_counts) := ⟨List.mem_of_getElem? (i := 1034) (by decide +kernel), by decide +kernel⟩
theorem q_1035 : k_in (.code yX8_counts cX8_counts 2 (some .boolean)) := ⟨List.mem_of_getElem? (i := 1035) (by decide +kernel), by decide +kernel⟩
theorem q_1036 : k_in (.methodLinkNest RX8 73 yX1_has RX11) := ⟨List.mem_of_getElem? (i := 1036) (by decide +kernel), by decide +kernel⟩
theorem q_1037 : k_in (.methodLinkNest RX8 57 yX11_isDancer RX11) := ⟨List.mem_of_getElem? (i := 1037) (by decide +kernel), by decide +kernel⟩
theorem q_1038 : k_in (.methodLink RX8 63 yJ6_bitCount_0f7a4) := ⟨List.mem_of_getElem? (i := 1038) (by decide +kernel), by decide +kernel⟩
theorem q_1039 : k_in (.methodLink RX8 69 yX8_goesRound) := ⟨List.mem_of_getElem? (i := 1039) (by decide +kernel), by decide +kernel⟩
theorem q_1041 : k_in (.instanceMethod yX8_goesRound) := ⟨List.mem_of_getElem? (i := 1041) (by decide +kernel), by decide +kernel⟩
theorem q_1042 : k_in (.code yX8_goesRound cX8_goesRound 7 (some .boolean)) := ⟨List.mem_of_getElem? (i := 1042) (by decide +kernel), by decide +kernel⟩
theorem q_1043 : k_in (.methodLink RX8 83 yX8_lowestOf) := ⟨List.mem_of_getElem? (i := 1043) (by decide +kernel), by decide +kernel⟩
theorem q_1044 : k_in (.static yX8_lowestOf) := ⟨List.mem_of_getElem? (i := 1044) (by decide +kernel), by decide +kernel⟩
theorem q_1045 : k_in (.code yX8_lowestOf cX8_lowestOf 2 (some .int)) := ⟨List.mem_of_getElem? (i := 1045) (by decide +kernel), by decide +kernel⟩
theorem q_1046 : k_in (.methodLink "FiddlerDebtsLaw" 94 yX11_cancel) := ⟨List.mem_of_getElem? (i := 1046) (by decide +kernel), by decide +kernel⟩
theorem q_1047 : k_in (.instanceMethod yX11_cancel) := ⟨List.mem_of_getElem? (i := 1047) (by decide +kernel), by decide +kernel⟩
theorem q_1048 : k_in (.selects RX11 yX11_cancel yX11_cancel) := ⟨List.mem_of_getElem? (i := 1048) (by decide +kernel), by decide +kernel⟩
theorem q_1049 : k_in (.code yX11_cancel cX11_cancel 2 (some .int)) := ⟨List.mem_of_getElem? (i := 1049) (by decide +kernel), by decide +kernel⟩
theorem q_1050 : k_in (.methodLinkNest RX11 228 yX8_drop RX11) := ⟨List.mem_of_getElem? (i := 1050) (by decide +kernel), by decide +kernel⟩
theorem q_1052 : k_in (.instanceMethod yX8_drop) := ⟨List.mem_of_getElem? (i := 1052) (by decide +kernel), by decide +kernel⟩
theorem q_1053 : k_in (.code yX8_drop cX8_drop 3 (some .int)) := ⟨List.mem_of_getElem? (i := 1053) (by decide +kernel), by decide +kernel⟩
theorem q_1054 : k_in (.methodLink RX8 86 yX8_dancerAt) := ⟨List.mem_of_getElem? (i := 1054) (by decide +kernel), by decide +kernel⟩
theorem q_1056 : k_in (.instanceMethod yX8_dancerAt) := ⟨List.mem_of_getElem? (i := 1056) (by decide +kernel), by decide +kernel⟩
theorem q_1057 : k_in (.code yX8_dancerAt cX8_dancerAt 3 (some .int)) := ⟨List.mem_of_getElem? (i := 1057) (by decide +kernel), by decide +kernel⟩
theorem q_1058 : k_in (.methodLink RX8 89 yX8_between) := ⟨List.mem_of_getElem? (i := 1058) (by decide +kernel), by decide +kernel⟩
theorem q_1060 : k_in (.instanceMethod yX8_between) := ⟨List.mem_of_getElem? (i := 1060) (by decide +kernel), by decide +kernel⟩
theorem q_1061 : k_in (.code yX8_between cX8_between 5 (some .int)) := ⟨List.mem_of_getElem? (i := 1061) (by decide +kernel), by decide +kernel⟩
theorem q_1062 : k_in (.methodLink RX8 105 yX8_isBetween) := ⟨List.mem_of_getElem? (i := 1062) (by decide +kernel), by decide +kernel⟩
theorem q_1064 : k_in (.instanceMethod yX8_isBetween) := ⟨List.mem_of_getElem? (i := 1064) (by decide +kernel), by decide +kernel⟩
theorem q_1065 : k_in (.code yX8_isBetween cX8_isBetween 4 (some .boolean)) := ⟨List.mem_of_getElem? (i := 1065) (by decide +kernel), by decide +kernel⟩
theorem q_1066 : k_in (.methodLink RX8 93 yJ9_min_7cf53) := ⟨List.mem_of_getElem? (i := 1066) (by decide +kernel), by decide +kernel⟩
theorem q_1067 : k_in (.methodLink RX8 98 yX8_take) := ⟨List.mem_of_getElem? (i := 1067) (by decide +kernel), by decide +kernel⟩
theorem q_1069 : k_in (.instanceMethod yX8_take) := ⟨List.mem_of_getElem? (i := 1069) (by decide +kernel), by decide +kernel⟩
theorem q_1070 : k_in (.code yX8_take cX8_take 7 none) := ⟨List.mem_of_getElem? (i := 1070) (by decide +kernel), by decide +kernel⟩
theorem q_1071 : k_in (.methodLinkNest RX8 102 yX1_dropPlayed RX11) := ⟨List.mem_of_getElem? (i := 1071) (by decide +kernel), by decide +kernel⟩
theorem q_1072 : k_in (.methodLink "FiddlerDebtsLaw" 98 yX11_best) := ⟨List.mem_of_getElem? (i := 1072) (by decide +kernel), by decide +kernel⟩
theorem q_1073 : k_in (.instanceMethod yX11_best) := ⟨List.mem_of_getElem? (i := 1073) (by decide +kernel), by decide +kernel⟩
theorem q_1074 : k_in (.selects RX11 yX11_best yX11_best) := ⟨List.mem_of_getElem? (i := 1074) (by decide +kernel), by decide +kernel⟩
theorem q_1075 : k_in (.code yX11_best cX11_best 6 (some .int)) := ⟨List.mem_of_getElem? (i := 1075) (by decide +kernel), by decide +kernel⟩
theorem q_1076 : k_in (.methodLink RX11 231 yX11_isWedding) := ⟨List.mem_of_getElem? (i := 1076) (by decide +kernel), by decide +kernel⟩
theorem q_1077 : k_in (.static yX11_isWedding) := ⟨List.mem_of_getElem? (i := 1077) (by decide +kernel), by decide +kernel⟩
theorem q_1078 : k_in (.code yX11_isWedding cX11_isWedding 2 (some .boolean)) := ⟨List.mem_of_getElem? (i := 1078) (by decide +kernel), by decide +kernel⟩
theorem q_1079 : k_in (.methodLinkNest RX11 235 yX2_find RX11) := ⟨List.mem_of_getElem? (i := 1079) (by decide +kernel), by decide +kernel⟩
theorem q_1081 : k_in (.instanceMethod yX2_find) := ⟨List.mem_of_getElem? (i := 1081) (by decide +kernel), by decide +kernel⟩
theorem q_1082 : k_in (.code yX2_find cX2_find 10 none) := ⟨List.mem_of_getElem? (i := 1082) (by decide +kernel), by decide +kernel⟩
theorem q_1083 : k_in (.methodLinkNest RX2 64 yX3_hear RX11) := ⟨List.mem_of_getElem? (i := 1083) (by decide +kernel), by decide +kernel⟩
theorem q_1084 : k_in (.methodLink RX2 74 yX2_isPlayable) := ⟨List.mem_of_getElem? (i := 1084) (by decide +kernel), by decide +kernel⟩
theorem q_1086 : k_in (.instanceMethod yX2_isPlayable) := ⟨List.mem_of_getElem? (i := 1086) (by decide +kernel), by decide +kernel⟩
theorem q_1087 : k_in (.code yX2_isPlayable cX2_isPlayable 2 (some .boolean)) := ⟨List.mem_of_getElem? (i := 1087) (by decide +kernel), by decide +kernel⟩
theorem q_1088 : k_in (.methodLinkNest RX2 111 yX1_has RX11) := ⟨List.mem_of_getElem? (i := 1088) (by decide +kernel), by decide +kernel⟩
theorem q_1089 : k_in (.methodLinkNest RX2 81 yX10_lengthOfDebt RX11) := ⟨List.mem_of_getElem? (i := 1089) (by decide +kernel), by decide +kernel⟩
theorem q_1090 : k_in (.methodLink RX2 85 yJ9_min_7cf53) := ⟨List.mem_of_getElem? (i := 1090) (by decide +kernel), by decide +kernel⟩
theorem q_1091 : k_in (.methodLink RX2 91 yJ6_bitCount_0f7a4) := ⟨List.mem_of_getElem? (i := 1091) (by decide +kernel), by decide +kernel⟩
theorem q_1092 : k_in (.methodLink RX2 96 yX2_clear) := ⟨List.mem_of_getElem? (i := 1092) (by decide +kernel), by decide +kernel⟩
theorem q_1094 : k_in (.instanceMethod yX2_clear) := ⟨List.mem_of_getElem? (i := 1094) (by decide +kernel), by decide +kernel⟩
theorem q_1095 : k_in (.code yX2_clear cX2_clear 4 none) := ⟨List.mem_of_getElem? (i := 1095) (by decide +kernel), by decide +kernel⟩
theorem q_1096 : k_in (.methodLink RX2 100 yX2_join) := ⟨List.mem_of_getElem? (i := 1096) (by decide +kernel), by decide +kernel⟩
theorem q_1098 : k_in (.instanceMethod yX2_join) := ⟨List.mem_of_getElem? (i := 1098) (by decide +kernel), by decide +kernel⟩
theorem q_1099 : k_in (.code yX2_join cX2_join 8 none) := ⟨List.mem_of_getElem? (i := 1099) (by decide +kernel), by decide +kernel⟩
theorem q_1100 : k_in (.constantLong RX2 124 (65536)) := ⟨List.mem_of_getElem? (i := 1100) (by decide +kernel), by decide +kernel⟩
theorem q_1101 : k_in (.constantLong RX2 126 (256)) := ⟨List.mem_of_getElem? (i := 1101) (by decide +kernel), by decide +kernel⟩
theorem q_1102 : k_in (.methodLink RX2 104 yX2_placeOf) := ⟨List.mem_of_getElem? (i := 1102) (by decide +kernel), by decide +kernel⟩
theorem q_1103 : k_in (.static yX2_placeOf) := ⟨List.mem_of_getElem? (i := 1103) (by decide +kernel), by decide +kernel⟩
theorem q_1104 : k_in (.code yX2_placeOf cX2_placeOf 3 (some .int)) := ⟨List.mem_of_getElem? (i := 1104) (by decide +kernel), by decide +kernel⟩
theorem q_1105 : k_in (.methodLink RX2 128 yX2_offer) := ⟨List.mem_of_getElem? (i := 1105) (by decide +kernel), by decide +kernel⟩
theorem q_1107 : k_in (.instanceMethod yX2_offer) := ⟨List.mem_of_getElem? (i := 1107) (by decide +kernel), by decide +kernel⟩
theorem q_1108 : k_in (.code yX2_offer cX2_offer 5 none) := ⟨List.mem_of_getElem? (i := 1108) (by decide +kernel), by decide +kernel⟩
theorem q_1109 : k_in (.methodLink RX2 135 yX2_offerBundle) := ⟨List.mem_of_getElem? (i := 1109) (by decide +kernel), by decide +kernel⟩
theorem q_1111 : k_in (.instanceMethod yX2_offerBundle) := ⟨List.mem_of_getElem? (i := 1111) (by decide +kernel), by decide +kernel⟩
theorem q_1112 : k_in (.code yX2_offerBundle cX2_offerBundle 13 none) := ⟨List.mem_of_getElem? (i := 1112) (by decide +kernel), by decide +kernel⟩
theorem q_1113 : k_in (.constantLong RX2 139 (1048576)) := ⟨List.mem_of_getElem? (i := 1113) (by decide +kernel), by decide +kernel⟩
theorem q_1114 : k_in (.methodLink RX2 131 yX2_isBetter) := ⟨List.mem_of_getElem? (i := 1114) (by decide +kernel), by decide +kernel⟩
theorem q_1115 : k_in (.static yX2_isBetter) := ⟨List.mem_of_getElem? (i := 1115) (by decide +kernel), by decide +kernel⟩
theorem q_1116 : k_in (.code yX2_isBetter cX2_isBetter 8 (some .boolean)) := ⟨List.mem_of_getElem? (i := 1116) (by decide +kernel), by decide +kernel⟩
theorem q_1117 : k_in (.methodLink RX2 107 yX2_read) := ⟨List.mem_of_getElem? (i := 1117) (by decide +kernel), by decide +kernel⟩
theorem q_1119 : k_in (.instanceMethod yX2_read) := ⟨List.mem_of_getElem? (i := 1119) (by decide +kernel), by decide +kernel⟩
theorem q_1120 : k_in (.code yX2_read cX2_read 7 none) := ⟨List.mem_of_getElem? (i := 1120) (by decide +kernel), by decide +kernel⟩
theorem q_1121 : k_in (.methodLink "FiddlerDebtsLaw" 102 yX11_play) := ⟨List.mem_of_getElem? (i := 1121) (by decide +kernel), by decide +kernel⟩
theorem q_1122 : k_in (.instanceMethod yX11_play) := ⟨List.mem_of_getElem? (i := 1122) (by decide +kernel), by decide +kernel⟩
theorem q_1123 : k_in (.selects RX11 yX11_play yX11_play) := ⟨List.mem_of_getElem? (i := 1123) (by decide +kernel), by decide +kernel⟩
theorem q_1124 : k_in (.code yX11_play cX11_play 4 (some .int)) := ⟨List.mem_of_getElem? (i := 1124) (by decide +kernel), by decide +kernel⟩
theorem q_1125 : k_in (.methodLinkNest RX11 248 yX2_payAll RX11) := ⟨List.mem_of_getElem? (i := 1125) (by decide +kernel), by decide +kernel⟩
theorem q_1127 : k_in (.instanceMethod yX2_payAll) := ⟨List.mem_of_getElem? (i := 1127) (by decide +kernel), by decide +kernel⟩
theorem q_1128 : k_in (.code yX2_payAll cX2_payAll 2 none) := ⟨List.mem_of_getElem? (i := 1128) (by decide +kernel), by decide +kernel⟩
theorem q_1129 : k_in (.methodLinkNest RX2 144 yX1_dropPlayed RX11) := ⟨List.mem_of_getElem? (i := 1129) (by decide +kernel), by decide +kernel⟩
theorem q_1130 : k_in (.methodLink "FiddlerDebtsLaw" 107 yX11_bands) := ⟨List.mem_of_getElem? (i := 1130) (by decide +kernel), by decide +kernel⟩
theorem q_1131 : k_in (.instanceMethod yX11_bands) := ⟨List.mem_of_getElem? (i := 1131) (by decide +kernel), by decide +kernel⟩
theorem q_1132 : k_in (.selects RX11 yX11_bands yX11_bands) := ⟨List.mem_of_getElem? (i := 1132) (by decide +kernel), by decide +kernel⟩
theorem q_1133 : k_in (.code yX11_bands cX11_bands 3 (some .int)) := ⟨List.mem_of_getElem? (i := 1133) (by decide +kernel), by decide +kernel⟩
theorem q_1134 : k_in (.methodLinkNest RX11 251 yX0_find RX11) := ⟨List.mem_of_getElem? (i := 1134) (by decide +kernel), by decide +kernel⟩
theorem q_1136 : k_in (.instanceMethod yX0_find) := ⟨List.mem_of_getElem? (i := 1136) (by decide +kernel), by decide +kernel⟩
theorem q_1137 : k_in (.code yX0_find cX0_find 5 none) := ⟨List.mem_of_getElem? (i := 1137) (by decide +kernel), by decide +kernel⟩
theorem q_1138 : k_in (.methodLinkNest RX0 37 yX3_hear RX11) := ⟨List.mem_of_getElem? (i := 1138) (by decide +kernel), by decide +kernel⟩
theorem q_1139 : k_in (.methodLinkNest RX0 57 yX10_lengthOfDebt RX11) := ⟨List.mem_of_getElem? (i := 1139) (by decide +kernel), by decide +kernel⟩
theorem q_1140 : k_in (.methodLink RX0 61 yX0_share) := ⟨List.mem_of_getElem? (i := 1140) (by decide +kernel), by decide +kernel⟩
theorem q_1142 : k_in (.instanceMethod yX0_share) := ⟨List.mem_of_getElem? (i := 1142) (by decide +kernel), by decide +kernel⟩
theorem q_1143 : k_in (.code yX0_share cX0_share 6 none) := ⟨List.mem_of_getElem? (i := 1143) (by decide +kernel), by decide +kernel⟩
theorem q_1144 : k_in (.methodLink RX0 65 yX0_choose) := ⟨List.mem_of_getElem? (i := 1144) (by decide +kernel), by decide +kernel⟩
theorem q_1146 : k_in (.instanceMethod yX0_choose) := ⟨List.mem_of_getElem? (i := 1146) (by decide +kernel), by decide +kernel⟩
theorem q_1147 : k_in (.code yX0_choose cX0_choose 5 none) := ⟨List.mem_of_getElem? (i := 1147) (by decide +kernel), by decide +kernel⟩
theorem q_1148 : k_in (.methodLink RX0 69 yJ9_max_7cf53) := ⟨List.mem_of_getElem? (i := 1148) (by decide +kernel), by decide +kernel⟩
theorem q_1149 : k_in (.methodLink "FiddlerDebtsLaw" 111 yX11_wedding) := ⟨List.mem_of_getElem? (i := 1149) (by decide +kernel), by decide +kernel⟩
theorem q_1150 : k_in (.instanceMethod yX11_wedding) := ⟨List.mem_of_getElem? (i := 1150) (by decide +kernel), by decide +kernel⟩
theorem q_1151 : k_in (.selects RX11 yX11_wedding yX11_wedding) := ⟨List.mem_of_getElem? (i := 1151) (by decide +kernel), by decide +kernel⟩
theorem q_1152 : k_in (.code yX11_wedding cX11_wedding 3 (some .int)) := ⟨List.mem_of_getElem? (i := 1152) (by decide +kernel), by decide +kernel⟩
theorem q_1153 : k_in (.methodLinkNest RX11 257 yX10_addWedding RX11) := ⟨List.mem_of_getElem? (i := 1153) (by decide +kernel), by decide +kernel⟩
theorem q_1155 : k_in (.instanceMethod yX10_addWedding) := ⟨List.mem_of_getElem? (i := 1155) (by decide +kernel), by decide +kernel⟩
theorem q_1156 : k_in (.code yX10_addWedding cX10_addWedding 3 (some .boolean)) := ⟨List.mem_of_getElem? (i := 1156) (by decide +kernel), by decide +kernel⟩
theorem q_1157 : k_in (.methodLink "FiddlerDebtsLaw" 115 yX11_divorce) := ⟨List.mem_of_getElem? (i := 1157) (by decide +kernel), by decide +kernel⟩
theorem q_1158 : k_in (.instanceMethod yX11_divorce) := ⟨List.mem_of_getElem? (i := 1158) (by decide +kernel), by decide +kernel⟩
theorem q_1159 : k_in (.selects RX11 yX11_divorce yX11_divorce) := ⟨List.mem_of_getElem? (i := 1159) (by decide +kernel), by decide +kernel⟩
theorem q_1160 : k_in (.code yX11_divorce cX11_divorce 2 (some .int)) := ⟨List.mem_of_getElem? (i := 1160) (by decide +kernel), by decide +kernel⟩
theorem q_1161 : k_in (.methodLink "FiddlerDebtsLaw" 119 yX11_free) := ⟨List.mem_of_getElem? (i := 1161) (by decide +kernel), by decide +kernel⟩
theorem q_1162 : k_in (.instanceMethod yX11_free) := ⟨List.mem_of_getElem? (i := 1162) (by decide +kernel), by decide +kernel⟩
theorem q_1163 : k_in (.selects RX11 yX11_free yX11_free) := ⟨List.mem_of_getElem? (i := 1163) (by decide +kernel), by decide +kernel⟩
theorem q_1164 : k_in (.code yX11_free cX11_free 2 (some .int)) := ⟨List.mem_of_getElem? (i := 1164) (by decide +kernel), by decide +kernel⟩
theorem q_1165 : k_in (.methodLinkNest RX11 263 yX2_freeBehind RX11) := ⟨List.mem_of_getElem? (i := 1165) (by decide +kernel), by decide +kernel⟩
theorem q_1167 : k_in (.instanceMethod yX2_freeBehind) := ⟨List.mem_of_getElem? (i := 1167) (by decide +kernel), by decide +kernel⟩
theorem q_1168 : k_in (.code yX2_freeBehind cX2_freeBehind 5 (some .int)) := ⟨List.mem_of_getElem? (i := 1168) (by decide +kernel), by decide +kernel⟩
theorem q_1169 : k_in (.methodLink RX2 155 yX2_playAlone) := ⟨List.mem_of_getElem? (i := 1169) (by decide +kernel), by decide +kernel⟩
theorem q_1171 : k_in (.instanceMethod yX2_playAlone) := ⟨List.mem_of_getElem? (i := 1171) (by decide +kernel), by decide +kernel⟩
theorem q_1172 : k_in (.code yX2_playAlone cX2_playAlone 8 (some .int)) := ⟨List.mem_of_getElem? (i := 1172) (by decide +kernel), by decide +kernel⟩
theorem q_1173 : k_in (.methodLink "FiddlerDebtsLaw" 123 yX11_dance) := ⟨List.mem_of_getElem? (i := 1173) (by decide +kernel), by decide +kernel⟩
theorem q_1174 : k_in (.instanceMethod yX11_dance) := ⟨List.mem_of_getElem? (i := 1174) (by decide +kernel), by decide +kernel⟩
theorem q_1175 : k_in (.selects RX11 yX11_dance yX11_dance) := ⟨List.mem_of_getElem? (i := 1175) (by decide +kernel), by decide +kernel⟩
theorem q_1176 : k_in (.code yX11_dance cX11_dance 4 (some .int)) := ⟨List.mem_of_getElem? (i := 1176) (by decide +kernel), by decide +kernel⟩
theorem q_1177 : k_in (.methodLinkNest RX11 266 yX10_addDance RX11) := ⟨List.mem_of_getElem? (i := 1177) (by decide +kernel), by decide +kernel⟩
theorem q_1179 : k_in (.instanceMethod yX10_addDance) := ⟨List.mem_of_getElem? (i := 1179) (by decide +kernel), by decide +kernel⟩
theorem q_1180 : k_in (.code yX10_addDance cX10_addDance 3 (some .int)) := ⟨List.mem_of_getElem? (i := 1180) (by decide +kernel), by decide +kernel⟩
theorem q_1181 : k_in (.methodLink "FiddlerDebtsLaw" 127 yX11_ahead) := ⟨List.mem_of_getElem? (i := 1181) (by decide +kernel), by decide +kernel⟩
theorem q_1182 : k_in (.instanceMethod yX11_ahead) := ⟨List.mem_of_getElem? (i := 1182) (by decide +kernel), by decide +kernel⟩
theorem q_1183 : k_in (.selects RX11 yX11_ahead yX11_ahead) := ⟨List.mem_of_getElem? (i := 1183) (by decide +kernel), by decide +kernel⟩
theorem q_1184 : k_in (.code yX11_ahead cX11_ahead 3 (some .int)) := ⟨List.mem_of_getElem? (i := 1184) (by decide +kernel), by decide +kernel⟩
theorem q_1185 : k_in (.methodLinkNest RX11 269 yX10_hasDance RX11) := ⟨List.mem_of_getElem? (i := 1185) (by decide +kernel), by decide +kernel⟩
theorem q_1187 : k_in (.instanceMethod yX10_hasDance) := ⟨List.mem_of_getElem? (i := 1187) (by decide +kernel), by decide +kernel⟩
theorem q_1188 : k_in (.code yX10_hasDance cX10_hasDance 2 (some .boolean)) := ⟨List.mem_of_getElem? (i := 1188) (by decide +kernel), by decide +kernel⟩
theorem q_1189 : k_in (.methodLinkNest RX11 272 yX10_addAhead RX11) := ⟨List.mem_of_getElem? (i := 1189) (by decide +kernel), by decide +kernel⟩
theorem q_1191 : k_in (.instanceMethod yX10_addAhead) := ⟨List.mem_of_getElem? (i := 1191) (by decide +kernel), by decide +kernel⟩
theorem q_1192 : k_in (.code yX10_addAhead cX10_addAhead 3 (some .boolean)) := ⟨List.mem_of_getElem? (i := 1192) (by decide +kernel), by decide +kernel⟩
theorem q_1193 : k_in (.methodLink "FiddlerDebtsLaw" 131 yX11_forget) := ⟨List.mem_of_getElem? (i := 1193) (by decide +kernel), by decide +kernel⟩
theorem q_1194 : k_in (.instanceMethod yX11_forget) := ⟨List.mem_of_getElem? (i := 1194) (by decide +kernel), by decide +kernel⟩
theorem q_1195 : k_in (.selects RX11 yX11_forget yX11_forget) := ⟨List.mem_of_getElem? (i := 1195) (by decide +kernel), by decide +kernel⟩
theorem q_1196 : k_in (.code yX11_forget cX11_forget 2 (some .int)) := ⟨List.mem_of_getElem? (i := 1196) (by decide +kernel), by decide +kernel⟩
theorem q_1197 : k_in (.methodLink "FiddlerDebtsLaw" 135 yX11_orders) := ⟨List.mem_of_getElem? (i := 1197) (by decide +kernel), by decide +kernel⟩
theorem q_1198 : k_in (.instanceMethod yX11_orders) := ⟨List.mem_of_getElem? (i := 1198) (by decide +kernel), by decide +kernel⟩
theorem q_1199 : k_in (.selects RX11 yX11_orders yX11_orders) := ⟨List.mem_of_getElem? (i := 1199) (by decide +kernel), by decide +kernel⟩
theorem q_1200 : k_in (.code yX11_orders cX11_orders 3 (some .int)) := ⟨List.mem_of_getElem? (i := 1200) (by decide +kernel), by decide +kernel⟩
theorem q_1201 : k_in (.methodLinkNest RX11 281 yX5_find RX11) := ⟨List.mem_of_getElem? (i := 1201) (by decide +kernel), by decide +kernel⟩
theorem q_1203 : k_in (.instanceMethod yX5_find) := ⟨List.mem_of_getElem? (i := 1203) (by decide +kernel), by decide +kernel⟩
theorem q_1204 : k_in (.code yX5_find cX5_find 3 none) := ⟨List.mem_of_getElem? (i := 1204) (by decide +kernel), by decide +kernel⟩
theorem q_1205 : k_in (.methodLink RX5 26 yX5_followAhead) := ⟨List.mem_of_getElem? (i := 1205) (by decide +kernel), by decide +kernel⟩
theorem q_1207 : k_in (.instanceMethod yX5_followAhead) := ⟨List.mem_of_getElem? (i := 1207) (by decide +kernel), by decide +kernel⟩
theorem q_1208 : k_in (.code yX5_followAhead cX5_followAhead 3 none) := ⟨List.mem_of_getElem? (i := 1208) (by decide +kernel), by decide +kernel⟩
theorem q_1209 : k_in (.methodLink RX5 41 yJ7_fill_53178) := ⟨List.mem_of_getElem? (i := 1209) (by decide +kernel), by decide +kernel⟩
theorem q_1210 : k_in (.methodLinkNest RX5 53 yX10_hasDance RX11) := ⟨List.mem_of_getElem? (i := 1210) (by decide +kernel), by decide +kernel⟩
theorem q_1211 : k_in (.methodLink RX5 37 yX5_waysOf) := ⟨List.mem_of_getElem? (i := 1211) (by decide +kernel), by decide +kernel⟩
theorem q_1213 : k_in (.instanceMethod yX5_waysOf) := ⟨List.mem_of_getElem? (i := 1213) (by decide +kernel), by decide +kernel⟩
theorem q_1214 : k_in (.code yX5_waysOf cX5_waysOf 4 (some .int)) := ⟨List.mem_of_getElem? (i := 1214) (by decide +kernel), by decide +kernel⟩
theorem q_1215 : k_in (.methodLink RX5 60 yX5_endingWith) := ⟨List.mem_of_getElem? (i := 1215) (by decide +kernel), by decide +kernel⟩
theorem q_1217 : k_in (.instanceMethod yX5_endingWith) := ⟨List.mem_of_getElem? (i := 1217) (by decide +kernel), by decide +kernel⟩
theorem q_1218 : k_in (.code yX5_endingWith cX5_endingWith 4 (some .int)) := ⟨List.mem_of_getElem? (i := 1218) (by decide +kernel), by decide +kernel⟩
theorem q_1219 : k_in (.methodLinkNest RX11 282 yX5_all RX11) := ⟨List.mem_of_getElem? (i := 1219) (by decide +kernel), by decide +kernel⟩
theorem q_1221 : k_in (.instanceMethod yX5_all) := ⟨List.mem_of_getElem? (i := 1221) (by decide +kernel), by decide +kernel⟩
theorem q_1222 : k_in (.code yX5_all cX5_all 1 (some .int)) := ⟨List.mem_of_getElem? (i := 1222) (by decide +kernel), by decide +kernel⟩
theorem q_1223 : k_in (.methodLinkNest RX11 284 yX5_endedBy RX11) := ⟨List.mem_of_getElem? (i := 1223) (by decide +kernel), by decide +kernel⟩
theorem q_1225 : k_in (.instanceMethod yX5_endedBy) := ⟨List.mem_of_getElem? (i := 1225) (by decide +kernel), by decide +kernel⟩
theorem q_1226 : k_in (.code yX5_endedBy cX5_endedBy 4 (some .int)) := ⟨List.mem_of_getElem? (i := 1226) (by decide +kernel), by decide +kernel⟩
theorem q_1227 : k_in (.methodLink "FiddlerDebtsLaw" 139 yX11_can) := ⟨List.mem_of_getElem? (i := 1227) (by decide +kernel), by decide +kernel⟩
theorem q_1228 : k_in (.instanceMethod yX11_can) := ⟨List.mem_of_getElem? (i := 1228) (by decide +kernel), by decide +kernel⟩
theorem q_1229 : k_in (.selects RX11 yX11_can yX11_can) := ⟨List.mem_of_getElem? (i := 1229) (by decide +kernel), by decide +kernel⟩
theorem q_1230 : k_in (.code yX11_can cX11_can 4 (some .int)) := ⟨List.mem_of_getElem? (i := 1230) (by decide +kernel), by decide +kernel⟩
theorem q_1231 : k_in (.methodLink "FiddlerDebtsLaw" 143 yX11_evenings) := ⟨List.mem_of_getElem? (i := 1231) (by decide +kernel), by decide +kernel⟩
theorem q_1232 : k_in (.instanceMethod yX11_evenings) := ⟨List.mem_of_getElem? (i := 1232) (by decide +kernel), by decide +kernel⟩
theorem q_1233 : k_in (.selects RX11 yX11_evenings yX11_evenings) := ⟨List.mem_of_getElem? (i := 1233) (by decide +kernel), by decide +kernel⟩
theorem q_1234 : k_in (.code yX11_evenings cX11_evenings 3 (some .int)) := ⟨List.mem_of_getElem? (i := 1234) (by decide +kernel), by decide +kernel⟩
theorem q_1235 : k_in (.constant RX11 287 (1000000)) := ⟨List.mem_of_getElem? (i := 1235) (by decide +kernel), by decide +kernel⟩
theorem q_1236 : k_in (.methodLinkNest RX11 288 yX6_write RX11) := ⟨List.mem_of_getElem? (i := 1236) (by decide +kernel), by decide +kernel⟩
theorem q_1238 : k_in (.instanceMethod yX6_write) := ⟨List.mem_of_getElem? (i := 1238) (by decide +kernel), by decide +kernel⟩
theorem q_1239 : k_in (.code yX6_write cX6_write 7 (some .int)) := ⟨List.mem_of_getElem? (i := 1239) (by decide +kernel), by decide +kernel⟩
theorem q_1241 : k_in (.methodLink RX6 52 yX6_draw) := ⟨List.mem_of_getElem? (i := 1241) (by decide +kernel), by decide +kernel⟩
theorem q_1243 : k_in (.instanceMethod yX6_draw) := ⟨List.mem_of_getElem? (i := 1243) (by decide +kernel), by decide +kernel⟩
theorem q_1244 : k_in (.code yX6_draw cX6_draw 2 (some .int)) := ⟨List.mem_of_getElem? (i := 1244) (by decide +kernel), by decide +kernel⟩
theorem q_1245 : k_in (.constant RX6 63 (1000003)) := ⟨List.mem_of_getElem? (i := 1245) (by decide +kernel), by decide +kernel⟩
theorem q_1246 : k_in (.methodLink RX6 56 yX6_takesOver) := ⟨List.mem_of_getElem? (i := 1246) (by decide +kernel), by decide +kernel⟩
theorem q_1248 : k_in (.instanceMethod yX6_takesOver) := ⟨List.mem_of_getElem? (i := 1248) (by decide +kernel), by decide +kernel⟩
theorem q_1249 : k_in (.code yX6_takesOver cX6_takesOver 4 (some .boolean)) := ⟨List.mem_of_getElem? (i := 1249) (by decide +kernel), by decide +kernel⟩
theorem q_1250 : k_in (.methodLink RX6 60 yX6_addUp) := ⟨List.mem_of_getElem? (i := 1250) (by decide +kernel), by decide +kernel⟩
theorem q_1252 : k_in (.instanceMethod yX6_addUp) := ⟨List.mem_of_getElem? (i := 1252) (by decide +kernel), by decide +kernel⟩
theorem q_1253 : k_in (.code yX6_addUp cX6_addUp 3 none) := ⟨List.mem_of_getElem? (i := 1253) (by decide +kernel), by decide +kernel⟩
theorem q_1254 : k_in (.methodLink RX6 70 yJ7_fill_53178) := ⟨List.mem_of_getElem? (i := 1254) (by decide +kernel), by decide +kernel⟩
theorem q_1255 : k_in (.methodLinkNest RX6 76 yX11_isDancer RX11) := ⟨List.mem_of_getElem? (i := 1255) (by decide +kernel), by decide +kernel⟩
theorem q_1256 : k_in (.methodLink "FiddlerDebtsLaw" 147 yX11_owed) := ⟨List.mem_of_getElem? (i := 1256) (by decide +kernel), by decide +kernel⟩
theorem q_1257 : k_in (.instanceMethod yX11_owed) := ⟨List.mem_of_getElem? (i := 1257) (by decide +kernel), by decide +kernel⟩
theorem q_1258 : k_in (.selects RX11 yX11_owed yX11_owed) := ⟨List.mem_of_getElem? (i := 1258) (by decide +kernel), by decide +kernel⟩
theorem q_1259 : k_in (.code yX11_owed cX11_owed 3 (some .int)) := ⟨List.mem_of_getElem? (i := 1259) (by decide +kernel), by decide +kernel⟩
theorem q_1260 : k_in (.methodLink RX11 300 yJ6_bitCount_0f7a4) := ⟨List.mem_of_getElem? (i := 1260) (by decide +kernel), by decide +kernel⟩
theorem q_1261 : k_in (.methodLink "FiddlerDebtsLaw" 151 yX11_image) := ⟨List.mem_of_getElem? (i := 1261) (by decide +kernel), by decide +kernel⟩
theorem q_1262 : k_in (.instanceMethod yX11_image) := ⟨List.mem_of_getElem? (i := 1262) (by decide +kernel), by decide +kernel⟩
theorem q_1263 : k_in (.selects RX11 yX11_image yX11_image) := ⟨List.mem_of_getElem? (i := 1263) (by decide +kernel), by decide +kernel⟩
theorem q_1264 : k_in (.code yX11_image cX11_image 3 (some .int)) := ⟨List.mem_of_getElem? (i := 1264) (by decide +kernel), by decide +kernel⟩
theorem q_1265 : k_in (.methodLinkNest RX11 305 yX10_become RX11) := ⟨List.mem_of_getElem? (i := 1265) (by decide +kernel), by decide +kernel⟩
theorem q_1267 : k_in (.instanceMethod yX10_become) := ⟨List.mem_of_getElem? (i := 1267) (by decide +kernel), by decide +kernel⟩
theorem q_1268 : k_in (.code yX10_become cX10_become 3 none) := ⟨List.mem_of_getElem? (i := 1268) (by decide +kernel), by decide +kernel⟩
theorem q_1270 : k_in (.methodLinkNest RX10 73 yX1_become RX11) := ⟨List.mem_of_getElem? (i := 1270) (by decide +kernel), by decide +kernel⟩
theorem q_1272 : k_in (.instanceMethod yX1_become) := ⟨List.mem_of_getElem? (i := 1272) (by decide +kernel), by decide +kernel⟩
theorem q_1273 : k_in (.code yX1_become cX1_become 2 none) := ⟨List.mem_of_getElem? (i := 1273) (by decide +kernel), by decide +kernel⟩
theorem q_1275 : k_in (.methodLink "FiddlerDebtsLaw" 155 yX11_back) := ⟨List.mem_of_getElem? (i := 1275) (by decide +kernel), by decide +kernel⟩
theorem q_1276 : k_in (.instanceMethod yX11_back) := ⟨List.mem_of_getElem? (i := 1276) (by decide +kernel), by decide +kernel⟩
theorem q_1277 : k_in (.selects RX11 yX11_back yX11_back) := ⟨List.mem_of_getElem? (i := 1277) (by decide +kernel), by decide +kernel⟩
theorem q_1278 : k_in (.code yX11_back cX11_back 3 (some .int)) := ⟨List.mem_of_getElem? (i := 1278) (by decide +kernel), by decide +kernel⟩
theorem q_1279 : k_in (.methodLink "FiddlerDebtsLaw" 159 yX11_count) := ⟨List.mem_of_getElem? (i := 1279) (by decide +kernel), by decide +kernel⟩
theorem q_1280 : k_in (.instanceMethod yX11_count) := ⟨List.mem_of_getElem? (i := 1280) (by decide +kernel), by decide +kernel⟩
theorem q_1281 : k_in (.selects RX11 yX11_count yX11_count) := ⟨List.mem_of_getElem? (i := 1281) (by decide +kernel), by decide +kernel⟩
theorem q_1282 : k_in (.code yX11_count cX11_count 2 (some .int)) := ⟨List.mem_of_getElem? (i := 1282) (by decide +kernel), by decide +kernel⟩
theorem q_1283 : k_in (.methodLinkNest RX11 312 yX1_allHalves RX11) := ⟨List.mem_of_getElem? (i := 1283) (by decide +kernel), by decide +kernel⟩
theorem q_1285 : k_in (.instanceMethod yX1_allHalves) := ⟨List.mem_of_getElem? (i := 1285) (by decide +kernel), by decide +kernel⟩
theorem q_1286 : k_in (.code yX1_allHalves cX1_allHalves 3 (some .int)) := ⟨List.mem_of_getElem? (i := 1286) (by decide +kernel), by decide +kernel⟩
theorem q_1287 : k_in (.methodLink RX11 315 yX11_refused) := ⟨List.mem_of_getElem? (i := 1287) (by decide +kernel), by decide +kernel⟩
theorem q_1289 : k_in (.instanceMethod yX11_refused) := ⟨List.mem_of_getElem? (i := 1289) (by decide +kernel), by decide +kernel⟩
theorem q_1290 : k_in (.code yX11_refused cX11_refused 2 (some .int)) := ⟨List.mem_of_getElem? (i := 1290) (by decide +kernel), by decide +kernel⟩
theorem q_1291 : k_in (.methodLink "FiddlerDebtsLaw" 163 yX11_status) := ⟨List.mem_of_getElem? (i := 1291) (by decide +kernel), by decide +kernel⟩
theorem q_1292 : k_in (.instanceMethod yX11_status) := ⟨List.mem_of_getElem? (i := 1292) (by decide +kernel), by decide +kernel⟩
theorem q_1293 : k_in (.selects RX11 yX11_status yX11_status) := ⟨List.mem_of_getElem? (i := 1293) (by decide +kernel), by decide +kernel⟩
theorem q_1294 : k_in (.code yX11_status cX11_status 1 (some .int)) := ⟨List.mem_of_getElem? (i := 1294) (by decide +kernel), by decide +kernel⟩
theorem q_1295 : k_in (.classLink "FiddlerDebtsLaw" 10 RX12) := ⟨List.mem_of_getElem? (i := 1295) (by decide +kernel), by decide +kernel⟩
theorem q_1296 : k_in (.instantiable RX12 55) := ⟨List.mem_of_getElem? (i := 1296) (by decide +kernel), by decide +kernel⟩
theorem q_1297 : k_in (.methodLink "FiddlerDebtsLaw" 12 yX12_init) := ⟨List.mem_of_getElem? (i := 1297) (by decide +kernel), by decide +kernel⟩
theorem q_1298 : k_in (.instanceMethod yX12_init) := ⟨List.mem_of_getElem? (i := 1298) (by decide +kernel), by decide +kernel⟩
theorem q_1299 : k_in (.code yX12_init cX12_init 1 none) := ⟨List.mem_of_getElem? (i := 1299) (by decide +kernel), by decide +kernel⟩
theorem q_1301 : k_in (.constantLong RX12 45 (515250)) := ⟨List.mem_of_getElem? (i := 1301) (by decide +kernel), by decide +kernel⟩
theorem q_1302 : k_in (.constantLong RX12 47 (122578850290)) := ⟨List.mem_of_getElem? (i := 1302) (by decide +kernel), by decide +kernel⟩
theorem q_1303 : k_in (.constantLong RX12 49 (677317)) := ⟨List.mem_of_getElem? (i := 1303) (by decide +kernel), by decide +kernel⟩
theorem q_1304 : k_in (.constantLong RX12 51 (408362632)) := ⟨List.mem_of_getElem? (i := 1304) (by decide +kernel), by decide +kernel⟩
theorem q_1305 : k_in (.constantLong RX12 53 (269899955)) := ⟨List.mem_of_getElem? (i := 1305) (by decide +kernel), by decide +kernel⟩
theorem q_1306 : k_in (.constantLong RX12 55 (1253)) := ⟨List.mem_of_getElem? (i := 1306) (by decide +kernel), by decide +kernel⟩
theorem q_1307 : k_in (.constantLong RX12 57 (4360851)) := ⟨List.mem_of_getElem? (i := 1307) (by decide +kernel), by decide +kernel⟩
theorem q_1308 : k_in (.constantLong RX12 63 (24627848)) := ⟨List.mem_of_getElem? (i := 1308) (by decide +kernel), by decide +kernel⟩
theorem q_1309 : k_in (.constantLong RX12 65 (67155)) := ⟨List.mem_of_getElem? (i := 1309) (by decide +kernel), by decide +kernel⟩
theorem q_1310 : k_in (.constantLong RX12 67 (23569555)) := ⟨List.mem_of_getElem? (i := 1310) (by decide +kernel), by decide +kernel⟩
theorem q_1311 : k_in (.fieldLink RX12 123 RX12 "thrown" "I") := ⟨List.mem_of_getElem? (i := 1311) (by decide +kernel), by decide +kernel⟩
theorem q_1312 : k_in (.fieldLink RX12 126 RX12 "status" "I") := ⟨List.mem_of_getElem? (i := 1312) (by decide +kernel), by decide +kernel⟩
theorem q_1313 : k_in (.fieldLink RX12 7 RX12 "refusals" "[I") := ⟨List.mem_of_getElem? (i := 1313) (by decide +kernel), by decide +kernel⟩
theorem q_1314 : k_in (.fieldLink RX12 13 RX12 "row" "[I") := ⟨List.mem_of_getElem? (i := 1314) (by decide +kernel), by decide +kernel⟩
theorem q_1315 : k_in (.fieldLink RX12 16 RX12 "images" "[I") := ⟨List.mem_of_getElem? (i := 1315) (by decide +kernel), by decide +kernel⟩
theorem q_1316 : k_in (.fieldLink RX12 19 RX12 "isKept" "[Z") := ⟨List.mem_of_getElem? (i := 1316) (by decide +kernel), by decide +kernel⟩
theorem q_1317 : k_in (.fieldLink RX12 183 RX12 "sung" "I") := ⟨List.mem_of_getElem? (i := 1317) (by decide +kernel), by decide +kernel⟩
theorem q_1318 : k_in (.fieldLink RX12 23 RX12 "tape" "[I") := ⟨List.mem_of_getElem? (i := 1318) (by decide +kernel), by decide +kernel⟩
theorem q_1319 : k_in (.fieldLink RX12 180 RX12 "taped" "I") := ⟨List.mem_of_getElem? (i := 1319) (by decide +kernel), by decide +kernel⟩
theorem q_1320 : k_in (.fieldLink RX12 200 RX12 "from" "I") := ⟨List.mem_of_getElem? (i := 1320) (by decide +kernel), by decide +kernel⟩
theorem q_1321 : k_in (.fieldLink RX12 190 RX12 "to" "I") := ⟨List.mem_of_getElem? (i := 1321) (by decide +kernel), by decide +kernel⟩
theorem q_1322 : k_in (.fieldLink RX12 213 RX12 "sort" "I") := ⟨List.mem_of_getElem? (i := 1322) (by decide +kernel), by decide +kernel⟩
theorem q_1323 : k_in (.fieldLink RX12 203 RX12 "worth" "J") := ⟨List.mem_of_getElem? (i := 1323) (by decide +kernel), by decide +kernel⟩
theorem q_1324 : k_in (.fieldLink RX12 26 RX12 "fault" "I") := ⟨List.mem_of_getElem? (i := 1324) (by decide +kernel), by decide +kernel⟩
theorem q_1325 : k_in (.fieldLink RX12 193 RX12 "bad" "Z") := ⟨List.mem_of_getElem? (i := 1325) (by decide +kernel), by decide +kernel⟩
theorem q_1326 : k_in (.fieldLink RX12 310 RX12 "nClauses" "I") := ⟨List.mem_of_getElem? (i := 1326) (by decide +kernel), by decide +kernel⟩
theorem q_1327 : k_in (.fieldLink RX12 30 RX12 "nClause" "[I") := ⟨List.mem_of_getElem? (i := 1327) (by decide +kernel), by decide +kernel⟩
theorem q_1328 : k_in (.fieldLink RX12 232 RX12 "nCode" "I") := ⟨List.mem_of_getElem? (i := 1328) (by decide +kernel), by decide +kernel⟩
theorem q_1329 : k_in (.fieldLink RX12 33 RX12 "nOp" "[I") := ⟨List.mem_of_getElem? (i := 1329) (by decide +kernel), by decide +kernel⟩
theorem q_1330 : k_in (.fieldLink RX12 36 RX12 "nArg" "[I") := ⟨List.mem_of_getElem? (i := 1330) (by decide +kernel), by decide +kernel⟩
theorem q_1331 : k_in (.fieldLink RX12 263 RX12 "nLeaves" "I") := ⟨List.mem_of_getElem? (i := 1331) (by decide +kernel), by decide +kernel⟩
theorem q_1332 : k_in (.fieldLink RX12 39 RX12 "pile" "[I") := ⟨List.mem_of_getElem? (i := 1332) (by decide +kernel), by decide +kernel⟩
theorem q_1333 : k_in (.fieldLink RX12 42 RX12 "pileAt" "[I") := ⟨List.mem_of_getElem? (i := 1333) (by decide +kernel), by decide +kernel⟩
theorem q_1334 : k_in (.fieldLink RX12 235 RX12 "piled" "I") := ⟨List.mem_of_getElem? (i := 1334) (by decide +kernel), by decide +kernel⟩
theorem q_1335 : k_in (.fieldLink RX12 257 RX12 "opened" "I") := ⟨List.mem_of_getElem? (i := 1335) (by decide +kernel), by decide +kernel⟩
theorem q_1336 : k_in (.fieldLink RX12 59 RX12 "words" "[J") := ⟨List.mem_of_getElem? (i := 1336) (by decide +kernel), by decide +kernel⟩
theorem q_1337 : k_in (.fieldLink RX12 69 RX12 "headWords" "[J") := ⟨List.mem_of_getElem? (i := 1337) (by decide +kernel), by decide +kernel⟩
theorem q_1338 : k_in (.fieldLink RX12 327 RX12 "law" "I") := ⟨List.mem_of_getElem? (i := 1338) (by decide +kernel), by decide +kernel⟩
theorem q_1339 : k_in (.fieldLink RX12 72 RX12 "set" "[J") := ⟨List.mem_of_getElem? (i := 1339) (by decide +kernel), by decide +kernel⟩
theorem q_1340 : k_in (.fieldLink RX12 75 RX12 "rest" "[J") := ⟨List.mem_of_getElem? (i := 1340) (by decide +kernel), by decide +kernel⟩
theorem q_1341 : k_in (.fieldLink RX12 324 RX12 "broken" "Z") := ⟨List.mem_of_getElem? (i := 1341) (by decide +kernel), by decide +kernel⟩
theorem q_1342 : k_in (.fieldLink RX12 338 RX12 "value" "J") := ⟨List.mem_of_getElem? (i := 1342) (by decide +kernel), by decide +kernel⟩
theorem q_1343 : k_in (.fieldLink RX12 344 RX12 "sum" "J") := ⟨List.mem_of_getElem? (i := 1343) (by decide +kernel), by decide +kernel⟩
theorem q_1344 : k_in (.fieldLink RX12 78 RX12 "worths" "[I") := ⟨List.mem_of_getElem? (i := 1344) (by decide +kernel), by decide +kernel⟩
theorem q_1345 : k_in (.fieldLink RX12 81 RX12 "voids" "[Z") := ⟨List.mem_of_getElem? (i := 1345) (by decide +kernel), by decide +kernel⟩
theorem q_1346 : k_in (.fieldLink RX12 84 RX12 "barred" "[Z") := ⟨List.mem_of_getElem? (i := 1346) (by decide +kernel), by decide +kernel⟩
theorem q_1347 : k_in (.fieldLink RX12 87 RX12 "sums" "[I") := ⟨List.mem_of_getElem? (i := 1347) (by decide +kernel), by decide +kernel⟩
theorem q_1348 : k_in (.fieldLink RX12 90 RX12 "groups" "[I") := ⟨List.mem_of_getElem? (i := 1348) (by decide +kernel), by decide +kernel⟩
theorem q_1349 : k_in (.fieldLink RX12 93 RX12 "owesTo" "[I") := ⟨List.mem_of_getElem? (i := 1349) (by decide +kernel), by decide +kernel⟩
theorem q_1350 : k_in (.fieldLink RX12 96 RX12 "trail" "[I") := ⟨List.mem_of_getElem? (i := 1350) (by decide +kernel), by decide +kernel⟩
theorem q_1351 : k_in (.fieldLink RX12 99 RX12 "ring" "[I") := ⟨List.mem_of_getElem? (i := 1351) (by decide +kernel), by decide +kernel⟩
theorem q_1352 : k_in (.fieldLink RX12 378 RX12 "ringSize" "I") := ⟨List.mem_of_getElem? (i := 1352) (by decide +kernel), by decide +kernel⟩
theorem q_1353 : k_in (.fieldLink RX12 381 RX12 "ringBits" "I") := ⟨List.mem_of_getElem? (i := 1353) (by decide +kernel), by decide +kernel⟩
theorem q_1354 : k_in (.fieldLink RX12 102 RX12 "mosts" "[I") := ⟨List.mem_of_getElem? (i := 1354) (by decide +kernel), by decide +kernel⟩
theorem q_1355 : k_in (.fieldLink RX12 105 RX12 "played" "[I") := ⟨List.mem_of_getElem? (i := 1355) (by decide +kernel), by decide +kernel⟩
theorem q_1356 : k_in (.fieldLink RX12 401 RX12 "bestWorth" "I") := ⟨List.mem_of_getElem? (i := 1356) (by decide +kernel), by decide +kernel⟩
theorem q_1357 : k_in (.fieldLink RX12 404 RX12 "bestOwers" "I") := ⟨List.mem_of_getElem? (i := 1357) (by decide +kernel), by decide +kernel⟩
theorem q_1358 : k_in (.fieldLink RX12 411 RX12 "bestMinutes" "I") := ⟨List.mem_of_getElem? (i := 1358) (by decide +kernel), by decide +kernel⟩
theorem q_1359 : k_in (.fieldLink RX12 108 RX12 "lefts" "[I") := ⟨List.mem_of_getElem? (i := 1359) (by decide +kernel), by decide +kernel⟩
theorem q_1360 : k_in (.fieldLink RX12 111 RX12 "before" "[I") := ⟨List.mem_of_getElem? (i := 1360) (by decide +kernel), by decide +kernel⟩
theorem q_1361 : k_in (.fieldLink RX12 114 RX12 "ways" "[I") := ⟨List.mem_of_getElem? (i := 1361) (by decide +kernel), by decide +kernel⟩
theorem q_1362 : k_in (.fieldLink RX12 117 RX12 "owers" "[I") := ⟨List.mem_of_getElem? (i := 1362) (by decide +kernel), by decide +kernel⟩
theorem q_1363 : k_in (.fieldLink RX12 120 RX12 "owed" "[I") := ⟨List.mem_of_getElem? (i := 1363) (by decide +kernel), by decide +kernel⟩
theorem q_1364 : k_in (.fieldLink RX12 451 RX12 "isEvening" "Z") := ⟨List.mem_of_getElem? (i := 1364) (by decide +kernel), by decide +kernel⟩
theorem q_1365 : k_in (.fieldLink RX12 439 RX12 "state" "J") := ⟨List.mem_of_getElem? (i := 1365) (by decide +kernel), by decide +kernel⟩
theorem q_1477 : k_in (.methodLink "FiddlerDebtsLaw" 154 yX12_image) := ⟨List.mem_of_getElem? (i := 1477) (by decide +kernel), by decide +kernel⟩
theorem q_1478 : k_in (.instanceMethod yX12_image) := ⟨List.mem_of_getElem? (i := 1478) (by decide +kernel), by decide +kernel⟩
theorem q_1479 : k_in (.selects RX12 yX12_image yX12_image) := ⟨List.mem_of_getElem? (i := 1479) (by decide +kernel), by decide +kernel⟩
theorem q_1480 : k_in (.code yX12_image cX12_image 3 (some .int)) := ⟨List.mem_of_getElem? (i := 1480) (by decide +kernel), by decide +kernel⟩
theorem q_1481 : k_in (.methodLink RX12 129 yX12_in) := ⟨List.mem_of_getElem? (i := 1481) (by decide +kernel), by decide +kernel⟩
theorem q_1482 : k_in (.static yX12_in) := ⟨List.mem_of_getElem? (i := 1482) (by decide +kernel), by decide +kernel⟩
theorem q_1483 : k_in (.code yX12_in cX12_in 6 (some .boolean)) := ⟨List.mem_of_getElem? (i := 1483) (by decide +kernel), by decide +kernel⟩
theorem q_1484 : k_in (.methodLink RX12 133 yX12_tell) := ⟨List.mem_of_getElem? (i := 1484) (by decide +kernel), by decide +kernel⟩
theorem q_1486 : k_in (.instanceMethod yX12_tell) := ⟨List.mem_of_getElem? (i := 1486) (by decide +kernel), by decide +kernel⟩
theorem q_1487 : k_in (.code yX12_tell cX12_tell 2 (some .int)) := ⟨List.mem_of_getElem? (i := 1487) (by decide +kernel), by decide +kernel⟩
theorem q_1488 : k_in (.methodLink "FiddlerDebtsLaw" 158 yX12_back) := ⟨List.mem_of_getElem? (i := 1488) (by decide +kernel), by decide +kernel⟩
theorem q_1489 : k_in (.instanceMethod yX12_back) := ⟨List.mem_of_getElem? (i := 1489) (by decide +kernel), by decide +kernel⟩
theorem q_1490 : k_in (.selects RX12 yX12_back yX12_back) := ⟨List.mem_of_getElem? (i := 1490) (by decide +kernel), by decide +kernel⟩
theorem q_1491 : k_in (.code yX12_back cX12_back 3 (some .int)) := ⟨List.mem_of_getElem? (i := 1491) (by decide +kernel), by decide +kernel⟩
theorem q_1492 : k_in (.methodLink "FiddlerDebtsLaw" 17 yX12_tune) := ⟨List.mem_of_getElem? (i := 1492) (by decide +kernel), by decide +kernel⟩
theorem q_1493 : k_in (.instanceMethod yX12_tune) := ⟨List.mem_of_getElem? (i := 1493) (by decide +kernel), by decide +kernel⟩
theorem q_1494 : k_in (.selects RX12 yX12_tune yX12_tune) := ⟨List.mem_of_getElem? (i := 1494) (by decide +kernel), by decide +kernel⟩
theorem q_1495 : k_in (.code yX12_tune cX12_tune 3 (some .int)) := ⟨List.mem_of_getElem? (i := 1495) (by decide +kernel), by decide +kernel⟩
theorem q_1496 : k_in (.constantLong RX12 147 (30)) := ⟨List.mem_of_getElem? (i := 1496) (by decide +kernel), by decide +kernel⟩
theorem q_1497 : k_in (.methodLink "FiddlerDebtsLaw" 21 yX12_length) := ⟨List.mem_of_getElem? (i := 1497) (by decide +kernel), by decide +kernel⟩
theorem q_1498 : k_in (.instanceMethod yX12_length) := ⟨List.mem_of_getElem? (i := 1498) (by decide +kernel), by decide +kernel⟩
theorem q_1499 : k_in (.selects RX12 yX12_length yX12_length) := ⟨List.mem_of_getElem? (i := 1499) (by decide +kernel), by decide +kernel⟩
theorem q_1500 : k_in (.code yX12_length cX12_length 2 (some .int)) := ⟨List.mem_of_getElem? (i := 1500) (by decide +kernel), by decide +kernel⟩
theorem q_1501 : k_in (.methodLink RX12 149 yX12_isTune) := ⟨List.mem_of_getElem? (i := 1501) (by decide +kernel), by decide +kernel⟩
theorem q_1503 : k_in (.instanceMethod yX12_isTune) := ⟨List.mem_of_getElem? (i := 1503) (by decide +kernel), by decide +kernel⟩
theorem q_1504 : k_in (.code yX12_isTune cX12_isTune 2 (some .boolean)) := ⟨List.mem_of_getElem? (i := 1504) (by decide +kernel), by decide +kernel⟩
theorem q_1505 : k_in (.methodLink "FiddlerDebtsLaw" 26 yX12_owe) := ⟨List.mem_of_getElem? (i := 1505) (by decide +kernel), by decide +kernel⟩
theorem q_1506 : k_in (.instanceMethod yX12_owe) := ⟨List.mem_of_getElem? (i := 1506) (by decide +kernel), by decide +kernel⟩
theorem q_1507 : k_in (.selects RX12 yX12_owe yX12_owe) := ⟨List.mem_of_getElem? (i := 1507) (by decide +kernel), by decide +kernel⟩
theorem q_1508 : k_in (.code yX12_owe cX12_owe 5 (some .int)) := ⟨List.mem_of_getElem? (i := 1508) (by decide +kernel), by decide +kernel⟩
theorem q_1509 : k_in (.methodLink RX12 158 yX12_canOwe) := ⟨List.mem_of_getElem? (i := 1509) (by decide +kernel), by decide +kernel⟩
theorem q_1510 : k_in (.static yX12_canOwe) := ⟨List.mem_of_getElem? (i := 1510) (by decide +kernel), by decide +kernel⟩
theorem q_1511 : k_in (.code yX12_canOwe cX12_canOwe 3 (some .boolean)) := ⟨List.mem_of_getElem? (i := 1511) (by decide +kernel), by decide +kernel⟩
theorem q_1512 : k_in (.methodLink RX12 153 yX12_isDancer) := ⟨List.mem_of_getElem? (i := 1512) (by decide +kernel), by decide +kernel⟩
theorem q_1513 : k_in (.static yX12_isDancer) := ⟨List.mem_of_getElem? (i := 1513) (by decide +kernel), by decide +kernel⟩
theorem q_1514 : k_in (.code yX12_isDancer cX12_isDancer 1 (some .boolean)) := ⟨List.mem_of_getElem? (i := 1514) (by decide +kernel), by decide +kernel⟩
theorem q_1515 : k_in (.constantLong RX12 137 (7)) := ⟨List.mem_of_getElem? (i := 1515) (by decide +kernel), by decide +kernel⟩
theorem q_1516 : k_in (.constantLong RX12 156 (9)) := ⟨List.mem_of_getElem? (i := 1516) (by decide +kernel), by decide +kernel⟩
theorem q_1517 : k_in (.methodLink RX12 139 yX12_debts) := ⟨List.mem_of_getElem? (i := 1517) (by decide +kernel), by decide +kernel⟩
theorem q_1519 : k_in (.instanceMethod yX12_debts) := ⟨List.mem_of_getElem? (i := 1519) (by decide +kernel), by decide +kernel⟩
theorem q_1520 : k_in (.code yX12_debts cX12_debts 1 (some .int)) := ⟨List.mem_of_getElem? (i := 1520) (by decide +kernel), by decide +kernel⟩
theorem q_1521 : k_in (.methodLink RX12 162 yX12_addDebt) := ⟨List.mem_of_getElem? (i := 1521) (by decide +kernel), by decide +kernel⟩
theorem q_1523 : k_in (.instanceMethod yX12_addDebt) := ⟨List.mem_of_getElem? (i := 1523) (by decide +kernel), by decide +kernel⟩
theorem q_1524 : k_in (.code yX12_addDebt cX12_addDebt 6 none) := ⟨List.mem_of_getElem? (i := 1524) (by decide +kernel), by decide +kernel⟩
theorem q_1525 : k_in (.methodLink "FiddlerDebtsLaw" 31 yX12_of) := ⟨List.mem_of_getElem? (i := 1525) (by decide +kernel), by decide +kernel⟩
theorem q_1526 : k_in (.instanceMethod yX12_of) := ⟨List.mem_of_getElem? (i := 1526) (by decide +kernel), by decide +kernel⟩
theorem q_1527 : k_in (.selects RX12 yX12_of yX12_of) := ⟨List.mem_of_getElem? (i := 1527) (by decide +kernel), by decide +kernel⟩
theorem q_1528 : k_in (.code yX12_of cX12_of 3 (some .int)) := ⟨List.mem_of_getElem? (i := 1528) (by decide +kernel), by decide +kernel⟩
theorem q_1529 : k_in (.methodLink RX12 166 yX12_isDebt) := ⟨List.mem_of_getElem? (i := 1529) (by decide +kernel), by decide +kernel⟩
theorem q_1531 : k_in (.instanceMethod yX12_isDebt) := ⟨List.mem_of_getElem? (i := 1531) (by decide +kernel), by decide +kernel⟩
theorem q_1532 : k_in (.code yX12_isDebt cX12_isDebt 2 (some .boolean)) := ⟨List.mem_of_getElem? (i := 1532) (by decide +kernel), by decide +kernel⟩
theorem q_1533 : k_in (.methodLink RX12 143 yX12_ofDebt) := ⟨List.mem_of_getElem? (i := 1533) (by decide +kernel), by decide +kernel⟩
theorem q_1535 : k_in (.instanceMethod yX12_ofDebt) := ⟨List.mem_of_getElem? (i := 1535) (by decide +kernel), by decide +kernel⟩
theorem q_1536 : k_in (.code yX12_ofDebt cX12_ofDebt 3 (some .int)) := ⟨List.mem_of_getElem? (i := 1536) (by decide +kernel), by decide +kernel⟩
theorem q_1537 : k_in (.methodLink RX12 169 yX12_askAll) := ⟨List.mem_of_getElem? (i := 1537) (by decide +kernel), by decide +kernel⟩
theorem q_1539 : k_in (.instanceMethod yX12_askAll) := ⟨List.mem_of_getElem? (i := 1539) (by decide +kernel), by decide +kernel⟩
theorem q_1540 : k_in (.code yX12_askAll cX12_askAll 2 none) := ⟨List.mem_of_getElem? (i := 1540) (by decide +kernel), by decide +kernel⟩
theorem q_1541 : k_in (.methodLink RX12 347 yX12_askOne) := ⟨List.mem_of_getElem? (i := 1541) (by decide +kernel), by decide +kernel⟩
theorem q_1543 : k_in (.instanceMethod yX12_askOne) := ⟨List.mem_of_getElem? (i := 1543) (by decide +kernel), by decide +kernel⟩
theorem q_1544 : k_in (.code yX12_askOne cX12_askOne 6 none) := ⟨List.mem_of_getElem? (i := 1544) (by decide +kernel), by decide +kernel⟩
theorem q_1545 : k_in (.methodLink RX12 350 yX12_lengthOf) := ⟨List.mem_of_getElem? (i := 1545) (by decide +kernel), by decide +kernel⟩
theorem q_1547 : k_in (.instanceMethod yX12_lengthOf) := ⟨List.mem_of_getElem? (i := 1547) (by decide +kernel), by decide +kernel⟩
theorem q_1548 : k_in (.code yX12_lengthOf cX12_lengthOf 2 (some .int)) := ⟨List.mem_of_getElem? (i := 1548) (by decide +kernel), by decide +kernel⟩
theorem q_1549 : k_in (.methodLink RX12 353 yX12_isSo) := ⟨List.mem_of_getElem? (i := 1549) (by decide +kernel), by decide +kernel⟩
theorem q_1551 : k_in (.instanceMethod yX12_isSo) := ⟨List.mem_of_getElem? (i := 1551) (by decide +kernel), by decide +kernel⟩
theorem q_1552 : k_in (.code yX12_isSo cX12_isSo 2 (some .boolean)) := ⟨List.mem_of_getElem? (i := 1552) (by decide +kernel), by decide +kernel⟩
theorem q_1553 : k_in (.methodLink RX12 341 yX12_reckonAll) := ⟨List.mem_of_getElem? (i := 1553) (by decide +kernel), by decide +kernel⟩
theorem q_1555 : k_in (.instanceMethod yX12_reckonAll) := ⟨List.mem_of_getElem? (i := 1555) (by decide +kernel), by decide +kernel⟩
theorem q_1556 : k_in (.code yX12_reckonAll cX12_reckonAll 7 none) := ⟨List.mem_of_getElem? (i := 1556) (by decide +kernel), by decide +kernel⟩
theorem q_1557 : k_in (.methodLink RX12 330 yX12_reckon) := ⟨List.mem_of_getElem? (i := 1557) (by decide +kernel), by decide +kernel⟩
theorem q_1559 : k_in (.instanceMethod yX12_reckon) := ⟨List.mem_of_getElem? (i := 1559) (by decide +kernel), by decide +kernel⟩
theorem q_1560 : k_in (.code yX12_reckon cX12_reckon 6 (some .long)) := ⟨List.mem_of_getElem? (i := 1560) (by decide +kernel), by decide +kernel⟩
theorem q_1561 : k_in (.constantLong RX12 334 (-1000000000)) := ⟨List.mem_of_getElem? (i := 1561) (by decide +kernel), by decide +kernel⟩
theorem q_1562 : k_in (.constantLong RX12 336 (1000000000)) := ⟨List.mem_of_getElem? (i := 1562) (by decide +kernel), by decide +kernel⟩
theorem q_1563 : k_in (.constantLong RX12 175 (999)) := ⟨List.mem_of_getElem? (i := 1563) (by decide +kernel), by decide +kernel⟩
theorem q_1564 : k_in (.methodLink "FiddlerDebtsLaw" 35 yX12_pay) := ⟨List.mem_of_getElem? (i := 1564) (by decide +kernel), by decide +kernel⟩
theorem q_1565 : k_in (.instanceMethod yX12_pay) := ⟨List.mem_of_getElem? (i := 1565) (by decide +kernel), by decide +kernel⟩
theorem q_1566 : k_in (.selects RX12 yX12_pay yX12_pay) := ⟨List.mem_of_getElem? (i := 1566) (by decide +kernel), by decide +kernel⟩
theorem q_1567 : k_in (.code yX12_pay cX12_pay 4 (some .int)) := ⟨List.mem_of_getElem? (i := 1567) (by decide +kernel), by decide +kernel⟩
theorem q_1568 : k_in (.methodLink RX12 172 yX12_sweep) := ⟨List.mem_of_getElem? (i := 1568) (by decide +kernel), by decide +kernel⟩
theorem q_1570 : k_in (.instanceMethod yX12_sweep) := ⟨List.mem_of_getElem? (i := 1570) (by decide +kernel), by decide +kernel⟩
theorem q_1571 : k_in (.code yX12_sweep cX12_sweep 4 none) := ⟨List.mem_of_getElem? (i := 1571) (by decide +kernel), by decide +kernel⟩
theorem q_1572 : k_in (.methodLink "FiddlerDebtsLaw" 39 yX12_funeral) := ⟨List.mem_of_getElem? (i := 1572) (by decide +kernel), by decide +kernel⟩
theorem q_1573 : k_in (.instanceMethod yX12_funeral) := ⟨List.mem_of_getElem? (i := 1573) (by decide +kernel), by decide +kernel⟩
theorem q_1574 : k_in (.selects RX12 yX12_funeral yX12_funeral) := ⟨List.mem_of_getElem? (i := 1574) (by decide +kernel), by decide +kernel⟩
theorem q_1575 : k_in (.code yX12_funeral cX12_funeral 4 (some .int)) := ⟨List.mem_of_getElem? (i := 1575) (by decide +kernel), by decide +kernel⟩
theorem q_1576 : k_in (.methodLink "FiddlerDebtsLaw" 43 yX12_terms) := ⟨List.mem_of_getElem? (i := 1576) (by decide +kernel), by decide +kernel⟩
theorem q_1577 : k_in (.instanceMethod yX12_terms) := ⟨List.mem_of_getElem? (i := 1577) (by decide +kernel), by decide +kernel⟩
theorem q_1578 : k_in (.selects RX12 yX12_terms yX12_terms) := ⟨List.mem_of_getElem? (i := 1578) (by decide +kernel), by decide +kernel⟩
theorem q_1579 : k_in (.code yX12_terms cX12_terms 3 (some .int)) := ⟨List.mem_of_getElem? (i := 1579) (by decide +kernel), by decide +kernel⟩
theorem q_1580 : k_in (.methodLink RX12 177 yX12_change) := ⟨List.mem_of_getElem? (i := 1580) (by decide +kernel), by decide +kernel⟩
theorem q_1582 : k_in (.instanceMethod yX12_change) := ⟨List.mem_of_getElem? (i := 1582) (by decide +kernel), by decide +kernel⟩
theorem q_1583 : k_in (.code yX12_change cX12_change 4 (some .int)) := ⟨List.mem_of_getElem? (i := 1583) (by decide +kernel), by decide +kernel⟩
theorem q_1584 : k_in (.methodLink "FiddlerDebtsLaw" 57 yX12_row) := ⟨List.mem_of_getElem? (i := 1584) (by decide +kernel), by decide +kernel⟩
theorem q_1585 : k_in (.instanceMethod yX12_row) := ⟨List.mem_of_getElem? (i := 1585) (by decide +kernel), by decide +kernel⟩
theorem q_1586 : k_in (.selects RX12 yX12_row yX12_row) := ⟨List.mem_of_getElem? (i := 1586) (by decide +kernel), by decide +kernel⟩
theorem q_1587 : k_in (.code yX12_row cX12_row 5 (some .int)) := ⟨List.mem_of_getElem? (i := 1587) (by decide +kernel), by decide +kernel⟩
theorem q_1588 : k_in (.methodLink "FiddlerDebtsLaw" 61 yX12_sung) := ⟨List.mem_of_getElem? (i := 1588) (by decide +kernel), by decide +kernel⟩
theorem q_1589 : k_in (.instanceMethod yX12_sung) := ⟨List.mem_of_getElem? (i := 1589) (by decide +kernel), by decide +kernel⟩
theorem q_1590 : k_in (.selects RX12 yX12_sung yX12_sung) := ⟨List.mem_of_getElem? (i := 1590) (by decide +kernel), by decide +kernel⟩
theorem q_1591 : k_in (.code yX12_sung cX12_sung 1 (some .int)) := ⟨List.mem_of_getElem? (i := 1591) (by decide +kernel), by decide +kernel⟩
theorem q_1592 : k_in (.methodLink "FiddlerDebtsLaw" 48 yX12_feed) := ⟨List.mem_of_getElem? (i := 1592) (by decide +kernel), by decide +kernel⟩
theorem q_1593 : k_in (.instanceMethod yX12_feed) := ⟨List.mem_of_getElem? (i := 1593) (by decide +kernel), by decide +kernel⟩
theorem q_1594 : k_in (.selects RX12 yX12_feed yX12_feed) := ⟨List.mem_of_getElem? (i := 1594) (by decide +kernel), by decide +kernel⟩
theorem q_1595 : k_in (.code yX12_feed cX12_feed 6 (some .int)) := ⟨List.mem_of_getElem? (i := 1595) (by decide +kernel), by decide +kernel⟩
theorem q_1596 : k_in (.methodLink RX12 186 yX12_four) := ⟨List.mem_of_getElem? (i := 1596) (by decide +kernel), by decide +kernel⟩
theorem q_1598 : k_in (.instanceMethod yX12_four) := ⟨List.mem_of_getElem? (i := 1598) (by decide +kernel), by decide +kernel⟩
theorem q_1599 : k_in (.code yX12_four cX12_four 3 none) := ⟨List.mem_of_getElem? (i := 1599) (by decide +kernel), by decide +kernel⟩
theorem q_1600 : k_in (.methodLink "FiddlerDebtsLaw" 52 yX12_end) := ⟨List.mem_of_getElem? (i := 1600) (by decide +kernel), by decide +kernel⟩
theorem q_1601 : k_in (.instanceMethod yX12_end) := ⟨List.mem_of_getElem? (i := 1601) (by decide +kernel), by decide +kernel⟩
theorem q_1602 : k_in (.selects RX12 yX12_end yX12_end) := ⟨List.mem_of_getElem? (i := 1602) (by decide +kernel), by decide +kernel⟩
theorem q_1603 : k_in (.code yX12_end cX12_end 2 (some .int)) := ⟨List.mem_of_getElem? (i := 1603) (by decide +kernel), by decide +kernel⟩
theorem q_1604 : k_in (.methodLink "FiddlerDebtsLaw" 69 yX12_fault) := ⟨List.mem_of_getElem? (i := 1604) (by decide +kernel), by decide +kernel⟩
theorem q_1605 : k_in (.instanceMethod yX12_fault) := ⟨List.mem_of_getElem? (i := 1605) (by decide +kernel), by decide +kernel⟩
theorem q_1606 : k_in (.selects RX12 yX12_fault yX12_fault) := ⟨List.mem_of_getElem? (i := 1606) (by decide +kernel), by decide +kernel⟩
theorem q_1607 : k_in (.code yX12_fault cX12_fault 1 (some .int)) := ⟨List.mem_of_getElem? (i := 1607) (by decide +kernel), by decide +kernel⟩
theorem q_1608 : k_in (.methodLink "FiddlerDebtsLaw" 65 yX12_law) := ⟨List.mem_of_getElem? (i := 1608) (by decide +kernel), by decide +kernel⟩
theorem q_1609 : k_in (.instanceMethod yX12_law) := ⟨List.mem_of_getElem? (i := 1609) (by decide +kernel), by decide +kernel⟩
theorem q_1610 : k_in (.selects RX12 yX12_law yX12_law) := ⟨List.mem_of_getElem? (i := 1610) (by decide +kernel), by decide +kernel⟩
theorem q_1611 : k_in (.code yX12_law cX12_law 3 (some .int)) := ⟨List.mem_of_getElem? (i := 1611) (by decide +kernel), by decide +kernel⟩
theorem q_1612 : k_in (.methodLink RX12 318 yX12_begin) := ⟨List.mem_of_getElem? (i := 1612) (by decide +kernel), by decide +kernel⟩
theorem q_1614 : k_in (.instanceMethod yX12_begin) := ⟨List.mem_of_getElem? (i := 1614) (by decide +kernel), by decide +kernel⟩
theorem q_1615 : k_in (.code yX12_begin cX12_begin 1 none) := ⟨List.mem_of_getElem? (i := 1615) (by decide +kernel), by decide +kernel⟩
theorem q_1616 : k_in (.methodLink RX12 197 yX12_next) := ⟨List.mem_of_getElem? (i := 1616) (by decide +kernel), by decide +kernel⟩
theorem q_1618 : k_in (.instanceMethod yX12_next) := ⟨List.mem_of_getElem? (i := 1618) (by decide +kernel), by decide +kernel⟩
theorem q_1619 : k_in (.code yX12_next cX12_next 1 none) := ⟨List.mem_of_getElem? (i := 1619) (by decide +kernel), by decide +kernel⟩
theorem q_1620 : k_in (.methodLink RX12 207 yX12_isSmall) := ⟨List.mem_of_getElem? (i := 1620) (by decide +kernel), by decide +kernel⟩
theorem q_1621 : k_in (.static yX12_isSmall) := ⟨List.mem_of_getElem? (i := 1621) (by decide +kernel), by decide +kernel⟩
theorem q_1622 : k_in (.code yX12_isSmall cX12_isSmall 1 (some .boolean)) := ⟨List.mem_of_getElem? (i := 1622) (by decide +kernel), by decide +kernel⟩
theorem q_1623 : k_in (.methodLink RX12 210 yX12_isDigit) := ⟨List.mem_of_getElem? (i := 1623) (by decide +kernel), by decide +kernel⟩
theorem q_1624 : k_in (.static yX12_isDigit) := ⟨List.mem_of_getElem? (i := 1624) (by decide +kernel), by decide +kernel⟩
theorem q_1625 : k_in (.code yX12_isDigit cX12_isDigit 1 (some .boolean)) := ⟨List.mem_of_getElem? (i := 1625) (by decide +kernel), by decide +kernel⟩
theorem q_1626 : k_in (.constantLong RX12 216 (32)) := ⟨List.mem_of_getElem? (i := 1626) (by decide +kernel), by decide +kernel⟩
theorem q_1627 : k_in (.constantLong RX12 218 (96)) := ⟨List.mem_of_getElem? (i := 1627) (by decide +kernel), by decide +kernel⟩
theorem q_1628 : k_in (.constantLong RX12 220 (-1)) := ⟨List.mem_of_getElem? (i := 1628) (by decide +kernel), by decide +kernel⟩
theorem q_1629 : k_in (.constantLong RX12 222 (1000000)) := ⟨List.mem_of_getElem? (i := 1629) (by decide +kernel), by decide +kernel⟩
theorem q_1630 : k_in (.constantLong RX12 224 (10)) := ⟨List.mem_of_getElem? (i := 1630) (by decide +kernel), by decide +kernel⟩
theorem q_1631 : k_in (.constantLong RX12 226 (48)) := ⟨List.mem_of_getElem? (i := 1631) (by decide +kernel), by decide +kernel⟩
theorem q_1632 : k_in (.methodLink RX12 321 yX12_readClause) := ⟨List.mem_of_getElem? (i := 1632) (by decide +kernel), by decide +kernel⟩
theorem q_1634 : k_in (.instanceMethod yX12_readClause) := ⟨List.mem_of_getElem? (i := 1634) (by decide +kernel), by decide +kernel⟩
theorem q_1635 : k_in (.code yX12_readClause cX12_readClause 4 none) := ⟨List.mem_of_getElem? (i := 1635) (by decide +kernel), by decide +kernel⟩
theorem q_1636 : k_in (.methodLink RX12 253 yX12_isWord) := ⟨List.mem_of_getElem? (i := 1636) (by decide +kernel), by decide +kernel⟩
theorem q_1638 : k_in (.instanceMethod yX12_isWord) := ⟨List.mem_of_getElem? (i := 1638) (by decide +kernel), by decide +kernel⟩
theorem q_1639 : k_in (.code yX12_isWord cX12_isWord 3 (some .boolean)) := ⟨List.mem_of_getElem? (i := 1639) (by decide +kernel), by decide +kernel⟩
theorem q_1640 : k_in (.methodLink RX12 228 yX12_must) := ⟨List.mem_of_getElem? (i := 1640) (by decide +kernel), by decide +kernel⟩
theorem q_1642 : k_in (.instanceMethod yX12_must) := ⟨List.mem_of_getElem? (i := 1642) (by decide +kernel), by decide +kernel⟩
theorem q_1643 : k_in (.code yX12_must cX12_must 2 none) := ⟨List.mem_of_getElem? (i := 1643) (by decide +kernel), by decide +kernel⟩
theorem q_1644 : k_in (.methodLink RX12 313 yX12_readExpression) := ⟨List.mem_of_getElem? (i := 1644) (by decide +kernel), by decide +kernel⟩
theorem q_1646 : k_in (.instanceMethod yX12_readExpression) := ⟨List.mem_of_getElem? (i := 1646) (by decide +kernel), by decide +kernel⟩
theorem q_1647 : k_in (.code yX12_readExpression cX12_readExpression 3 none) := ⟨List.mem_of_getElem? (i := 1647) (by decide +kernel), by decide +kernel⟩
theorem q_1648 : k_in (.methodLink RX12 300 yX12_readPlain) := ⟨List.mem_of_getElem? (i := 1648) (by decide +kernel), by decide +kernel⟩
theorem q_1650 : k_in (.instanceMethod yX12_readPlain) := ⟨List.mem_of_getElem? (i := 1650) (by decide +kernel), by decide +kernel⟩
theorem q_1651 : k_in (.code yX12_readPlain cX12_readPlain 1 (some .int)) := ⟨List.mem_of_getElem? (i := 1651) (by decide +kernel), by decide +kernel⟩
theorem q_1652 : k_in (.constantLong RX12 281 (14836)) := ⟨List.mem_of_getElem? (i := 1652) (by decide +kernel), by decide +kernel⟩
theorem q_1653 : k_in (.methodLink RX12 260 yX12_push) := ⟨List.mem_of_getElem? (i := 1653) (by decide +kernel), by decide +kernel⟩
theorem q_1655 : k_in (.instanceMethod yX12_push) := ⟨List.mem_of_getElem? (i := 1655) (by decide +kernel), by decide +kernel⟩
theorem q_1656 : k_in (.code yX12_push cX12_push 3 none) := ⟨List.mem_of_getElem? (i := 1656) (by decide +kernel), by decide +kernel⟩
theorem q_1657 : k_in (.methodLink RX12 266 yX12_isSign) := ⟨List.mem_of_getElem? (i := 1657) (by decide +kernel), by decide +kernel⟩
theorem q_1659 : k_in (.instanceMethod yX12_isSign) := ⟨List.mem_of_getElem? (i := 1659) (by decide +kernel), by decide +kernel⟩
theorem q_1660 : k_in (.code yX12_isSign cX12_isSign 2 (some .boolean)) := ⟨List.mem_of_getElem? (i := 1660) (by decide +kernel), by decide +kernel⟩
theorem q_1661 : k_in (.methodLink RX12 269 yX12_openBracket) := ⟨List.mem_of_getElem? (i := 1661) (by decide +kernel), by decide +kernel⟩
theorem q_1663 : k_in (.instanceMethod yX12_openBracket) := ⟨List.mem_of_getElem? (i := 1663) (by decide +kernel), by decide +kernel⟩
theorem q_1664 : k_in (.code yX12_openBracket cX12_openBracket 2 none) := ⟨List.mem_of_getElem? (i := 1664) (by decide +kernel), by decide +kernel⟩
theorem q_1665 : k_in (.methodLink RX12 283 yX12_readPart) := ⟨List.mem_of_getElem? (i := 1665) (by decide +kernel), by decide +kernel⟩
theorem q_1667 : k_in (.instanceMethod yX12_readPart) := ⟨List.mem_of_getElem? (i := 1667) (by decide +kernel), by decide +kernel⟩
theorem q_1668 : k_in (.code yX12_readPart cX12_readPart 3 (some .int)) := ⟨List.mem_of_getElem? (i := 1668) (by decide +kernel), by decide +kernel⟩
theorem q_1669 : k_in (.methodLink RX12 272 yX12_partAt) := ⟨List.mem_of_getElem? (i := 1669) (by decide +kernel), by decide +kernel⟩
theorem q_1671 : k_in (.instanceMethod yX12_partAt) := ⟨List.mem_of_getElem? (i := 1671) (by decide +kernel), by decide +kernel⟩
theorem q_1672 : k_in (.code yX12_partAt cX12_partAt 3 (some .int)) := ⟨List.mem_of_getElem? (i := 1672) (by decide +kernel), by decide +kernel⟩
theorem q_1673 : k_in (.constantLong RX12 275 (1000)) := ⟨List.mem_of_getElem? (i := 1673) (by decide +kernel), by decide +kernel⟩
theorem q_1674 : k_in (.methodLink RX12 277 yX12_leaf) := ⟨List.mem_of_getElem? (i := 1674) (by decide +kernel), by decide +kernel⟩
theorem q_1676 : k_in (.instanceMethod yX12_leaf) := ⟨List.mem_of_getElem? (i := 1676) (by decide +kernel), by decide +kernel⟩
theorem q_1677 : k_in (.code yX12_leaf cX12_leaf 4 none) := ⟨List.mem_of_getElem? (i := 1677) (by decide +kernel), by decide +kernel⟩
theorem q_1678 : k_in (.methodLink RX12 241 yX12_emit) := ⟨List.mem_of_getElem? (i := 1678) (by decide +kernel), by decide +kernel⟩
theorem q_1680 : k_in (.instanceMethod yX12_emit) := ⟨List.mem_of_getElem? (i := 1680) (by decide +kernel), by decide +kernel⟩
theorem q_1681 : k_in (.code yX12_emit cX12_emit 3 none) := ⟨List.mem_of_getElem? (i := 1681) (by decide +kernel), by decide +kernel⟩
theorem q_1682 : k_in (.methodLink RX12 303 yX12_behindSum) := ⟨List.mem_of_getElem? (i := 1682) (by decide +kernel), by decide +kernel⟩
theorem q_1684 : k_in (.instanceMethod yX12_behindSum) := ⟨List.mem_of_getElem? (i := 1684) (by decide +kernel), by decide +kernel⟩
theorem q_1685 : k_in (.code yX12_behindSum cX12_behindSum 4 (some .int)) := ⟨List.mem_of_getElem? (i := 1685) (by decide +kernel), by decide +kernel⟩
theorem q_1686 : k_in (.methodLink RX12 238 yX12_binds) := ⟨List.mem_of_getElem? (i := 1686) (by decide +kernel), by decide +kernel⟩
theorem q_1687 : k_in (.static yX12_binds) := ⟨List.mem_of_getElem? (i := 1687) (by decide +kernel), by decide +kernel⟩
theorem q_1688 : k_in (.code yX12_binds cX12_binds 1 (some .int)) := ⟨List.mem_of_getElem? (i := 1688) (by decide +kernel), by decide +kernel⟩
theorem q_1689 : k_in (.methodLink RX12 286 yX12_settle) := ⟨List.mem_of_getElem? (i := 1689) (by decide +kernel), by decide +kernel⟩
theorem q_1691 : k_in (.instanceMethod yX12_settle) := ⟨List.mem_of_getElem? (i := 1691) (by decide +kernel), by decide +kernel⟩
theorem q_1692 : k_in (.code yX12_settle cX12_settle 2 none) := ⟨List.mem_of_getElem? (i := 1692) (by decide +kernel), by decide +kernel⟩
theorem q_1693 : k_in (.methodLink RX12 289 yX12_inner) := ⟨List.mem_of_getElem? (i := 1693) (by decide +kernel), by decide +kernel⟩
theorem q_1695 : k_in (.instanceMethod yX12_inner) := ⟨List.mem_of_getElem? (i := 1695) (by decide +kernel), by decide +kernel⟩
theorem q_1696 : k_in (.code yX12_inner cX12_inner 3 (some .int)) := ⟨List.mem_of_getElem? (i := 1696) (by decide +kernel), by decide +kernel⟩
theorem q_1697 : k_in (.methodLink RX12 292 yX12_isCompared) := ⟨List.mem_of_getElem? (i := 1697) (by decide +kernel), by decide +kernel⟩
theorem q_1699 : k_in (.instanceMethod yX12_isCompared) := ⟨List.mem_of_getElem? (i := 1699) (by decide +kernel), by decide +kernel⟩
theorem q_1700 : k_in (.code yX12_isCompared cX12_isCompared 2 (some .boolean)) := ⟨List.mem_of_getElem? (i := 1700) (by decide +kernel), by decide +kernel⟩
theorem q_1701 : k_in (.constantLong RX12 245 (20)) := ⟨List.mem_of_getElem? (i := 1701) (by decide +kernel), by decide +kernel⟩
theorem q_1702 : k_in (.constantLong RX12 247 (23)) := ⟨List.mem_of_getElem? (i := 1702) (by decide +kernel), by decide +kernel⟩
theorem q_1703 : k_in (.constantLong RX12 249 (24)) := ⟨List.mem_of_getElem? (i := 1703) (by decide +kernel), by decide +kernel⟩
theorem q_1704 : k_in (.constantLong RX12 251 (26)) := ⟨List.mem_of_getElem? (i := 1704) (by decide +kernel), by decide +kernel⟩
theorem q_1705 : k_in (.methodLink RX12 307 yX12_behindTest) := ⟨List.mem_of_getElem? (i := 1705) (by decide +kernel), by decide +kernel⟩
theorem q_1707 : k_in (.instanceMethod yX12_behindTest) := ⟨List.mem_of_getElem? (i := 1707) (by decide +kernel), by decide +kernel⟩
theorem q_1708 : k_in (.code yX12_behindTest cX12_behindTest 2 (some .int)) := ⟨List.mem_of_getElem? (i := 1708) (by decide +kernel), by decide +kernel⟩
theorem q_1709 : k_in (.constantLong RX12 296 (1476)) := ⟨List.mem_of_getElem? (i := 1709) (by decide +kernel), by decide +kernel⟩
theorem q_1710 : k_in (.constantLong RX12 298 (498)) := ⟨List.mem_of_getElem? (i := 1710) (by decide +kernel), by decide +kernel⟩
theorem q_1711 : k_in (.constantLong RX12 316 (294)) := ⟨List.mem_of_getElem? (i := 1711) (by decide +kernel), by decide +kernel⟩
theorem q_1712 : k_in (.methodLink "FiddlerDebtsLaw" 73 yX12_force) := ⟨List.mem_of_getElem? (i := 1712) (by decide +kernel), by decide +kernel⟩
theorem q_1713 : k_in (.instanceMethod yX12_force) := ⟨List.mem_of_getElem? (i := 1713) (by decide +kernel), by decide +kernel⟩
theorem q_1714 : k_in (.selects RX12 yX12_force yX12_force) := ⟨List.mem_of_getElem? (i := 1714) (by decide +kernel), by decide +kernel⟩
theorem q_1715 : k_in (.code yX12_force cX12_force 2 (some .int)) := ⟨List.mem_of_getElem? (i := 1715) (by decide +kernel), by decide +kernel⟩
theorem q_1716 : k_in (.methodLink "FiddlerDebtsLaw" 77 yX12_balance) := ⟨List.mem_of_getElem? (i := 1716) (by decide +kernel), by decide +kernel⟩
theorem q_1717 : k_in (.instanceMethod yX12_balance) := ⟨List.mem_of_getElem? (i := 1717) (by decide +kernel), by decide +kernel⟩
theorem q_1718 : k_in (.selects RX12 yX12_balance yX12_balance) := ⟨List.mem_of_getElem? (i := 1718) (by decide +kernel), by decide +kernel⟩
theorem q_1719 : k_in (.code yX12_balance cX12_balance 2 (some .int)) := ⟨List.mem_of_getElem? (i := 1719) (by decide +kernel), by decide +kernel⟩
theorem q_1720 : k_in (.constant RX12 356 (-1000000000)) := ⟨List.mem_of_getElem? (i := 1720) (by decide +kernel), by decide +kernel⟩
theorem q_1721 : k_in (.methodLink RX12 357 yX12_balanceOf) := ⟨List.mem_of_getElem? (i := 1721) (by decide +kernel), by decide +kernel⟩
theorem q_1723 : k_in (.instanceMethod yX12_balanceOf) := ⟨List.mem_of_getElem? (i := 1723) (by decide +kernel), by decide +kernel⟩
theorem q_1724 : k_in (.code yX12_balanceOf cX12_balanceOf 5 (some .int)) := ⟨List.mem_of_getElem? (i := 1724) (by decide +kernel), by decide +kernel⟩
theorem q_1725 : k_in (.methodLink "FiddlerDebtsLaw" 81 yX12_richest) := ⟨List.mem_of_getElem? (i := 1725) (by decide +kernel), by decide +kernel⟩
theorem q_1726 : k_in (.instanceMethod yX12_richest) := ⟨List.mem_of_getElem? (i := 1726) (by decide +kernel), by decide +kernel⟩
theorem q_1727 : k_in (.selects RX12 yX12_richest yX12_richest) := ⟨List.mem_of_getElem? (i := 1727) (by decide +kernel), by decide +kernel⟩
theorem q_1728 : k_in (.code yX12_richest cX12_richest 3 (some .int)) := ⟨List.mem_of_getElem? (i := 1728) (by decide +kernel), by decide +kernel⟩
theorem q_1729 : k_in (.methodLink "FiddlerDebtsLaw" 85 yX12_net) := ⟨List.mem_of_getElem? (i := 1729) (by decide +kernel), by decide +kernel⟩
theorem q_1730 : k_in (.instanceMethod yX12_net) := ⟨List.mem_of_getElem? (i := 1730) (by decide +kernel), by decide +kernel⟩
theorem q_1731 : k_in (.selects RX12 yX12_net yX12_net) := ⟨List.mem_of_getElem? (i := 1731) (by decide +kernel), by decide +kernel⟩
theorem q_1732 : k_in (.code yX12_net cX12_net 3 (some .int)) := ⟨List.mem_of_getElem? (i := 1732) (by decide +kernel), by decide +kernel⟩
theorem q_1733 : k_in (.methodLink RX12 364 yX12_netOf) := ⟨List.mem_of_getElem? (i := 1733) (by decide +kernel), by decide +kernel⟩
theorem q_1735 : k_in (.instanceMethod yX12_netOf) := ⟨List.mem_of_getElem? (i := 1735) (by decide +kernel), by decide +kernel⟩
theorem q_1736 : k_in (.code yX12_netOf cX12_netOf 6 (some .int)) := ⟨List.mem_of_getElem? (i := 1736) (by decide +kernel), by decide +kernel⟩
theorem q_1737 : k_in (.methodLink RX12 360 yX12_counts) := ⟨List.mem_of_getElem? (i := 1737) (by decide +kernel), by decide +kernel⟩
theorem q_1739 : k_in (.instanceMethod yX12_counts) := ⟨List.mem_of_getElem? (i := 1739) (by decide +kernel), by decide +kernel⟩
theorem q_1740 : k_in (.code yX12_counts cX12_counts 3 (some .boolean)) := ⟨List.mem_of_getElem? (i := 1740) (by decide +kernel), by decide +kernel⟩
theorem q_1741 : k_in (.methodLink "FiddlerDebtsLaw" 89 yX12_left) := ⟨List.mem_of_getElem? (i := 1741) (by decide +kernel), by decide +kernel⟩
theorem q_1742 : k_in (.instanceMethod yX12_left) := ⟨List.mem_of_getElem? (i := 1742) (by decide +kernel), by decide +kernel⟩
theorem q_1743 : k_in (.selects RX12 yX12_left yX12_left) := ⟨List.mem_of_getElem? (i := 1743) (by decide +kernel), by decide +kernel⟩
theorem q_1744 : k_in (.code yX12_left cX12_left 6 (some .int)) := ⟨List.mem_of_getElem? (i := 1744) (by decide +kernel), by decide +kernel⟩
theorem q_1745 : k_in (.constantLong RX12 373 (2)) := ⟨List.mem_of_getElem? (i := 1745) (by decide +kernel), by decide +kernel⟩
theorem q_1746 : k_in (.methodLink RX12 375 yX12_payments) := ⟨List.mem_of_getElem? (i := 1746) (by decide +kernel), by decide +kernel⟩
theorem q_1748 : k_in (.instanceMethod yX12_payments) := ⟨List.mem_of_getElem? (i := 1748) (by decide +kernel), by decide +kernel⟩
theorem q_1749 : k_in (.code yX12_payments cX12_payments 6 (some .int)) := ⟨List.mem_of_getElem? (i := 1749) (by decide +kernel), by decide +kernel⟩
theorem q_1750 : k_in (.methodLink RX12 367 yX12_is) := ⟨List.mem_of_getElem? (i := 1750) (by decide +kernel), by decide +kernel⟩
theorem q_1751 : k_in (.static yX12_is) := ⟨List.mem_of_getElem? (i := 1751) (by decide +kernel), by decide +kernel⟩
theorem q_1752 : k_in (.code yX12_is cX12_is 2 (some .boolean)) := ⟨List.mem_of_getElem? (i := 1752) (by decide +kernel), by decide +kernel⟩
theorem q_1753 : k_in (.methodLink RX12 370 yX12_bits) := ⟨List.mem_of_getElem? (i := 1753) (by decide +kernel), by decide +kernel⟩
theorem q_1754 : k_in (.static yX12_bits) := ⟨List.mem_of_getElem? (i := 1754) (by decide +kernel), by decide +kernel⟩
theorem q_1755 : k_in (.code yX12_bits cX12_bits 3 (some .int)) := ⟨List.mem_of_getElem? (i := 1755) (by decide +kernel), by decide +kernel⟩
theorem q_1756 : k_in (.methodLink "FiddlerDebtsLaw" 93 yX12_ring) := ⟨List.mem_of_getElem? (i := 1756) (by decide +kernel), by decide +kernel⟩
theorem q_1757 : k_in (.instanceMethod yX12_ring) := ⟨List.mem_of_getElem? (i := 1757) (by decide +kernel), by decide +kernel⟩
theorem q_1758 : k_in (.selects RX12 yX12_ring yX12_ring) := ⟨List.mem_of_getElem? (i := 1758) (by decide +kernel), by decide +kernel⟩
theorem q_1759 : k_in (.code yX12_ring cX12_ring 3 (some .int)) := ⟨List.mem_of_getElem? (i := 1759) (by decide +kernel), by decide +kernel⟩
theorem q_1760 : k_in (.methodLink RX12 394 yX12_findRing) := ⟨List.mem_of_getElem? (i := 1760) (by decide +kernel), by decide +kernel⟩
theorem q_1762 : k_in (.instanceMethod yX12_findRing) := ⟨List.mem_of_getElem? (i := 1762) (by decide +kernel), by decide +kernel⟩
theorem q_1763 : k_in (.code yX12_findRing cX12_findRing 4 none) := ⟨List.mem_of_getElem? (i := 1763) (by decide +kernel), by decide +kernel⟩
theorem q_1764 : k_in (.methodLink RX12 384 yX12_between) := ⟨List.mem_of_getElem? (i := 1764) (by decide +kernel), by decide +kernel⟩
theorem q_1766 : k_in (.instanceMethod yX12_between) := ⟨List.mem_of_getElem? (i := 1766) (by decide +kernel), by decide +kernel⟩
theorem q_1767 : k_in (.code yX12_between cX12_between 6 (some .int)) := ⟨List.mem_of_getElem? (i := 1767) (by decide +kernel), by decide +kernel⟩
theorem q_1768 : k_in (.methodLink RX12 388 yX12_goRound) := ⟨List.mem_of_getElem? (i := 1768) (by decide +kernel), by decide +kernel⟩
theorem q_1770 : k_in (.instanceMethod yX12_goRound) := ⟨List.mem_of_getElem? (i := 1770) (by decide +kernel), by decide +kernel⟩
theorem q_1771 : k_in (.code yX12_goRound cX12_goRound 5 none) := ⟨List.mem_of_getElem? (i := 1771) (by decide +kernel), by decide +kernel⟩
theorem q_1772 : k_in (.methodLink RX12 391 yX12_keepRing) := ⟨List.mem_of_getElem? (i := 1772) (by decide +kernel), by decide +kernel⟩
theorem q_1774 : k_in (.instanceMethod yX12_keepRing) := ⟨List.mem_of_getElem? (i := 1774) (by decide +kernel), by decide +kernel⟩
theorem q_1775 : k_in (.code yX12_keepRing cX12_keepRing 4 none) := ⟨List.mem_of_getElem? (i := 1775) (by decide +kernel), by decide +kernel⟩
theorem q_1776 : k_in (.methodLink "FiddlerDebtsLaw" 97 yX12_cancel) := ⟨List.mem_of_getElem? (i := 1776) (by decide +kernel), by decide +kernel⟩
theorem q_1777 : k_in (.instanceMethod yX12_cancel) := ⟨List.mem_of_getElem? (i := 1777) (by decide +kernel), by decide +kernel⟩
theorem q_1778 : k_in (.selects RX12 yX12_cancel yX12_cancel) := ⟨List.mem_of_getElem? (i := 1778) (by decide +kernel), by decide +kernel⟩
theorem q_1779 : k_in (.code yX12_cancel cX12_cancel 8 (some .int)) := ⟨List.mem_of_getElem? (i := 1779) (by decide +kernel), by decide +kernel⟩
theorem q_1780 : k_in (.constant RX12 397 (1000000)) := ⟨List.mem_of_getElem? (i := 1780) (by decide +kernel), by decide +kernel⟩
theorem q_1781 : k_in (.methodLink "FiddlerDebtsLaw" 101 yX12_best) := ⟨List.mem_of_getElem? (i := 1781) (by decide +kernel), by decide +kernel⟩
theorem q_1782 : k_in (.instanceMethod yX12_best) := ⟨List.mem_of_getElem? (i := 1782) (by decide +kernel), by decide +kernel⟩
theorem q_1783 : k_in (.selects RX12 yX12_best yX12_best) := ⟨List.mem_of_getElem? (i := 1783) (by decide +kernel), by decide +kernel⟩
theorem q_1784 : k_in (.code yX12_best cX12_best 5 (some .int)) := ⟨List.mem_of_getElem? (i := 1784) (by decide +kernel), by decide +kernel⟩
theorem q_1785 : k_in (.methodLink RX12 418 yX12_isWedding) := ⟨List.mem_of_getElem? (i := 1785) (by decide +kernel), by decide +kernel⟩
theorem q_1786 : k_in (.static yX12_isWedding) := ⟨List.mem_of_getElem? (i := 1786) (by decide +kernel), by decide +kernel⟩
theorem q_1787 : k_in (.code yX12_isWedding cX12_isWedding 3 (some .boolean)) := ⟨List.mem_of_getElem? (i := 1787) (by decide +kernel), by decide +kernel⟩
theorem q_1788 : k_in (.constantLong RX12 414 (240)) := ⟨List.mem_of_getElem? (i := 1788) (by decide +kernel), by decide +kernel⟩
theorem q_1789 : k_in (.constantLong RX12 416 (8)) := ⟨List.mem_of_getElem? (i := 1789) (by decide +kernel), by decide +kernel⟩
theorem q_1790 : k_in (.methodLink RX12 421 yX12_findBest) := ⟨List.mem_of_getElem? (i := 1790) (by decide +kernel), by decide +kernel⟩
theorem q_1792 : k_in (.instanceMethod yX12_findBest) := ⟨List.mem_of_getElem? (i := 1792) (by decide +kernel), by decide +kernel⟩
theorem q_1793 : k_in (.code yX12_findBest cX12_findBest 7 none) := ⟨List.mem_of_getElem? (i := 1793) (by decide +kernel), by decide +kernel⟩
theorem q_1794 : k_in (.methodLink RX12 407 yX12_findMosts) := ⟨List.mem_of_getElem? (i := 1794) (by decide +kernel), by decide +kernel⟩
theorem q_1796 : k_in (.instanceMethod yX12_findMosts) := ⟨List.mem_of_getElem? (i := 1796) (by decide +kernel), by decide +kernel⟩
theorem q_1797 : k_in (.code yX12_findMosts cX12_findMosts 11 none) := ⟨List.mem_of_getElem? (i := 1797) (by decide +kernel), by decide +kernel⟩
theorem q_1798 : k_in (.methodLink RX12 398 yX12_isPlayed) := ⟨List.mem_of_getElem? (i := 1798) (by decide +kernel), by decide +kernel⟩
theorem q_1800 : k_in (.instanceMethod yX12_isPlayed) := ⟨List.mem_of_getElem? (i := 1800) (by decide +kernel), by decide +kernel⟩
theorem q_1801 : k_in (.code yX12_isPlayed cX12_isPlayed 4 (some .boolean)) := ⟨List.mem_of_getElem? (i := 1801) (by decide +kernel), by decide +kernel⟩
theorem q_1802 : k_in (.methodLink "FiddlerDebtsLaw" 106 yX12_play) := ⟨List.mem_of_getElem? (i := 1802) (by decide +kernel), by decide +kernel⟩
theorem q_1803 : k_in (.instanceMethod yX12_play) := ⟨List.mem_of_getElem? (i := 1803) (by decide +kernel), by decide +kernel⟩
theorem q_1804 : k_in (.selects RX12 yX12_play yX12_play) := ⟨List.mem_of_getElem? (i := 1804) (by decide +kernel), by decide +kernel⟩
theorem q_1805 : k_in (.code yX12_play cX12_play 5 (some .int)) := ⟨List.mem_of_getElem? (i := 1805) (by decide +kernel), by decide +kernel⟩
theorem q_1806 : k_in (.methodLink "FiddlerDebtsLaw" 110 yX12_bands) := ⟨List.mem_of_getElem? (i := 1806) (by decide +kernel), by decide +kernel⟩
theorem q_1807 : k_in (.instanceMethod yX12_bands) := ⟨List.mem_of_getElem? (i := 1807) (by decide +kernel), by decide +kernel⟩
theorem q_1808 : k_in (.selects RX12 yX12_bands yX12_bands) := ⟨List.mem_of_getElem? (i := 1808) (by decide +kernel), by decide +kernel⟩
theorem q_1809 : k_in (.code yX12_bands cX12_bands 10 (some .int)) := ⟨List.mem_of_getElem? (i := 1809) (by decide +kernel), by decide +kernel⟩
theorem q_1810 : k_in (.methodLink "FiddlerDebtsLaw" 114 yX12_wedding) := ⟨List.mem_of_getElem? (i := 1810) (by decide +kernel), by decide +kernel⟩
theorem q_1811 : k_in (.instanceMethod yX12_wedding) := ⟨List.mem_of_getElem? (i := 1811) (by decide +kernel), by decide +kernel⟩
theorem q_1812 : k_in (.selects RX12 yX12_wedding yX12_wedding) := ⟨List.mem_of_getElem? (i := 1812) (by decide +kernel), by decide +kernel⟩
theorem q_1813 : k_in (.code yX12_wedding cX12_wedding 4 (some .int)) := ⟨List.mem_of_getElem? (i := 1813) (by decide +kernel), by decide +kernel⟩
theorem q_1814 : k_in (.methodLink "FiddlerDebtsLaw" 118 yX12_divorce) := ⟨List.mem_of_getElem? (i := 1814) (by decide +kernel), by decide +kernel⟩
theorem q_1815 : k_in (.instanceMethod yX12_divorce) := ⟨List.mem_of_getElem? (i := 1815) (by decide +kernel), by decide +kernel⟩
theorem q_1816 : k_in (.selects RX12 yX12_divorce yX12_divorce) := ⟨List.mem_of_getElem? (i := 1816) (by decide +kernel), by decide +kernel⟩
theorem q_1817 : k_in (.code yX12_divorce cX12_divorce 2 (some .int)) := ⟨List.mem_of_getElem? (i := 1817) (by decide +kernel), by decide +kernel⟩
theorem q_1818 : k_in (.methodLink "FiddlerDebtsLaw" 122 yX12_free) := ⟨List.mem_of_getElem? (i := 1818) (by decide +kernel), by decide +kernel⟩
theorem q_1819 : k_in (.instanceMethod yX12_free) := ⟨List.mem_of_getElem? (i := 1819) (by decide +kernel), by decide +kernel⟩
theorem q_1820 : k_in (.selects RX12 yX12_free yX12_free) := ⟨List.mem_of_getElem? (i := 1820) (by decide +kernel), by decide +kernel⟩
theorem q_1821 : k_in (.code yX12_free cX12_free 9 (some .int)) := ⟨List.mem_of_getElem? (i := 1821) (by decide +kernel), by decide +kernel⟩
theorem q_1822 : k_in (.methodLink "FiddlerDebtsLaw" 126 yX12_dance) := ⟨List.mem_of_getElem? (i := 1822) (by decide +kernel), by decide +kernel⟩
theorem q_1823 : k_in (.instanceMethod yX12_dance) := ⟨List.mem_of_getElem? (i := 1823) (by decide +kernel), by decide +kernel⟩
theorem q_1824 : k_in (.selects RX12 yX12_dance yX12_dance) := ⟨List.mem_of_getElem? (i := 1824) (by decide +kernel), by decide +kernel⟩
theorem q_1825 : k_in (.code yX12_dance cX12_dance 4 (some .int)) := ⟨List.mem_of_getElem? (i := 1825) (by decide +kernel), by decide +kernel⟩
theorem q_1826 : k_in (.methodLink "FiddlerDebtsLaw" 130 yX12_ahead) := ⟨List.mem_of_getElem? (i := 1826) (by decide +kernel), by decide +kernel⟩
theorem q_1827 : k_in (.instanceMethod yX12_ahead) := ⟨List.mem_of_getElem? (i := 1827) (by decide +kernel), by decide +kernel⟩
theorem q_1828 : k_in (.selects RX12 yX12_ahead yX12_ahead) := ⟨List.mem_of_getElem? (i := 1828) (by decide +kernel), by decide +kernel⟩
theorem q_1829 : k_in (.code yX12_ahead cX12_ahead 4 (some .int)) := ⟨List.mem_of_getElem? (i := 1829) (by decide +kernel), by decide +kernel⟩
theorem q_1830 : k_in (.methodLink RX12 424 yX12_isDance) := ⟨List.mem_of_getElem? (i := 1830) (by decide +kernel), by decide +kernel⟩
theorem q_1832 : k_in (.instanceMethod yX12_isDance) := ⟨List.mem_of_getElem? (i := 1832) (by decide +kernel), by decide +kernel⟩
theorem q_1833 : k_in (.code yX12_isDance cX12_isDance 2 (some .boolean)) := ⟨List.mem_of_getElem? (i := 1833) (by decide +kernel), by decide +kernel⟩
theorem q_1834 : k_in (.methodLink "FiddlerDebtsLaw" 134 yX12_forget) := ⟨List.mem_of_getElem? (i := 1834) (by decide +kernel), by decide +kernel⟩
theorem q_1835 : k_in (.instanceMethod yX12_forget) := ⟨List.mem_of_getElem? (i := 1835) (by decide +kernel), by decide +kernel⟩
theorem q_1836 : k_in (.selects RX12 yX12_forget yX12_forget) := ⟨List.mem_of_getElem? (i := 1836) (by decide +kernel), by decide +kernel⟩
theorem q_1837 : k_in (.code yX12_forget cX12_forget 2 (some .int)) := ⟨List.mem_of_getElem? (i := 1837) (by decide +kernel), by decide +kernel⟩
theorem q_1838 : k_in (.methodLink "FiddlerDebtsLaw" 138 yX12_orders) := ⟨List.mem_of_getElem? (i := 1838) (by decide +kernel), by decide +kernel⟩
theorem q_1839 : k_in (.instanceMethod yX12_orders) := ⟨List.mem_of_getElem? (i := 1839) (by decide +kernel), by decide +kernel⟩
theorem q_1840 : k_in (.selects RX12 yX12_orders yX12_orders) := ⟨List.mem_of_getElem? (i := 1840) (by decide +kernel), by decide +kernel⟩
theorem q_1841 : k_in (.code yX12_orders cX12_orders 4 (some .int)) := ⟨List.mem_of_getElem? (i := 1841) (by decide +kernel), by decide +kernel⟩
theorem q_1842 : k_in (.methodLink RX12 427 yX12_findBefore) := ⟨List.mem_of_getElem? (i := 1842) (by decide +kernel), by decide +kernel⟩
theorem q_1844 : k_in (.instanceMethod yX12_findBefore) := ⟨List.mem_of_getElem? (i := 1844) (by decide +kernel), by decide +kernel⟩
theorem q_1845 : k_in (.code yX12_findBefore cX12_findBefore 3 none) := ⟨List.mem_of_getElem? (i := 1845) (by decide +kernel), by decide +kernel⟩
theorem q_1846 : k_in (.methodLink RX12 430 yX12_dancesOf) := ⟨List.mem_of_getElem? (i := 1846) (by decide +kernel), by decide +kernel⟩
theorem q_1848 : k_in (.instanceMethod yX12_dancesOf) := ⟨List.mem_of_getElem? (i := 1848) (by decide +kernel), by decide +kernel⟩
theorem q_1849 : k_in (.code yX12_dancesOf cX12_dancesOf 4 (some .int)) := ⟨List.mem_of_getElem? (i := 1849) (by decide +kernel), by decide +kernel⟩
theorem q_1850 : k_in (.methodLink RX12 433 yX12_findOrders) := ⟨List.mem_of_getElem? (i := 1850) (by decide +kernel), by decide +kernel⟩
theorem q_1852 : k_in (.instanceMethod yX12_findOrders) := ⟨List.mem_of_getElem? (i := 1852) (by decide +kernel), by decide +kernel⟩
theorem q_1853 : k_in (.code yX12_findOrders cX12_findOrders 5 none) := ⟨List.mem_of_getElem? (i := 1853) (by decide +kernel), by decide +kernel⟩
theorem q_1854 : k_in (.methodLink RX12 436 yX12_lasts) := ⟨List.mem_of_getElem? (i := 1854) (by decide +kernel), by decide +kernel⟩
theorem q_1856 : k_in (.instanceMethod yX12_lasts) := ⟨List.mem_of_getElem? (i := 1856) (by decide +kernel), by decide +kernel⟩
theorem q_1857 : k_in (.code yX12_lasts cX12_lasts 7 (some .int)) := ⟨List.mem_of_getElem? (i := 1857) (by decide +kernel), by decide +kernel⟩
theorem q_1858 : k_in (.methodLink "FiddlerDebtsLaw" 142 yX12_can) := ⟨List.mem_of_getElem? (i := 1858) (by decide +kernel), by decide +kernel⟩
theorem q_1859 : k_in (.instanceMethod yX12_can) := ⟨List.mem_of_getElem? (i := 1859) (by decide +kernel), by decide +kernel⟩
theorem q_1860 : k_in (.selects RX12 yX12_can yX12_can) := ⟨List.mem_of_getElem? (i := 1860) (by decide +kernel), by decide +kernel⟩
theorem q_1861 : k_in (.code yX12_can cX12_can 5 (some .int)) := ⟨List.mem_of_getElem? (i := 1861) (by decide +kernel), by decide +kernel⟩
theorem q_1862 : k_in (.methodLink "FiddlerDebtsLaw" 146 yX12_evenings) := ⟨List.mem_of_getElem? (i := 1862) (by decide +kernel), by decide +kernel⟩
theorem q_1863 : k_in (.instanceMethod yX12_evenings) := ⟨List.mem_of_getElem? (i := 1863) (by decide +kernel), by decide +kernel⟩
theorem q_1864 : k_in (.selects RX12 yX12_evenings yX12_evenings) := ⟨List.mem_of_getElem? (i := 1864) (by decide +kernel), by decide +kernel⟩
theorem q_1865 : k_in (.code yX12_evenings cX12_evenings 10 (some .int)) := ⟨List.mem_of_getElem? (i := 1865) (by decide +kernel), by decide +kernel⟩
theorem q_1866 : k_in (.methodLink RX12 448 yX12_draw) := ⟨List.mem_of_getElem? (i := 1866) (by decide +kernel), by decide +kernel⟩
theorem q_1868 : k_in (.instanceMethod yX12_draw) := ⟨List.mem_of_getElem? (i := 1868) (by decide +kernel), by decide +kernel⟩
theorem q_1869 : k_in (.code yX12_draw cX12_draw 2 (some .int)) := ⟨List.mem_of_getElem? (i := 1869) (by decide +kernel), by decide +kernel⟩
theorem q_1870 : k_in (.constantLong RX12 442 (1103)) := ⟨List.mem_of_getElem? (i := 1870) (by decide +kernel), by decide +kernel⟩
theorem q_1871 : k_in (.constantLong RX12 444 (12345)) := ⟨List.mem_of_getElem? (i := 1871) (by decide +kernel), by decide +kernel⟩
theorem q_1872 : k_in (.constantLong RX12 446 (1000003)) := ⟨List.mem_of_getElem? (i := 1872) (by decide +kernel), by decide +kernel⟩
theorem q_1873 : k_in (.methodLink "FiddlerDebtsLaw" 150 yX12_owed) := ⟨List.mem_of_getElem? (i := 1873) (by decide +kernel), by decide +kernel⟩
theorem q_1874 : k_in (.instanceMethod yX12_owed) := ⟨List.mem_of_getElem? (i := 1874) (by decide +kernel), by decide +kernel⟩
theorem q_1875 : k_in (.selects RX12 yX12_owed yX12_owed) := ⟨List.mem_of_getElem? (i := 1875) (by decide +kernel), by decide +kernel⟩
theorem q_1876 : k_in (.code yX12_owed cX12_owed 3 (some .int)) := ⟨List.mem_of_getElem? (i := 1876) (by decide +kernel), by decide +kernel⟩
theorem q_1877 : k_in (.methodLink "FiddlerDebtsLaw" 162 yX12_count) := ⟨List.mem_of_getElem? (i := 1877) (by decide +kernel), by decide +kernel⟩
theorem q_1878 : k_in (.instanceMethod yX12_count) := ⟨List.mem_of_getElem? (i := 1878) (by decide +kernel), by decide +kernel⟩
theorem q_1879 : k_in (.selects RX12 yX12_count yX12_count) := ⟨List.mem_of_getElem? (i := 1879) (by decide +kernel), by decide +kernel⟩
theorem q_1880 : k_in (.code yX12_count cX12_count 4 (some .int)) := ⟨List.mem_of_getElem? (i := 1880) (by decide +kernel), by decide +kernel⟩
theorem q_1881 : k_in (.methodLink "FiddlerDebtsLaw" 166 yX12_status) := ⟨List.mem_of_getElem? (i := 1881) (by decide +kernel), by decide +kernel⟩
theorem q_1882 : k_in (.instanceMethod yX12_status) := ⟨List.mem_of_getElem? (i := 1882) (by decide +kernel), by decide +kernel⟩
theorem q_1883 : k_in (.selects RX12 yX12_status yX12_status) := ⟨List.mem_of_getElem? (i := 1883) (by decide +kernel), by decide +kernel⟩
theorem q_1884 : k_in (.code yX12_status cX12_status 1 (some .int)) := ⟨List.mem_of_getElem? (i := 1884) (by decide +kernel), by decide +kernel⟩
theorem q_1885 : k_in (.fieldLink "java/lang/String" 9 "java/lang/String" "value" "[B") := ⟨List.mem_of_getElem? (i := 1885) (by decide +kernel), by decide +kernel⟩
theorem q_1886 : k_in (.fieldLink "java/lang/String" 15 "java/lang/String" "coder" "B") := ⟨List.mem_of_getElem? (i := 1886) (by decide +kernel), by decide +kernel⟩
theorem hd_X0_init : (yX0_init.cls ≠ "java/lang/invoke/MethodHandle" ∧ yX0_init.cls ≠ "java/lang/invoke/VarHandle") ∧ (parseMethodDescriptor yX0_init.desc).map (fun d => d.parameters.length) = some 2 := by decide +kernel
theorem hd_X0_find : (yX0_find.cls ≠ "java/lang/invoke/MethodHandle" ∧ yX0_find.cls ≠ "java/lang/invoke/VarHandle") ∧ (parseMethodDescriptor yX0_find.desc).map (fun d => d.parameters.length) = some 1 := by decide +kernel
theorem hd_X0_share : (yX0_share.cls ≠ "java/lang/invoke/MethodHandle" ∧ yX0_share.cls ≠ "java/lang/invoke/VarHandle") ∧ (parseMethodDescriptor yX0_share.desc).map (fun d => d.parameters.length) = some 3 := by decide +kernel
theorem hd_X0_choose : (yX0_choose.cls ≠ "java/lang/invoke/MethodHandle" ∧ yX0_choose.cls ≠ "java/lang/invoke/VarHandle") ∧ (parseMethodDescriptor yX0_choose.desc).map (fun d => d.parameters.length) = some 1 := by decide +kernel
theorem hd_X1_init : (yX1_init.cls ≠ "java/lang/invoke/MethodHandle" ∧ yX1_init.cls ≠ "java/lang/invoke/VarHandle") ∧ (parseMethodDescriptor yX1_init.desc).map (fun d => d.parameters.length) = some 0 := by decide +kernel
theorem hd_X1_become : (yX1_become.cls ≠ "java/lang/invoke/MethodHandle" ∧ yX1_become.cls ≠ "java/lang/invoke/VarHandle") ∧ (parseMethodDescriptor yX1_become.desc).map (fun d => d.parameters.length) = some 1 := by decide +kernel
theorem hd_X1_has : (yX1_has.cls ≠ "java/lang/invoke/MethodHandle" ∧ yX1_has.cls ≠ "java/lang/invoke/VarHandle") ∧ (parseMethodDescriptor yX1_has.desc).map (fun d => d.parameters.length) = some 1 := by decide +kernel
theorem hd_X1_add : (yX1_add.cls ≠ "java/lang/invoke/MethodHandle" ∧ yX1_add.cls ≠ "java/lang/invoke/VarHandle") ∧ (parseMethodDescriptor yX1_add.desc).map (fun d => d.parameters.length) = some 5 := by decide +kernel
theorem hd_X1_told : (yX1_told.cls ≠ "java/lang/invoke/MethodHandle" ∧ yX1_told.cls ≠ "java/lang/invoke/VarHandle") ∧ (parseMethodDescriptor yX1_told.desc).map (fun d => d.parameters.length) = some 2 := by decide +kernel
theorem hd_X1_bury : (yX1_bury.cls ≠ "java/lang/invoke/MethodHandle" ∧ yX1_bury.cls ≠ "java/lang/invoke/VarHandle") ∧ (parseMethodDescriptor yX1_bury.desc).map (fun d => d.parameters.length) = some 1 := by decide +kernel
theorem hd_X1_dropPlayed : (yX1_dropPlayed.cls ≠ "java/lang/invoke/MethodHandle" ∧ yX1_dropPlayed.cls ≠ "java/lang/invoke/VarHandle") ∧ (parseMethodDescriptor yX1_dropPlayed.desc).map (fun d => d.parameters.length) = some 0 := by decide +kernel
theorem hd_X1_allHalves : (yX1_allHalves.cls ≠ "java/lang/invoke/MethodHandle" ∧ yX1_allHalves.cls ≠ "java/lang/invoke/VarHandle") ∧ (parseMethodDescriptor yX1_allHalves.desc).map (fun d => d.parameters.length) = some 0 := by decide +kernel
theorem hd_X2_init : (yX2_init.cls ≠ "java/lang/invoke/MethodHandle" ∧ yX2_init.cls ≠ "java/lang/invoke/VarHandle") ∧ (parseMethodDescriptor yX2_init.desc).map (fun d => d.parameters.length) = some 2 := by decide +kernel
theorem hd_X2_find : (yX2_find.cls ≠ "java/lang/invoke/MethodHandle" ∧ yX2_find.cls ≠ "java/lang/invoke/VarHandle") ∧ (parseMethodDescriptor yX2_find.desc).map (fun d => d.parameters.length) = some 3 := by decide +kernel
theorem hd_X2_isPlayable : (yX2_isPlayable.cls ≠ "java/lang/invoke/MethodHandle" ∧ yX2_isPlayable.cls ≠ "java/lang/invoke/VarHandle") ∧ (parseMethodDescriptor yX2_isPlayable.desc).map (fun d => d.parameters.length) = some 1 := by decide +kernel
theorem hd_X2_placeOf : (yX2_placeOf.cls ≠ "java/lang/invoke/MethodHandle" ∧ yX2_placeOf.cls ≠ "java/lang/invoke/VarHandle") ∧ (parseMethodDescriptor yX2_placeOf.desc).map (fun d => d.parameters.length) = some 2 := by decide +kernel
theorem hd_X2_clear : (yX2_clear.cls ≠ "java/lang/invoke/MethodHandle" ∧ yX2_clear.cls ≠ "java/lang/invoke/VarHandle") ∧ (parseMethodDescriptor yX2_clear.desc).map (fun d => d.parameters.length) = some 1 := by decide +kernel
theorem hd_X2_join : (yX2_join.cls ≠ "java/lang/invoke/MethodHandle" ∧ yX2_join.cls ≠ "java/lang/invoke/VarHandle") ∧ (parseMethodDescriptor yX2_join.desc).map (fun d => d.parameters.length) = some 3 := by decide +kernel
theorem hd_X2_offer : (yX2_offer.cls ≠ "java/lang/invoke/MethodHandle" ∧ yX2_offer.cls ≠ "java/lang/invoke/VarHandle") ∧ (parseMethodDescriptor yX2_offer.desc).map (fun d => d.parameters.length) = some 1 := by decide +kernel
theorem hd_X2_offerBundle : (yX2_offerBundle.cls ≠ "java/lang/invoke/MethodHandle" ∧ yX2_offerBundle.cls ≠ "java/lang/invoke/VarHandle") ∧ (parseMethodDescriptor yX2_offerBundle.desc).map (fun d => d.parameters.length) = some 2 := by decide +kernel
theorem hd_X2_isBetter : (yX2_isBetter.cls ≠ "java/lang/invoke/MethodHandle" ∧ yX2_isBetter.cls ≠ "java/lang/invoke/VarHandle") ∧ (parseMethodDescriptor yX2_isBetter.desc).map (fun d => d.parameters.length) = some 4 := by decide +kernel
theorem hd_X2_read : (yX2_read.cls ≠ "java/lang/invoke/MethodHandle" ∧ yX2_read.cls ≠ "java/lang/invoke/VarHandle") ∧ (parseMethodDescriptor yX2_read.desc).map (fun d => d.parameters.length) = some 1 := by decide +kernel
theorem hd_X2_payAll : (yX2_payAll.cls ≠ "java/lang/invoke/MethodHandle" ∧ yX2_payAll.cls ≠ "java/lang/invoke/VarHandle") ∧ (parseMethodDescriptor yX2_payAll.desc).map (fun d => d.parameters.length) = some 0 := by decide +kernel
theorem hd_X2_freeBehind : (yX2_freeBehind.cls ≠ "java/lang/invoke/MethodHandle" ∧ yX2_freeBehind.cls ≠ "java/lang/invoke/VarHandle") ∧ (parseMethodDescriptor yX2_freeBehind.desc).map (fun d => d.parameters.length) = some 1 := by decide +kernel
theorem hd_X2_playAlone : (yX2_playAlone.cls ≠ "java/lang/invoke/MethodHandle" ∧ yX2_playAlone.cls ≠ "java/lang/invoke/VarHandle") ∧ (parseMethodDescriptor yX2_playAlone.desc).map (fun d => d.parameters.length) = some 2 := by decide +kernel
theorem hd_X3_init : (yX3_init.cls ≠ "java/lang/invoke/MethodHandle" ∧ yX3_init.cls ≠ "java/lang/invoke/VarHandle") ∧ (parseMethodDescriptor yX3_init.desc).map (fun d => d.parameters.length) = some 1 := by decide +kernel
theorem hd_X3_hear : (yX3_hear.cls ≠ "java/lang/invoke/MethodHandle" ∧ yX3_hear.cls ≠ "java/lang/invoke/VarHandle") ∧ (parseMethodDescriptor yX3_hear.desc).map (fun d => d.parameters.length) = some 0 := by decide +kernel
theorem hd_X3_balanceOf : (yX3_balanceOf.cls ≠ "java/lang/invoke/MethodHandle" ∧ yX3_balanceOf.cls ≠ "java/lang/invoke/VarHandle") ∧ (parseMethodDescriptor yX3_balanceOf.desc).map (fun d => d.parameters.length) = some 1 := by decide +kernel
theorem hd_X3_hearDebt : (yX3_hearDebt.cls ≠ "java/lang/invoke/MethodHandle" ∧ yX3_hearDebt.cls ≠ "java/lang/invoke/VarHandle") ∧ (parseMethodDescriptor yX3_hearDebt.desc).map (fun d => d.parameters.length) = some 2 := by decide +kernel
theorem hd_X3_holds : (yX3_holds.cls ≠ "java/lang/invoke/MethodHandle" ∧ yX3_holds.cls ≠ "java/lang/invoke/VarHandle") ∧ (parseMethodDescriptor yX3_holds.desc).map (fun d => d.parameters.length) = some 4 := by decide +kernel
theorem hd_X3_join : (yX3_join.cls ≠ "java/lang/invoke/MethodHandle" ∧ yX3_join.cls ≠ "java/lang/invoke/VarHandle") ∧ (parseMethodDescriptor yX3_join.desc).map (fun d => d.parameters.length) = some 1 := by decide +kernel
theorem hd_X3_joined : (yX3_joined.cls ≠ "java/lang/invoke/MethodHandle" ∧ yX3_joined.cls ≠ "java/lang/invoke/VarHandle") ∧ (parseMethodDescriptor yX3_joined.desc).map (fun d => d.parameters.length) = some 3 := by decide +kernel
theorem hd_X3_wordOf : (yX3_wordOf.cls ≠ "java/lang/invoke/MethodHandle" ∧ yX3_wordOf.cls ≠ "java/lang/invoke/VarHandle") ∧ (parseMethodDescriptor yX3_wordOf.desc).map (fun d => d.parameters.length) = some 2 := by decide +kernel
theorem hd_X3_push : (yX3_push.cls ≠ "java/lang/invoke/MethodHandle" ∧ yX3_push.cls ≠ "java/lang/invoke/VarHandle") ∧ (parseMethodDescriptor yX3_push.desc).map (fun d => d.parameters.length) = some 1 := by decide +kernel
theorem hd_X3_top : (yX3_top.cls ≠ "java/lang/invoke/MethodHandle" ∧ yX3_top.cls ≠ "java/lang/invoke/VarHandle") ∧ (parseMethodDescriptor yX3_top.desc).map (fun d => d.parameters.length) = some 0 := by decide +kernel
theorem hd_X3_pop : (yX3_pop.cls ≠ "java/lang/invoke/MethodHandle" ∧ yX3_pop.cls ≠ "java/lang/invoke/VarHandle") ∧ (parseMethodDescriptor yX3_pop.desc).map (fun d => d.parameters.length) = some 0 := by decide +kernel
theorem hd_X4_init : (yX4_init.cls ≠ "java/lang/invoke/MethodHandle" ∧ yX4_init.cls ≠ "java/lang/invoke/VarHandle") ∧ (parseMethodDescriptor yX4_init.desc).map (fun d => d.parameters.length) = some 2 := by decide +kernel
theorem hd_X4_addUp : (yX4_addUp.cls ≠ "java/lang/invoke/MethodHandle" ∧ yX4_addUp.cls ≠ "java/lang/invoke/VarHandle") ∧ (parseMethodDescriptor yX4_addUp.desc).map (fun d => d.parameters.length) = some 1 := by decide +kernel
theorem hd_X4_change : (yX4_change.cls ≠ "java/lang/invoke/MethodHandle" ∧ yX4_change.cls ≠ "java/lang/invoke/VarHandle") ∧ (parseMethodDescriptor yX4_change.desc).map (fun d => d.parameters.length) = some 2 := by decide +kernel
theorem hd_X4_least : (yX4_least.cls ≠ "java/lang/invoke/MethodHandle" ∧ yX4_least.cls ≠ "java/lang/invoke/VarHandle") ∧ (parseMethodDescriptor yX4_least.desc).map (fun d => d.parameters.length) = some 0 := by decide +kernel
theorem hd_X4_fewestPayments : (yX4_fewestPayments.cls ≠ "java/lang/invoke/MethodHandle" ∧ yX4_fewestPayments.cls ≠ "java/lang/invoke/VarHandle") ∧ (parseMethodDescriptor yX4_fewestPayments.desc).map (fun d => d.parameters.length) = some 0 := by decide +kernel
theorem hd_X4_group : (yX4_group.cls ≠ "java/lang/invoke/MethodHandle" ∧ yX4_group.cls ≠ "java/lang/invoke/VarHandle") ∧ (parseMethodDescriptor yX4_group.desc).map (fun d => d.parameters.length) = some 1 := by decide +kernel
theorem hd_X5_init : (yX5_init.cls ≠ "java/lang/invoke/MethodHandle" ∧ yX5_init.cls ≠ "java/lang/invoke/VarHandle") ∧ (parseMethodDescriptor yX5_init.desc).map (fun d => d.parameters.length) = some 1 := by decide +kernel
theorem hd_X5_find : (yX5_find.cls ≠ "java/lang/invoke/MethodHandle" ∧ yX5_find.cls ≠ "java/lang/invoke/VarHandle") ∧ (parseMethodDescriptor yX5_find.desc).map (fun d => d.parameters.length) = some 1 := by decide +kernel
theorem hd_X5_followAhead : (yX5_followAhead.cls ≠ "java/lang/invoke/MethodHandle" ∧ yX5_followAhead.cls ≠ "java/lang/invoke/VarHandle") ∧ (parseMethodDescriptor yX5_followAhead.desc).map (fun d => d.parameters.length) = some 0 := by decide +kernel
theorem hd_X5_waysOf : (yX5_waysOf.cls ≠ "java/lang/invoke/MethodHandle" ∧ yX5_waysOf.cls ≠ "java/lang/invoke/VarHandle") ∧ (parseMethodDescriptor yX5_waysOf.desc).map (fun d => d.parameters.length) = some 1 := by decide +kernel
theorem hd_X5_endingWith : (yX5_endingWith.cls ≠ "java/lang/invoke/MethodHandle" ∧ yX5_endingWith.cls ≠ "java/lang/invoke/VarHandle") ∧ (parseMethodDescriptor yX5_endingWith.desc).map (fun d => d.parameters.length) = some 2 := by decide +kernel
theorem hd_X5_all : (yX5_all.cls ≠ "java/lang/invoke/MethodHandle" ∧ yX5_all.cls ≠ "java/lang/invoke/VarHandle") ∧ (parseMethodDescriptor yX5_all.desc).map (fun d => d.parameters.length) = some 0 := by decide +kernel
theorem hd_X5_endedBy : (yX5_endedBy.cls ≠ "java/lang/invoke/MethodHandle" ∧ yX5_endedBy.cls ≠ "java/lang/invoke/VarHandle") ∧ (parseMethodDescriptor yX5_endedBy.desc).map (fun d => d.parameters.length) = some 1 := by decide +kernel
theorem hd_X6_init : (yX6_init.cls ≠ "java/lang/invoke/MethodHandle" ∧ yX6_init.cls ≠ "java/lang/invoke/VarHandle") ∧ (parseMethodDescriptor yX6_init.desc).map (fun d => d.parameters.length) = some 1 := by decide +kernel
theorem hd_X6_write : (yX6_write.cls ≠ "java/lang/invoke/MethodHandle" ∧ yX6_write.cls ≠ "java/lang/invoke/VarHandle") ∧ (parseMethodDescriptor yX6_write.desc).map (fun d => d.parameters.length) = some 2 := by decide +kernel
theorem hd_X6_draw : (yX6_draw.cls ≠ "java/lang/invoke/MethodHandle" ∧ yX6_draw.cls ≠ "java/lang/invoke/VarHandle") ∧ (parseMethodDescriptor yX6_draw.desc).map (fun d => d.parameters.length) = some 1 := by decide +kernel
theorem hd_X6_takesOver : (yX6_takesOver.cls ≠ "java/lang/invoke/MethodHandle" ∧ yX6_takesOver.cls ≠ "java/lang/invoke/VarHandle") ∧ (parseMethodDescriptor yX6_takesOver.desc).map (fun d => d.parameters.length) = some 2 := by decide +kernel
theorem hd_X6_addUp : (yX6_addUp.cls ≠ "java/lang/invoke/MethodHandle" ∧ yX6_addUp.cls ≠ "java/lang/invoke/VarHandle") ∧ (parseMethodDescriptor yX6_addUp.desc).map (fun d => d.parameters.length) = some 0 := by decide +kernel
theorem hd_X7_init : (yX7_init.cls ≠ "java/lang/invoke/MethodHandle" ∧ yX7_init.cls ≠ "java/lang/invoke/VarHandle") ∧ (parseMethodDescriptor yX7_init.desc).map (fun d => d.parameters.length) = some 1 := by decide +kernel
theorem hd_X7_read : (yX7_read.cls ≠ "java/lang/invoke/MethodHandle" ∧ yX7_read.cls ≠ "java/lang/invoke/VarHandle") ∧ (parseMethodDescriptor yX7_read.desc).map (fun d => d.parameters.length) = some 0 := by decide +kernel
theorem hd_X7_readClause : (yX7_readClause.cls ≠ "java/lang/invoke/MethodHandle" ∧ yX7_readClause.cls ≠ "java/lang/invoke/VarHandle") ∧ (parseMethodDescriptor yX7_readClause.desc).map (fun d => d.parameters.length) = some 0 := by decide +kernel
theorem hd_X7_clauseKind : (yX7_clauseKind.cls ≠ "java/lang/invoke/MethodHandle" ∧ yX7_clauseKind.cls ≠ "java/lang/invoke/VarHandle") ∧ (parseMethodDescriptor yX7_clauseKind.desc).map (fun d => d.parameters.length) = some 0 := by decide +kernel
theorem hd_X7_readTest : (yX7_readTest.cls ≠ "java/lang/invoke/MethodHandle" ∧ yX7_readTest.cls ≠ "java/lang/invoke/VarHandle") ∧ (parseMethodDescriptor yX7_readTest.desc).map (fun d => d.parameters.length) = some 1 := by decide +kernel
theorem hd_X7_readBoth : (yX7_readBoth.cls ≠ "java/lang/invoke/MethodHandle" ∧ yX7_readBoth.cls ≠ "java/lang/invoke/VarHandle") ∧ (parseMethodDescriptor yX7_readBoth.desc).map (fun d => d.parameters.length) = some 1 := by decide +kernel
theorem hd_X7_readPlain : (yX7_readPlain.cls ≠ "java/lang/invoke/MethodHandle" ∧ yX7_readPlain.cls ≠ "java/lang/invoke/VarHandle") ∧ (parseMethodDescriptor yX7_readPlain.desc).map (fun d => d.parameters.length) = some 1 := by decide +kernel
theorem hd_X7_readComparison : (yX7_readComparison.cls ≠ "java/lang/invoke/MethodHandle" ∧ yX7_readComparison.cls ≠ "java/lang/invoke/VarHandle") ∧ (parseMethodDescriptor yX7_readComparison.desc).map (fun d => d.parameters.length) = some 1 := by decide +kernel
theorem hd_X7_readSum : (yX7_readSum.cls ≠ "java/lang/invoke/MethodHandle" ∧ yX7_readSum.cls ≠ "java/lang/invoke/VarHandle") ∧ (parseMethodDescriptor yX7_readSum.desc).map (fun d => d.parameters.length) = some 1 := by decide +kernel
theorem hd_X7_readTerm : (yX7_readTerm.cls ≠ "java/lang/invoke/MethodHandle" ∧ yX7_readTerm.cls ≠ "java/lang/invoke/VarHandle") ∧ (parseMethodDescriptor yX7_readTerm.desc).map (fun d => d.parameters.length) = some 1 := by decide +kernel
theorem hd_X7_readPart : (yX7_readPart.cls ≠ "java/lang/invoke/MethodHandle" ∧ yX7_readPart.cls ≠ "java/lang/invoke/VarHandle") ∧ (parseMethodDescriptor yX7_readPart.desc).map (fun d => d.parameters.length) = some 1 := by decide +kernel
theorem hd_X7_readInBrackets : (yX7_readInBrackets.cls ≠ "java/lang/invoke/MethodHandle" ∧ yX7_readInBrackets.cls ≠ "java/lang/invoke/VarHandle") ∧ (parseMethodDescriptor yX7_readInBrackets.desc).map (fun d => d.parameters.length) = some 2 := by decide +kernel
theorem hd_X7_wordHere : (yX7_wordHere.cls ≠ "java/lang/invoke/MethodHandle" ∧ yX7_wordHere.cls ≠ "java/lang/invoke/VarHandle") ∧ (parseMethodDescriptor yX7_wordHere.desc).map (fun d => d.parameters.length) = some 0 := by decide +kernel
theorem hd_X7_step : (yX7_step.cls ≠ "java/lang/invoke/MethodHandle" ∧ yX7_step.cls ≠ "java/lang/invoke/VarHandle") ∧ (parseMethodDescriptor yX7_step.desc).map (fun d => d.parameters.length) = some 0 := by decide +kernel
theorem hd_X7_isLetter : (yX7_isLetter.cls ≠ "java/lang/invoke/MethodHandle" ∧ yX7_isLetter.cls ≠ "java/lang/invoke/VarHandle") ∧ (parseMethodDescriptor yX7_isLetter.desc).map (fun d => d.parameters.length) = some 1 := by decide +kernel
theorem hd_X7_isDigit : (yX7_isDigit.cls ≠ "java/lang/invoke/MethodHandle" ∧ yX7_isDigit.cls ≠ "java/lang/invoke/VarHandle") ∧ (parseMethodDescriptor yX7_isDigit.desc).map (fun d => d.parameters.length) = some 1 := by decide +kernel
theorem hd_X7_sees : (yX7_sees.cls ≠ "java/lang/invoke/MethodHandle" ∧ yX7_sees.cls ≠ "java/lang/invoke/VarHandle") ∧ (parseMethodDescriptor yX7_sees.desc).map (fun d => d.parameters.length) = some 1 := by decide +kernel
theorem hd_X7_seesSign : (yX7_seesSign.cls ≠ "java/lang/invoke/MethodHandle" ∧ yX7_seesSign.cls ≠ "java/lang/invoke/VarHandle") ∧ (parseMethodDescriptor yX7_seesSign.desc).map (fun d => d.parameters.length) = some 1 := by decide +kernel
theorem hd_X7_put : (yX7_put.cls ≠ "java/lang/invoke/MethodHandle" ∧ yX7_put.cls ≠ "java/lang/invoke/VarHandle") ∧ (parseMethodDescriptor yX7_put.desc).map (fun d => d.parameters.length) = some 2 := by decide +kernel
theorem hd_X7_leadHere : (yX7_leadHere.cls ≠ "java/lang/invoke/MethodHandle" ∧ yX7_leadHere.cls ≠ "java/lang/invoke/VarHandle") ∧ (parseMethodDescriptor yX7_leadHere.desc).map (fun d => d.parameters.length) = some 1 := by decide +kernel
theorem hd_X8_init : (yX8_init.cls ≠ "java/lang/invoke/MethodHandle" ∧ yX8_init.cls ≠ "java/lang/invoke/VarHandle") ∧ (parseMethodDescriptor yX8_init.desc).map (fun d => d.parameters.length) = some 2 := by decide +kernel
theorem hd_X8_find : (yX8_find.cls ≠ "java/lang/invoke/MethodHandle" ∧ yX8_find.cls ≠ "java/lang/invoke/VarHandle") ∧ (parseMethodDescriptor yX8_find.desc).map (fun d => d.parameters.length) = some 1 := by decide +kernel
theorem hd_X8_counts : (yX8_counts.cls ≠ "java/lang/invoke/MethodHandle" ∧ yX8_counts.cls ≠ "java/lang/invoke/VarHandle") ∧ (parseMethodDescriptor yX8_counts.desc).map (fun d => d.parameters.length) = some 1 := by decide +kernel
theorem hd_X8_goesRound : (yX8_goesRound.cls ≠ "java/lang/invoke/MethodHandle" ∧ yX8_goesRound.cls ≠ "java/lang/invoke/VarHandle") ∧ (parseMethodDescriptor yX8_goesRound.desc).map (fun d => d.parameters.length) = some 2 := by decide +kernel
theorem hd_X8_lowestOf : (yX8_lowestOf.cls ≠ "java/lang/invoke/MethodHandle" ∧ yX8_lowestOf.cls ≠ "java/lang/invoke/VarHandle") ∧ (parseMethodDescriptor yX8_lowestOf.desc).map (fun d => d.parameters.length) = some 1 := by decide +kernel
theorem hd_X8_drop : (yX8_drop.cls ≠ "java/lang/invoke/MethodHandle" ∧ yX8_drop.cls ≠ "java/lang/invoke/VarHandle") ∧ (parseMethodDescriptor yX8_drop.desc).map (fun d => d.parameters.length) = some 0 := by decide +kernel
theorem hd_X8_dancerAt : (yX8_dancerAt.cls ≠ "java/lang/invoke/MethodHandle" ∧ yX8_dancerAt.cls ≠ "java/lang/invoke/VarHandle") ∧ (parseMethodDescriptor yX8_dancerAt.desc).map (fun d => d.parameters.length) = some 1 := by decide +kernel
theorem hd_X8_isBetween : (yX8_isBetween.cls ≠ "java/lang/invoke/MethodHandle" ∧ yX8_isBetween.cls ≠ "java/lang/invoke/VarHandle") ∧ (parseMethodDescriptor yX8_isBetween.desc).map (fun d => d.parameters.length) = some 3 := by decide +kernel
theorem hd_X8_between : (yX8_between.cls ≠ "java/lang/invoke/MethodHandle" ∧ yX8_between.cls ≠ "java/lang/invoke/VarHandle") ∧ (parseMethodDescriptor yX8_between.desc).map (fun d => d.parameters.length) = some 2 := by decide +kernel
theorem hd_X8_take : (yX8_take.cls ≠ "java/lang/invoke/MethodHandle" ∧ yX8_take.cls ≠ "java/lang/invoke/VarHandle") ∧ (parseMethodDescriptor yX8_take.desc).map (fun d => d.parameters.length) = some 3 := by decide +kernel
theorem hd_X9_init : (yX9_init.cls ≠ "java/lang/invoke/MethodHandle" ∧ yX9_init.cls ≠ "java/lang/invoke/VarHandle") ∧ (parseMethodDescriptor yX9_init.desc).map (fun d => d.parameters.length) = some 0 := by decide +kernel
theorem hd_X9_hasRoomFor : (yX9_hasRoomFor.cls ≠ "java/lang/invoke/MethodHandle" ∧ yX9_hasRoomFor.cls ≠ "java/lang/invoke/VarHandle") ∧ (parseMethodDescriptor yX9_hasRoomFor.desc).map (fun d => d.parameters.length) = some 1 := by decide +kernel
theorem hd_X9_write : (yX9_write.cls ≠ "java/lang/invoke/MethodHandle" ∧ yX9_write.cls ≠ "java/lang/invoke/VarHandle") ∧ (parseMethodDescriptor yX9_write.desc).map (fun d => d.parameters.length) = some 1 := by decide +kernel
theorem hd_X9_byteAt : (yX9_byteAt.cls ≠ "java/lang/invoke/MethodHandle" ∧ yX9_byteAt.cls ≠ "java/lang/invoke/VarHandle") ∧ (parseMethodDescriptor yX9_byteAt.desc).map (fun d => d.parameters.length) = some 1 := by decide +kernel
theorem hd_X10_init : (yX10_init.cls ≠ "java/lang/invoke/MethodHandle" ∧ yX10_init.cls ≠ "java/lang/invoke/VarHandle") ∧ (parseMethodDescriptor yX10_init.desc).map (fun d => d.parameters.length) = some 0 := by decide +kernel
theorem hd_X10_become : (yX10_become.cls ≠ "java/lang/invoke/MethodHandle" ∧ yX10_become.cls ≠ "java/lang/invoke/VarHandle") ∧ (parseMethodDescriptor yX10_become.desc).map (fun d => d.parameters.length) = some 1 := by decide +kernel
theorem hd_X10_hasTune : (yX10_hasTune.cls ≠ "java/lang/invoke/MethodHandle" ∧ yX10_hasTune.cls ≠ "java/lang/invoke/VarHandle") ∧ (parseMethodDescriptor yX10_hasTune.desc).map (fun d => d.parameters.length) = some 1 := by decide +kernel
theorem hd_X10_hasLaw : (yX10_hasLaw.cls ≠ "java/lang/invoke/MethodHandle" ∧ yX10_hasLaw.cls ≠ "java/lang/invoke/VarHandle") ∧ (parseMethodDescriptor yX10_hasLaw.desc).map (fun d => d.parameters.length) = some 1 := by decide +kernel
theorem hd_X10_hasDance : (yX10_hasDance.cls ≠ "java/lang/invoke/MethodHandle" ∧ yX10_hasDance.cls ≠ "java/lang/invoke/VarHandle") ∧ (parseMethodDescriptor yX10_hasDance.desc).map (fun d => d.parameters.length) = some 1 := by decide +kernel
theorem hd_X10_addTune : (yX10_addTune.cls ≠ "java/lang/invoke/MethodHandle" ∧ yX10_addTune.cls ≠ "java/lang/invoke/VarHandle") ∧ (parseMethodDescriptor yX10_addTune.desc).map (fun d => d.parameters.length) = some 1 := by decide +kernel
theorem hd_X10_addLaw : (yX10_addLaw.cls ≠ "java/lang/invoke/MethodHandle" ∧ yX10_addLaw.cls ≠ "java/lang/invoke/VarHandle") ∧ (parseMethodDescriptor yX10_addLaw.desc).map (fun d => d.parameters.length) = some 1 := by decide +kernel
theorem hd_X10_lawInForce : (yX10_lawInForce.cls ≠ "java/lang/invoke/MethodHandle" ∧ yX10_lawInForce.cls ≠ "java/lang/invoke/VarHandle") ∧ (parseMethodDescriptor yX10_lawInForce.desc).map (fun d => d.parameters.length) = some 0 := by decide +kernel
theorem hd_X10_addWedding : (yX10_addWedding.cls ≠ "java/lang/invoke/MethodHandle" ∧ yX10_addWedding.cls ≠ "java/lang/invoke/VarHandle") ∧ (parseMethodDescriptor yX10_addWedding.desc).map (fun d => d.parameters.length) = some 2 := by decide +kernel
theorem hd_X10_addDance : (yX10_addDance.cls ≠ "java/lang/invoke/MethodHandle" ∧ yX10_addDance.cls ≠ "java/lang/invoke/VarHandle") ∧ (parseMethodDescriptor yX10_addDance.desc).map (fun d => d.parameters.length) = some 2 := by decide +kernel
theorem hd_X10_addAhead : (yX10_addAhead.cls ≠ "java/lang/invoke/MethodHandle" ∧ yX10_addAhead.cls ≠ "java/lang/invoke/VarHandle") ∧ (parseMethodDescriptor yX10_addAhead.desc).map (fun d => d.parameters.length) = some 2 := by decide +kernel
theorem hd_X10_lengthOfDebt : (yX10_lengthOfDebt.cls ≠ "java/lang/invoke/MethodHandle" ∧ yX10_lengthOfDebt.cls ≠ "java/lang/invoke/VarHandle") ∧ (parseMethodDescriptor yX10_lengthOfDebt.desc).map (fun d => d.parameters.length) = some 1 := by decide +kernel
theorem hd_X11_init : (yX11_init.cls ≠ "java/lang/invoke/MethodHandle" ∧ yX11_init.cls ≠ "java/lang/invoke/VarHandle") ∧ (parseMethodDescriptor yX11_init.desc).map (fun d => d.parameters.length) = some 0 := by decide +kernel
theorem hd_X11_tune : (yX11_tune.cls ≠ "java/lang/invoke/MethodHandle" ∧ yX11_tune.cls ≠ "java/lang/invoke/VarHandle") ∧ (parseMethodDescriptor yX11_tune.desc).map (fun d => d.parameters.length) = some 1 := by decide +kernel
theorem hd_X11_length : (yX11_length.cls ≠ "java/lang/invoke/MethodHandle" ∧ yX11_length.cls ≠ "java/lang/invoke/VarHandle") ∧ (parseMethodDescriptor yX11_length.desc).map (fun d => d.parameters.length) = some 1 := by decide +kernel
theorem hd_X11_owe : (yX11_owe.cls ≠ "java/lang/invoke/MethodHandle" ∧ yX11_owe.cls ≠ "java/lang/invoke/VarHandle") ∧ (parseMethodDescriptor yX11_owe.desc).map (fun d => d.parameters.length) = some 4 := by decide +kernel
theorem hd_X11_of : (yX11_of.cls ≠ "java/lang/invoke/MethodHandle" ∧ yX11_of.cls ≠ "java/lang/invoke/VarHandle") ∧ (parseMethodDescriptor yX11_of.desc).map (fun d => d.parameters.length) = some 2 := by decide +kernel
theorem hd_X11_pay : (yX11_pay.cls ≠ "java/lang/invoke/MethodHandle" ∧ yX11_pay.cls ≠ "java/lang/invoke/VarHandle") ∧ (parseMethodDescriptor yX11_pay.desc).map (fun d => d.parameters.length) = some 2 := by decide +kernel
theorem hd_X11_funeral : (yX11_funeral.cls ≠ "java/lang/invoke/MethodHandle" ∧ yX11_funeral.cls ≠ "java/lang/invoke/VarHandle") ∧ (parseMethodDescriptor yX11_funeral.desc).map (fun d => d.parameters.length) = some 1 := by decide +kernel
theorem hd_X11_terms : (yX11_terms.cls ≠ "java/lang/invoke/MethodHandle" ∧ yX11_terms.cls ≠ "java/lang/invoke/VarHandle") ∧ (parseMethodDescriptor yX11_terms.desc).map (fun d => d.parameters.length) = some 2 := by decide +kernel
theorem hd_X11_feed : (yX11_feed.cls ≠ "java/lang/invoke/MethodHandle" ∧ yX11_feed.cls ≠ "java/lang/invoke/VarHandle") ∧ (parseMethodDescriptor yX11_feed.desc).map (fun d => d.parameters.length) = some 5 := by decide +kernel
theorem hd_X11_end : (yX11_end.cls ≠ "java/lang/invoke/MethodHandle" ∧ yX11_end.cls ≠ "java/lang/invoke/VarHandle") ∧ (parseMethodDescriptor yX11_end.desc).map (fun d => d.parameters.length) = some 1 := by decide +kernel
theorem hd_X11_row : (yX11_row.cls ≠ "java/lang/invoke/MethodHandle" ∧ yX11_row.cls ≠ "java/lang/invoke/VarHandle") ∧ (parseMethodDescriptor yX11_row.desc).map (fun d => d.parameters.length) = some 0 := by decide +kernel
theorem hd_X11_sung : (yX11_sung.cls ≠ "java/lang/invoke/MethodHandle" ∧ yX11_sung.cls ≠ "java/lang/invoke/VarHandle") ∧ (parseMethodDescriptor yX11_sung.desc).map (fun d => d.parameters.length) = some 0 := by decide +kernel
theorem hd_X11_law : (yX11_law.cls ≠ "java/lang/invoke/MethodHandle" ∧ yX11_law.cls ≠ "java/lang/invoke/VarHandle") ∧ (parseMethodDescriptor yX11_law.desc).map (fun d => d.parameters.length) = some 0 := by decide +kernel
theorem hd_X11_fault : (yX11_fault.cls ≠ "java/lang/invoke/MethodHandle" ∧ yX11_fault.cls ≠ "java/lang/invoke/VarHandle") ∧ (parseMethodDescriptor yX11_fault.desc).map (fun d => d.parameters.length) = some 0 := by decide +kernel
theorem hd_X11_force : (yX11_force.cls ≠ "java/lang/invoke/MethodHandle" ∧ yX11_force.cls ≠ "java/lang/invoke/VarHandle") ∧ (parseMethodDescriptor yX11_force.desc).map (fun d => d.parameters.length) = some 1 := by decide +kernel
theorem hd_X11_balance : (yX11_balance.cls ≠ "java/lang/invoke/MethodHandle" ∧ yX11_balance.cls ≠ "java/lang/invoke/VarHandle") ∧ (parseMethodDescriptor yX11_balance.desc).map (fun d => d.parameters.length) = some 1 := by decide +kernel
theorem hd_X11_richest : (yX11_richest.cls ≠ "java/lang/invoke/MethodHandle" ∧ yX11_richest.cls ≠ "java/lang/invoke/VarHandle") ∧ (parseMethodDescriptor yX11_richest.desc).map (fun d => d.parameters.length) = some 0 := by decide +kernel
theorem hd_X11_net : (yX11_net.cls ≠ "java/lang/invoke/MethodHandle" ∧ yX11_net.cls ≠ "java/lang/invoke/VarHandle") ∧ (parseMethodDescriptor yX11_net.desc).map (fun d => d.parameters.length) = some 2 := by decide +kernel
theorem hd_X11_left : (yX11_left.cls ≠ "java/lang/invoke/MethodHandle" ∧ yX11_left.cls ≠ "java/lang/invoke/VarHandle") ∧ (parseMethodDescriptor yX11_left.desc).map (fun d => d.parameters.length) = some 2 := by decide +kernel
theorem hd_X11_ring : (yX11_ring.cls ≠ "java/lang/invoke/MethodHandle" ∧ yX11_ring.cls ≠ "java/lang/invoke/VarHandle") ∧ (parseMethodDescriptor yX11_ring.desc).map (fun d => d.parameters.length) = some 2 := by decide +kernel
theorem hd_X11_cancel : (yX11_cancel.cls ≠ "java/lang/invoke/MethodHandle" ∧ yX11_cancel.cls ≠ "java/lang/invoke/VarHandle") ∧ (parseMethodDescriptor yX11_cancel.desc).map (fun d => d.parameters.length) = some 1 := by decide +kernel
theorem hd_X11_best : (yX11_best.cls ≠ "java/lang/invoke/MethodHandle" ∧ yX11_best.cls ≠ "java/lang/invoke/VarHandle") ∧ (parseMethodDescriptor yX11_best.desc).map (fun d => d.parameters.length) = some 4 := by decide +kernel
theorem hd_X11_play : (yX11_play.cls ≠ "java/lang/invoke/MethodHandle" ∧ yX11_play.cls ≠ "java/lang/invoke/VarHandle") ∧ (parseMethodDescriptor yX11_play.desc).map (fun d => d.parameters.length) = some 3 := by decide +kernel
theorem hd_X11_bands : (yX11_bands.cls ≠ "java/lang/invoke/MethodHandle" ∧ yX11_bands.cls ≠ "java/lang/invoke/VarHandle") ∧ (parseMethodDescriptor yX11_bands.desc).map (fun d => d.parameters.length) = some 2 := by decide +kernel
theorem hd_X11_wedding : (yX11_wedding.cls ≠ "java/lang/invoke/MethodHandle" ∧ yX11_wedding.cls ≠ "java/lang/invoke/VarHandle") ∧ (parseMethodDescriptor yX11_wedding.desc).map (fun d => d.parameters.length) = some 2 := by decide +kernel
theorem hd_X11_divorce : (yX11_divorce.cls ≠ "java/lang/invoke/MethodHandle" ∧ yX11_divorce.cls ≠ "java/lang/invoke/VarHandle") ∧ (parseMethodDescriptor yX11_divorce.desc).map (fun d => d.parameters.length) = some 0 := by decide +kernel
theorem hd_X11_free : (yX11_free.cls ≠ "java/lang/invoke/MethodHandle" ∧ yX11_free.cls ≠ "java/lang/invoke/VarHandle") ∧ (parseMethodDescriptor yX11_free.desc).map (fun d => d.parameters.length) = some 1 := by decide +kernel
theorem hd_X11_dance : (yX11_dance.cls ≠ "java/lang/invoke/MethodHandle" ∧ yX11_dance.cls ≠ "java/lang/invoke/VarHandle") ∧ (parseMethodDescriptor yX11_dance.desc).map (fun d => d.parameters.length) = some 2 := by decide +kernel
theorem hd_X11_ahead : (yX11_ahead.cls ≠ "java/lang/invoke/MethodHandle" ∧ yX11_ahead.cls ≠ "java/lang/invoke/VarHandle") ∧ (parseMethodDescriptor yX11_ahead.desc).map (fun d => d.parameters.length) = some 2 := by decide +kernel
theorem hd_X11_forget : (yX11_forget.cls ≠ "java/lang/invoke/MethodHandle" ∧ yX11_forget.cls ≠ "java/lang/invoke/VarHandle") ∧ (parseMethodDescriptor yX11_forget.desc).map (fun d => d.parameters.length) = some 0 := by decide +kernel
theorem hd_X11_orders : (yX11_orders.cls ≠ "java/lang/invoke/MethodHandle" ∧ yX11_orders.cls ≠ "java/lang/invoke/VarHandle") ∧ (parseMethodDescriptor yX11_orders.desc).map (fun d => d.parameters.length) = some 2 := by decide +kernel
theorem hd_X11_can : (yX11_can.cls ≠ "java/lang/invoke/MethodHandle" ∧ yX11_can.cls ≠ "java/lang/invoke/VarHandle") ∧ (parseMethodDescriptor yX11_can.desc).map (fun d => d.parameters.length) = some 1 := by decide +kernel
theorem hd_X11_evenings : (yX11_evenings.cls ≠ "java/lang/invoke/MethodHandle" ∧ yX11_evenings.cls ≠ "java/lang/invoke/VarHandle") ∧ (parseMethodDescriptor yX11_evenings.desc).map (fun d => d.parameters.length) = some 2 := by decide +kernel
theorem hd_X11_owed : (yX11_owed.cls ≠ "java/lang/invoke/MethodHandle" ∧ yX11_owed.cls ≠ "java/lang/invoke/VarHandle") ∧ (parseMethodDescriptor yX11_owed.desc).map (fun d => d.parameters.length) = some 2 := by decide +kernel
theorem hd_X11_image : (yX11_image.cls ≠ "java/lang/invoke/MethodHandle" ∧ yX11_image.cls ≠ "java/lang/invoke/VarHandle") ∧ (parseMethodDescriptor yX11_image.desc).map (fun d => d.parameters.length) = some 1 := by decide +kernel
theorem hd_X11_back : (yX11_back.cls ≠ "java/lang/invoke/MethodHandle" ∧ yX11_back.cls ≠ "java/lang/invoke/VarHandle") ∧ (parseMethodDescriptor yX11_back.desc).map (fun d => d.parameters.length) = some 1 := by decide +kernel
theorem hd_X11_count : (yX11_count.cls ≠ "java/lang/invoke/MethodHandle" ∧ yX11_count.cls ≠ "java/lang/invoke/VarHandle") ∧ (parseMethodDescriptor yX11_count.desc).map (fun d => d.parameters.length) = some 1 := by decide +kernel
theorem hd_X11_status : (yX11_status.cls ≠ "java/lang/invoke/MethodHandle" ∧ yX11_status.cls ≠ "java/lang/invoke/VarHandle") ∧ (parseMethodDescriptor yX11_status.desc).map (fun d => d.parameters.length) = some 0 := by decide +kernel
theorem hd_X11_refuse : (yX11_refuse.cls ≠ "java/lang/invoke/MethodHandle" ∧ yX11_refuse.cls ≠ "java/lang/invoke/VarHandle") ∧ (parseMethodDescriptor yX11_refuse.desc).map (fun d => d.parameters.length) = some 1 := by decide +kernel
theorem hd_X11_refused : (yX11_refused.cls ≠ "java/lang/invoke/MethodHandle" ∧ yX11_refused.cls ≠ "java/lang/invoke/VarHandle") ∧ (parseMethodDescriptor yX11_refused.desc).map (fun d => d.parameters.length) = some 1 := by decide +kernel
theorem hd_X11_done : (yX11_done.cls ≠ "java/lang/invoke/MethodHandle" ∧ yX11_done.cls ≠ "java/lang/invoke/VarHandle") ∧ (parseMethodDescriptor yX11_done.desc).map (fun d => d.parameters.length) = some 1 := by decide +kernel
theorem hd_X11_comes : (yX11_comes.cls ≠ "java/lang/invoke/MethodHandle" ∧ yX11_comes.cls ≠ "java/lang/invoke/VarHandle") ∧ (parseMethodDescriptor yX11_comes.desc).map (fun d => d.parameters.length) = some 1 := by decide +kernel
theorem hd_X11_isDancer : (yX11_isDancer.cls ≠ "java/lang/invoke/MethodHandle" ∧ yX11_isDancer.cls ≠ "java/lang/invoke/VarHandle") ∧ (parseMethodDescriptor yX11_isDancer.desc).map (fun d => d.parameters.length) = some 1 := by decide +kernel
theorem hd_X11_canOwe : (yX11_canOwe.cls ≠ "java/lang/invoke/MethodHandle" ∧ yX11_canOwe.cls ≠ "java/lang/invoke/VarHandle") ∧ (parseMethodDescriptor yX11_canOwe.desc).map (fun d => d.parameters.length) = some 3 := by decide +kernel
theorem hd_X11_isWedding : (yX11_isWedding.cls ≠ "java/lang/invoke/MethodHandle" ∧ yX11_isWedding.cls ≠ "java/lang/invoke/VarHandle") ∧ (parseMethodDescriptor yX11_isWedding.desc).map (fun d => d.parameters.length) = some 2 := by decide +kernel
theorem hd_X12_init : (yX12_init.cls ≠ "java/lang/invoke/MethodHandle" ∧ yX12_init.cls ≠ "java/lang/invoke/VarHandle") ∧ (parseMethodDescriptor yX12_init.desc).map (fun d => d.parameters.length) = some 0 := by decide +kernel
theorem hd_X12_in : (yX12_in.cls ≠ "java/lang/invoke/MethodHandle" ∧ yX12_in.cls ≠ "java/lang/invoke/VarHandle") ∧ (parseMethodDescriptor yX12_in.desc).map (fun d => d.parameters.length) = some 3 := by decide +kernel
theorem hd_X12_is : (yX12_is.cls ≠ "java/lang/invoke/MethodHandle" ∧ yX12_is.cls ≠ "java/lang/invoke/VarHandle") ∧ (parseMethodDescriptor yX12_is.desc).map (fun d => d.parameters.length) = some 2 := by decide +kernel
theorem hd_X12_bits : (yX12_bits.cls ≠ "java/lang/invoke/MethodHandle" ∧ yX12_bits.cls ≠ "java/lang/invoke/VarHandle") ∧ (parseMethodDescriptor yX12_bits.desc).map (fun d => d.parameters.length) = some 1 := by decide +kernel
theorem hd_X12_tell : (yX12_tell.cls ≠ "java/lang/invoke/MethodHandle" ∧ yX12_tell.cls ≠ "java/lang/invoke/VarHandle") ∧ (parseMethodDescriptor yX12_tell.desc).map (fun d => d.parameters.length) = some 1 := by decide +kernel
theorem hd_X12_change : (yX12_change.cls ≠ "java/lang/invoke/MethodHandle" ∧ yX12_change.cls ≠ "java/lang/invoke/VarHandle") ∧ (parseMethodDescriptor yX12_change.desc).map (fun d => d.parameters.length) = some 2 := by decide +kernel
theorem hd_X12_image : (yX12_image.cls ≠ "java/lang/invoke/MethodHandle" ∧ yX12_image.cls ≠ "java/lang/invoke/VarHandle") ∧ (parseMethodDescriptor yX12_image.desc).map (fun d => d.parameters.length) = some 1 := by decide +kernel
theorem hd_X12_back : (yX12_back.cls ≠ "java/lang/invoke/MethodHandle" ∧ yX12_back.cls ≠ "java/lang/invoke/VarHandle") ∧ (parseMethodDescriptor yX12_back.desc).map (fun d => d.parameters.length) = some 1 := by decide +kernel
theorem hd_X12_isDancer : (yX12_isDancer.cls ≠ "java/lang/invoke/MethodHandle" ∧ yX12_isDancer.cls ≠ "java/lang/invoke/VarHandle") ∧ (parseMethodDescriptor yX12_isDancer.desc).map (fun d => d.parameters.length) = some 1 := by decide +kernel
theorem hd_X12_isTune : (yX12_isTune.cls ≠ "java/lang/invoke/MethodHandle" ∧ yX12_isTune.cls ≠ "java/lang/invoke/VarHandle") ∧ (parseMethodDescriptor yX12_isTune.desc).map (fun d => d.parameters.length) = some 1 := by decide +kernel
theorem hd_X12_debts : (yX12_debts.cls ≠ "java/lang/invoke/MethodHandle" ∧ yX12_debts.cls ≠ "java/lang/invoke/VarHandle") ∧ (parseMethodDescriptor yX12_debts.desc).map (fun d => d.parameters.length) = some 0 := by decide +kernel
theorem hd_X12_isDebt : (yX12_isDebt.cls ≠ "java/lang/invoke/MethodHandle" ∧ yX12_isDebt.cls ≠ "java/lang/invoke/VarHandle") ∧ (parseMethodDescriptor yX12_isDebt.desc).map (fun d => d.parameters.length) = some 1 := by decide +kernel
theorem hd_X12_ofDebt : (yX12_ofDebt.cls ≠ "java/lang/invoke/MethodHandle" ∧ yX12_ofDebt.cls ≠ "java/lang/invoke/VarHandle") ∧ (parseMethodDescriptor yX12_ofDebt.desc).map (fun d => d.parameters.length) = some 2 := by decide +kernel
theorem hd_X12_lengthOf : (yX12_lengthOf.cls ≠ "java/lang/invoke/MethodHandle" ∧ yX12_lengthOf.cls ≠ "java/lang/invoke/VarHandle") ∧ (parseMethodDescriptor yX12_lengthOf.desc).map (fun d => d.parameters.length) = some 1 := by decide +kernel
theorem hd_X12_tune : (yX12_tune.cls ≠ "java/lang/invoke/MethodHandle" ∧ yX12_tune.cls ≠ "java/lang/invoke/VarHandle") ∧ (parseMethodDescriptor yX12_tune.desc).map (fun d => d.parameters.length) = some 1 := by decide +kernel
theorem hd_X12_length : (yX12_length.cls ≠ "java/lang/invoke/MethodHandle" ∧ yX12_length.cls ≠ "java/lang/invoke/VarHandle") ∧ (parseMethodDescriptor yX12_length.desc).map (fun d => d.parameters.length) = some 1 := by decide +kernel
theorem hd_X12_canOwe : (yX12_canOwe.cls ≠ "java/lang/invoke/MethodHandle" ∧ yX12_canOwe.cls ≠ "java/lang/invoke/VarHandle") ∧ (parseMethodDescriptor yX12_canOwe.desc).map (fun d => d.parameters.length) = some 3 := by decide +kernel
theorem hd_X12_addDebt : (yX12_addDebt.cls ≠ "java/lang/invoke/MethodHandle" ∧ yX12_addDebt.cls ≠ "java/lang/invoke/VarHandle") ∧ (parseMethodDescriptor yX12_addDebt.desc).map (fun d => d.parameters.length) = some 4 := by decide +kernel
theorem hd_X12_owe : (yX12_owe.cls ≠ "java/lang/invoke/MethodHandle" ∧ yX12_owe.cls ≠ "java/lang/invoke/VarHandle") ∧ (parseMethodDescriptor yX12_owe.desc).map (fun d => d.parameters.length) = some 4 := by decide +kernel
theorem hd_X12_sweep : (yX12_sweep.cls ≠ "java/lang/invoke/MethodHandle" ∧ yX12_sweep.cls ≠ "java/lang/invoke/VarHandle") ∧ (parseMethodDescriptor yX12_sweep.desc).map (fun d => d.parameters.length) = some 0 := by decide +kernel
theorem hd_X12_of : (yX12_of.cls ≠ "java/lang/invoke/MethodHandle" ∧ yX12_of.cls ≠ "java/lang/invoke/VarHandle") ∧ (parseMethodDescriptor yX12_of.desc).map (fun d => d.parameters.length) = some 2 := by decide +kernel
theorem hd_X12_pay : (yX12_pay.cls ≠ "java/lang/invoke/MethodHandle" ∧ yX12_pay.cls ≠ "java/lang/invoke/VarHandle") ∧ (parseMethodDescriptor yX12_pay.desc).map (fun d => d.parameters.length) = some 2 := by decide +kernel
theorem hd_X12_funeral : (yX12_funeral.cls ≠ "java/lang/invoke/MethodHandle" ∧ yX12_funeral.cls ≠ "java/lang/invoke/VarHandle") ∧ (parseMethodDescriptor yX12_funeral.desc).map (fun d => d.parameters.length) = some 1 := by decide +kernel
theorem hd_X12_terms : (yX12_terms.cls ≠ "java/lang/invoke/MethodHandle" ∧ yX12_terms.cls ≠ "java/lang/invoke/VarHandle") ∧ (parseMethodDescriptor yX12_terms.desc).map (fun d => d.parameters.length) = some 2 := by decide +kernel
theorem hd_X12_row : (yX12_row.cls ≠ "java/lang/invoke/MethodHandle" ∧ yX12_row.cls ≠ "java/lang/invoke/VarHandle") ∧ (parseMethodDescriptor yX12_row.desc).map (fun d => d.parameters.length) = some 0 := by decide +kernel
theorem hd_X12_sung : (yX12_sung.cls ≠ "java/lang/invoke/MethodHandle" ∧ yX12_sung.cls ≠ "java/lang/invoke/VarHandle") ∧ (parseMethodDescriptor yX12_sung.desc).map (fun d => d.parameters.length) = some 0 := by decide +kernel
theorem hd_X12_four : (yX12_four.cls ≠ "java/lang/invoke/MethodHandle" ∧ yX12_four.cls ≠ "java/lang/invoke/VarHandle") ∧ (parseMethodDescriptor yX12_four.desc).map (fun d => d.parameters.length) = some 1 := by decide +kernel
theorem hd_X12_feed : (yX12_feed.cls ≠ "java/lang/invoke/MethodHandle" ∧ yX12_feed.cls ≠ "java/lang/invoke/VarHandle") ∧ (parseMethodDescriptor yX12_feed.desc).map (fun d => d.parameters.length) = some 5 := by decide +kernel
theorem hd_X12_end : (yX12_end.cls ≠ "java/lang/invoke/MethodHandle" ∧ yX12_end.cls ≠ "java/lang/invoke/VarHandle") ∧ (parseMethodDescriptor yX12_end.desc).map (fun d => d.parameters.length) = some 1 := by decide +kernel
theorem hd_X12_isSmall : (yX12_isSmall.cls ≠ "java/lang/invoke/MethodHandle" ∧ yX12_isSmall.cls ≠ "java/lang/invoke/VarHandle") ∧ (parseMethodDescriptor yX12_isSmall.desc).map (fun d => d.parameters.length) = some 1 := by decide +kernel
theorem hd_X12_isDigit : (yX12_isDigit.cls ≠ "java/lang/invoke/MethodHandle" ∧ yX12_isDigit.cls ≠ "java/lang/invoke/VarHandle") ∧ (parseMethodDescriptor yX12_isDigit.desc).map (fun d => d.parameters.length) = some 1 := by decide +kernel
theorem hd_X12_begin : (yX12_begin.cls ≠ "java/lang/invoke/MethodHandle" ∧ yX12_begin.cls ≠ "java/lang/invoke/VarHandle") ∧ (parseMethodDescriptor yX12_begin.desc).map (fun d => d.parameters.length) = some 0 := by decide +kernel
theorem hd_X12_next : (yX12_next.cls ≠ "java/lang/invoke/MethodHandle" ∧ yX12_next.cls ≠ "java/lang/invoke/VarHandle") ∧ (parseMethodDescriptor yX12_next.desc).map (fun d => d.parameters.length) = some 0 := by decide +kernel
theorem hd_X12_isWord : (yX12_isWord.cls ≠ "java/lang/invoke/MethodHandle" ∧ yX12_isWord.cls ≠ "java/lang/invoke/VarHandle") ∧ (parseMethodDescriptor yX12_isWord.desc).map (fun d => d.parameters.length) = some 1 := by decide +kernel
theorem hd_X12_isSign : (yX12_isSign.cls ≠ "java/lang/invoke/MethodHandle" ∧ yX12_isSign.cls ≠ "java/lang/invoke/VarHandle") ∧ (parseMethodDescriptor yX12_isSign.desc).map (fun d => d.parameters.length) = some 1 := by decide +kernel
theorem hd_X12_must : (yX12_must.cls ≠ "java/lang/invoke/MethodHandle" ∧ yX12_must.cls ≠ "java/lang/invoke/VarHandle") ∧ (parseMethodDescriptor yX12_must.desc).map (fun d => d.parameters.length) = some 1 := by decide +kernel
theorem hd_X12_fault : (yX12_fault.cls ≠ "java/lang/invoke/MethodHandle" ∧ yX12_fault.cls ≠ "java/lang/invoke/VarHandle") ∧ (parseMethodDescriptor yX12_fault.desc).map (fun d => d.parameters.length) = some 0 := by decide +kernel
theorem hd_X12_emit : (yX12_emit.cls ≠ "java/lang/invoke/MethodHandle" ∧ yX12_emit.cls ≠ "java/lang/invoke/VarHandle") ∧ (parseMethodDescriptor yX12_emit.desc).map (fun d => d.parameters.length) = some 2 := by decide +kernel
theorem hd_X12_push : (yX12_push.cls ≠ "java/lang/invoke/MethodHandle" ∧ yX12_push.cls ≠ "java/lang/invoke/VarHandle") ∧ (parseMethodDescriptor yX12_push.desc).map (fun d => d.parameters.length) = some 2 := by decide +kernel
theorem hd_X12_binds : (yX12_binds.cls ≠ "java/lang/invoke/MethodHandle" ∧ yX12_binds.cls ≠ "java/lang/invoke/VarHandle") ∧ (parseMethodDescriptor yX12_binds.desc).map (fun d => d.parameters.length) = some 1 := by decide +kernel
theorem hd_X12_settle : (yX12_settle.cls ≠ "java/lang/invoke/MethodHandle" ∧ yX12_settle.cls ≠ "java/lang/invoke/VarHandle") ∧ (parseMethodDescriptor yX12_settle.desc).map (fun d => d.parameters.length) = some 1 := by decide +kernel
theorem hd_X12_inner : (yX12_inner.cls ≠ "java/lang/invoke/MethodHandle" ∧ yX12_inner.cls ≠ "java/lang/invoke/VarHandle") ∧ (parseMethodDescriptor yX12_inner.desc).map (fun d => d.parameters.length) = some 0 := by decide +kernel
theorem hd_X12_isCompared : (yX12_isCompared.cls ≠ "java/lang/invoke/MethodHandle" ∧ yX12_isCompared.cls ≠ "java/lang/invoke/VarHandle") ∧ (parseMethodDescriptor yX12_isCompared.desc).map (fun d => d.parameters.length) = some 0 := by decide +kernel
theorem hd_X12_partAt : (yX12_partAt.cls ≠ "java/lang/invoke/MethodHandle" ∧ yX12_partAt.cls ≠ "java/lang/invoke/VarHandle") ∧ (parseMethodDescriptor yX12_partAt.desc).map (fun d => d.parameters.length) = some 0 := by decide +kernel
theorem hd_X12_openBracket : (yX12_openBracket.cls ≠ "java/lang/invoke/MethodHandle" ∧ yX12_openBracket.cls ≠ "java/lang/invoke/VarHandle") ∧ (parseMethodDescriptor yX12_openBracket.desc).map (fun d => d.parameters.length) = some 1 := by decide +kernel
theorem hd_X12_leaf : (yX12_leaf.cls ≠ "java/lang/invoke/MethodHandle" ∧ yX12_leaf.cls ≠ "java/lang/invoke/VarHandle") ∧ (parseMethodDescriptor yX12_leaf.desc).map (fun d => d.parameters.length) = some 3 := by decide +kernel
theorem hd_X12_readPart : (yX12_readPart.cls ≠ "java/lang/invoke/MethodHandle" ∧ yX12_readPart.cls ≠ "java/lang/invoke/VarHandle") ∧ (parseMethodDescriptor yX12_readPart.desc).map (fun d => d.parameters.length) = some 0 := by decide +kernel
theorem hd_X12_readPlain : (yX12_readPlain.cls ≠ "java/lang/invoke/MethodHandle" ∧ yX12_readPlain.cls ≠ "java/lang/invoke/VarHandle") ∧ (parseMethodDescriptor yX12_readPlain.desc).map (fun d => d.parameters.length) = some 0 := by decide +kernel
theorem hd_X12_behindSum : (yX12_behindSum.cls ≠ "java/lang/invoke/MethodHandle" ∧ yX12_behindSum.cls ≠ "java/lang/invoke/VarHandle") ∧ (parseMethodDescriptor yX12_behindSum.desc).map (fun d => d.parameters.length) = some 1 := by decide +kernel
theorem hd_X12_behindTest : (yX12_behindTest.cls ≠ "java/lang/invoke/MethodHandle" ∧ yX12_behindTest.cls ≠ "java/lang/invoke/VarHandle") ∧ (parseMethodDescriptor yX12_behindTest.desc).map (fun d => d.parameters.length) = some 0 := by decide +kernel
theorem hd_X12_readExpression : (yX12_readExpression.cls ≠ "java/lang/invoke/MethodHandle" ∧ yX12_readExpression.cls ≠ "java/lang/invoke/VarHandle") ∧ (parseMethodDescriptor yX12_readExpression.desc).map (fun d => d.parameters.length) = some 1 := by decide +kernel
theorem hd_X12_readClause : (yX12_readClause.cls ≠ "java/lang/invoke/MethodHandle" ∧ yX12_readClause.cls ≠ "java/lang/invoke/VarHandle") ∧ (parseMethodDescriptor yX12_readClause.desc).map (fun d => d.parameters.length) = some 0 := by decide +kernel
theorem hd_X12_law : (yX12_law.cls ≠ "java/lang/invoke/MethodHandle" ∧ yX12_law.cls ≠ "java/lang/invoke/VarHandle") ∧ (parseMethodDescriptor yX12_law.desc).map (fun d => d.parameters.length) = some 0 := by decide +kernel
theorem hd_X12_force : (yX12_force.cls ≠ "java/lang/invoke/MethodHandle" ∧ yX12_force.cls ≠ "java/lang/invoke/VarHandle") ∧ (parseMethodDescriptor yX12_force.desc).map (fun d => d.parameters.length) = some 1 := by decide +kernel
theorem hd_X12_reckon : (yX12_reckon.cls ≠ "java/lang/invoke/MethodHandle" ∧ yX12_reckon.cls ≠ "java/lang/invoke/VarHandle") ∧ (parseMethodDescriptor yX12_reckon.desc).map (fun d => d.parameters.length) = some 3 := by decide +kernel
theorem hd_X12_reckonAll : (yX12_reckonAll.cls ≠ "java/lang/invoke/MethodHandle" ∧ yX12_reckonAll.cls ≠ "java/lang/invoke/VarHandle") ∧ (parseMethodDescriptor yX12_reckonAll.desc).map (fun d => d.parameters.length) = some 2 := by decide +kernel
theorem hd_X12_isSo : (yX12_isSo.cls ≠ "java/lang/invoke/MethodHandle" ∧ yX12_isSo.cls ≠ "java/lang/invoke/VarHandle") ∧ (parseMethodDescriptor yX12_isSo.desc).map (fun d => d.parameters.length) = some 1 := by decide +kernel
theorem hd_X12_askAll : (yX12_askAll.cls ≠ "java/lang/invoke/MethodHandle" ∧ yX12_askAll.cls ≠ "java/lang/invoke/VarHandle") ∧ (parseMethodDescriptor yX12_askAll.desc).map (fun d => d.parameters.length) = some 0 := by decide +kernel
theorem hd_X12_askOne : (yX12_askOne.cls ≠ "java/lang/invoke/MethodHandle" ∧ yX12_askOne.cls ≠ "java/lang/invoke/VarHandle") ∧ (parseMethodDescriptor yX12_askOne.desc).map (fun d => d.parameters.length) = some 1 := by decide +kernel
theorem hd_X12_balanceOf : (yX12_balanceOf.cls ≠ "java/lang/invoke/MethodHandle" ∧ yX12_balanceOf.cls ≠ "java/lang/invoke/VarHandle") ∧ (parseMethodDescriptor yX12_balanceOf.desc).map (fun d => d.parameters.length) = some 1 := by decide +kernel
theorem hd_X12_balance : (yX12_balance.cls ≠ "java/lang/invoke/MethodHandle" ∧ yX12_balance.cls ≠ "java/lang/invoke/VarHandle") ∧ (parseMethodDescriptor yX12_balance.desc).map (fun d => d.parameters.length) = some 1 := by decide +kernel
theorem hd_X12_richest : (yX12_richest.cls ≠ "java/lang/invoke/MethodHandle" ∧ yX12_richest.cls ≠ "java/lang/invoke/VarHandle") ∧ (parseMethodDescriptor yX12_richest.desc).map (fun d => d.parameters.length) = some 0 := by decide +kernel
theorem hd_X12_counts : (yX12_counts.cls ≠ "java/lang/invoke/MethodHandle" ∧ yX12_counts.cls ≠ "java/lang/invoke/VarHandle") ∧ (parseMethodDescriptor yX12_counts.desc).map (fun d => d.parameters.length) = some 2 := by decide +kernel
theorem hd_X12_netOf : (yX12_netOf.cls ≠ "java/lang/invoke/MethodHandle" ∧ yX12_netOf.cls ≠ "java/lang/invoke/VarHandle") ∧ (parseMethodDescriptor yX12_netOf.desc).map (fun d => d.parameters.length) = some 2 := by decide +kernel
theorem hd_X12_net : (yX12_net.cls ≠ "java/lang/invoke/MethodHandle" ∧ yX12_net.cls ≠ "java/lang/invoke/VarHandle") ∧ (parseMethodDescriptor yX12_net.desc).map (fun d => d.parameters.length) = some 2 := by decide +kernel
theorem hd_X12_payments : (yX12_payments.cls ≠ "java/lang/invoke/MethodHandle" ∧ yX12_payments.cls ≠ "java/lang/invoke/VarHandle") ∧ (parseMethodDescriptor yX12_payments.desc).map (fun d => d.parameters.length) = some 1 := by decide +kernel
theorem hd_X12_left : (yX12_left.cls ≠ "java/lang/invoke/MethodHandle" ∧ yX12_left.cls ≠ "java/lang/invoke/VarHandle") ∧ (parseMethodDescriptor yX12_left.desc).map (fun d => d.parameters.length) = some 2 := by decide +kernel
theorem hd_X12_between : (yX12_between.cls ≠ "java/lang/invoke/MethodHandle" ∧ yX12_between.cls ≠ "java/lang/invoke/VarHandle") ∧ (parseMethodDescriptor yX12_between.desc).map (fun d => d.parameters.length) = some 3 := by decide +kernel
theorem hd_X12_findRing : (yX12_findRing.cls ≠ "java/lang/invoke/MethodHandle" ∧ yX12_findRing.cls ≠ "java/lang/invoke/VarHandle") ∧ (parseMethodDescriptor yX12_findRing.desc).map (fun d => d.parameters.length) = some 1 := by decide +kernel
theorem hd_X12_goRound : (yX12_goRound.cls ≠ "java/lang/invoke/MethodHandle" ∧ yX12_goRound.cls ≠ "java/lang/invoke/VarHandle") ∧ (parseMethodDescriptor yX12_goRound.desc).map (fun d => d.parameters.length) = some 1 := by decide +kernel
theorem hd_X12_keepRing : (yX12_keepRing.cls ≠ "java/lang/invoke/MethodHandle" ∧ yX12_keepRing.cls ≠ "java/lang/invoke/VarHandle") ∧ (parseMethodDescriptor yX12_keepRing.desc).map (fun d => d.parameters.length) = some 2 := by decide +kernel
theorem hd_X12_ring : (yX12_ring.cls ≠ "java/lang/invoke/MethodHandle" ∧ yX12_ring.cls ≠ "java/lang/invoke/VarHandle") ∧ (parseMethodDescriptor yX12_ring.desc).map (fun d => d.parameters.length) = some 2 := by decide +kernel
theorem hd_X12_cancel : (yX12_cancel.cls ≠ "java/lang/invoke/MethodHandle" ∧ yX12_cancel.cls ≠ "java/lang/invoke/VarHandle") ∧ (parseMethodDescriptor yX12_cancel.desc).map (fun d => d.parameters.length) = some 1 := by decide +kernel
theorem hd_X12_isPlayed : (yX12_isPlayed.cls ≠ "java/lang/invoke/MethodHandle" ∧ yX12_isPlayed.cls ≠ "java/lang/invoke/VarHandle") ∧ (parseMethodDescriptor yX12_isPlayed.desc).map (fun d => d.parameters.length) = some 3 := by decide +kernel
theorem hd_X12_findMosts : (yX12_findMosts.cls ≠ "java/lang/invoke/MethodHandle" ∧ yX12_findMosts.cls ≠ "java/lang/invoke/VarHandle") ∧ (parseMethodDescriptor yX12_findMosts.desc).map (fun d => d.parameters.length) = some 3 := by decide +kernel
theorem hd_X12_findBest : (yX12_findBest.cls ≠ "java/lang/invoke/MethodHandle" ∧ yX12_findBest.cls ≠ "java/lang/invoke/VarHandle") ∧ (parseMethodDescriptor yX12_findBest.desc).map (fun d => d.parameters.length) = some 3 := by decide +kernel
theorem hd_X12_isWedding : (yX12_isWedding.cls ≠ "java/lang/invoke/MethodHandle" ∧ yX12_isWedding.cls ≠ "java/lang/invoke/VarHandle") ∧ (parseMethodDescriptor yX12_isWedding.desc).map (fun d => d.parameters.length) = some 3 := by decide +kernel
theorem hd_X12_best : (yX12_best.cls ≠ "java/lang/invoke/MethodHandle" ∧ yX12_best.cls ≠ "java/lang/invoke/VarHandle") ∧ (parseMethodDescriptor yX12_best.desc).map (fun d => d.parameters.length) = some 4 := by decide +kernel
theorem hd_X12_play : (yX12_play.cls ≠ "java/lang/invoke/MethodHandle" ∧ yX12_play.cls ≠ "java/lang/invoke/VarHandle") ∧ (parseMethodDescriptor yX12_play.desc).map (fun d => d.parameters.length) = some 3 := by decide +kernel
theorem hd_X12_bands : (yX12_bands.cls ≠ "java/lang/invoke/MethodHandle" ∧ yX12_bands.cls ≠ "java/lang/invoke/VarHandle") ∧ (parseMethodDescriptor yX12_bands.desc).map (fun d => d.parameters.length) = some 2 := by decide +kernel
theorem hd_X12_wedding : (yX12_wedding.cls ≠ "java/lang/invoke/MethodHandle" ∧ yX12_wedding.cls ≠ "java/lang/invoke/VarHandle") ∧ (parseMethodDescriptor yX12_wedding.desc).map (fun d => d.parameters.length) = some 2 := by decide +kernel
theorem hd_X12_divorce : (yX12_divorce.cls ≠ "java/lang/invoke/MethodHandle" ∧ yX12_divorce.cls ≠ "java/lang/invoke/VarHandle") ∧ (parseMethodDescriptor yX12_divorce.desc).map (fun d => d.parameters.length) = some 0 := by decide +kernel
theorem hd_X12_free : (yX12_free.cls ≠ "java/lang/invoke/MethodHandle" ∧ yX12_free.cls ≠ "java/lang/invoke/VarHandle") ∧ (parseMethodDescriptor yX12_free.desc).map (fun d => d.parameters.length) = some 1 := by decide +kernel
theorem hd_X12_dance : (yX12_dance.cls ≠ "java/lang/invoke/MethodHandle" ∧ yX12_dance.cls ≠ "java/lang/invoke/VarHandle") ∧ (parseMethodDescriptor yX12_dance.desc).map (fun d => d.parameters.length) = some 2 := by decide +kernel
theorem hd_X12_isDance : (yX12_isDance.cls ≠ "java/lang/invoke/MethodHandle" ∧ yX12_isDance.cls ≠ "java/lang/invoke/VarHandle") ∧ (parseMethodDescriptor yX12_isDance.desc).map (fun d => d.parameters.length) = some 1 := by decide +kernel
theorem hd_X12_ahead : (yX12_ahead.cls ≠ "java/lang/invoke/MethodHandle" ∧ yX12_ahead.cls ≠ "java/lang/invoke/VarHandle") ∧ (parseMethodDescriptor yX12_ahead.desc).map (fun d => d.parameters.length) = some 2 := by decide +kernel
theorem hd_X12_forget : (yX12_forget.cls ≠ "java/lang/invoke/MethodHandle" ∧ yX12_forget.cls ≠ "java/lang/invoke/VarHandle") ∧ (parseMethodDescriptor yX12_forget.desc).map (fun d => d.parameters.length) = some 0 := by decide +kernel
theorem hd_X12_findBefore : (yX12_findBefore.cls ≠ "java/lang/invoke/MethodHandle" ∧ yX12_findBefore.cls ≠ "java/lang/invoke/VarHandle") ∧ (parseMethodDescriptor yX12_findBefore.desc).map (fun d => d.parameters.length) = some 0 := by decide +kernel
theorem hd_X12_dancesOf : (yX12_dancesOf.cls ≠ "java/lang/invoke/MethodHandle" ∧ yX12_dancesOf.cls ≠ "java/lang/invoke/VarHandle") ∧ (parseMethodDescriptor yX12_dancesOf.desc).map (fun d => d.parameters.length) = some 1 := by decide +kernel
theorem hd_X12_findOrders : (yX12_findOrders.cls ≠ "java/lang/invoke/MethodHandle" ∧ yX12_findOrders.cls ≠ "java/lang/invoke/VarHandle") ∧ (parseMethodDescriptor yX12_findOrders.desc).map (fun d => d.parameters.length) = some 1 := by decide +kernel
theorem hd_X12_lasts : (yX12_lasts.cls ≠ "java/lang/invoke/MethodHandle" ∧ yX12_lasts.cls ≠ "java/lang/invoke/VarHandle") ∧ (parseMethodDescriptor yX12_lasts.desc).map (fun d => d.parameters.length) = some 2 := by decide +kernel
theorem hd_X12_orders : (yX12_orders.cls ≠ "java/lang/invoke/MethodHandle" ∧ yX12_orders.cls ≠ "java/lang/invoke/VarHandle") ∧ (parseMethodDescriptor yX12_orders.desc).map (fun d => d.parameters.length) = some 2 := by decide +kernel
theorem hd_X12_can : (yX12_can.cls ≠ "java/lang/invoke/MethodHandle" ∧ yX12_can.cls ≠ "java/lang/invoke/VarHandle") ∧ (parseMethodDescriptor yX12_can.desc).map (fun d => d.parameters.length) = some 1 := by decide +kernel
theorem hd_X12_draw : (yX12_draw.cls ≠ "java/lang/invoke/MethodHandle" ∧ yX12_draw.cls ≠ "java/lang/invoke/VarHandle") ∧ (parseMethodDescriptor yX12_draw.desc).map (fun d => d.parameters.length) = some 1 := by decide +kernel
theorem hd_X12_evenings : (yX12_evenings.cls ≠ "java/lang/invoke/MethodHandle" ∧ yX12_evenings.cls ≠ "java/lang/invoke/VarHandle") ∧ (parseMethodDescriptor yX12_evenings.desc).map (fun d => d.parameters.length) = some 2 := by decide +kernel
theorem hd_X12_owed : (yX12_owed.cls ≠ "java/lang/invoke/MethodHandle" ∧ yX12_owed.cls ≠ "java/lang/invoke/VarHandle") ∧ (parseMethodDescriptor yX12_owed.desc).map (fun d => d.parameters.length) = some 2 := by decide +kernel
theorem hd_X12_count : (yX12_count.cls ≠ "java/lang/invoke/MethodHandle" ∧ yX12_count.cls ≠ "java/lang/invoke/VarHandle") ∧ (parseMethodDescriptor yX12_count.desc).map (fun d => d.parameters.length) = some 1 := by decide +kernel
theorem hd_X12_status : (yX12_status.cls ≠ "java/lang/invoke/MethodHandle" ∧ yX12_status.cls ≠ "java/lang/invoke/VarHandle") ∧ (parseMethodDescriptor yX12_status.desc).map (fun d => d.parameters.length) = some 0 := by decide +kernel
theorem hd_J6_bitCount_0f7a4 : (yJ6_bitCount_0f7a4.cls ≠ "java/lang/invoke/MethodHandle" ∧ yJ6_bitCount_0f7a4.cls ≠ "java/lang/invoke/VarHandle") ∧ (parseMethodDescriptor yJ6_bitCount_0f7a4.desc).map (fun d => d.parameters.length) = some 1 := by decide +kernel
theorem hd_J9_max_7cf53 : (yJ9_max_7cf53.cls ≠ "java/lang/invoke/MethodHandle" ∧ yJ9_max_7cf53.cls ≠ "java/lang/invoke/VarHandle") ∧ (parseMethodDescriptor yJ9_max_7cf53.desc).map (fun d => d.parameters.length) = some 2 := by decide +kernel
theorem hd_J9_min_7cf53 : (yJ9_min_7cf53.cls ≠ "java/lang/invoke/MethodHandle" ∧ yJ9_min_7cf53.cls ≠ "java/lang/invoke/VarHandle") ∧ (parseMethodDescriptor yJ9_min_7cf53.desc).map (fun d => d.parameters.length) = some 2 := by decide +kernel
theorem hd_J0_length_8abf5 : (yJ0_length_8abf5.cls ≠ "java/lang/invoke/MethodHandle" ∧ yJ0_length_8abf5.cls ≠ "java/lang/invoke/VarHandle") ∧ (parseMethodDescriptor yJ0_length_8abf5.desc).map (fun d => d.parameters.length) = some 0 := by decide +kernel
theorem hd_J0_charAt_5068e : (yJ0_charAt_5068e.cls ≠ "java/lang/invoke/MethodHandle" ∧ yJ0_charAt_5068e.cls ≠ "java/lang/invoke/VarHandle") ∧ (parseMethodDescriptor yJ0_charAt_5068e.desc).map (fun d => d.parameters.length) = some 1 := by decide +kernel
theorem hd_J0_coder_7d493 : (yJ0_coder_7d493.cls ≠ "java/lang/invoke/MethodHandle" ∧ yJ0_coder_7d493.cls ≠ "java/lang/invoke/VarHandle") ∧ (parseMethodDescriptor yJ0_coder_7d493.desc).map (fun d => d.parameters.length) = some 0 := by decide +kernel
theorem hd_J0_isLatin1_aae02 : (yJ0_isLatin1_aae02.cls ≠ "java/lang/invoke/MethodHandle" ∧ yJ0_isLatin1_aae02.cls ≠ "java/lang/invoke/VarHandle") ∧ (parseMethodDescriptor yJ0_isLatin1_aae02.desc).map (fun d => d.parameters.length) = some 0 := by decide +kernel
theorem hd_J0_checkIndex_df160 : (yJ0_checkIndex_df160.cls ≠ "java/lang/invoke/MethodHandle" ∧ yJ0_checkIndex_df160.cls ≠ "java/lang/invoke/VarHandle") ∧ (parseMethodDescriptor yJ0_checkIndex_df160.desc).map (fun d => d.parameters.length) = some 2 := by decide +kernel
theorem hd_J1_charAt_3b067 : (yJ1_charAt_3b067.cls ≠ "java/lang/invoke/MethodHandle" ∧ yJ1_charAt_3b067.cls ≠ "java/lang/invoke/VarHandle") ∧ (parseMethodDescriptor yJ1_charAt_3b067.desc).map (fun d => d.parameters.length) = some 2 := by decide +kernel
theorem hd_J2_getChar_3b067 : (yJ2_getChar_3b067.cls ≠ "java/lang/invoke/MethodHandle" ∧ yJ2_getChar_3b067.cls ≠ "java/lang/invoke/VarHandle") ∧ (parseMethodDescriptor yJ2_getChar_3b067.desc).map (fun d => d.parameters.length) = some 2 := by decide +kernel
theorem hd_J2_length_9d52b : (yJ2_length_9d52b.cls ≠ "java/lang/invoke/MethodHandle" ∧ yJ2_length_9d52b.cls ≠ "java/lang/invoke/VarHandle") ∧ (parseMethodDescriptor yJ2_length_9d52b.desc).map (fun d => d.parameters.length) = some 1 := by decide +kernel
theorem hd_J2_charAt_3b067 : (yJ2_charAt_3b067.cls ≠ "java/lang/invoke/MethodHandle" ∧ yJ2_charAt_3b067.cls ≠ "java/lang/invoke/VarHandle") ∧ (parseMethodDescriptor yJ2_charAt_3b067.desc).map (fun d => d.parameters.length) = some 2 := by decide +kernel
theorem hd_J2_checkIndex_2214a : (yJ2_checkIndex_2214a.cls ≠ "java/lang/invoke/MethodHandle" ∧ yJ2_checkIndex_2214a.cls ≠ "java/lang/invoke/VarHandle") ∧ (parseMethodDescriptor yJ2_checkIndex_2214a.desc).map (fun d => d.parameters.length) = some 2 := by decide +kernel
theorem hd_J7_fill_53178 : (yJ7_fill_53178.cls ≠ "java/lang/invoke/MethodHandle" ∧ yJ7_fill_53178.cls ≠ "java/lang/invoke/VarHandle") ∧ (parseMethodDescriptor yJ7_fill_53178.desc).map (fun d => d.parameters.length) = some 2 := by decide +kernel
theorem hd_J7_copyOf_59c91 : (yJ7_copyOf_59c91.cls ≠ "java/lang/invoke/MethodHandle" ∧ yJ7_copyOf_59c91.cls ≠ "java/lang/invoke/VarHandle") ∧ (parseMethodDescriptor yJ7_copyOf_59c91.desc).map (fun d => d.parameters.length) = some 2 := by decide +kernel
theorem hd_J3_checkIndex_8e157 : (yJ3_checkIndex_8e157.cls ≠ "java/lang/invoke/MethodHandle" ∧ yJ3_checkIndex_8e157.cls ≠ "java/lang/invoke/VarHandle") ∧ (parseMethodDescriptor yJ3_checkIndex_8e157.desc).map (fun d => d.parameters.length) = some 3 := by decide +kernel
theorem hd_L_law : (yL_law.cls ≠ "java/lang/invoke/MethodHandle" ∧ yL_law.cls ≠ "java/lang/invoke/VarHandle") ∧ (parseMethodDescriptor yL_law.desc).map (fun d => d.parameters.length) = some 1 := by decide +kernel

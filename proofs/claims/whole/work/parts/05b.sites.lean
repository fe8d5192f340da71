theorem pf_X0_9 : zpf RX0 9 0 1 true (.array .int) := ⟨RX0, TX0, 6, tyX0, rfl, by decide, tw_1_155, inWX0, tyX0_ok, nmX0, rfl, fun _ => rfl, by decide +kernel⟩
theorem pf_X0_15 : zpf RX0 15 0 2 true (.array .int) := ⟨RX0, TX0, 6, tyX0, rfl, by decide, tw_1_156, inWX0, tyX0_ok, nmX0, rfl, fun _ => rfl, by decide +kernel⟩
theorem pf_X0_18 : zpf RX0 18 0 3 true (.array .int) := ⟨RX0, TX0, 6, tyX0, rfl, by decide, tw_1_157, inWX0, tyX0_ok, nmX0, rfl, fun _ => rfl, by decide +kernel⟩
theorem pf_X0_21 : zpf RX0 21 0 4 true (.array .int) := ⟨RX0, TX0, 6, tyX0, rfl, by decide, tw_1_158, inWX0, tyX0_ok, nmX0, rfl, fun _ => rfl, by decide +kernel⟩
theorem pf_X0_24 : zpf RX0 24 0 5 true (.array .int) := ⟨RX0, TX0, 6, tyX0, rfl, by decide, tw_1_159, inWX0, tyX0_ok, nmX0, rfl, fun _ => rfl, by decide +kernel⟩
theorem pf_X0_27 : zpf RX0 27 0 0 true (.object "HailCellar$Store") := ⟨RX0, TX0, 6, tyX0, rfl, by decide, tw_1_154, inWX0, tyX0_ok, nmX0, rfl, fun _ => rfl, by decide +kernel⟩
theorem gf_X0_27 : zgf RX0 27 0 0 := ⟨RX0, TX0, 6, rfl, by decide, tw_1_154, inWX0⟩
theorem gf_X0_31 : zgf RX0 31 5 1 := ⟨RX6, TX6, 9, rfl, by decide, tw_1_62, inWX6⟩
theorem cl_X0_37 : zcl RX0 "HailCellar" 0 37 mX6_reaches 4 := ⟨tw_3_213, tw_3_87, tw_1_2, fun _ => ⟨tw_3_85, tw_3_86⟩, fun h => absurd h (by decide), fun h => absurd h (by decide), by decide +kernel, by decide +kernel, by decide +kernel, by decide⟩
theorem cl_X0_41 : zcl RX0 "HailCellar" 0 41 mX6_needsYet 1 := ⟨tw_3_222, tw_3_120, tw_1_2, fun _ => ⟨tw_3_118, tw_3_119⟩, fun h => absurd h (by decide), fun h => absurd h (by decide), by decide +kernel, by decide +kernel, by decide +kernel, by decide⟩
theorem gf_X0_9 : zgf RX0 9 0 1 := ⟨RX0, TX0, 6, rfl, by decide, tw_1_155, inWX0⟩
theorem cl_X0_52 : zcl RX0 "HailCellar" 0 52 mX6_hitsAt 4 := ⟨tw_3_225, tw_3_83, tw_1_2, fun _ => ⟨tw_3_81, tw_3_82⟩, fun h => absurd h (by decide), fun h => absurd h (by decide), by decide +kernel, by decide +kernel, by decide +kernel, by decide⟩
theorem cl_X0_56 : zcl RX0 "HailCellar" 0 56 mX6_stonesOf 2 := ⟨tw_3_226, tw_2_60, tw_1_2, fun _ => ⟨tw_2_58, tw_2_59⟩, fun h => absurd h (by decide), fun h => absurd h (by decide), by decide +kernel, by decide +kernel, by decide +kernel, by decide⟩
theorem cl_X0_59 : zcl RX0 "HailCellar" 0 59 mX0_offerStone 2 := ⟨tw_3_227, tw_3_230, tw_1_7, fun _ => ⟨tw_3_229, tw_0_18⟩, fun h => absurd h (by decide), fun h => absurd h (by decide), by decide +kernel, by decide +kernel, by decide +kernel, by decide⟩
theorem cl_X0_66 : zcl RX0 "HailCellar" 0 66 mX0_startWays 1 := ⟨tw_4_0, tw_4_3, tw_1_7, fun _ => ⟨tw_4_2, tw_0_19⟩, fun h => absurd h (by decide), fun h => absurd h (by decide), by decide +kernel, by decide +kernel, by decide +kernel, by decide⟩
theorem cl_X0_70 : zcl RX0 "HailCellar" 0 70 mX0_turnedByAllAtEach 0 := ⟨tw_4_23, tw_4_26, tw_1_7, fun _ => ⟨tw_4_25, tw_0_24⟩, fun h => absurd h (by decide), fun h => absurd h (by decide), by decide +kernel, by decide +kernel, by decide +kernel, by decide⟩
theorem cl_X0_74 : zcl RX0 "HailCellar" 0 74 mX0_turnedNow 0 := ⟨tw_4_27, tw_4_30, tw_1_7, fun _ => ⟨tw_4_29, tw_0_25⟩, fun h => absurd h (by decide), fun h => absurd h (by decide), by decide +kernel, by decide +kernel, by decide +kernel, by decide⟩
theorem gf_X0_21 : zgf RX0 21 0 4 := ⟨RX0, TX0, 6, rfl, by decide, tw_1_158, inWX0⟩
theorem gf_X0_24 : zgf RX0 24 0 5 := ⟨RX0, TX0, 6, rfl, by decide, tw_1_159, inWX0⟩
theorem cl_X0_83 : zcl RX0 "HailCellar" 0 83 mX0_nextWay 0 := ⟨tw_4_32, tw_4_35, tw_1_7, fun _ => ⟨tw_4_34, tw_0_26⟩, fun h => absurd h (by decide), fun h => absurd h (by decide), by decide +kernel, by decide +kernel, by decide +kernel, by decide⟩
theorem gf_X0_18 : zgf RX0 18 0 3 := ⟨RX0, TX0, 6, rfl, by decide, tw_1_157, inWX0⟩
theorem gf_X0_87 : zgf RX0 87 5 3 := ⟨RX6, TX6, 9, rfl, by decide, tw_1_72, inWX6⟩
theorem gf_X0_91 : zgf RX0 91 3 3 := ⟨RX4, TX4, 4, rfl, by decide, tw_1_47, inWX4⟩
theorem gf_X0_96 : zgf RX0 96 5 4 := ⟨RX6, TX6, 9, rfl, by decide, tw_1_77, inWX6⟩
theorem cl_X0_99 : zcl RX0 "HailCellar" 0 99 mX0_hitsUntilHere 3 := ⟨tw_4_4, tw_4_7, tw_1_7, fun _ => ⟨tw_4_6, tw_0_20⟩, fun h => absurd h (by decide), fun h => absurd h (by decide), by decide +kernel, by decide +kernel, by decide +kernel, by decide⟩
theorem cl_X0_103 : zcl RX0 "HailCellar" 0 103 mX0_keepHits 3 := ⟨tw_4_11, tw_4_14, tw_1_7, fun _ => ⟨tw_4_13, tw_0_21⟩, fun h => absurd h (by decide), fun h => absurd h (by decide), by decide +kernel, by decide +kernel, by decide +kernel, by decide⟩
theorem cl_X0_107 : zcl RX0 "HailCellar" 0 107 mX0_hitsKept 2 := ⟨tw_4_15, tw_4_18, tw_1_7, fun _ => ⟨tw_4_17, tw_0_22⟩, fun h => absurd h (by decide), fun h => absurd h (by decide), by decide +kernel, by decide +kernel, by decide +kernel, by decide⟩
theorem cl_X0_110 : zcl RX0 "HailCellar" 0 110 mX0_close 2 := ⟨tw_4_19, tw_4_22, tw_1_7, fun _ => ⟨tw_4_21, tw_0_23⟩, fun h => absurd h (by decide), fun h => absurd h (by decide), by decide +kernel, by decide +kernel, by decide +kernel, by decide⟩
theorem cl_X0_113 : zcl RX0 "HailCellar" 0 113 mX6_throwHits 2 := ⟨tw_4_8, tw_3_100, tw_1_2, fun _ => ⟨tw_3_98, tw_3_99⟩, fun h => absurd h (by decide), fun h => absurd h (by decide), by decide +kernel, by decide +kernel, by decide +kernel, by decide⟩
theorem cl_X0_116 : zcl RX0 "HailCellar" 0 116 mX4_get 2 := ⟨tw_4_9, tw_2_65, tw_1_3, fun _ => ⟨tw_2_63, tw_2_64⟩, fun h => absurd h (by decide), fun h => absurd h (by decide), by decide +kernel, by decide +kernel, by decide +kernel, by decide⟩
theorem cl_X0_119 : zcl RX0 "HailCellar" 0 119 mX6_throwFar 3 := ⟨tw_4_10, tw_3_92, tw_1_2, fun _ => ⟨tw_3_90, tw_3_91⟩, fun h => absurd h (by decide), fun h => absurd h (by decide), by decide +kernel, by decide +kernel, by decide +kernel, by decide⟩
theorem gf_X0_15 : zgf RX0 15 0 2 := ⟨RX0, TX0, 6, rfl, by decide, tw_1_156, inWX0⟩
theorem cl_X0_122 : zcl RX0 "HailCellar" 2 122 mX0_rests 3 := ⟨tw_4_157, tw_4_159, tw_1_7, fun h => absurd h (by decide), fun _ => tw_4_158, fun h => absurd h (by decide), by decide +kernel, by decide +kernel, by decide +kernel, by decide⟩
theorem cl_X0_126 : zcl RX0 "HailCellar" 2 126 mX0_worth 2 := ⟨tw_4_160, tw_4_162, tw_1_7, fun h => absurd h (by decide), fun _ => tw_4_161, fun h => absurd h (by decide), by decide +kernel, by decide +kernel, by decide +kernel, by decide⟩
theorem pf_X1_9 : zpf RX1 9 1 0 true (.object "HailCellar$Store") := ⟨RX1, TX1, 1, tyX1, rfl, by decide, tw_1_144, inWX1, tyX1_ok, nmX1, rfl, fun _ => rfl, by decide +kernel⟩
theorem gf_X1_9 : zgf RX1 9 1 0 := ⟨RX1, TX1, 1, rfl, by decide, tw_1_144, inWX1⟩
theorem gf_X1_15 : zgf RX1 15 5 2 := ⟨RX6, TX6, 9, rfl, by decide, tw_1_66, inWX6⟩
theorem cl_X1_21 : zcl RX1 "HailCellar" 0 21 mX4_get 2 := ⟨tw_3_169, tw_2_65, tw_1_3, fun _ => ⟨tw_2_63, tw_2_64⟩, fun h => absurd h (by decide), fun h => absurd h (by decide), by decide +kernel, by decide +kernel, by decide +kernel, by decide⟩
theorem cl_X1_27 : zcl RX1 "HailCellar" 2 27 mX2_costOfDoor 1 := ⟨tw_3_174, tw_3_60, tw_1_14, fun h => absurd h (by decide), fun _ => tw_3_59, fun h => absurd h (by decide), by decide +kernel, by decide +kernel, by decide +kernel, by decide⟩
theorem gf_X1_33 : zgf RX1 33 5 0 := ⟨RX6, TX6, 9, rfl, by decide, tw_1_59, inWX6⟩
theorem cl_X1_37 : zcl RX1 "HailCellar" 2 37 mX2_meltBy 3 := ⟨tw_3_175, tw_3_1, tw_1_14, fun h => absurd h (by decide), fun _ => tw_3_0, fun h => absurd h (by decide), by decide +kernel, by decide +kernel, by decide +kernel, by decide⟩
theorem cl_X1_41 : zcl RX1 "HailCellar" 0 41 mX1_lostRings 4 := ⟨tw_3_170, tw_3_173, tw_1_6, fun _ => ⟨tw_3_172, tw_0_17⟩, fun h => absurd h (by decide), fun h => absurd h (by decide), by decide +kernel, by decide +kernel, by decide +kernel, by decide⟩
theorem cl_X1_45 : zcl RX1 "HailCellar" 0 45 mX6_stonesFrom 2 := ⟨tw_3_176, tw_3_43, tw_1_2, fun _ => ⟨tw_3_41, tw_3_42⟩, fun h => absurd h (by decide), fun h => absurd h (by decide), by decide +kernel, by decide +kernel, by decide +kernel, by decide⟩
theorem cl_X1_48 : zcl RX1 "HailCellar" 0 48 mX6_greatest 1 := ⟨tw_3_177, tw_3_180, tw_1_2, fun _ => ⟨tw_3_178, tw_3_179⟩, fun h => absurd h (by decide), fun h => absurd h (by decide), by decide +kernel, by decide +kernel, by decide +kernel, by decide⟩
theorem cl_X1_56 : zcl RX1 "HailCellar" 0 56 mX6_meltIn 2 := ⟨tw_3_190, tw_2_238, tw_1_2, fun _ => ⟨tw_2_236, tw_2_237⟩, fun h => absurd h (by decide), fun h => absurd h (by decide), by decide +kernel, by decide +kernel, by decide +kernel, by decide⟩
theorem cl_X1_59 : zcl RX1 "HailCellar" 0 59 mX6_doorCost 1 := ⟨tw_4_52, tw_3_57, tw_1_2, fun _ => ⟨tw_3_55, tw_3_56⟩, fun h => absurd h (by decide), fun h => absurd h (by decide), by decide +kernel, by decide +kernel, by decide +kernel, by decide⟩
theorem gf_X1_62 : zgf RX1 62 3 3 := ⟨RX4, TX4, 4, rfl, by decide, tw_1_46, inWX4⟩
theorem cl_X1_65 : zcl RX1 "HailCellar" 0 65 mX1_lostByDoor 2 := ⟨tw_4_48, tw_4_51, tw_1_6, fun _ => ⟨tw_4_49, tw_4_50⟩, fun h => absurd h (by decide), fun h => absurd h (by decide), by decide +kernel, by decide +kernel, by decide +kernel, by decide⟩
theorem cl_X1_68 : zcl RX1 "HailCellar" 0 68 mX1_lostBySeed 3 := ⟨tw_4_181, tw_4_184, tw_1_6, fun _ => ⟨tw_4_183, tw_0_31⟩, fun h => absurd h (by decide), fun h => absurd h (by decide), by decide +kernel, by decide +kernel, by decide +kernel, by decide⟩
theorem pf_X3_9 : zpf RX3 9 2 0 true (.array .int) := ⟨RX3, TX3, 7, tyX3, rfl, by decide, tw_1_115, inWX3, tyX3_ok, nmX3, rfl, fun _ => rfl, by decide +kernel⟩
theorem pf_X3_15 : zpf RX3 15 2 2 true (.object "HailCellar$Store") := ⟨RX3, TX3, 7, tyX3, rfl, by decide, tw_1_118, inWX3, tyX3_ok, nmX3, rfl, fun _ => rfl, by decide +kernel⟩
theorem gf_X3_19 : zgf RX3 19 2 1 := ⟨RX3, TX3, 7, rfl, by decide, tw_1_116, inWX3⟩
theorem gf_X3_9 : zgf RX3 9 2 0 := ⟨RX3, TX3, 7, rfl, by decide, tw_1_115, inWX3⟩
theorem pf_X3_19 : zpf RX3 19 2 1 false (.int) := ⟨RX3, TX3, 7, tyX3, rfl, by decide, tw_1_116, inWX3, tyX3_ok, nmX3, rfl, fun h => (by cases h), by decide +kernel⟩
theorem gf_X3_15 : zgf RX3 15 2 2 := ⟨RX3, TX3, 7, rfl, by decide, tw_1_118, inWX3⟩
theorem cl_X3_23 : zcl RX3 "HailCellar" 0 23 mX6_reset 1 := ⟨tw_2_123, tw_2_10, tw_1_2, fun _ => ⟨tw_2_8, tw_2_9⟩, fun h => absurd h (by decide), fun h => absurd h (by decide), by decide +kernel, by decide +kernel, by decide +kernel, by decide⟩
theorem pf_X3_29 : zpf RX3 29 2 3 false (.int) := ⟨RX3, TX3, 7, tyX3, rfl, by decide, tw_1_119, inWX3, tyX3_ok, nmX3, rfl, fun h => (by cases h), by decide +kernel⟩
theorem cl_X3_32 : zcl RX3 "HailCellar" 0 32 mX3_advance 0 := ⟨tw_2_124, tw_2_127, tw_1_5, fun _ => ⟨tw_2_126, tw_0_4⟩, fun h => absurd h (by decide), fun h => absurd h (by decide), by decide +kernel, by decide +kernel, by decide +kernel, by decide⟩
theorem cl_X3_37 : zcl RX3 "HailCellar" 0 37 mX3_atWord 1 := ⟨tw_2_141, tw_2_144, tw_1_5, fun _ => ⟨tw_2_143, tw_0_7⟩, fun h => absurd h (by decide), fun h => absurd h (by decide), by decide +kernel, by decide +kernel, by decide +kernel, by decide⟩
theorem cl_X3_41 : zcl RX3 "HailCellar" 0 41 mX3_storeItem 0 := ⟨tw_2_193, tw_2_196, tw_1_5, fun _ => ⟨tw_2_195, tw_0_8⟩, fun h => absurd h (by decide), fun h => absurd h (by decide), by decide +kernel, by decide +kernel, by decide +kernel, by decide⟩
theorem gf_X3_45 : zgf RX3 45 2 5 := ⟨RX3, TX3, 7, rfl, by decide, tw_1_121, inWX3⟩
theorem cl_X3_50 : zcl RX3 "HailCellar" 0 50 mX3_cellarItem 0 := ⟨tw_2_207, tw_2_210, tw_1_5, fun _ => ⟨tw_2_209, tw_0_11⟩, fun h => absurd h (by decide), fun h => absurd h (by decide), by decide +kernel, by decide +kernel, by decide +kernel, by decide⟩
theorem cl_X3_55 : zcl RX3 "HailCellar" 0 55 mX3_slingerItem 0 := ⟨tw_2_215, tw_2_218, tw_1_5, fun _ => ⟨tw_2_217, tw_0_12⟩, fun h => absurd h (by decide), fun h => absurd h (by decide), by decide +kernel, by decide +kernel, by decide +kernel, by decide⟩
theorem cl_X3_60 : zcl RX3 "HailCellar" 0 60 mX3_cloudItem 0 := ⟨tw_2_221, tw_2_224, tw_1_5, fun _ => ⟨tw_2_223, tw_0_13⟩, fun h => absurd h (by decide), fun h => absurd h (by decide), by decide +kernel, by decide +kernel, by decide +kernel, by decide⟩
theorem cl_X3_65 : zcl RX3 "HailCellar" 0 65 mX3_weeksItem 0 := ⟨tw_2_227, tw_2_230, tw_1_5, fun _ => ⟨tw_2_229, tw_0_14⟩, fun h => absurd h (by decide), fun h => absurd h (by decide), by decide +kernel, by decide +kernel, by decide +kernel, by decide⟩
theorem gf_X3_68 : zgf RX3 68 2 4 := ⟨RX3, TX3, 7, rfl, by decide, tw_1_120, inWX3⟩
theorem cl_X3_71 : zcl RX3 "HailCellar" 0 71 mX3_takeNumber 2 := ⟨tw_2_197, tw_2_200, tw_1_5, fun _ => ⟨tw_2_199, tw_0_9⟩, fun h => absurd h (by decide), fun h => absurd h (by decide), by decide +kernel, by decide +kernel, by decide +kernel, by decide⟩
theorem pf_X3_75 : zpf RX3 75 5 1 false (.int) := ⟨RX6, TX6, 9, tyX6, rfl, by decide, tw_1_63, inWX6, tyX6_ok, nmX6, rfl, fun h => (by cases h), by decide +kernel⟩
theorem cl_X3_78 : zcl RX3 "HailCellar" 0 78 mX3_itemEnds 0 := ⟨tw_2_202, tw_2_205, tw_1_5, fun _ => ⟨tw_2_204, tw_0_10⟩, fun h => absurd h (by decide), fun h => absurd h (by decide), by decide +kernel, by decide +kernel, by decide +kernel, by decide⟩
theorem gf_X3_81 : zgf RX3 81 5 2 := ⟨RX6, TX6, 9, rfl, by decide, tw_1_69, inWX6⟩
theorem cl_X3_85 : zcl RX3 "HailCellar" 0 85 mX4_isFull 0 := ⟨tw_2_211, tw_2_22, tw_1_3, fun _ => ⟨tw_2_20, tw_2_21⟩, fun h => absurd h (by decide), fun h => absurd h (by decide), by decide +kernel, by decide +kernel, by decide +kernel, by decide⟩
theorem cl_X3_90 : zcl RX3 "HailCellar" 0 90 mX6_addCellar 2 := ⟨tw_2_212, tw_2_31, tw_1_2, fun _ => ⟨tw_2_29, tw_2_30⟩, fun h => absurd h (by decide), fun h => absurd h (by decide), by decide +kernel, by decide +kernel, by decide +kernel, by decide⟩
theorem cl_X3_93 : zcl RX3 "HailCellar" 0 93 mX6_putStones 3 := ⟨tw_2_213, tw_2_72, tw_1_2, fun _ => ⟨tw_2_70, tw_2_71⟩, fun h => absurd h (by decide), fun h => absurd h (by decide), by decide +kernel, by decide +kernel, by decide +kernel, by decide⟩
theorem gf_X3_97 : zgf RX3 97 5 3 := ⟨RX6, TX6, 9, rfl, by decide, tw_1_73, inWX6⟩
theorem cl_X3_100 : zcl RX3 "HailCellar" 0 100 mX6_addSlinger 2 := ⟨tw_2_219, tw_2_86, tw_1_2, fun _ => ⟨tw_2_84, tw_2_85⟩, fun h => absurd h (by decide), fun h => absurd h (by decide), by decide +kernel, by decide +kernel, by decide +kernel, by decide⟩
theorem gf_X3_103 : zgf RX3 103 5 4 := ⟨RX6, TX6, 9, rfl, by decide, tw_1_78, inWX6⟩
theorem cl_X3_106 : zcl RX3 "HailCellar" 0 106 mX6_addCloud 2 := ⟨tw_2_225, tw_2_94, tw_1_2, fun _ => ⟨tw_2_92, tw_2_93⟩, fun h => absurd h (by decide), fun h => absurd h (by decide), by decide +kernel, by decide +kernel, by decide +kernel, by decide⟩
theorem cl_X3_109 : zcl RX3 "HailCellar" 0 109 mX6_passWeeks 1 := ⟨tw_2_231, tw_2_234, tw_1_2, fun _ => ⟨tw_2_232, tw_2_233⟩, fun h => absurd h (by decide), fun h => absurd h (by decide), by decide +kernel, by decide +kernel, by decide +kernel, by decide⟩
theorem gf_X3_112 : zgf RX3 112 2 6 := ⟨RX3, TX3, 7, rfl, by decide, tw_1_122, inWX3⟩
theorem cl_X3_115 : zcl RX3 "HailCellar" 3 115 mX7_within 3 := ⟨⟨List.mem_of_getElem? (i := 0) rfl, rfl⟩, tw_1_238, tw_1_1, fun h => absurd h (by decide), fun _ => tw_1_237, fun h => absurd h (by decide), by decide +kernel, by decide +kernel, by decide +kernel, by decide⟩
theorem gf_X3_29 : zgf RX3 29 2 3 := ⟨RX3, TX3, 7, rfl, by decide, tw_1_119, inWX3⟩
theorem cl_X3_124 : zcl RX3 "HailCellar" 0 124 mX3_byteAt 1 := ⟨tw_2_128, tw_2_131, tw_1_5, fun _ => ⟨tw_2_130, tw_0_5⟩, fun h => absurd h (by decide), fun h => absurd h (by decide), by decide +kernel, by decide +kernel, by decide +kernel, by decide⟩
theorem pf_X3_68 : zpf RX3 68 2 4 false (.int) := ⟨RX3, TX3, 7, tyX3, rfl, by decide, tw_1_120, inWX3, tyX3_ok, nmX3, rfl, fun h => (by cases h), by decide +kernel⟩
theorem cl_X3_132 : zcl RX3 "HailCellar" 2 132 mX3_tokenBegunBy 1 := ⟨tw_2_132, tw_2_134, tw_1_5, fun h => absurd h (by decide), fun _ => tw_2_133, fun h => absurd h (by decide), by decide +kernel, by decide +kernel, by decide +kernel, by decide⟩
theorem pf_X3_45 : zpf RX3 45 2 5 false (.int) := ⟨RX3, TX3, 7, tyX3, rfl, by decide, tw_1_121, inWX3, tyX3_ok, nmX3, rfl, fun h => (by cases h), by decide +kernel⟩
theorem cl_X3_140 : zcl RX3 "HailCellar" 0 140 mX3_readFigures 1 := ⟨tw_2_136, tw_2_139, tw_1_5, fun _ => ⟨tw_2_138, tw_0_6⟩, fun h => absurd h (by decide), fun h => absurd h (by decide), by decide +kernel, by decide +kernel, by decide +kernel, by decide⟩
theorem pf_X3_112 : zpf RX3 112 2 6 false (.int) := ⟨RX3, TX3, 7, tyX3, rfl, by decide, tw_1_122, inWX3, tyX3_ok, nmX3, rfl, fun h => (by cases h), by decide +kernel⟩
theorem pf_X4_15 : zpf RX4 15 3 0 true (.int) := ⟨RX4, TX4, 4, tyX4, rfl, by decide, tw_1_39, inWX4, tyX4_ok, nmX4, rfl, fun _ => rfl, by decide +kernel⟩
theorem pf_X4_21 : zpf RX4 21 3 1 true (.int) := ⟨RX4, TX4, 4, tyX4, rfl, by decide, tw_1_40, inWX4, tyX4_ok, nmX4, rfl, fun _ => rfl, by decide +kernel⟩
theorem gf_X4_15 : zgf RX4 15 3 0 := ⟨RX4, TX4, 4, rfl, by decide, tw_1_39, inWX4⟩
theorem gf_X4_21 : zgf RX4 21 3 1 := ⟨RX4, TX4, 4, rfl, by decide, tw_1_40, inWX4⟩
theorem pf_X4_24 : zpf RX4 24 3 2 true (.array .int) := ⟨RX4, TX4, 4, tyX4, rfl, by decide, tw_1_41, inWX4, tyX4_ok, nmX4, rfl, fun _ => rfl, by decide +kernel⟩
theorem gf_X4_28 : zgf RX4 28 3 3 := ⟨RX4, TX4, 4, rfl, by decide, tw_1_42, inWX4⟩
theorem cl_X4_31 : zcl RX4 "HailCellar" 0 31 mX4_placeOf 2 := ⟨tw_2_41, tw_2_44, tw_1_3, fun _ => ⟨tw_2_43, tw_0_3⟩, fun h => absurd h (by decide), fun h => absurd h (by decide), by decide +kernel, by decide +kernel, by decide +kernel, by decide⟩
theorem gf_X4_24 : zgf RX4 24 3 2 := ⟨RX4, TX4, 4, rfl, by decide, tw_1_41, inWX4⟩
theorem cl_X4_34 : zcl RX4 "HailCellar" 0 34 mX4_isFull 0 := ⟨tw_2_36, tw_2_22, tw_1_3, fun _ => ⟨tw_2_20, tw_2_21⟩, fun h => absurd h (by decide), fun h => absurd h (by decide), by decide +kernel, by decide +kernel, by decide +kernel, by decide⟩
theorem pf_X4_28 : zpf RX4 28 3 3 false (.int) := ⟨RX4, TX4, 4, tyX4, rfl, by decide, tw_1_42, inWX4, tyX4_ok, nmX4, rfl, fun h => (by cases h), by decide +kernel⟩
theorem cl_X4_38 : zcl RX4 "HailCellar" 0 38 mX4_put 3 := ⟨tw_2_37, tw_2_40, tw_1_3, fun _ => ⟨tw_2_38, tw_2_39⟩, fun h => absurd h (by decide), fun h => absurd h (by decide), by decide +kernel, by decide +kernel, by decide +kernel, by decide⟩
theorem cl_X4_42 : zcl RX4 "HailCellar" 0 42 mX4_openRow 0 := ⟨tw_4_62, tw_2_35, tw_1_3, fun _ => ⟨tw_2_33, tw_2_34⟩, fun h => absurd h (by decide), fun h => absurd h (by decide), by decide +kernel, by decide +kernel, by decide +kernel, by decide⟩
theorem pf_X5_9 : zpf RX5 9 4 1 true (.array .int) := ⟨RX5, TX5, 2, tyX5, rfl, by decide, tw_1_180, inWX5, tyX5_ok, nmX5, rfl, fun _ => rfl, by decide +kernel⟩
theorem pf_X5_15 : zpf RX5 15 4 0 true (.object "HailCellar$Store") := ⟨RX5, TX5, 2, tyX5, rfl, by decide, tw_1_179, inWX5, tyX5_ok, nmX5, rfl, fun _ => rfl, by decide +kernel⟩
theorem gf_X5_15 : zgf RX5 15 4 0 := ⟨RX5, TX5, 2, rfl, by decide, tw_1_179, inWX5⟩
theorem gf_X5_19 : zgf RX5 19 5 5 := ⟨RX6, TX6, 9, rfl, by decide, tw_1_80, inWX6⟩
theorem cl_X5_25 : zcl RX5 "HailCellar" 0 25 mX4_get 2 := ⟨tw_4_71, tw_2_65, tw_1_3, fun _ => ⟨tw_2_63, tw_2_64⟩, fun h => absurd h (by decide), fun h => absurd h (by decide), by decide +kernel, by decide +kernel, by decide +kernel, by decide⟩
theorem cl_X5_31 : zcl RX5 "HailCellar" 0 31 mX6_meltIn 2 := ⟨tw_4_72, tw_2_238, tw_1_2, fun _ => ⟨tw_2_236, tw_2_237⟩, fun h => absurd h (by decide), fun h => absurd h (by decide), by decide +kernel, by decide +kernel, by decide +kernel, by decide⟩
theorem cl_X5_34 : zcl RX5 "HailCellar" 0 34 mX6_doorCost 1 := ⟨tw_4_73, tw_3_57, tw_1_2, fun _ => ⟨tw_3_55, tw_3_56⟩, fun h => absurd h (by decide), fun h => absurd h (by decide), by decide +kernel, by decide +kernel, by decide +kernel, by decide⟩
theorem gf_X5_43 : zgf RX5 43 3 3 := ⟨RX4, TX4, 4, rfl, by decide, tw_1_44, inWX4⟩
theorem cl_X5_47 : zcl RX5 "HailCellar" 0 47 mX5_doorsBy 1 := ⟨tw_4_83, tw_4_70, tw_1_8, fun _ => ⟨tw_4_68, tw_4_69⟩, fun h => absurd h (by decide), fun h => absurd h (by decide), by decide +kernel, by decide +kernel, by decide +kernel, by decide⟩
theorem cl_X5_50 : zcl RX5 "HailCellar" 0 50 mX5_fitsNotes 2 := ⟨tw_4_104, tw_4_107, tw_1_8, fun _ => ⟨tw_4_106, tw_0_27⟩, fun h => absurd h (by decide), fun h => absurd h (by decide), by decide +kernel, by decide +kernel, by decide +kernel, by decide⟩
theorem gf_X5_54 : zgf RX5 54 5 6 := ⟨RX6, TX6, 9, rfl, by decide, tw_1_83, inWX6⟩
theorem cl_X5_57 : zcl RX5 "HailCellar" 2 57 mX2_meltBy 3 := ⟨tw_4_108, tw_3_1, tw_1_14, fun h => absurd h (by decide), fun _ => tw_3_0, fun h => absurd h (by decide), by decide +kernel, by decide +kernel, by decide +kernel, by decide⟩
theorem cl_X5_63 : zcl RX5 "HailCellar" 2 63 mX2_costOfDoor 1 := ⟨tw_4_109, tw_3_60, tw_1_14, fun h => absurd h (by decide), fun _ => tw_3_59, fun h => absurd h (by decide), by decide +kernel, by decide +kernel, by decide +kernel, by decide⟩
theorem cl_X5_66 : zcl RX5 "HailCellar" 0 66 mX5_kindsOfCellar 1 := ⟨tw_4_118, tw_4_103, tw_1_8, fun _ => ⟨tw_4_101, tw_4_102⟩, fun h => absurd h (by decide), fun h => absurd h (by decide), by decide +kernel, by decide +kernel, by decide +kernel, by decide⟩
theorem gf_X5_9 : zgf RX5 9 4 1 := ⟨RX5, TX5, 2, rfl, by decide, tw_1_180, inWX5⟩
theorem gf_X5_69 : zgf RX5 69 5 2 := ⟨RX6, TX6, 9, rfl, by decide, tw_1_68, inWX6⟩
theorem cl_X5_72 : zcl RX5 "HailCellar" 2 72 mX5_isIn 2 := ⟨tw_4_119, tw_4_121, tw_1_8, fun h => absurd h (by decide), fun _ => tw_4_120, fun h => absurd h (by decide), by decide +kernel, by decide +kernel, by decide +kernel, by decide⟩
theorem cl_X5_75 : zcl RX5 "HailCellar" 0 75 mX5_mostAlike 0 := ⟨tw_4_122, tw_4_125, tw_1_8, fun _ => ⟨tw_4_124, tw_0_28⟩, fun h => absurd h (by decide), fun h => absurd h (by decide), by decide +kernel, by decide +kernel, by decide +kernel, by decide⟩
theorem cl_X5_79 : zcl RX5 "HailCellar" 0 79 mX5_fitsThrown 2 := ⟨tw_4_134, tw_4_137, tw_1_8, fun _ => ⟨tw_4_136, tw_0_29⟩, fun h => absurd h (by decide), fun h => absurd h (by decide), by decide +kernel, by decide +kernel, by decide +kernel, by decide⟩
theorem gf_X5_82 : zgf RX5 82 5 7 := ⟨RX6, TX6, 9, rfl, by decide, tw_1_86, inWX6⟩
theorem gf_X5_85 : zgf RX5 85 5 3 := ⟨RX6, TX6, 9, rfl, by decide, tw_1_74, inWX6⟩
theorem cl_X5_88 : zcl RX5 "HailCellar" 2 88 mX2_farBy 4 := ⟨tw_4_138, tw_3_95, tw_1_14, fun h => absurd h (by decide), fun _ => tw_3_94, fun h => absurd h (by decide), by decide +kernel, by decide +kernel, by decide +kernel, by decide⟩
theorem cl_X5_92 : zcl RX5 "HailCellar" 2 92 mX2_hitsBy 2 := ⟨tw_4_139, tw_3_103, tw_1_14, fun h => absurd h (by decide), fun _ => tw_3_102, fun h => absurd h (by decide), by decide +kernel, by decide +kernel, by decide +kernel, by decide⟩
theorem cl_X5_95 : zcl RX5 "HailCellar" 0 95 mX5_kindsOfSlinger 1 := ⟨tw_4_148, tw_4_133, tw_1_8, fun _ => ⟨tw_4_131, tw_4_132⟩, fun h => absurd h (by decide), fun h => absurd h (by decide), by decide +kernel, by decide +kernel, by decide +kernel, by decide⟩
theorem nw_X6_11 : znw RX6 11 3 [.int 0, .int 0, .null, .int 0] := ⟨RX4, TX4, 4, tyX4, rfl, rfl, tw_1_30, tw_1_31, tw_1_3, inWX4, tyX4_ok, fun k hk => by
  match k, hk with
  | 0, _ => rfl
  | 1, _ => rfl
  | 2, _ => rfl
  | 3, _ => rfl⟩
theorem cl_X6_13 : zcl RX6 "HailCellar" 4 13 mX4_init 2 := ⟨tw_1_32, tw_1_34, tw_1_3, fun h => absurd h (by decide), fun h => absurd h (by decide), fun _ => ⟨tw_1_33, rfl, rfl⟩, by decide +kernel, by decide +kernel, by decide +kernel, by decide⟩
theorem pf_X6_16 : zpf RX6 16 5 2 true (.object "HailCellar$Sheet") := ⟨RX6, TX6, 9, tyX6, rfl, by decide, tw_1_65, inWX6, tyX6_ok, nmX6, rfl, fun _ => rfl, by decide +kernel⟩
theorem pf_X6_20 : zpf RX6 20 5 3 true (.object "HailCellar$Sheet") := ⟨RX6, TX6, 9, tyX6, rfl, by decide, tw_1_70, inWX6, tyX6_ok, nmX6, rfl, fun _ => rfl, by decide +kernel⟩
theorem pf_X6_23 : zpf RX6 23 5 4 true (.object "HailCellar$Sheet") := ⟨RX6, TX6, 9, tyX6, rfl, by decide, tw_1_75, inWX6, tyX6_ok, nmX6, rfl, fun _ => rfl, by decide +kernel⟩
theorem pf_X6_26 : zpf RX6 26 5 5 true (.object "HailCellar$Sheet") := ⟨RX6, TX6, 9, tyX6, rfl, by decide, tw_1_79, inWX6, tyX6_ok, nmX6, rfl, fun _ => rfl, by decide +kernel⟩
theorem pf_X6_29 : zpf RX6 29 5 6 true (.object "HailCellar$Sheet") := ⟨RX6, TX6, 9, tyX6, rfl, by decide, tw_1_82, inWX6, tyX6_ok, nmX6, rfl, fun _ => rfl, by decide +kernel⟩
theorem pf_X6_32 : zpf RX6 32 5 7 true (.object "HailCellar$Sheet") := ⟨RX6, TX6, 9, tyX6, rfl, by decide, tw_1_85, inWX6, tyX6_ok, nmX6, rfl, fun _ => rfl, by decide +kernel⟩
theorem pf_X6_35 : zpf RX6 35 5 8 true (.object "HailCellar$Sheet") := ⟨RX6, TX6, 9, tyX6, rfl, by decide, tw_1_88, inWX6, tyX6_ok, nmX6, rfl, fun _ => rfl, by decide +kernel⟩
theorem pf_X6_38 : zpf RX6 38 5 0 false (.int) := ⟨RX6, TX6, 9, tyX6, rfl, by decide, tw_1_58, inWX6, tyX6_ok, nmX6, rfl, fun h => (by cases h), by decide +kernel⟩
theorem pf_X6_42 : zpf RX6 42 5 1 false (.int) := ⟨RX6, TX6, 9, tyX6, rfl, by decide, tw_1_61, inWX6, tyX6_ok, nmX6, rfl, fun h => (by cases h), by decide +kernel⟩
theorem gf_X6_16 : zgf RX6 16 5 2 := ⟨RX6, TX6, 9, rfl, by decide, tw_1_65, inWX6⟩
theorem cl_X6_45 : zcl RX6 "HailCellar" 0 45 mX4_empty 0 := ⟨tw_2_11, tw_2_14, tw_1_3, fun _ => ⟨tw_2_12, tw_2_13⟩, fun h => absurd h (by decide), fun h => absurd h (by decide), by decide +kernel, by decide +kernel, by decide +kernel, by decide⟩
theorem gf_X6_20 : zgf RX6 20 5 3 := ⟨RX6, TX6, 9, rfl, by decide, tw_1_70, inWX6⟩
theorem gf_X6_23 : zgf RX6 23 5 4 := ⟨RX6, TX6, 9, rfl, by decide, tw_1_75, inWX6⟩
theorem gf_X6_26 : zgf RX6 26 5 5 := ⟨RX6, TX6, 9, rfl, by decide, tw_1_79, inWX6⟩
theorem gf_X6_29 : zgf RX6 29 5 6 := ⟨RX6, TX6, 9, rfl, by decide, tw_1_82, inWX6⟩
theorem gf_X6_32 : zgf RX6 32 5 7 := ⟨RX6, TX6, 9, rfl, by decide, tw_1_85, inWX6⟩
theorem gf_X6_35 : zgf RX6 35 5 8 := ⟨RX6, TX6, 9, rfl, by decide, tw_1_88, inWX6⟩
theorem gf_X6_38 : zgf RX6 38 5 0 := ⟨RX6, TX6, 9, rfl, by decide, tw_1_58, inWX6⟩
theorem gf_X6_42 : zgf RX6 42 5 1 := ⟨RX6, TX6, 9, rfl, by decide, tw_1_61, inWX6⟩
theorem cl_X6_49 : zcl RX6 "HailCellar" 0 49 mX4_copyFrom 1 := ⟨tw_3_10, tw_3_13, tw_1_3, fun _ => ⟨tw_3_11, tw_3_12⟩, fun h => absurd h (by decide), fun h => absurd h (by decide), by decide +kernel, by decide +kernel, by decide +kernel, by decide⟩
theorem cl_X6_53 : zcl RX6 "HailCellar" 0 53 mX4_isFull 0 := ⟨tw_3_26, tw_2_22, tw_1_3, fun _ => ⟨tw_2_20, tw_2_21⟩, fun h => absurd h (by decide), fun h => absurd h (by decide), by decide +kernel, by decide +kernel, by decide +kernel, by decide⟩
theorem cl_X6_57 : zcl RX6 "HailCellar" 0 57 mX4_dropFirst 0 := ⟨tw_3_27, tw_3_30, tw_1_3, fun _ => ⟨tw_3_28, tw_3_29⟩, fun h => absurd h (by decide), fun h => absurd h (by decide), by decide +kernel, by decide +kernel, by decide +kernel, by decide⟩
theorem cl_X6_60 : zcl RX6 "HailCellar" 0 60 mX4_openRow 0 := ⟨tw_2_32, tw_2_35, tw_1_3, fun _ => ⟨tw_2_33, tw_2_34⟩, fun h => absurd h (by decide), fun h => absurd h (by decide), by decide +kernel, by decide +kernel, by decide +kernel, by decide⟩
theorem cl_X6_63 : zcl RX6 "HailCellar" 0 63 mX4_put 3 := ⟨tw_2_45, tw_2_40, tw_1_3, fun _ => ⟨tw_2_38, tw_2_39⟩, fun h => absurd h (by decide), fun h => absurd h (by decide), by decide +kernel, by decide +kernel, by decide +kernel, by decide⟩
theorem cl_X6_67 : zcl RX6 "HailCellar" 0 67 mX4_putSheet 3 := ⟨tw_3_31, tw_3_34, tw_1_3, fun _ => ⟨tw_3_32, tw_3_33⟩, fun h => absurd h (by decide), fun h => absurd h (by decide), by decide +kernel, by decide +kernel, by decide +kernel, by decide⟩
theorem gf_X6_71 : zgf RX6 71 3 3 := ⟨RX4, TX4, 4, rfl, by decide, tw_1_45, inWX4⟩
theorem cl_X6_74 : zcl RX6 "HailCellar" 0 74 mX4_holds 1 := ⟨tw_3_133, tw_2_53, tw_1_3, fun _ => ⟨tw_2_51, tw_2_52⟩, fun h => absurd h (by decide), fun h => absurd h (by decide), by decide +kernel, by decide +kernel, by decide +kernel, by decide⟩
theorem cl_X6_78 : zcl RX6 "HailCellar" 0 78 mX4_get 2 := ⟨tw_2_62, tw_2_65, tw_1_3, fun _ => ⟨tw_2_63, tw_2_64⟩, fun h => absurd h (by decide), fun h => absurd h (by decide), by decide +kernel, by decide +kernel, by decide +kernel, by decide⟩
theorem cl_X6_82 : zcl RX6 "HailCellar" 0 82 mX4_getSheet 3 := ⟨tw_3_134, tw_3_137, tw_1_3, fun _ => ⟨tw_3_135, tw_3_136⟩, fun h => absurd h (by decide), fun h => absurd h (by decide), by decide +kernel, by decide +kernel, by decide +kernel, by decide⟩
theorem pf_X6_71 : zpf RX6 71 3 3 false (.int) := ⟨RX4, TX4, 4, tyX4, rfl, by decide, tw_1_45, inWX4, tyX4_ok, nmX4, rfl, fun h => (by cases h), by decide +kernel⟩
theorem cl_X6_85 : zcl RX6 "HailCellar" 3 85 mX7_isRings 1 := ⟨⟨List.mem_of_getElem? (i := 1) rfl, rfl⟩, tw_2_56, tw_1_1, fun h => absurd h (by decide), fun _ => tw_2_55, fun h => absurd h (by decide), by decide +kernel, by decide +kernel, by decide +kernel, by decide⟩
theorem cl_X6_93 : zcl RX6 "HailCellar" 0 93 mX6_stonesOf 2 := ⟨tw_3_45, tw_2_60, tw_1_2, fun _ => ⟨tw_2_58, tw_2_59⟩, fun h => absurd h (by decide), fun h => absurd h (by decide), by decide +kernel, by decide +kernel, by decide +kernel, by decide⟩
theorem cl_X6_96 : zcl RX6 "HailCellar" 0 96 mX6_stonesFrom 2 := ⟨tw_3_40, tw_3_43, tw_1_2, fun _ => ⟨tw_3_41, tw_3_42⟩, fun h => absurd h (by decide), fun h => absurd h (by decide), by decide +kernel, by decide +kernel, by decide +kernel, by decide⟩
theorem cl_X6_99 : zcl RX6 "HailCellar" 2 99 mX2_meltBy 3 := ⟨tw_2_239, tw_3_1, tw_1_14, fun h => absurd h (by decide), fun _ => tw_3_0, fun h => absurd h (by decide), by decide +kernel, by decide +kernel, by decide +kernel, by decide⟩
theorem cl_X6_105 : zcl RX6 "HailCellar" 2 105 mX2_costOfDoor 1 := ⟨tw_3_58, tw_3_60, tw_1_14, fun h => absurd h (by decide), fun _ => tw_3_59, fun h => absurd h (by decide), by decide +kernel, by decide +kernel, by decide +kernel, by decide⟩
theorem cl_X6_109 : zcl RX6 "HailCellar" 0 109 mX6_doorCost 1 := ⟨tw_3_54, tw_3_57, tw_1_2, fun _ => ⟨tw_3_55, tw_3_56⟩, fun h => absurd h (by decide), fun h => absurd h (by decide), by decide +kernel, by decide +kernel, by decide +kernel, by decide⟩
theorem cl_X6_112 : zcl RX6 "HailCellar" 0 112 mX6_loseRings 2 := ⟨tw_3_2, tw_3_5, tw_1_2, fun _ => ⟨tw_3_4, tw_0_15⟩, fun h => absurd h (by decide), fun h => absurd h (by decide), by decide +kernel, by decide +kernel, by decide +kernel, by decide⟩
theorem cl_X6_115 : zcl RX6 "HailCellar" 0 115 mX6_meltIn 2 := ⟨tw_2_235, tw_2_238, tw_1_2, fun _ => ⟨tw_2_236, tw_2_237⟩, fun h => absurd h (by decide), fun h => absurd h (by decide), by decide +kernel, by decide +kernel, by decide +kernel, by decide⟩
theorem cl_X6_118 : zcl RX6 "HailCellar" 2 118 mX2_farBy 4 := ⟨tw_3_93, tw_3_95, tw_1_14, fun h => absurd h (by decide), fun _ => tw_3_94, fun h => absurd h (by decide), by decide +kernel, by decide +kernel, by decide +kernel, by decide⟩
theorem cl_X6_122 : zcl RX6 "HailCellar" 2 122 mX2_hitsBy 2 := ⟨tw_3_101, tw_3_103, tw_1_14, fun h => absurd h (by decide), fun _ => tw_3_102, fun h => absurd h (by decide), by decide +kernel, by decide +kernel, by decide +kernel, by decide⟩
theorem cl_X6_125 : zcl RX6 "HailCellar" 0 125 mX6_needsYet 1 := ⟨tw_3_117, tw_3_120, tw_1_2, fun _ => ⟨tw_3_118, tw_3_119⟩, fun h => absurd h (by decide), fun h => absurd h (by decide), by decide +kernel, by decide +kernel, by decide +kernel, by decide⟩
theorem cl_X6_128 : zcl RX6 "HailCellar" 0 128 mX6_isTurned 1 := ⟨tw_3_113, tw_3_116, tw_1_2, fun _ => ⟨tw_3_114, tw_3_115⟩, fun h => absurd h (by decide), fun h => absurd h (by decide), by decide +kernel, by decide +kernel, by decide +kernel, by decide⟩
theorem cl_X6_131 : zcl RX6 "HailCellar" 0 131 mX6_isHere 1 := ⟨tw_3_88, tw_3_69, tw_1_2, fun _ => ⟨tw_3_67, tw_3_68⟩, fun h => absurd h (by decide), fun h => absurd h (by decide), by decide +kernel, by decide +kernel, by decide +kernel, by decide⟩
theorem cl_X6_134 : zcl RX6 "HailCellar" 0 134 mX6_throwFar 3 := ⟨tw_3_89, tw_3_92, tw_1_2, fun _ => ⟨tw_3_90, tw_3_91⟩, fun h => absurd h (by decide), fun h => absurd h (by decide), by decide +kernel, by decide +kernel, by decide +kernel, by decide⟩
theorem cl_X6_137 : zcl RX6 "HailCellar" 0 137 mX6_reaches 4 := ⟨tw_3_84, tw_3_87, tw_1_2, fun _ => ⟨tw_3_85, tw_3_86⟩, fun h => absurd h (by decide), fun h => absurd h (by decide), by decide +kernel, by decide +kernel, by decide +kernel, by decide⟩
theorem cl_X6_141 : zcl RX6 "HailCellar" 0 141 mX6_throwHits 2 := ⟨tw_3_97, tw_3_100, tw_1_2, fun _ => ⟨tw_3_98, tw_3_99⟩, fun h => absurd h (by decide), fun h => absurd h (by decide), by decide +kernel, by decide +kernel, by decide +kernel, by decide⟩
theorem cl_X6_144 : zcl RX6 "HailCellar" 0 144 mX6_putStones 3 := ⟨tw_3_78, tw_2_72, tw_1_2, fun _ => ⟨tw_2_70, tw_2_71⟩, fun h => absurd h (by decide), fun h => absurd h (by decide), by decide +kernel, by decide +kernel, by decide +kernel, by decide⟩
theorem cl_X6_147 : zcl RX6 "HailCellar" 0 147 mX6_openDoor 1 := ⟨tw_3_79, tw_3_53, tw_1_2, fun _ => ⟨tw_3_51, tw_3_52⟩, fun h => absurd h (by decide), fun h => absurd h (by decide), by decide +kernel, by decide +kernel, by decide +kernel, by decide⟩
theorem cl_X6_151 : zcl RX6 "HailCellar" 0 151 mX6_hitsAt 4 := ⟨tw_3_80, tw_3_83, tw_1_2, fun _ => ⟨tw_3_81, tw_3_82⟩, fun h => absurd h (by decide), fun h => absurd h (by decide), by decide +kernel, by decide +kernel, by decide +kernel, by decide⟩
theorem nw_X7_7 : znw RX7 7 5 [.int 0, .int 0, .null, .null, .null, .null, .null, .null, .null] := ⟨RX6, TX6, 9, tyX6, rfl, rfl, tw_1_24, tw_1_25, tw_1_2, inWX6, tyX6_ok, fun k hk => by
  match k, hk with
  | 0, _ => rfl
  | 1, _ => rfl
  | 2, _ => rfl
  | 3, _ => rfl
  | 4, _ => rfl
  | 5, _ => rfl
  | 6, _ => rfl
  | 7, _ => rfl
  | 8, _ => rfl⟩
theorem cl_X7_9 : zcl RX7 "HailCellar" 5 9 mX6_init 0 := ⟨⟨List.mem_of_getElem? (i := 2) rfl, rfl⟩, tw_1_28, tw_1_2, fun h => absurd h (by decide), fun h => absurd h (by decide), fun _ => ⟨tw_1_27, rfl, rfl⟩, by decide +kernel, by decide +kernel, by decide +kernel, by decide⟩
theorem pf_X7_10 : zpf RX7 10 6 0 true (.object "HailCellar$Store") := ⟨RX7, TX7, 15, tyX7, rfl, by decide, tw_1_186, inWX7, tyX7_ok, nmX7, rfl, fun _ => rfl, by decide +kernel⟩
theorem pf_X7_16 : zpf RX7 16 6 1 true (.object "HailCellar$Store") := ⟨RX7, TX7, 15, tyX7, rfl, by decide, tw_1_187, inWX7, tyX7_ok, nmX7, rfl, fun _ => rfl, by decide +kernel⟩
theorem pf_X7_19 : zpf RX7 19 6 2 true (.object "HailCellar$Store") := ⟨RX7, TX7, 15, tyX7, rfl, by decide, tw_1_188, inWX7, tyX7_ok, nmX7, rfl, fun _ => rfl, by decide +kernel⟩
theorem pf_X7_22 : zpf RX7 22 6 3 true (.object "HailCellar$Store") := ⟨RX7, TX7, 15, tyX7, rfl, by decide, tw_1_189, inWX7, tyX7_ok, nmX7, rfl, fun _ => rfl, by decide +kernel⟩
theorem nw_X7_25 : znw RX7 25 2 [.null, .int 0, .null, .int 0, .int 0, .int 0, .int 0] := ⟨RX3, TX3, 7, tyX3, rfl, rfl, tw_1_109, tw_1_110, tw_1_5, inWX3, tyX3_ok, fun k hk => by
  match k, hk with
  | 0, _ => rfl
  | 1, _ => rfl
  | 2, _ => rfl
  | 3, _ => rfl
  | 4, _ => rfl
  | 5, _ => rfl
  | 6, _ => rfl⟩
theorem gf_X7_22 : zgf RX7 22 6 3 := ⟨RX7, TX7, 15, rfl, by decide, tw_1_189, inWX7⟩
theorem cl_X7_27 : zcl RX7 "HailCellar" 4 27 mX3_init 1 := ⟨tw_1_111, tw_1_113, tw_1_5, fun h => absurd h (by decide), fun h => absurd h (by decide), fun _ => ⟨tw_1_112, rfl, rfl⟩, by decide +kernel, by decide +kernel, by decide +kernel, by decide⟩
theorem pf_X7_30 : zpf RX7 30 6 4 true (.object "HailCellar$Reader") := ⟨RX7, TX7, 15, tyX7, rfl, by decide, tw_1_190, inWX7, tyX7_ok, nmX7, rfl, fun _ => rfl, by decide +kernel⟩
theorem nw_X7_34 : znw RX7 34 1 [.null] := ⟨RX1, TX1, 1, tyX1, rfl, rfl, tw_1_138, tw_1_139, tw_1_6, inWX1, tyX1_ok, fun k hk => by
  match k, hk with
  | 0, _ => rfl⟩
theorem gf_X7_10 : zgf RX7 10 6 0 := ⟨RX7, TX7, 15, rfl, by decide, tw_1_186, inWX7⟩
theorem cl_X7_36 : zcl RX7 "HailCellar" 4 36 mX1_init 1 := ⟨tw_1_140, tw_1_142, tw_1_6, fun h => absurd h (by decide), fun h => absurd h (by decide), fun _ => ⟨tw_1_141, rfl, rfl⟩, by decide +kernel, by decide +kernel, by decide +kernel, by decide⟩
theorem pf_X7_37 : zpf RX7 37 6 5 true (.object "HailCellar$Forecast") := ⟨RX7, TX7, 15, tyX7, rfl, by decide, tw_1_191, inWX7, tyX7_ok, nmX7, rfl, fun _ => rfl, by decide +kernel⟩
theorem nw_X7_41 : znw RX7 41 0 [.null, .null, .null, .null, .null, .null] := ⟨RX0, TX0, 6, tyX0, rfl, rfl, tw_1_148, tw_1_149, tw_1_7, inWX0, tyX0_ok, fun k hk => by
  match k, hk with
  | 0, _ => rfl
  | 1, _ => rfl
  | 2, _ => rfl
  | 3, _ => rfl
  | 4, _ => rfl
  | 5, _ => rfl⟩
theorem cl_X7_43 : zcl RX7 "HailCellar" 4 43 mX0_init 1 := ⟨tw_1_150, tw_1_152, tw_1_7, fun h => absurd h (by decide), fun h => absurd h (by decide), fun _ => ⟨tw_1_151, rfl, rfl⟩, by decide +kernel, by decide +kernel, by decide +kernel, by decide⟩
theorem pf_X7_44 : zpf RX7 44 6 6 true (.object "HailCellar$Battle") := ⟨RX7, TX7, 15, tyX7, rfl, by decide, tw_1_192, inWX7, tyX7_ok, nmX7, rfl, fun _ => rfl, by decide +kernel⟩
theorem nw_X7_48 : znw RX7 48 4 [.null, .null] := ⟨RX5, TX5, 2, tyX5, rfl, rfl, tw_1_173, tw_1_174, tw_1_8, inWX5, tyX5_ok, fun k hk => by
  match k, hk with
  | 0, _ => rfl
  | 1, _ => rfl⟩
theorem cl_X7_50 : zcl RX7 "HailCellar" 4 50 mX5_init 1 := ⟨tw_1_175, tw_1_177, tw_1_8, fun h => absurd h (by decide), fun h => absurd h (by decide), fun _ => ⟨tw_1_176, rfl, rfl⟩, by decide +kernel, by decide +kernel, by decide +kernel, by decide⟩
theorem pf_X7_51 : zpf RX7 51 6 7 true (.object "HailCellar$Sleuth") := ⟨RX7, TX7, 15, tyX7, rfl, by decide, tw_1_193, inWX7, tyX7_ok, nmX7, rfl, fun _ => rfl, by decide +kernel⟩
theorem pf_X7_55 : zpf RX7 55 6 10 false (.long) := ⟨RX7, TX7, 15, tyX7, rfl, by decide, tw_1_196, inWX7, tyX7_ok, nmX7, rfl, fun h => (by cases h), by decide +kernel⟩
theorem pf_X7_59 : zpf RX7 59 6 11 false (.long) := ⟨RX7, TX7, 15, tyX7, rfl, by decide, tw_1_197, inWX7, tyX7_ok, nmX7, rfl, fun h => (by cases h), by decide +kernel⟩
theorem cl_X7_62 : zcl RX7 "HailCellar" 2 62 mX7_within 3 := ⟨tw_1_236, tw_1_238, tw_1_1, fun h => absurd h (by decide), fun _ => tw_1_237, fun h => absurd h (by decide), by decide +kernel, by decide +kernel, by decide +kernel, by decide⟩
theorem cl_X7_66 : zcl RX7 "HailCellar" 0 66 mX7_bad 0 := ⟨tw_1_239, tw_2_2, tw_1_1, fun _ => ⟨tw_2_1, tw_0_0⟩, fun h => absurd h (by decide), fun h => absurd h (by decide), by decide +kernel, by decide +kernel, by decide +kernel, by decide⟩
theorem gf_X7_70 : zgf RX7 70 5 2 := ⟨RX6, TX6, 9, rfl, by decide, tw_1_67, inWX6⟩
theorem gf_X7_74 : zgf RX7 74 3 3 := ⟨RX4, TX4, 4, rfl, by decide, tw_1_43, inWX4⟩
theorem cl_X7_80 : zcl RX7 "HailCellar" 0 80 mX6_reset 1 := ⟨tw_2_7, tw_2_10, tw_1_2, fun _ => ⟨tw_2_8, tw_2_9⟩, fun h => absurd h (by decide), fun h => absurd h (by decide), by decide +kernel, by decide +kernel, by decide +kernel, by decide⟩
theorem cl_X7_84 : zcl RX7 "HailCellar" 0 84 mX4_isFull 0 := ⟨tw_2_19, tw_2_22, tw_1_3, fun _ => ⟨tw_2_20, tw_2_21⟩, fun h => absurd h (by decide), fun h => absurd h (by decide), by decide +kernel, by decide +kernel, by decide +kernel, by decide⟩
theorem cl_X7_88 : zcl RX7 "HailCellar" 0 88 mX7_full 0 := ⟨tw_2_23, tw_2_26, tw_1_1, fun _ => ⟨tw_2_25, tw_0_2⟩, fun h => absurd h (by decide), fun h => absurd h (by decide), by decide +kernel, by decide +kernel, by decide +kernel, by decide⟩
theorem gf_X7_91 : zgf RX7 91 5 8 := ⟨RX6, TX6, 9, rfl, by decide, tw_1_89, inWX6⟩
theorem cl_X7_94 : zcl RX7 "HailCellar" 0 94 mX4_empty 0 := ⟨tw_2_27, tw_2_14, tw_1_3, fun _ => ⟨tw_2_12, tw_2_13⟩, fun h => absurd h (by decide), fun h => absurd h (by decide), by decide +kernel, by decide +kernel, by decide +kernel, by decide⟩
theorem cl_X7_97 : zcl RX7 "HailCellar" 0 97 mX6_addCellar 2 := ⟨tw_2_28, tw_2_31, tw_1_2, fun _ => ⟨tw_2_29, tw_2_30⟩, fun h => absurd h (by decide), fun h => absurd h (by decide), by decide +kernel, by decide +kernel, by decide +kernel, by decide⟩
theorem cl_X7_101 : zcl RX7 "HailCellar" 0 101 mX4_holds 1 := ⟨tw_2_50, tw_2_53, tw_1_3, fun _ => ⟨tw_2_51, tw_2_52⟩, fun h => absurd h (by decide), fun h => absurd h (by decide), by decide +kernel, by decide +kernel, by decide +kernel, by decide⟩
theorem cl_X7_105 : zcl RX7 "HailCellar" 2 105 mX7_isRings 1 := ⟨tw_2_54, tw_2_56, tw_1_1, fun h => absurd h (by decide), fun _ => tw_2_55, fun h => absurd h (by decide), by decide +kernel, by decide +kernel, by decide +kernel, by decide⟩
theorem cl_X7_108 : zcl RX7 "HailCellar" 0 108 mX6_stonesOf 2 := ⟨tw_2_57, tw_2_60, tw_1_2, fun _ => ⟨tw_2_58, tw_2_59⟩, fun h => absurd h (by decide), fun h => absurd h (by decide), by decide +kernel, by decide +kernel, by decide +kernel, by decide⟩
theorem cl_X7_116 : zcl RX7 "HailCellar" 0 116 mX6_putStones 3 := ⟨tw_2_69, tw_2_72, tw_1_2, fun _ => ⟨tw_2_70, tw_2_71⟩, fun h => absurd h (by decide), fun h => absurd h (by decide), by decide +kernel, by decide +kernel, by decide +kernel, by decide⟩
theorem cl_X7_120 : zcl RX7 "HailCellar" 0 120 mX4_get 2 := ⟨tw_2_77, tw_2_65, tw_1_3, fun _ => ⟨tw_2_63, tw_2_64⟩, fun h => absurd h (by decide), fun h => absurd h (by decide), by decide +kernel, by decide +kernel, by decide +kernel, by decide⟩
theorem cl_X7_123 : zcl RX7 "HailCellar" 0 123 mX4_put 3 := ⟨tw_2_78, tw_2_40, tw_1_3, fun _ => ⟨tw_2_38, tw_2_39⟩, fun h => absurd h (by decide), fun h => absurd h (by decide), by decide +kernel, by decide +kernel, by decide +kernel, by decide⟩
theorem gf_X7_126 : zgf RX7 126 5 3 := ⟨RX6, TX6, 9, rfl, by decide, tw_1_71, inWX6⟩
theorem cl_X7_129 : zcl RX7 "HailCellar" 0 129 mX6_addSlinger 2 := ⟨tw_2_83, tw_2_86, tw_1_2, fun _ => ⟨tw_2_84, tw_2_85⟩, fun h => absurd h (by decide), fun h => absurd h (by decide), by decide +kernel, by decide +kernel, by decide +kernel, by decide⟩
theorem gf_X7_132 : zgf RX7 132 5 4 := ⟨RX6, TX6, 9, rfl, by decide, tw_1_76, inWX6⟩
theorem cl_X7_135 : zcl RX7 "HailCellar" 0 135 mX6_addCloud 2 := ⟨tw_2_91, tw_2_94, tw_1_2, fun _ => ⟨tw_2_92, tw_2_93⟩, fun h => absurd h (by decide), fun h => absurd h (by decide), by decide +kernel, by decide +kernel, by decide +kernel, by decide⟩
theorem gf_X7_30 : zgf RX7 30 6 4 := ⟨RX7, TX7, 15, rfl, by decide, tw_1_190, inWX7⟩
theorem cl_X7_138 : zcl RX7 "HailCellar" 0 138 mX3_isTextFull 0 := ⟨tw_2_99, tw_2_102, tw_1_5, fun _ => ⟨tw_2_100, tw_2_101⟩, fun h => absurd h (by decide), fun h => absurd h (by decide), by decide +kernel, by decide +kernel, by decide +kernel, by decide⟩
theorem cl_X7_141 : zcl RX7 "HailCellar" 0 141 mX3_append 1 := ⟨tw_2_103, tw_2_106, tw_1_5, fun _ => ⟨tw_2_104, tw_2_105⟩, fun h => absurd h (by decide), fun h => absurd h (by decide), by decide +kernel, by decide +kernel, by decide +kernel, by decide⟩
theorem cl_X7_145 : zcl RX7 "HailCellar" 0 145 mX3_dropText 0 := ⟨tw_2_111, tw_2_114, tw_1_5, fun _ => ⟨tw_2_112, tw_2_113⟩, fun h => absurd h (by decide), fun h => absurd h (by decide), by decide +kernel, by decide +kernel, by decide +kernel, by decide⟩
theorem cl_X7_148 : zcl RX7 "HailCellar" 0 148 mX3_readStore 0 := ⟨tw_2_119, tw_2_122, tw_1_5, fun _ => ⟨tw_2_120, tw_2_121⟩, fun h => absurd h (by decide), fun h => absurd h (by decide), by decide +kernel, by decide +kernel, by decide +kernel, by decide⟩
theorem cl_X7_151 : zcl RX7 "HailCellar" 0 151 mX6_copyFrom 1 := ⟨tw_3_6, tw_3_9, tw_1_2, fun _ => ⟨tw_3_7, tw_3_8⟩, fun h => absurd h (by decide), fun h => absurd h (by decide), by decide +kernel, by decide +kernel, by decide +kernel, by decide⟩
theorem cl_X7_154 : zcl RX7 "HailCellar" 0 154 mX6_remember 0 := ⟨tw_3_22, tw_3_25, tw_1_2, fun _ => ⟨tw_3_23, tw_3_24⟩, fun h => absurd h (by decide), fun h => absurd h (by decide), by decide +kernel, by decide +kernel, by decide +kernel, by decide⟩
theorem cl_X7_157 : zcl RX7 "HailCellar" 0 157 mX6_passWeeks 1 := ⟨tw_3_35, tw_2_234, tw_1_2, fun _ => ⟨tw_2_232, tw_2_233⟩, fun h => absurd h (by decide), fun h => absurd h (by decide), by decide +kernel, by decide +kernel, by decide +kernel, by decide⟩
theorem cl_X7_160 : zcl RX7 "HailCellar" 0 160 mX6_allStones 0 := ⟨tw_3_36, tw_3_39, tw_1_2, fun _ => ⟨tw_3_37, tw_3_38⟩, fun h => absurd h (by decide), fun h => absurd h (by decide), by decide +kernel, by decide +kernel, by decide +kernel, by decide⟩
theorem cl_X7_163 : zcl RX7 "HailCellar" 0 163 mX6_openDoor 1 := ⟨tw_3_50, tw_3_53, tw_1_2, fun _ => ⟨tw_3_51, tw_3_52⟩, fun h => absurd h (by decide), fun h => absurd h (by decide), by decide +kernel, by decide +kernel, by decide +kernel, by decide⟩
theorem cl_X7_166 : zcl RX7 "HailCellar" 0 166 mX6_stonesFrom 2 := ⟨tw_3_61, tw_3_43, tw_1_2, fun _ => ⟨tw_3_41, tw_3_42⟩, fun h => absurd h (by decide), fun h => absurd h (by decide), by decide +kernel, by decide +kernel, by decide +kernel, by decide⟩
theorem cl_X7_169 : zcl RX7 "HailCellar" 0 169 mX6_isHere 1 := ⟨tw_3_66, tw_3_69, tw_1_2, fun _ => ⟨tw_3_67, tw_3_68⟩, fun h => absurd h (by decide), fun h => absurd h (by decide), by decide +kernel, by decide +kernel, by decide +kernel, by decide⟩
theorem cl_X7_172 : zcl RX7 "HailCellar" 0 172 mX7_no 0 := ⟨tw_3_70, tw_3_73, tw_1_1, fun _ => ⟨tw_3_72, tw_0_16⟩, fun h => absurd h (by decide), fun h => absurd h (by decide), by decide +kernel, by decide +kernel, by decide +kernel, by decide⟩
theorem cl_X7_175 : zcl RX7 "HailCellar" 0 175 mX6_throwStone 4 := ⟨tw_3_74, tw_3_77, tw_1_2, fun _ => ⟨tw_3_75, tw_3_76⟩, fun h => absurd h (by decide), fun h => absurd h (by decide), by decide +kernel, by decide +kernel, by decide +kernel, by decide⟩
theorem cl_X7_179 : zcl RX7 "HailCellar" 0 179 mX6_passHour 0 := ⟨tw_3_109, tw_3_112, tw_1_2, fun _ => ⟨tw_3_110, tw_3_111⟩, fun h => absurd h (by decide), fun h => absurd h (by decide), by decide +kernel, by decide +kernel, by decide +kernel, by decide⟩
theorem gf_X7_182 : zgf RX7 182 5 1 := ⟨RX6, TX6, 9, rfl, by decide, tw_1_64, inWX6⟩
theorem pf_X7_182 : zpf RX7 182 5 1 false (.int) := ⟨RX6, TX6, 9, tyX6, rfl, by decide, tw_1_64, inWX6, tyX6_ok, nmX6, rfl, fun h => (by cases h), by decide +kernel⟩
theorem cl_X7_185 : zcl RX7 "HailCellar" 0 185 mX6_goBack 0 := ⟨tw_3_129, tw_3_132, tw_1_2, fun _ => ⟨tw_3_130, tw_3_131⟩, fun h => absurd h (by decide), fun h => absurd h (by decide), by decide +kernel, by decide +kernel, by decide +kernel, by decide⟩
theorem gf_X7_188 : zgf RX7 188 5 0 := ⟨RX6, TX6, 9, rfl, by decide, tw_1_60, inWX6⟩
theorem cl_X7_191 : zcl RX7 "HailCellar" 0 191 mX6_doorCost 1 := ⟨tw_3_142, tw_3_57, tw_1_2, fun _ => ⟨tw_3_55, tw_3_56⟩, fun h => absurd h (by decide), fun h => absurd h (by decide), by decide +kernel, by decide +kernel, by decide +kernel, by decide⟩
theorem cl_X7_194 : zcl RX7 "HailCellar" 0 194 mX6_isTurned 1 := ⟨tw_3_155, tw_3_116, tw_1_2, fun _ => ⟨tw_3_114, tw_3_115⟩, fun h => absurd h (by decide), fun h => absurd h (by decide), by decide +kernel, by decide +kernel, by decide +kernel, by decide⟩
theorem cl_X7_197 : zcl RX7 "HailCellar" 0 197 mX6_meltIn 2 := ⟨tw_3_160, tw_2_238, tw_1_2, fun _ => ⟨tw_2_236, tw_2_237⟩, fun h => absurd h (by decide), fun h => absurd h (by decide), by decide +kernel, by decide +kernel, by decide +kernel, by decide⟩
theorem gf_X7_37 : zgf RX7 37 6 5 := ⟨RX7, TX7, 15, rfl, by decide, tw_1_191, inWX7⟩
theorem cl_X7_200 : zcl RX7 "HailCellar" 0 200 mX1_leftBehind 4 := ⟨tw_3_165, tw_3_168, tw_1_6, fun _ => ⟨tw_3_166, tw_3_167⟩, fun h => absurd h (by decide), fun h => absurd h (by decide), by decide +kernel, by decide +kernel, by decide +kernel, by decide⟩
theorem cl_X7_203 : zcl RX7 "HailCellar" 0 203 mX1_weeksKept 2 := ⟨tw_3_186, tw_3_189, tw_1_6, fun _ => ⟨tw_3_187, tw_3_188⟩, fun h => absurd h (by decide), fun h => absurd h (by decide), by decide +kernel, by decide +kernel, by decide +kernel, by decide⟩
theorem cl_X7_206 : zcl RX7 "HailCellar" 0 206 mX1_leastStraw 3 := ⟨tw_3_195, tw_3_198, tw_1_6, fun _ => ⟨tw_3_196, tw_3_197⟩, fun h => absurd h (by decide), fun h => absurd h (by decide), by decide +kernel, by decide +kernel, by decide +kernel, by decide⟩
theorem cl_X7_210 : zcl RX7 "HailCellar" 0 210 mX6_throwFar 3 := ⟨tw_3_203, tw_3_92, tw_1_2, fun _ => ⟨tw_3_90, tw_3_91⟩, fun h => absurd h (by decide), fun h => absurd h (by decide), by decide +kernel, by decide +kernel, by decide +kernel, by decide⟩
theorem cl_X7_213 : zcl RX7 "HailCellar" 0 213 mX6_throwHits 2 := ⟨tw_3_204, tw_3_100, tw_1_2, fun _ => ⟨tw_3_98, tw_3_99⟩, fun h => absurd h (by decide), fun h => absurd h (by decide), by decide +kernel, by decide +kernel, by decide +kernel, by decide⟩
theorem gf_X7_44 : zgf RX7 44 6 6 := ⟨RX7, TX7, 15, rfl, by decide, tw_1_192, inWX7⟩
theorem cl_X7_216 : zcl RX7 "HailCellar" 0 216 mX0_reachingRings 2 := ⟨tw_3_209, tw_3_212, tw_1_7, fun _ => ⟨tw_3_210, tw_3_211⟩, fun h => absurd h (by decide), fun h => absurd h (by decide), by decide +kernel, by decide +kernel, by decide +kernel, by decide⟩
theorem cl_X7_219 : zcl RX7 "HailCellar" 0 219 mX0_priceToTurn 3 := ⟨tw_3_218, tw_3_221, tw_1_7, fun _ => ⟨tw_3_219, tw_3_220⟩, fun h => absurd h (by decide), fun h => absurd h (by decide), by decide +kernel, by decide +kernel, by decide +kernel, by decide⟩
theorem cl_X7_222 : zcl RX7 "HailCellar" 0 222 mX7_refusedAsBad 1 := ⟨tw_2_3, tw_2_6, tw_1_1, fun _ => ⟨tw_2_5, tw_0_1⟩, fun h => absurd h (by decide), fun h => absurd h (by decide), by decide +kernel, by decide +kernel, by decide +kernel, by decide⟩
theorem cl_X7_225 : zcl RX7 "HailCellar" 0 225 mX0_mostTurned 1 := ⟨tw_3_236, tw_3_239, tw_1_7, fun _ => ⟨tw_3_237, tw_3_238⟩, fun h => absurd h (by decide), fun h => absurd h (by decide), by decide +kernel, by decide +kernel, by decide +kernel, by decide⟩
theorem cl_X7_228 : zcl RX7 "HailCellar" 0 228 mX0_givenCloud 1 := ⟨tw_4_36, tw_4_39, tw_1_7, fun _ => ⟨tw_4_37, tw_4_38⟩, fun h => absurd h (by decide), fun h => absurd h (by decide), by decide +kernel, by decide +kernel, by decide +kernel, by decide⟩
theorem cl_X7_231 : zcl RX7 "HailCellar" 0 231 mX1_cheapestDoor 1 := ⟨tw_4_44, tw_4_47, tw_1_6, fun _ => ⟨tw_4_45, tw_4_46⟩, fun h => absurd h (by decide), fun h => absurd h (by decide), by decide +kernel, by decide +kernel, by decide +kernel, by decide⟩
theorem cl_X7_234 : zcl RX7 "HailCellar" 0 234 mX1_lostByDoor 2 := ⟨tw_4_53, tw_4_51, tw_1_6, fun _ => ⟨tw_4_49, tw_4_50⟩, fun h => absurd h (by decide), fun h => absurd h (by decide), by decide +kernel, by decide +kernel, by decide +kernel, by decide⟩
theorem gf_X7_237 : zgf RX7 237 5 5 := ⟨RX6, TX6, 9, rfl, by decide, tw_1_81, inWX6⟩
theorem cl_X7_240 : zcl RX7 "HailCellar" 0 240 mX4_addRow 5 := ⟨tw_4_58, tw_4_61, tw_1_3, fun _ => ⟨tw_4_59, tw_4_60⟩, fun h => absurd h (by decide), fun h => absurd h (by decide), by decide +kernel, by decide +kernel, by decide +kernel, by decide⟩
theorem gf_X7_51 : zgf RX7 51 6 7 := ⟨RX7, TX7, 15, rfl, by decide, tw_1_193, inWX7⟩
theorem cl_X7_244 : zcl RX7 "HailCellar" 0 244 mX5_doorsBy 1 := ⟨tw_4_67, tw_4_70, tw_1_8, fun _ => ⟨tw_4_68, tw_4_69⟩, fun h => absurd h (by decide), fun h => absurd h (by decide), by decide +kernel, by decide +kernel, by decide +kernel, by decide⟩
theorem cl_X7_247 : zcl RX7 "HailCellar" 0 247 mX5_doorsByAll 1 := ⟨tw_4_79, tw_4_82, tw_1_8, fun _ => ⟨tw_4_80, tw_4_81⟩, fun h => absurd h (by decide), fun h => absurd h (by decide), by decide +kernel, by decide +kernel, by decide +kernel, by decide⟩
theorem gf_X7_250 : zgf RX7 250 5 6 := ⟨RX6, TX6, 9, rfl, by decide, tw_1_84, inWX6⟩
theorem gf_X7_253 : zgf RX7 253 5 7 := ⟨RX6, TX6, 9, rfl, by decide, tw_1_87, inWX6⟩
theorem cl_X7_256 : zcl RX7 "HailCellar" 0 256 mX5_kindsOfCellar 1 := ⟨tw_4_100, tw_4_103, tw_1_8, fun _ => ⟨tw_4_101, tw_4_102⟩, fun h => absurd h (by decide), fun h => absurd h (by decide), by decide +kernel, by decide +kernel, by decide +kernel, by decide⟩
theorem cl_X7_259 : zcl RX7 "HailCellar" 0 259 mX5_weekToWatch 1 := ⟨tw_4_114, tw_4_117, tw_1_8, fun _ => ⟨tw_4_115, tw_4_116⟩, fun h => absurd h (by decide), fun h => absurd h (by decide), by decide +kernel, by decide +kernel, by decide +kernel, by decide⟩
theorem cl_X7_262 : zcl RX7 "HailCellar" 0 262 mX5_kindsOfSlinger 1 := ⟨tw_4_130, tw_4_133, tw_1_8, fun _ => ⟨tw_4_131, tw_4_132⟩, fun h => absurd h (by decide), fun h => absurd h (by decide), by decide +kernel, by decide +kernel, by decide +kernel, by decide⟩
theorem cl_X7_265 : zcl RX7 "HailCellar" 0 265 mX5_throwToAsk 1 := ⟨tw_4_144, tw_4_147, tw_1_8, fun _ => ⟨tw_4_145, tw_4_146⟩, fun h => absurd h (by decide), fun h => absurd h (by decide), by decide +kernel, by decide +kernel, by decide +kernel, by decide⟩
theorem cl_X7_268 : zcl RX7 "HailCellar" 0 268 mX0_pairsThatRest 4 := ⟨tw_4_153, tw_4_156, tw_1_7, fun _ => ⟨tw_4_154, tw_4_155⟩, fun h => absurd h (by decide), fun h => absurd h (by decide), by decide +kernel, by decide +kernel, by decide +kernel, by decide⟩
theorem cl_X7_271 : zcl RX7 "HailCellar" 0 271 mX6_hitsAt 4 := ⟨tw_4_167, tw_3_83, tw_1_2, fun _ => ⟨tw_3_81, tw_3_82⟩, fun h => absurd h (by decide), fun h => absurd h (by decide), by decide +kernel, by decide +kernel, by decide +kernel, by decide⟩
theorem cl_X7_274 : zcl RX7 "HailCellar" 0 274 mX7_keepFraction 2 := ⟨tw_4_168, tw_4_171, tw_1_1, fun _ => ⟨tw_4_170, tw_0_30⟩, fun h => absurd h (by decide), fun h => absurd h (by decide), by decide +kernel, by decide +kernel, by decide +kernel, by decide⟩
theorem cl_X7_279 : zcl RX7 "HailCellar" 0 279 mX1_leftBySeed 2 := ⟨tw_4_177, tw_4_180, tw_1_6, fun _ => ⟨tw_4_178, tw_4_179⟩, fun h => absurd h (by decide), fun h => absurd h (by decide), by decide +kernel, by decide +kernel, by decide +kernel, by decide⟩
theorem gf_X7_55 : zgf RX7 55 6 10 := ⟨RX7, TX7, 15, rfl, by decide, tw_1_196, inWX7⟩
theorem gf_X7_59 : zgf RX7 59 6 11 := ⟨RX7, TX7, 15, rfl, by decide, tw_1_197, inWX7⟩
theorem gf_X7_16 : zgf RX7 16 6 1 := ⟨RX7, TX7, 15, rfl, by decide, tw_1_187, inWX7⟩
theorem pf_X7_282 : zpf RX7 282 6 8 false (.boolean) := ⟨RX7, TX7, 15, tyX7, rfl, by decide, tw_1_194, inWX7, tyX7_ok, nmX7, rfl, fun h => (by cases h), by decide +kernel⟩
theorem gf_X7_19 : zgf RX7 19 6 2 := ⟨RX7, TX7, 15, rfl, by decide, tw_1_188, inWX7⟩
theorem pf_X7_286 : zpf RX7 286 6 9 false (.boolean) := ⟨RX7, TX7, 15, tyX7, rfl, by decide, tw_1_195, inWX7, tyX7_ok, nmX7, rfl, fun h => (by cases h), by decide +kernel⟩
theorem gf_X7_282 : zgf RX7 282 6 8 := ⟨RX7, TX7, 15, rfl, by decide, tw_1_194, inWX7⟩
theorem gf_X7_286 : zgf RX7 286 6 9 := ⟨RX7, TX7, 15, rfl, by decide, tw_1_195, inWX7⟩
theorem gf_X7_289 : zgf RX7 289 6 12 := ⟨RX7, TX7, 15, rfl, by decide, tw_1_198, inWX7⟩
theorem gf_X7_292 : zgf RX7 292 6 13 := ⟨RX7, TX7, 15, rfl, by decide, tw_1_199, inWX7⟩
theorem gf_X7_295 : zgf RX7 295 6 14 := ⟨RX7, TX7, 15, rfl, by decide, tw_1_200, inWX7⟩
theorem cl_X7_298 : zcl RX7 "HailCellar" 0 298 mX7_amount 1 := ⟨tw_4_210, tw_4_213, tw_1_1, fun _ => ⟨tw_4_212, tw_0_32⟩, fun h => absurd h (by decide), fun h => absurd h (by decide), by decide +kernel, by decide +kernel, by decide +kernel, by decide⟩
theorem cl_X7_305 : zcl RX7 "HailCellar" 0 305 mX4_mixInto 1 := ⟨tw_4_224, tw_4_227, tw_1_3, fun _ => ⟨tw_4_225, tw_4_226⟩, fun h => absurd h (by decide), fun h => absurd h (by decide), by decide +kernel, by decide +kernel, by decide +kernel, by decide⟩
theorem cl_X7_309 : zcl RX7 "HailCellar" 0 309 mX6_turnedClouds 0 := ⟨tw_4_214, tw_4_217, tw_1_2, fun _ => ⟨tw_4_215, tw_4_216⟩, fun h => absurd h (by decide), fun h => absurd h (by decide), by decide +kernel, by decide +kernel, by decide +kernel, by decide⟩
theorem gf_X7_312 : zgf RX7 312 2 1 := ⟨RX3, TX3, 7, rfl, by decide, tw_1_117, inWX3⟩
theorem pf_X7_289 : zpf RX7 289 6 12 false (.int) := ⟨RX7, TX7, 15, tyX7, rfl, by decide, tw_1_198, inWX7, tyX7_ok, nmX7, rfl, fun h => (by cases h), by decide +kernel⟩
theorem pf_X7_292 : zpf RX7 292 6 13 false (.int) := ⟨RX7, TX7, 15, tyX7, rfl, by decide, tw_1_199, inWX7, tyX7_ok, nmX7, rfl, fun h => (by cases h), by decide +kernel⟩
theorem pf_X7_295 : zpf RX7 295 6 14 false (.int) := ⟨RX7, TX7, 15, tyX7, rfl, by decide, tw_1_200, inWX7, tyX7_ok, nmX7, rfl, fun h => (by cases h), by decide +kernel⟩
theorem pf_X8_7 : zpf RX8 7 7 0 true (.array .int) := ⟨RX8, TX8, 26, tyX8, rfl, by decide, tw_4_235, inWX8, tyX8_ok, nmX8, rfl, fun _ => rfl, by decide +kernel⟩
theorem pf_X8_13 : zpf RX8 13 7 1 true (.array .int) := ⟨RX8, TX8, 26, tyX8, rfl, by decide, tw_4_236, inWX8, tyX8_ok, nmX8, rfl, fun _ => rfl, by decide +kernel⟩
theorem pf_X8_16 : zpf RX8 16 7 3 false (.long) := ⟨RX8, TX8, 26, tyX8, rfl, by decide, tw_4_238, inWX8, tyX8_ok, nmX8, rfl, fun h => (by cases h), by decide +kernel⟩
theorem pf_X8_20 : zpf RX8 20 7 5 true (.array .int) := ⟨RX8, TX8, 26, tyX8, rfl, by decide, tw_5_0, inWX8, tyX8_ok, nmX8, rfl, fun _ => rfl, by decide +kernel⟩
theorem pf_X8_23 : zpf RX8 23 7 6 true (.array .int) := ⟨RX8, TX8, 26, tyX8, rfl, by decide, tw_5_1, inWX8, tyX8_ok, nmX8, rfl, fun _ => rfl, by decide +kernel⟩
theorem pf_X8_26 : zpf RX8 26 7 13 true (.array .int) := ⟨RX8, TX8, 26, tyX8, rfl, by decide, tw_5_8, inWX8, tyX8_ok, nmX8, rfl, fun _ => rfl, by decide +kernel⟩
theorem pf_X8_29 : zpf RX8 29 7 15 true (.array .int) := ⟨RX8, TX8, 26, tyX8, rfl, by decide, tw_5_10, inWX8, tyX8_ok, nmX8, rfl, fun _ => rfl, by decide +kernel⟩
theorem pf_X8_32 : zpf RX8 32 7 16 true (.array .int) := ⟨RX8, TX8, 26, tyX8, rfl, by decide, tw_5_11, inWX8, tyX8_ok, nmX8, rfl, fun _ => rfl, by decide +kernel⟩
theorem pf_X8_35 : zpf RX8 35 7 17 true (.array .int) := ⟨RX8, TX8, 26, tyX8, rfl, by decide, tw_5_12, inWX8, tyX8_ok, nmX8, rfl, fun _ => rfl, by decide +kernel⟩
theorem pf_X8_38 : zpf RX8 38 7 18 true (.array .int) := ⟨RX8, TX8, 26, tyX8, rfl, by decide, tw_5_13, inWX8, tyX8_ok, nmX8, rfl, fun _ => rfl, by decide +kernel⟩
theorem pf_X8_41 : zpf RX8 41 7 19 true (.array .int) := ⟨RX8, TX8, 26, tyX8, rfl, by decide, tw_5_14, inWX8, tyX8_ok, nmX8, rfl, fun _ => rfl, by decide +kernel⟩
theorem pf_X8_44 : zpf RX8 44 7 20 true (.array .int) := ⟨RX8, TX8, 26, tyX8, rfl, by decide, tw_5_15, inWX8, tyX8_ok, nmX8, rfl, fun _ => rfl, by decide +kernel⟩
theorem pf_X8_47 : zpf RX8 47 7 21 true (.array .int) := ⟨RX8, TX8, 26, tyX8, rfl, by decide, tw_5_16, inWX8, tyX8_ok, nmX8, rfl, fun _ => rfl, by decide +kernel⟩
theorem pf_X8_50 : zpf RX8 50 7 22 true (.array .boolean) := ⟨RX8, TX8, 26, tyX8, rfl, by decide, tw_5_17, inWX8, tyX8_ok, nmX8, rfl, fun _ => rfl, by decide +kernel⟩
theorem pf_X8_54 : zpf RX8 54 7 23 true (.array .int) := ⟨RX8, TX8, 26, tyX8, rfl, by decide, tw_5_18, inWX8, tyX8_ok, nmX8, rfl, fun _ => rfl, by decide +kernel⟩
theorem pf_X8_57 : zpf RX8 57 7 24 true (.array .int) := ⟨RX8, TX8, 26, tyX8, rfl, by decide, tw_5_19, inWX8, tyX8_ok, nmX8, rfl, fun _ => rfl, by decide +kernel⟩
theorem gf_X8_7 : zgf RX8 7 7 0 := ⟨RX8, TX8, 26, rfl, by decide, tw_4_235, inWX8⟩
theorem gf_X8_13 : zgf RX8 13 7 1 := ⟨RX8, TX8, 26, rfl, by decide, tw_4_236, inWX8⟩
theorem cl_X8_60 : zcl RX8 "HailCellar" 2 60 mX8_in 3 := ⟨tw_5_80, tw_5_82, tw_1_9, fun h => absurd h (by decide), fun _ => tw_5_81, fun h => absurd h (by decide), by decide +kernel, by decide +kernel, by decide +kernel, by decide⟩
theorem cl_X8_64 : zcl RX8 "HailCellar" 2 64 mX8_least0 1 := ⟨tw_6_14, tw_6_16, tw_1_9, fun h => absurd h (by decide), fun _ => tw_6_15, fun h => absurd h (by decide), by decide +kernel, by decide +kernel, by decide +kernel, by decide⟩
theorem cl_X8_68 : zcl RX8 "HailCellar" 2 68 mX8_sizeOf 1 := ⟨tw_6_24, tw_6_26, tw_1_9, fun h => absurd h (by decide), fun _ => tw_6_25, fun h => absurd h (by decide), by decide +kernel, by decide +kernel, by decide +kernel, by decide⟩
theorem cl_X8_71 : zcl RX8 "HailCellar" 2 71 mX8_farBy 4 := ⟨tw_6_11, tw_6_13, tw_1_9, fun h => absurd h (by decide), fun _ => tw_6_12, fun h => absurd h (by decide), by decide +kernel, by decide +kernel, by decide +kernel, by decide⟩
theorem cl_X8_75 : zcl RX8 "HailCellar" 2 75 mX8_hitsBy 2 := ⟨tw_6_21, tw_6_23, tw_1_9, fun h => absurd h (by decide), fun _ => tw_6_22, fun h => absurd h (by decide), by decide +kernel, by decide +kernel, by decide +kernel, by decide⟩
theorem cl_X8_79 : zcl RX8 "HailCellar" 0 79 mX8_farOf 3 := ⟨tw_6_7, tw_6_10, tw_1_9, fun _ => ⟨tw_6_9, tw_0_54⟩, fun h => absurd h (by decide), fun h => absurd h (by decide), by decide +kernel, by decide +kernel, by decide +kernel, by decide⟩
theorem cl_X8_83 : zcl RX8 "HailCellar" 2 83 mX8_stonesIn 2 := ⟨tw_5_213, tw_5_215, tw_1_9, fun h => absurd h (by decide), fun _ => tw_5_214, fun h => absurd h (by decide), by decide +kernel, by decide +kernel, by decide +kernel, by decide⟩
theorem cl_X8_87 : zcl RX8 "HailCellar" 2 87 mX8_meltsBy 3 := ⟨tw_5_191, tw_5_193, tw_1_9, fun h => absurd h (by decide), fun _ => tw_5_192, fun h => absurd h (by decide), by decide +kernel, by decide +kernel, by decide +kernel, by decide⟩
theorem cl_X8_90 : zcl RX8 "HailCellar" 2 90 mX8_melt 3 := ⟨tw_5_194, tw_5_196, tw_1_9, fun h => absurd h (by decide), fun _ => tw_5_195, fun h => absurd h (by decide), by decide +kernel, by decide +kernel, by decide +kernel, by decide⟩
theorem gf_X8_94 : zgf RX8 94 7 4 := ⟨RX8, TX8, 26, rfl, by decide, tw_4_239, inWX8⟩
theorem gf_X8_20 : zgf RX8 20 7 5 := ⟨RX8, TX8, 26, rfl, by decide, tw_5_0, inWX8⟩
theorem pf_X8_94 : zpf RX8 94 7 4 false (.int) := ⟨RX8, TX8, 26, tyX8, rfl, by decide, tw_4_239, inWX8, tyX8_ok, nmX8, rfl, fun h => (by cases h), by decide +kernel⟩
theorem cl_X8_98 : zcl RX8 "HailCellar" 2 98 mX8_undoneAt 1 := ⟨tw_5_206, tw_5_208, tw_1_9, fun h => absurd h (by decide), fun _ => tw_5_207, fun h => absurd h (by decide), by decide +kernel, by decide +kernel, by decide +kernel, by decide⟩
theorem cl_X8_103 : zcl RX8 "HailCellar" 0 103 mX8_bad 0 := ⟨tw_5_83, tw_5_86, tw_1_9, fun _ => ⟨tw_5_85, tw_0_33⟩, fun h => absurd h (by decide), fun h => absurd h (by decide), by decide +kernel, by decide +kernel, by decide +kernel, by decide⟩
theorem cl_X8_107 : zcl RX8 "HailCellar" 0 107 mX8_emptyAll 1 := ⟨tw_5_87, tw_5_90, tw_1_9, fun _ => ⟨tw_5_89, tw_0_34⟩, fun h => absurd h (by decide), fun h => absurd h (by decide), by decide +kernel, by decide +kernel, by decide +kernel, by decide⟩
theorem cl_X8_113 : zcl RX8 "HailCellar" 0 113 mX8_full 0 := ⟨tw_5_96, tw_5_99, tw_1_9, fun _ => ⟨tw_5_98, tw_0_35⟩, fun h => absurd h (by decide), fun h => absurd h (by decide), by decide +kernel, by decide +kernel, by decide +kernel, by decide⟩
theorem cl_X8_116 : zcl RX8 "HailCellar" 0 116 mX8_isCellar 1 := ⟨tw_5_104, tw_5_107, tw_1_9, fun _ => ⟨tw_5_106, tw_0_36⟩, fun h => absurd h (by decide), fun h => absurd h (by decide), by decide +kernel, by decide +kernel, by decide +kernel, by decide⟩
theorem gf_X8_128 : zgf RX8 128 7 7 := ⟨RX8, TX8, 26, rfl, by decide, tw_5_2, inWX8⟩
theorem gf_X8_23 : zgf RX8 23 7 6 := ⟨RX8, TX8, 26, rfl, by decide, tw_5_1, inWX8⟩
theorem pf_X8_128 : zpf RX8 128 7 7 false (.int) := ⟨RX8, TX8, 26, tyX8, rfl, by decide, tw_5_2, inWX8, tyX8_ok, nmX8, rfl, fun h => (by cases h), by decide +kernel⟩
theorem gf_X8_139 : zgf RX8 139 7 8 := ⟨RX8, TX8, 26, rfl, by decide, tw_5_3, inWX8⟩
theorem pf_X8_139 : zpf RX8 139 7 8 false (.int) := ⟨RX8, TX8, 26, tyX8, rfl, by decide, tw_5_3, inWX8, tyX8_ok, nmX8, rfl, fun h => (by cases h), by decide +kernel⟩
theorem pf_X8_142 : zpf RX8 142 7 10 false (.int) := ⟨RX8, TX8, 26, tyX8, rfl, by decide, tw_5_5, inWX8, tyX8_ok, nmX8, rfl, fun h => (by cases h), by decide +kernel⟩
theorem pf_X8_145 : zpf RX8 145 7 11 false (.int) := ⟨RX8, TX8, 26, tyX8, rfl, by decide, tw_5_6, inWX8, tyX8_ok, nmX8, rfl, fun h => (by cases h), by decide +kernel⟩
theorem cl_X8_148 : zcl RX8 "HailCellar" 0 148 mX8_isLetter 1 := ⟨tw_5_140, tw_5_143, tw_1_9, fun _ => ⟨tw_5_142, tw_0_38⟩, fun h => absurd h (by decide), fun h => absurd h (by decide), by decide +kernel, by decide +kernel, by decide +kernel, by decide⟩
theorem cl_X8_151 : zcl RX8 "HailCellar" 0 151 mX8_isFigure 1 := ⟨tw_5_146, tw_5_149, tw_1_9, fun _ => ⟨tw_5_148, tw_0_39⟩, fun h => absurd h (by decide), fun h => absurd h (by decide), by decide +kernel, by decide +kernel, by decide +kernel, by decide⟩
theorem pf_X8_154 : zpf RX8 154 7 9 false (.int) := ⟨RX8, TX8, 26, tyX8, rfl, by decide, tw_5_4, inWX8, tyX8_ok, nmX8, rfl, fun h => (by cases h), by decide +kernel⟩
theorem gf_X8_154 : zgf RX8 154 7 9 := ⟨RX8, TX8, 26, rfl, by decide, tw_5_4, inWX8⟩
theorem gf_X8_145 : zgf RX8 145 7 11 := ⟨RX8, TX8, 26, rfl, by decide, tw_5_6, inWX8⟩
theorem pf_X8_157 : zpf RX8 157 7 12 false (.int) := ⟨RX8, TX8, 26, tyX8, rfl, by decide, tw_5_7, inWX8, tyX8_ok, nmX8, rfl, fun h => (by cases h), by decide +kernel⟩
theorem gf_X8_142 : zgf RX8 142 7 10 := ⟨RX8, TX8, 26, rfl, by decide, tw_5_5, inWX8⟩
theorem gf_X8_157 : zgf RX8 157 7 12 := ⟨RX8, TX8, 26, rfl, by decide, tw_5_7, inWX8⟩
theorem cl_X8_165 : zcl RX8 "HailCellar" 0 165 mX8_nextToken 0 := ⟨tw_5_136, tw_5_139, tw_1_9, fun _ => ⟨tw_5_138, tw_0_37⟩, fun h => absurd h (by decide), fun h => absurd h (by decide), by decide +kernel, by decide +kernel, by decide +kernel, by decide⟩
theorem gf_X8_26 : zgf RX8 26 7 13 := ⟨RX8, TX8, 26, rfl, by decide, tw_5_8, inWX8⟩
theorem cl_X8_168 : zcl RX8 "HailCellar" 0 168 mX8_takes 3 := ⟨tw_5_164, tw_5_167, tw_1_9, fun _ => ⟨tw_5_166, tw_0_42⟩, fun h => absurd h (by decide), fun h => absurd h (by decide), by decide +kernel, by decide +kernel, by decide +kernel, by decide⟩
theorem cl_X8_172 : zcl RX8 "HailCellar" 2 172 mX8_passWeek 1 := ⟨tw_5_188, tw_5_190, tw_1_9, fun h => absurd h (by decide), fun _ => tw_5_189, fun h => absurd h (by decide), by decide +kernel, by decide +kernel, by decide +kernel, by decide⟩
theorem cl_X8_176 : zcl RX8 "HailCellar" 0 176 mX8_wordNow 0 := ⟨tw_5_157, tw_5_160, tw_1_9, fun _ => ⟨tw_5_159, tw_0_41⟩, fun h => absurd h (by decide), fun h => absurd h (by decide), by decide +kernel, by decide +kernel, by decide +kernel, by decide⟩
theorem gf_X8_180 : zgf RX8 180 7 14 := ⟨RX8, TX8, 26, rfl, by decide, tw_5_9, inWX8⟩
theorem cl_X8_187 : zcl RX8 "HailCellar" 0 187 mX8_takesCellar 0 := ⟨tw_5_169, tw_5_172, tw_1_9, fun _ => ⟨tw_5_171, tw_0_43⟩, fun h => absurd h (by decide), fun h => absurd h (by decide), by decide +kernel, by decide +kernel, by decide +kernel, by decide⟩
theorem cl_X8_193 : zcl RX8 "HailCellar" 0 193 mX8_takesSlinger 0 := ⟨tw_5_174, tw_5_177, tw_1_9, fun _ => ⟨tw_5_176, tw_0_44⟩, fun h => absurd h (by decide), fun h => absurd h (by decide), by decide +kernel, by decide +kernel, by decide +kernel, by decide⟩
theorem cl_X8_198 : zcl RX8 "HailCellar" 0 198 mX8_takesCloud 0 := ⟨tw_5_179, tw_5_182, tw_1_9, fun _ => ⟨tw_5_181, tw_0_45⟩, fun h => absurd h (by decide), fun h => absurd h (by decide), by decide +kernel, by decide +kernel, by decide +kernel, by decide⟩
theorem cl_X8_203 : zcl RX8 "HailCellar" 0 203 mX8_takesWeeks 0 := ⟨tw_5_184, tw_5_187, tw_1_9, fun _ => ⟨tw_5_186, tw_0_46⟩, fun h => absurd h (by decide), fun h => absurd h (by decide), by decide +kernel, by decide +kernel, by decide +kernel, by decide⟩
theorem pf_X8_180 : zpf RX8 180 7 14 false (.int) := ⟨RX8, TX8, 26, tyX8, rfl, by decide, tw_5_9, inWX8, tyX8_ok, nmX8, rfl, fun h => (by cases h), by decide +kernel⟩
theorem cl_X8_206 : zcl RX8 "HailCellar" 0 206 mX8_takesItem 0 := ⟨tw_5_153, tw_5_156, tw_1_9, fun _ => ⟨tw_5_155, tw_0_40⟩, fun h => absurd h (by decide), fun h => absurd h (by decide), by decide +kernel, by decide +kernel, by decide +kernel, by decide⟩
theorem cl_X8_211 : zcl RX8 "HailCellar" 0 211 mX8_remember 0 := ⟨tw_5_202, tw_5_205, tw_1_9, fun _ => ⟨tw_5_204, tw_0_47⟩, fun h => absurd h (by decide), fun h => absurd h (by decide), by decide +kernel, by decide +kernel, by decide +kernel, by decide⟩
theorem cl_X8_214 : zcl RX8 "HailCellar" 0 214 mX8_allStones 0 := ⟨tw_5_209, tw_5_212, tw_1_9, fun _ => ⟨tw_5_211, tw_0_48⟩, fun h => absurd h (by decide), fun h => absurd h (by decide), by decide +kernel, by decide +kernel, by decide +kernel, by decide⟩
theorem cl_X8_217 : zcl RX8 "HailCellar" 2 217 mX8_costBy 1 := ⟨tw_5_224, tw_5_226, tw_1_9, fun h => absurd h (by decide), fun _ => tw_5_225, fun h => absurd h (by decide), by decide +kernel, by decide +kernel, by decide +kernel, by decide⟩
theorem cl_X8_220 : zcl RX8 "HailCellar" 0 220 mX8_openDoor 1 := ⟨tw_5_220, tw_5_223, tw_1_9, fun _ => ⟨tw_5_222, tw_0_49⟩, fun h => absurd h (by decide), fun h => absurd h (by decide), by decide +kernel, by decide +kernel, by decide +kernel, by decide⟩
theorem cl_X8_223 : zcl RX8 "HailCellar" 0 223 mX8_isSlinger 1 := ⟨tw_5_231, tw_5_234, tw_1_9, fun _ => ⟨tw_5_233, tw_0_50⟩, fun h => absurd h (by decide), fun h => absurd h (by decide), by decide +kernel, by decide +kernel, by decide +kernel, by decide⟩
theorem cl_X8_226 : zcl RX8 "HailCellar" 0 226 mX8_isCloud 1 := ⟨tw_5_235, tw_5_238, tw_1_9, fun _ => ⟨tw_5_237, tw_0_51⟩, fun h => absurd h (by decide), fun h => absurd h (by decide), by decide +kernel, by decide +kernel, by decide +kernel, by decide⟩
theorem cl_X8_229 : zcl RX8 "HailCellar" 0 229 mX8_no 0 := ⟨tw_5_239, tw_6_2, tw_1_9, fun _ => ⟨tw_6_1, tw_0_52⟩, fun h => absurd h (by decide), fun h => absurd h (by decide), by decide +kernel, by decide +kernel, by decide +kernel, by decide⟩
theorem cl_X8_232 : zcl RX8 "HailCellar" 0 232 mX8_reaches 4 := ⟨tw_6_3, tw_6_6, tw_1_9, fun _ => ⟨tw_6_5, tw_0_53⟩, fun h => absurd h (by decide), fun h => absurd h (by decide), by decide +kernel, by decide +kernel, by decide +kernel, by decide⟩
theorem cl_X8_236 : zcl RX8 "HailCellar" 0 236 mX8_hitsOf 2 := ⟨tw_6_17, tw_6_20, tw_1_9, fun _ => ⟨tw_6_19, tw_0_55⟩, fun h => absurd h (by decide), fun h => absurd h (by decide), by decide +kernel, by decide +kernel, by decide +kernel, by decide⟩
theorem cl_X8_239 : zcl RX8 "HailCellar" 0 239 mX8_isTurned 1 := ⟨tw_6_31, tw_6_34, tw_1_9, fun _ => ⟨tw_6_33, tw_0_56⟩, fun h => absurd h (by decide), fun h => absurd h (by decide), by decide +kernel, by decide +kernel, by decide +kernel, by decide⟩
theorem gf_X8_29 : zgf RX8 29 7 15 := ⟨RX8, TX8, 26, rfl, by decide, tw_5_10, inWX8⟩
theorem cl_X8_248 : zcl RX8 "HailCellar" 0 248 mX8_takeJar 1 := ⟨tw_6_70, tw_6_73, tw_1_9, fun _ => ⟨tw_6_72, tw_0_57⟩, fun h => absurd h (by decide), fun h => absurd h (by decide), by decide +kernel, by decide +kernel, by decide +kernel, by decide⟩
theorem cl_X8_251 : zcl RX8 "HailCellar" 0 251 mX8_greatestIn 0 := ⟨tw_6_74, tw_6_77, tw_1_9, fun _ => ⟨tw_6_76, tw_0_58⟩, fun h => absurd h (by decide), fun h => absurd h (by decide), by decide +kernel, by decide +kernel, by decide +kernel, by decide⟩
theorem gf_X8_32 : zgf RX8 32 7 16 := ⟨RX8, TX8, 26, rfl, by decide, tw_5_11, inWX8⟩
theorem cl_X8_254 : zcl RX8 "HailCellar" 0 254 mX8_throwOne 3 := ⟨tw_6_98, tw_6_101, tw_1_9, fun _ => ⟨tw_6_100, tw_0_59⟩, fun h => absurd h (by decide), fun h => absurd h (by decide), by decide +kernel, by decide +kernel, by decide +kernel, by decide⟩
theorem cl_X8_258 : zcl RX8 "HailCellar" 0 258 mX8_cloudOf 2 := ⟨tw_6_118, tw_6_121, tw_1_9, fun _ => ⟨tw_6_120, tw_0_63⟩, fun h => absurd h (by decide), fun h => absurd h (by decide), by decide +kernel, by decide +kernel, by decide +kernel, by decide⟩
theorem gf_X8_35 : zgf RX8 35 7 17 := ⟨RX8, TX8, 26, rfl, by decide, tw_5_12, inWX8⟩
theorem gf_X8_38 : zgf RX8 38 7 18 := ⟨RX8, TX8, 26, rfl, by decide, tw_5_13, inWX8⟩
theorem cl_X8_261 : zcl RX8 "HailCellar" 0 261 mX8_anHour 2 := ⟨tw_6_114, tw_6_117, tw_1_9, fun _ => ⟨tw_6_116, tw_0_62⟩, fun h => absurd h (by decide), fun h => absurd h (by decide), by decide +kernel, by decide +kernel, by decide +kernel, by decide⟩
theorem cl_X8_265 : zcl RX8 "HailCellar" 0 265 mX8_ways 0 := ⟨tw_6_106, tw_6_109, tw_1_9, fun _ => ⟨tw_6_108, tw_0_60⟩, fun h => absurd h (by decide), fun h => absurd h (by decide), by decide +kernel, by decide +kernel, by decide +kernel, by decide⟩
theorem cl_X8_268 : zcl RX8 "HailCellar" 0 268 mX8_turnedBy 2 := ⟨tw_6_110, tw_6_113, tw_1_9, fun _ => ⟨tw_6_112, tw_0_61⟩, fun h => absurd h (by decide), fun h => absurd h (by decide), by decide +kernel, by decide +kernel, by decide +kernel, by decide⟩
theorem cl_X8_271 : zcl RX8 "HailCellar" 0 271 mX8_manyFrom 1 := ⟨tw_6_126, tw_6_129, tw_1_9, fun _ => ⟨tw_6_128, tw_0_64⟩, fun h => absurd h (by decide), fun h => absurd h (by decide), by decide +kernel, by decide +kernel, by decide +kernel, by decide⟩
theorem cl_X8_274 : zcl RX8 "HailCellar" 0 274 mX8_cooledBy 1 := ⟨tw_6_138, tw_6_141, tw_1_9, fun _ => ⟨tw_6_140, tw_0_65⟩, fun h => absurd h (by decide), fun h => absurd h (by decide), by decide +kernel, by decide +kernel, by decide +kernel, by decide⟩
theorem cl_X8_277 : zcl RX8 "HailCellar" 0 277 mX8_noteDown 7 := ⟨tw_6_150, tw_6_153, tw_1_9, fun _ => ⟨tw_6_152, tw_0_66⟩, fun h => absurd h (by decide), fun h => absurd h (by decide), by decide +kernel, by decide +kernel, by decide +kernel, by decide⟩
theorem cl_X8_285 : zcl RX8 "HailCellar" 0 285 mX8_kindsOf 1 := ⟨tw_6_168, tw_6_171, tw_1_9, fun _ => ⟨tw_6_170, tw_0_67⟩, fun h => absurd h (by decide), fun h => absurd h (by decide), by decide +kernel, by decide +kernel, by decide +kernel, by decide⟩
theorem cl_X8_288 : zcl RX8 "HailCellar" 2 288 mX8_hasKind 2 := ⟨tw_6_180, tw_6_182, tw_1_9, fun h => absurd h (by decide), fun _ => tw_6_181, fun h => absurd h (by decide), by decide +kernel, by decide +kernel, by decide +kernel, by decide⟩
theorem gf_X8_41 : zgf RX8 41 7 19 := ⟨RX8, TX8, 26, rfl, by decide, tw_5_14, inWX8⟩
theorem cl_X8_292 : zcl RX8 "HailCellar" 0 292 mX8_mostAlike 1 := ⟨tw_6_176, tw_6_179, tw_1_9, fun _ => ⟨tw_6_178, tw_0_68⟩, fun h => absurd h (by decide), fun h => absurd h (by decide), by decide +kernel, by decide +kernel, by decide +kernel, by decide⟩
theorem cl_X8_295 : zcl RX8 "HailCellar" 0 295 mX8_sortsOf 1 := ⟨tw_6_187, tw_6_190, tw_1_9, fun _ => ⟨tw_6_189, tw_0_69⟩, fun h => absurd h (by decide), fun h => absurd h (by decide), by decide +kernel, by decide +kernel, by decide +kernel, by decide⟩
theorem cl_X8_300 : zcl RX8 "HailCellar" 2 300 mX8_common 2 := ⟨tw_6_204, tw_6_206, tw_1_9, fun h => absurd h (by decide), fun _ => tw_6_205, fun h => absurd h (by decide), by decide +kernel, by decide +kernel, by decide +kernel, by decide⟩
theorem pf_X8_303 : zpf RX8 303 7 2 false (.long) := ⟨RX8, TX8, 26, tyX8, rfl, by decide, tw_4_237, inWX8, tyX8_ok, nmX8, rfl, fun h => (by cases h), by decide +kernel⟩
theorem gf_X8_44 : zgf RX8 44 7 20 := ⟨RX8, TX8, 26, rfl, by decide, tw_5_15, inWX8⟩
theorem gf_X8_303 : zgf RX8 303 7 2 := ⟨RX8, TX8, 26, rfl, by decide, tw_4_237, inWX8⟩
theorem gf_X8_16 : zgf RX8 16 7 3 := ⟨RX8, TX8, 26, rfl, by decide, tw_4_238, inWX8⟩
theorem gf_X8_47 : zgf RX8 47 7 21 := ⟨RX8, TX8, 26, rfl, by decide, tw_5_16, inWX8⟩
theorem gf_X8_50 : zgf RX8 50 7 22 := ⟨RX8, TX8, 26, rfl, by decide, tw_5_17, inWX8⟩
theorem cl_X8_316 : zcl RX8 "HailCellar" 0 316 mX8_keepPast 1 := ⟨tw_6_224, tw_6_227, tw_1_9, fun _ => ⟨tw_6_226, tw_0_70⟩, fun h => absurd h (by decide), fun h => absurd h (by decide), by decide +kernel, by decide +kernel, by decide +kernel, by decide⟩
theorem gf_X8_54 : zgf RX8 54 7 23 := ⟨RX8, TX8, 26, rfl, by decide, tw_5_18, inWX8⟩
theorem gf_X8_57 : zgf RX8 57 7 24 := ⟨RX8, TX8, 26, rfl, by decide, tw_5_19, inWX8⟩
theorem cl_X8_319 : zcl RX8 "HailCellar" 0 319 mX8_turnedNow 0 := ⟨tw_7_5, tw_7_8, tw_1_9, fun _ => ⟨tw_7_7, tw_0_72⟩, fun h => absurd h (by decide), fun h => absurd h (by decide), by decide +kernel, by decide +kernel, by decide +kernel, by decide⟩
theorem cl_X8_324 : zcl RX8 "HailCellar" 0 324 mX8_countOf 1 := ⟨tw_7_1, tw_7_4, tw_1_9, fun _ => ⟨tw_7_3, tw_0_71⟩, fun h => absurd h (by decide), fun h => absurd h (by decide), by decide +kernel, by decide +kernel, by decide +kernel, by decide⟩
theorem gf_X8_329 : zgf RX8 329 7 25 := ⟨RX8, TX8, 26, rfl, by decide, tw_5_20, inWX8⟩
theorem pf_X8_329 : zpf RX8 329 7 25 false (.long) := ⟨RX8, TX8, 26, tyX8, rfl, by decide, tw_5_20, inWX8, tyX8_ok, nmX8, rfl, fun h => (by cases h), by decide +kernel⟩
theorem cl_X8_334 : zcl RX8 "HailCellar" 0 334 mX8_add 2 := ⟨tw_7_15, tw_7_18, tw_1_9, fun _ => ⟨tw_7_17, tw_0_73⟩, fun h => absurd h (by decide), fun h => absurd h (by decide), by decide +kernel, by decide +kernel, by decide +kernel, by decide⟩
theorem nw_L_7 : znw RL 7 6 [.null, .null, .null, .null, .null, .null, .null, .null, .int 0, .int 0, .long 0, .long 0, .int 0, .int 0, .int 0] := ⟨RX7, TX7, 15, tyX7, rfl, rfl, tw_1_16, tw_1_17, tw_1_1, inWX7, tyX7_ok, fun k hk => by
  match k, hk with
  | 0, _ => rfl
  | 1, _ => rfl
  | 2, _ => rfl
  | 3, _ => rfl
  | 4, _ => rfl
  | 5, _ => rfl
  | 6, _ => rfl
  | 7, _ => rfl
  | 8, _ => rfl
  | 9, _ => rfl
  | 10, _ => rfl
  | 11, _ => rfl
  | 12, _ => rfl
  | 13, _ => rfl
  | 14, _ => rfl⟩
theorem cl_L_9 : zcl RL "HailCellar" 4 9 mX7_init 0 := ⟨tw_1_18, tw_1_20, tw_1_1, fun h => absurd h (by decide), fun h => absurd h (by decide), fun _ => ⟨tw_1_19, rfl, rfl⟩, by decide +kernel, by decide +kernel, by decide +kernel, by decide⟩
theorem nw_L_10 : znw RL 10 7 [.null, .null, .long 0, .long 0, .int 0, .null, .null, .int 0, .int 0, .int 0, .int 0, .int 0, .int 0, .null, .int 0, .null, .null, .null, .null, .null, .null, .null, .null, .null, .null, .long 0] := ⟨RX8, TX8, 26, tyX8, rfl, rfl, tw_4_229, tw_4_230, tw_1_9, inWX8, tyX8_ok, fun k hk => by
  match k, hk with
  | 0, _ => rfl
  | 1, _ => rfl
  | 2, _ => rfl
  | 3, _ => rfl
  | 4, _ => rfl
  | 5, _ => rfl
  | 6, _ => rfl
  | 7, _ => rfl
  | 8, _ => rfl
  | 9, _ => rfl
  | 10, _ => rfl
  | 11, _ => rfl
  | 12, _ => rfl
  | 13, _ => rfl
  | 14, _ => rfl
  | 15, _ => rfl
  | 16, _ => rfl
  | 17, _ => rfl
  | 18, _ => rfl
  | 19, _ => rfl
  | 20, _ => rfl
  | 21, _ => rfl
  | 22, _ => rfl
  | 23, _ => rfl
  | 24, _ => rfl
  | 25, _ => rfl
  | k + 26, h => exact absurd h (by omega)⟩
theorem cl_L_12 : zcl RL "HailCellar" 4 12 mX8_init 0 := ⟨tw_4_231, tw_4_233, tw_1_9, fun h => absurd h (by decide), fun h => absurd h (by decide), fun _ => ⟨tw_4_232, rfl, rfl⟩, by decide +kernel, by decide +kernel, by decide +kernel, by decide⟩
theorem cl_L_13 : zcl RL "HailCellar" 0 13 mX7_store 1 := ⟨tw_1_232, tw_1_235, tw_1_1, fun _ => ⟨tw_1_233, tw_1_234⟩, fun h => absurd h (by decide), fun h => absurd h (by decide), by decide +kernel, by decide +kernel, by decide +kernel, by decide⟩
theorem cl_L_17 : zcl RL "HailCellar" 0 17 mX8_store 1 := ⟨tw_5_75, tw_5_78, tw_1_9, fun _ => ⟨tw_5_76, tw_5_77⟩, fun h => absurd h (by decide), fun h => absurd h (by decide), by decide +kernel, by decide +kernel, by decide +kernel, by decide⟩
theorem cl_L_18 : zcl RL "HailCellar" 0 18 mX7_cellar 2 := ⟨tw_2_15, tw_2_18, tw_1_1, fun _ => ⟨tw_2_16, tw_2_17⟩, fun h => absurd h (by decide), fun h => absurd h (by decide), by decide +kernel, by decide +kernel, by decide +kernel, by decide⟩
theorem cl_L_22 : zcl RL "HailCellar" 0 22 mX8_cellar 2 := ⟨tw_5_91, tw_5_94, tw_1_9, fun _ => ⟨tw_5_92, tw_5_93⟩, fun h => absurd h (by decide), fun h => absurd h (by decide), by decide +kernel, by decide +kernel, by decide +kernel, by decide⟩
theorem cl_L_23 : zcl RL "HailCellar" 0 23 mX7_stones 3 := ⟨tw_2_46, tw_2_49, tw_1_1, fun _ => ⟨tw_2_47, tw_2_48⟩, fun h => absurd h (by decide), fun h => absurd h (by decide), by decide +kernel, by decide +kernel, by decide +kernel, by decide⟩
theorem cl_L_27 : zcl RL "HailCellar" 0 27 mX8_stones 3 := ⟨tw_5_100, tw_5_103, tw_1_9, fun _ => ⟨tw_5_101, tw_5_102⟩, fun h => absurd h (by decide), fun h => absurd h (by decide), by decide +kernel, by decide +kernel, by decide +kernel, by decide⟩
theorem cl_L_28 : zcl RL "HailCellar" 0 28 mX7_straw 2 := ⟨tw_2_73, tw_2_76, tw_1_1, fun _ => ⟨tw_2_74, tw_2_75⟩, fun h => absurd h (by decide), fun h => absurd h (by decide), by decide +kernel, by decide +kernel, by decide +kernel, by decide⟩
theorem cl_L_31 : zcl RL "HailCellar" 0 31 mX8_straw 2 := ⟨tw_5_109, tw_5_112, tw_1_9, fun _ => ⟨tw_5_110, tw_5_111⟩, fun h => absurd h (by decide), fun h => absurd h (by decide), by decide +kernel, by decide +kernel, by decide +kernel, by decide⟩
theorem cl_L_32 : zcl RL "HailCellar" 0 32 mX7_slinger 2 := ⟨tw_2_79, tw_2_82, tw_1_1, fun _ => ⟨tw_2_80, tw_2_81⟩, fun h => absurd h (by decide), fun h => absurd h (by decide), by decide +kernel, by decide +kernel, by decide +kernel, by decide⟩
theorem cl_L_35 : zcl RL "HailCellar" 0 35 mX8_slinger 2 := ⟨tw_5_113, tw_5_116, tw_1_9, fun _ => ⟨tw_5_114, tw_5_115⟩, fun h => absurd h (by decide), fun h => absurd h (by decide), by decide +kernel, by decide +kernel, by decide +kernel, by decide⟩
theorem cl_L_36 : zcl RL "HailCellar" 0 36 mX7_cloud 2 := ⟨tw_2_87, tw_2_90, tw_1_1, fun _ => ⟨tw_2_88, tw_2_89⟩, fun h => absurd h (by decide), fun h => absurd h (by decide), by decide +kernel, by decide +kernel, by decide +kernel, by decide⟩
theorem cl_L_39 : zcl RL "HailCellar" 0 39 mX8_cloud 2 := ⟨tw_5_117, tw_5_120, tw_1_9, fun _ => ⟨tw_5_118, tw_5_119⟩, fun h => absurd h (by decide), fun h => absurd h (by decide), by decide +kernel, by decide +kernel, by decide +kernel, by decide⟩
theorem cl_L_40 : zcl RL "HailCellar" 0 40 mX7_type 1 := ⟨tw_2_95, tw_2_98, tw_1_1, fun _ => ⟨tw_2_96, tw_2_97⟩, fun h => absurd h (by decide), fun h => absurd h (by decide), by decide +kernel, by decide +kernel, by decide +kernel, by decide⟩
theorem cl_L_43 : zcl RL "HailCellar" 0 43 mX8_type 1 := ⟨tw_5_123, tw_5_126, tw_1_9, fun _ => ⟨tw_5_124, tw_5_125⟩, fun h => absurd h (by decide), fun h => absurd h (by decide), by decide +kernel, by decide +kernel, by decide +kernel, by decide⟩
theorem cl_L_44 : zcl RL "HailCellar" 0 44 mX7_clear 0 := ⟨tw_2_107, tw_2_110, tw_1_1, fun _ => ⟨tw_2_108, tw_2_109⟩, fun h => absurd h (by decide), fun h => absurd h (by decide), by decide +kernel, by decide +kernel, by decide +kernel, by decide⟩
theorem cl_L_48 : zcl RL "HailCellar" 0 48 mX8_clear 0 := ⟨tw_5_128, tw_5_131, tw_1_9, fun _ => ⟨tw_5_129, tw_5_130⟩, fun h => absurd h (by decide), fun h => absurd h (by decide), by decide +kernel, by decide +kernel, by decide +kernel, by decide⟩
theorem cl_L_49 : zcl RL "HailCellar" 0 49 mX7_read 0 := ⟨tw_2_115, tw_2_118, tw_1_1, fun _ => ⟨tw_2_116, tw_2_117⟩, fun h => absurd h (by decide), fun h => absurd h (by decide), by decide +kernel, by decide +kernel, by decide +kernel, by decide⟩
theorem cl_L_52 : zcl RL "HailCellar" 0 52 mX8_read 0 := ⟨tw_5_132, tw_5_135, tw_1_9, fun _ => ⟨tw_5_133, tw_5_134⟩, fun h => absurd h (by decide), fun h => absurd h (by decide), by decide +kernel, by decide +kernel, by decide +kernel, by decide⟩
theorem cl_L_53 : zcl RL "HailCellar" 0 53 mX7_week 1 := ⟨tw_3_18, tw_3_21, tw_1_1, fun _ => ⟨tw_3_19, tw_3_20⟩, fun h => absurd h (by decide), fun h => absurd h (by decide), by decide +kernel, by decide +kernel, by decide +kernel, by decide⟩
theorem cl_L_56 : zcl RL "HailCellar" 0 56 mX8_week 1 := ⟨tw_5_197, tw_5_200, tw_1_9, fun _ => ⟨tw_5_198, tw_5_199⟩, fun h => absurd h (by decide), fun h => absurd h (by decide), by decide +kernel, by decide +kernel, by decide +kernel, by decide⟩
theorem cl_L_57 : zcl RL "HailCellar" 0 57 mX7_door 1 := ⟨tw_3_46, tw_3_49, tw_1_1, fun _ => ⟨tw_3_47, tw_3_48⟩, fun h => absurd h (by decide), fun h => absurd h (by decide), by decide +kernel, by decide +kernel, by decide +kernel, by decide⟩
theorem cl_L_60 : zcl RL "HailCellar" 0 60 mX8_door 1 := ⟨tw_5_216, tw_5_219, tw_1_9, fun _ => ⟨tw_5_217, tw_5_218⟩, fun h => absurd h (by decide), fun h => absurd h (by decide), by decide +kernel, by decide +kernel, by decide +kernel, by decide⟩
theorem cl_L_61 : zcl RL "HailCellar" 0 61 mX7_throwing 4 := ⟨tw_3_62, tw_3_65, tw_1_1, fun _ => ⟨tw_3_63, tw_3_64⟩, fun h => absurd h (by decide), fun h => absurd h (by decide), by decide +kernel, by decide +kernel, by decide +kernel, by decide⟩
theorem cl_L_65 : zcl RL "HailCellar" 0 65 mX8_throwing 4 := ⟨tw_5_227, tw_5_230, tw_1_9, fun _ => ⟨tw_5_228, tw_5_229⟩, fun h => absurd h (by decide), fun h => absurd h (by decide), by decide +kernel, by decide +kernel, by decide +kernel, by decide⟩
theorem cl_L_66 : zcl RL "HailCellar" 0 66 mX7_hour 0 := ⟨tw_3_105, tw_3_108, tw_1_1, fun _ => ⟨tw_3_106, tw_3_107⟩, fun h => absurd h (by decide), fun h => absurd h (by decide), by decide +kernel, by decide +kernel, by decide +kernel, by decide⟩
theorem cl_L_69 : zcl RL "HailCellar" 0 69 mX8_hour 0 := ⟨tw_6_27, tw_6_30, tw_1_9, fun _ => ⟨tw_6_28, tw_6_29⟩, fun h => absurd h (by decide), fun h => absurd h (by decide), by decide +kernel, by decide +kernel, by decide +kernel, by decide⟩
theorem cl_L_70 : zcl RL "HailCellar" 0 70 mX7_wind 1 := ⟨tw_3_121, tw_3_124, tw_1_1, fun _ => ⟨tw_3_122, tw_3_123⟩, fun h => absurd h (by decide), fun h => absurd h (by decide), by decide +kernel, by decide +kernel, by decide +kernel, by decide⟩
theorem cl_L_73 : zcl RL "HailCellar" 0 73 mX8_wind 1 := ⟨tw_6_35, tw_6_38, tw_1_9, fun _ => ⟨tw_6_36, tw_6_37⟩, fun h => absurd h (by decide), fun h => absurd h (by decide), by decide +kernel, by decide +kernel, by decide +kernel, by decide⟩
theorem cl_L_74 : zcl RL "HailCellar" 0 74 mX7_undo 0 := ⟨tw_3_125, tw_3_128, tw_1_1, fun _ => ⟨tw_3_126, tw_3_127⟩, fun h => absurd h (by decide), fun h => absurd h (by decide), by decide +kernel, by decide +kernel, by decide +kernel, by decide⟩
theorem cl_L_77 : zcl RL "HailCellar" 0 77 mX8_undo 0 := ⟨tw_6_39, tw_6_42, tw_1_9, fun _ => ⟨tw_6_40, tw_6_41⟩, fun h => absurd h (by decide), fun h => absurd h (by decide), by decide +kernel, by decide +kernel, by decide +kernel, by decide⟩
theorem cl_L_78 : zcl RL "HailCellar" 0 78 mX7_of 2 := ⟨tw_3_138, tw_3_141, tw_1_1, fun _ => ⟨tw_3_139, tw_3_140⟩, fun h => absurd h (by decide), fun h => absurd h (by decide), by decide +kernel, by decide +kernel, by decide +kernel, by decide⟩
theorem cl_L_81 : zcl RL "HailCellar" 0 81 mX8_of 2 := ⟨tw_6_43, tw_6_46, tw_1_9, fun _ => ⟨tw_6_44, tw_6_45⟩, fun h => absurd h (by decide), fun h => absurd h (by decide), by decide +kernel, by decide +kernel, by decide +kernel, by decide⟩
theorem cl_L_82 : zcl RL "HailCellar" 0 82 mX7_has 2 := ⟨tw_3_143, tw_3_146, tw_1_1, fun _ => ⟨tw_3_144, tw_3_145⟩, fun h => absurd h (by decide), fun h => absurd h (by decide), by decide +kernel, by decide +kernel, by decide +kernel, by decide⟩
theorem cl_L_85 : zcl RL "HailCellar" 0 85 mX8_has 2 := ⟨tw_6_48, tw_6_51, tw_1_9, fun _ => ⟨tw_6_49, tw_6_50⟩, fun h => absurd h (by decide), fun h => absurd h (by decide), by decide +kernel, by decide +kernel, by decide +kernel, by decide⟩
theorem cl_L_86 : zcl RL "HailCellar" 0 86 mX7_about 2 := ⟨tw_3_147, tw_3_150, tw_1_1, fun _ => ⟨tw_3_148, tw_3_149⟩, fun h => absurd h (by decide), fun h => absurd h (by decide), by decide +kernel, by decide +kernel, by decide +kernel, by decide⟩
theorem cl_L_89 : zcl RL "HailCellar" 0 89 mX8_about 2 := ⟨tw_6_52, tw_6_55, tw_1_9, fun _ => ⟨tw_6_53, tw_6_54⟩, fun h => absurd h (by decide), fun h => absurd h (by decide), by decide +kernel, by decide +kernel, by decide +kernel, by decide⟩
theorem cl_L_90 : zcl RL "HailCellar" 0 90 mX7_sky 2 := ⟨tw_3_151, tw_3_154, tw_1_1, fun _ => ⟨tw_3_152, tw_3_153⟩, fun h => absurd h (by decide), fun h => absurd h (by decide), by decide +kernel, by decide +kernel, by decide +kernel, by decide⟩
theorem cl_L_93 : zcl RL "HailCellar" 0 93 mX8_sky 2 := ⟨tw_6_56, tw_6_59, tw_1_9, fun _ => ⟨tw_6_57, tw_6_58⟩, fun h => absurd h (by decide), fun h => absurd h (by decide), by decide +kernel, by decide +kernel, by decide +kernel, by decide⟩
theorem cl_L_94 : zcl RL "HailCellar" 0 94 mX7_melts 2 := ⟨tw_3_156, tw_3_159, tw_1_1, fun _ => ⟨tw_3_157, tw_3_158⟩, fun h => absurd h (by decide), fun h => absurd h (by decide), by decide +kernel, by decide +kernel, by decide +kernel, by decide⟩
theorem cl_L_97 : zcl RL "HailCellar" 0 97 mX8_melts 2 := ⟨tw_6_60, tw_6_63, tw_1_9, fun _ => ⟨tw_6_61, tw_6_62⟩, fun h => absurd h (by decide), fun h => absurd h (by decide), by decide +kernel, by decide +kernel, by decide +kernel, by decide⟩
theorem cl_L_98 : zcl RL "HailCellar" 0 98 mX7_then 4 := ⟨tw_3_161, tw_3_164, tw_1_1, fun _ => ⟨tw_3_162, tw_3_163⟩, fun h => absurd h (by decide), fun h => absurd h (by decide), by decide +kernel, by decide +kernel, by decide +kernel, by decide⟩
theorem cl_L_101 : zcl RL "HailCellar" 0 101 mX8_then 4 := ⟨tw_6_65, tw_6_68, tw_1_9, fun _ => ⟨tw_6_66, tw_6_67⟩, fun h => absurd h (by decide), fun h => absurd h (by decide), by decide +kernel, by decide +kernel, by decide +kernel, by decide⟩
theorem cl_L_102 : zcl RL "HailCellar" 0 102 mX7_lasts 2 := ⟨tw_3_182, tw_3_185, tw_1_1, fun _ => ⟨tw_3_183, tw_3_184⟩, fun h => absurd h (by decide), fun h => absurd h (by decide), by decide +kernel, by decide +kernel, by decide +kernel, by decide⟩
theorem cl_L_105 : zcl RL "HailCellar" 0 105 mX8_lasts 2 := ⟨tw_6_78, tw_6_81, tw_1_9, fun _ => ⟨tw_6_79, tw_6_80⟩, fun h => absurd h (by decide), fun h => absurd h (by decide), by decide +kernel, by decide +kernel, by decide +kernel, by decide⟩
theorem cl_L_106 : zcl RL "HailCellar" 0 106 mX7_least 3 := ⟨tw_3_191, tw_3_194, tw_1_1, fun _ => ⟨tw_3_192, tw_3_193⟩, fun h => absurd h (by decide), fun h => absurd h (by decide), by decide +kernel, by decide +kernel, by decide +kernel, by decide⟩
theorem cl_L_109 : zcl RL "HailCellar" 0 109 mX8_least 3 := ⟨tw_6_82, tw_6_85, tw_1_9, fun _ => ⟨tw_6_83, tw_6_84⟩, fun h => absurd h (by decide), fun h => absurd h (by decide), by decide +kernel, by decide +kernel, by decide +kernel, by decide⟩
theorem cl_L_110 : zcl RL "HailCellar" 0 110 mX7_throwsOf 3 := ⟨tw_3_199, tw_3_202, tw_1_1, fun _ => ⟨tw_3_200, tw_3_201⟩, fun h => absurd h (by decide), fun h => absurd h (by decide), by decide +kernel, by decide +kernel, by decide +kernel, by decide⟩
theorem cl_L_113 : zcl RL "HailCellar" 0 113 mX8_throwsOf 3 := ⟨tw_6_86, tw_6_89, tw_1_9, fun _ => ⟨tw_6_87, tw_6_88⟩, fun h => absurd h (by decide), fun h => absurd h (by decide), by decide +kernel, by decide +kernel, by decide +kernel, by decide⟩
theorem cl_L_114 : zcl RL "HailCellar" 0 114 mX7_reach 2 := ⟨tw_3_205, tw_3_208, tw_1_1, fun _ => ⟨tw_3_206, tw_3_207⟩, fun h => absurd h (by decide), fun h => absurd h (by decide), by decide +kernel, by decide +kernel, by decide +kernel, by decide⟩
theorem cl_L_117 : zcl RL "HailCellar" 0 117 mX8_reach 2 := ⟨tw_6_90, tw_6_93, tw_1_9, fun _ => ⟨tw_6_91, tw_6_92⟩, fun h => absurd h (by decide), fun h => absurd h (by decide), by decide +kernel, by decide +kernel, by decide +kernel, by decide⟩
theorem cl_L_118 : zcl RL "HailCellar" 0 118 mX7_turn 4 := ⟨tw_3_214, tw_3_217, tw_1_1, fun _ => ⟨tw_3_215, tw_3_216⟩, fun h => absurd h (by decide), fun h => absurd h (by decide), by decide +kernel, by decide +kernel, by decide +kernel, by decide⟩
theorem cl_L_121 : zcl RL "HailCellar" 0 121 mX8_turn 4 := ⟨tw_6_94, tw_6_97, tw_1_9, fun _ => ⟨tw_6_95, tw_6_96⟩, fun h => absurd h (by decide), fun h => absurd h (by decide), by decide +kernel, by decide +kernel, by decide +kernel, by decide⟩
theorem cl_L_122 : zcl RL "HailCellar" 0 122 mX7_meet 2 := ⟨tw_3_232, tw_3_235, tw_1_1, fun _ => ⟨tw_3_233, tw_3_234⟩, fun h => absurd h (by decide), fun h => absurd h (by decide), by decide +kernel, by decide +kernel, by decide +kernel, by decide⟩
theorem cl_L_125 : zcl RL "HailCellar" 0 125 mX8_meet 2 := ⟨tw_6_102, tw_6_105, tw_1_9, fun _ => ⟨tw_6_103, tw_6_104⟩, fun h => absurd h (by decide), fun h => absurd h (by decide), by decide +kernel, by decide +kernel, by decide +kernel, by decide⟩
theorem cl_L_126 : zcl RL "HailCellar" 0 126 mX7_doors 2 := ⟨tw_4_40, tw_4_43, tw_1_1, fun _ => ⟨tw_4_41, tw_4_42⟩, fun h => absurd h (by decide), fun h => absurd h (by decide), by decide +kernel, by decide +kernel, by decide +kernel, by decide⟩
theorem cl_L_129 : zcl RL "HailCellar" 0 129 mX8_doors 2 := ⟨tw_6_122, tw_6_125, tw_1_9, fun _ => ⟨tw_6_123, tw_6_124⟩, fun h => absurd h (by decide), fun h => absurd h (by decide), by decide +kernel, by decide +kernel, by decide +kernel, by decide⟩
theorem cl_L_130 : zcl RL "HailCellar" 0 130 mX7_rings 4 := ⟨tw_4_54, tw_4_57, tw_1_1, fun _ => ⟨tw_4_55, tw_4_56⟩, fun h => absurd h (by decide), fun h => absurd h (by decide), by decide +kernel, by decide +kernel, by decide +kernel, by decide⟩
theorem cl_L_133 : zcl RL "HailCellar" 0 133 mX8_rings 4 := ⟨tw_6_130, tw_6_133, tw_1_9, fun _ => ⟨tw_6_131, tw_6_132⟩, fun h => absurd h (by decide), fun h => absurd h (by decide), by decide +kernel, by decide +kernel, by decide +kernel, by decide⟩
theorem cl_L_134 : zcl RL "HailCellar" 0 134 mX7_cooled 1 := ⟨tw_4_63, tw_4_66, tw_1_1, fun _ => ⟨tw_4_64, tw_4_65⟩, fun h => absurd h (by decide), fun h => absurd h (by decide), by decide +kernel, by decide +kernel, by decide +kernel, by decide⟩
theorem cl_L_137 : zcl RL "HailCellar" 0 137 mX8_cooled 1 := ⟨tw_6_134, tw_6_137, tw_1_9, fun _ => ⟨tw_6_135, tw_6_136⟩, fun h => absurd h (by decide), fun h => absurd h (by decide), by decide +kernel, by decide +kernel, by decide +kernel, by decide⟩
theorem cl_L_138 : zcl RL "HailCellar" 0 138 mX7_even 1 := ⟨tw_4_75, tw_4_78, tw_1_1, fun _ => ⟨tw_4_76, tw_4_77⟩, fun h => absurd h (by decide), fun h => absurd h (by decide), by decide +kernel, by decide +kernel, by decide +kernel, by decide⟩
theorem cl_L_141 : zcl RL "HailCellar" 0 141 mX8_even 1 := ⟨tw_6_142, tw_6_145, tw_1_9, fun _ => ⟨tw_6_143, tw_6_144⟩, fun h => absurd h (by decide), fun h => absurd h (by decide), by decide +kernel, by decide +kernel, by decide +kernel, by decide⟩
theorem cl_L_142 : zcl RL "HailCellar" 0 142 mX7_note 5 := ⟨tw_4_84, tw_4_87, tw_1_1, fun _ => ⟨tw_4_85, tw_4_86⟩, fun h => absurd h (by decide), fun h => absurd h (by decide), by decide +kernel, by decide +kernel, by decide +kernel, by decide⟩
theorem cl_L_146 : zcl RL "HailCellar" 0 146 mX8_note 5 := ⟨tw_6_146, tw_6_149, tw_1_9, fun _ => ⟨tw_6_147, tw_6_148⟩, fun h => absurd h (by decide), fun h => absurd h (by decide), by decide +kernel, by decide +kernel, by decide +kernel, by decide⟩
theorem cl_L_147 : zcl RL "HailCellar" 0 147 mX7_flew 5 := ⟨tw_4_88, tw_4_91, tw_1_1, fun _ => ⟨tw_4_89, tw_4_90⟩, fun h => absurd h (by decide), fun h => absurd h (by decide), by decide +kernel, by decide +kernel, by decide +kernel, by decide⟩
theorem cl_L_150 : zcl RL "HailCellar" 0 150 mX8_flew 5 := ⟨tw_6_154, tw_6_157, tw_1_9, fun _ => ⟨tw_6_155, tw_6_156⟩, fun h => absurd h (by decide), fun h => absurd h (by decide), by decide +kernel, by decide +kernel, by decide +kernel, by decide⟩
theorem cl_L_151 : zcl RL "HailCellar" 0 151 mX7_forget 1 := ⟨tw_4_92, tw_4_95, tw_1_1, fun _ => ⟨tw_4_93, tw_4_94⟩, fun h => absurd h (by decide), fun h => absurd h (by decide), by decide +kernel, by decide +kernel, by decide +kernel, by decide⟩
theorem cl_L_154 : zcl RL "HailCellar" 0 154 mX8_forget 1 := ⟨tw_6_159, tw_6_162, tw_1_9, fun _ => ⟨tw_6_160, tw_6_161⟩, fun h => absurd h (by decide), fun h => absurd h (by decide), by decide +kernel, by decide +kernel, by decide +kernel, by decide⟩
theorem cl_L_155 : zcl RL "HailCellar" 0 155 mX7_is 1 := ⟨tw_4_96, tw_4_99, tw_1_1, fun _ => ⟨tw_4_97, tw_4_98⟩, fun h => absurd h (by decide), fun h => absurd h (by decide), by decide +kernel, by decide +kernel, by decide +kernel, by decide⟩
theorem cl_L_158 : zcl RL "HailCellar" 0 158 mX8_is 1 := ⟨tw_6_164, tw_6_167, tw_1_9, fun _ => ⟨tw_6_165, tw_6_166⟩, fun h => absurd h (by decide), fun h => absurd h (by decide), by decide +kernel, by decide +kernel, by decide +kernel, by decide⟩
theorem cl_L_159 : zcl RL "HailCellar" 0 159 mX7_watch 1 := ⟨tw_4_110, tw_4_113, tw_1_1, fun _ => ⟨tw_4_111, tw_4_112⟩, fun h => absurd h (by decide), fun h => absurd h (by decide), by decide +kernel, by decide +kernel, by decide +kernel, by decide⟩
theorem cl_L_162 : zcl RL "HailCellar" 0 162 mX8_watch 1 := ⟨tw_6_172, tw_6_175, tw_1_9, fun _ => ⟨tw_6_173, tw_6_174⟩, fun h => absurd h (by decide), fun h => absurd h (by decide), by decide +kernel, by decide +kernel, by decide +kernel, by decide⟩
theorem cl_L_163 : zcl RL "HailCellar" 0 163 mX7_who 1 := ⟨tw_4_126, tw_4_129, tw_1_1, fun _ => ⟨tw_4_127, tw_4_128⟩, fun h => absurd h (by decide), fun h => absurd h (by decide), by decide +kernel, by decide +kernel, by decide +kernel, by decide⟩
theorem cl_L_166 : zcl RL "HailCellar" 0 166 mX8_who 1 := ⟨tw_6_183, tw_6_186, tw_1_9, fun _ => ⟨tw_6_184, tw_6_185⟩, fun h => absurd h (by decide), fun h => absurd h (by decide), by decide +kernel, by decide +kernel, by decide +kernel, by decide⟩
theorem cl_L_167 : zcl RL "HailCellar" 0 167 mX7_ask 1 := ⟨tw_4_140, tw_4_143, tw_1_1, fun _ => ⟨tw_4_141, tw_4_142⟩, fun h => absurd h (by decide), fun h => absurd h (by decide), by decide +kernel, by decide +kernel, by decide +kernel, by decide⟩
theorem cl_L_170 : zcl RL "HailCellar" 0 170 mX8_ask 1 := ⟨tw_6_191, tw_6_194, tw_1_9, fun _ => ⟨tw_6_192, tw_6_193⟩, fun h => absurd h (by decide), fun h => absurd h (by decide), by decide +kernel, by decide +kernel, by decide +kernel, by decide⟩
theorem cl_L_171 : zcl RL "HailCellar" 0 171 mX7_parishes 4 := ⟨tw_4_149, tw_4_152, tw_1_1, fun _ => ⟨tw_4_150, tw_4_151⟩, fun h => absurd h (by decide), fun h => absurd h (by decide), by decide +kernel, by decide +kernel, by decide +kernel, by decide⟩
theorem cl_L_174 : zcl RL "HailCellar" 0 174 mX8_parishes 4 := ⟨tw_6_195, tw_6_198, tw_1_9, fun _ => ⟨tw_6_196, tw_6_197⟩, fun h => absurd h (by decide), fun h => absurd h (by decide), by decide +kernel, by decide +kernel, by decide +kernel, by decide⟩
theorem cl_L_175 : zcl RL "HailCellar" 0 175 mX7_gusts 5 := ⟨tw_4_163, tw_4_166, tw_1_1, fun _ => ⟨tw_4_164, tw_4_165⟩, fun h => absurd h (by decide), fun h => absurd h (by decide), by decide +kernel, by decide +kernel, by decide +kernel, by decide⟩
theorem cl_L_178 : zcl RL "HailCellar" 0 178 mX8_gusts 5 := ⟨tw_6_199, tw_6_202, tw_1_9, fun _ => ⟨tw_6_200, tw_6_201⟩, fun h => absurd h (by decide), fun h => absurd h (by decide), by decide +kernel, by decide +kernel, by decide +kernel, by decide⟩
theorem cl_L_179 : zcl RL "HailCellar" 0 179 mX7_summers 2 := ⟨tw_4_172, tw_4_175, tw_1_1, fun _ => ⟨tw_4_173, tw_4_174⟩, fun h => absurd h (by decide), fun h => absurd h (by decide), by decide +kernel, by decide +kernel, by decide +kernel, by decide⟩
theorem cl_L_182 : zcl RL "HailCellar" 0 182 mX8_summers 2 := ⟨tw_6_207, tw_6_210, tw_1_9, fun _ => ⟨tw_6_208, tw_6_209⟩, fun h => absurd h (by decide), fun h => absurd h (by decide), by decide +kernel, by decide +kernel, by decide +kernel, by decide⟩
theorem cl_L_183 : zcl RL "HailCellar" 0 183 mX7_part 1 := ⟨tw_4_190, tw_4_193, tw_1_1, fun _ => ⟨tw_4_191, tw_4_192⟩, fun h => absurd h (by decide), fun h => absurd h (by decide), by decide +kernel, by decide +kernel, by decide +kernel, by decide⟩
theorem cl_L_187 : zcl RL "HailCellar" 0 187 mX8_part 1 := ⟨tw_6_216, tw_6_219, tw_1_9, fun _ => ⟨tw_6_217, tw_6_218⟩, fun h => absurd h (by decide), fun h => absurd h (by decide), by decide +kernel, by decide +kernel, by decide +kernel, by decide⟩
theorem cl_L_188 : zcl RL "HailCellar" 0 188 mX7_image 1 := ⟨tw_4_194, tw_4_197, tw_1_1, fun _ => ⟨tw_4_195, tw_4_196⟩, fun h => absurd h (by decide), fun h => absurd h (by decide), by decide +kernel, by decide +kernel, by decide +kernel, by decide⟩
theorem cl_L_191 : zcl RL "HailCellar" 0 191 mX8_image 1 := ⟨tw_6_220, tw_6_223, tw_1_9, fun _ => ⟨tw_6_221, tw_6_222⟩, fun h => absurd h (by decide), fun h => absurd h (by decide), by decide +kernel, by decide +kernel, by decide +kernel, by decide⟩
theorem cl_L_192 : zcl RL "HailCellar" 0 192 mX7_from 1 := ⟨tw_4_198, tw_4_201, tw_1_1, fun _ => ⟨tw_4_199, tw_4_200⟩, fun h => absurd h (by decide), fun h => absurd h (by decide), by decide +kernel, by decide +kernel, by decide +kernel, by decide⟩
theorem cl_L_195 : zcl RL "HailCellar" 0 195 mX8_from 1 := ⟨tw_6_228, tw_6_231, tw_1_9, fun _ => ⟨tw_6_229, tw_6_230⟩, fun h => absurd h (by decide), fun h => absurd h (by decide), by decide +kernel, by decide +kernel, by decide +kernel, by decide⟩
theorem cl_L_196 : zcl RL "HailCellar" 0 196 mX7_status 1 := ⟨tw_4_202, tw_4_205, tw_1_1, fun _ => ⟨tw_4_203, tw_4_204⟩, fun h => absurd h (by decide), fun h => absurd h (by decide), by decide +kernel, by decide +kernel, by decide +kernel, by decide⟩
theorem cl_L_199 : zcl RL "HailCellar" 0 199 mX8_status 1 := ⟨tw_6_232, tw_6_235, tw_1_9, fun _ => ⟨tw_6_233, tw_6_234⟩, fun h => absurd h (by decide), fun h => absurd h (by decide), by decide +kernel, by decide +kernel, by decide +kernel, by decide⟩
theorem cl_L_200 : zcl RL "HailCellar" 0 200 mX7_count 1 := ⟨tw_4_206, tw_4_209, tw_1_1, fun _ => ⟨tw_4_207, tw_4_208⟩, fun h => absurd h (by decide), fun h => absurd h (by decide), by decide +kernel, by decide +kernel, by decide +kernel, by decide⟩
theorem cl_L_203 : zcl RL "HailCellar" 0 203 mX8_count 1 := ⟨tw_6_236, tw_6_239, tw_1_9, fun _ => ⟨tw_6_237, tw_6_238⟩, fun h => absurd h (by decide), fun h => absurd h (by decide), by decide +kernel, by decide +kernel, by decide +kernel, by decide⟩
theorem cl_L_204 : zcl RL "HailCellar" 0 204 mX7_digest 0 := ⟨tw_4_218, tw_4_221, tw_1_1, fun _ => ⟨tw_4_219, tw_4_220⟩, fun h => absurd h (by decide), fun h => absurd h (by decide), by decide +kernel, by decide +kernel, by decide +kernel, by decide⟩
theorem cl_L_208 : zcl RL "HailCellar" 0 208 mX8_digest 0 := ⟨tw_7_9, tw_7_12, tw_1_9, fun _ => ⟨tw_7_10, tw_7_11⟩, fun h => absurd h (by decide), fun h => absurd h (by decide), by decide +kernel, by decide +kernel, by decide +kernel, by decide⟩

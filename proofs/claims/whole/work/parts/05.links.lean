/-! PART 05: the links hold (a program decides it) -/
theorem mIn_7 {w : Cond} (h : w ∈ tables_1) (hg : goodWord w = true) : w ∈ mAllW := List.mem_filter.mpr ⟨List.mem_append_right _ (List.mem_append_right _ h), hg⟩
theorem mInT_1 {w : Cond} (h : w ∈ tables_1_1) (hg : goodWord w = true) : w ∈ mAllW := mIn_7 (List.mem_append_left _ h) hg
theorem mInT_2 {w : Cond} (h : w ∈ tables_1_2) (hg : goodWord w = true) : w ∈ mAllW := mIn_7 (List.mem_append_right _ (List.mem_append_left _ h)) hg
theorem mInT_3 {w : Cond} (h : w ∈ tables_1_3) (hg : goodWord w = true) : w ∈ mAllW := mIn_7 (List.mem_append_right _ (List.mem_append_right _ (List.mem_append_left _ h))) hg
theorem mInT_4 {w : Cond} (h : w ∈ tables_1_4) (hg : goodWord w = true) : w ∈ mAllW := mIn_7 (List.mem_append_right _ (List.mem_append_right _ (List.mem_append_right _ (List.mem_append_left _ h)))) hg
theorem mInT_5 {w : Cond} (h : w ∈ tables_1_5) (hg : goodWord w = true) : w ∈ mAllW := mIn_7 (List.mem_append_right _ (List.mem_append_right _ (List.mem_append_right _ (List.mem_append_right _ (List.mem_append_left _ h))))) hg
theorem mInT_6 {w : Cond} (h : w ∈ tables_1_6) (hg : goodWord w = true) : w ∈ mAllW := mIn_7 (List.mem_append_right _ (List.mem_append_right _ (List.mem_append_right _ (List.mem_append_right _ (List.mem_append_right _ (List.mem_append_left _ h)))))) hg
theorem mInT_7 {w : Cond} (h : w ∈ tables_1_7) (hg : goodWord w = true) : w ∈ mAllW := mIn_7 (List.mem_append_right _ (List.mem_append_right _ (List.mem_append_right _ (List.mem_append_right _ (List.mem_append_right _ (List.mem_append_right _ (h))))))) hg
theorem mCw_0 : Cond.code yX0_init cX0_init 1 none ∈ mAllW := mInT_1 (List.mem_of_getElem? (i := 178) rfl) rfl
theorem mCw_1 : Cond.code yX0_begin cX0_begin 4 none ∈ mAllW := mInT_4 (List.mem_of_getElem? (i := 4) rfl) rfl
theorem mCw_2 : Cond.code yX0_fillStream cX0_fillStream 2 none ∈ mAllW := mInT_4 (List.mem_of_getElem? (i := 77) rfl) rfl
theorem mCw_3 : Cond.code yX0_absorb cX0_absorb 1 none ∈ mAllW := mInT_4 (List.mem_of_getElem? (i := 100) rfl) rfl
theorem mCw_4 : Cond.code yX0_absorbLengths cX0_absorbLengths 3 none ∈ mAllW := mInT_4 (List.mem_of_getElem? (i := 123) rfl) rfl
theorem mCw_5 : Cond.code yX0_writeTag cX0_writeTag 1 none ∈ mAllW := mInT_4 (List.mem_of_getElem? (i := 133) rfl) rfl
theorem mCw_6 : Cond.code yX0_longOf cX0_longOf 5 (some .long) ∈ mAllW := mInT_4 (List.mem_of_getElem? (i := 30) rfl) rfl
theorem mCw_7 : Cond.code yX0_twice cX0_twice 1 (some .int) ∈ mAllW := mInT_1 (List.mem_of_getElem? (i := 194) rfl) rfl
theorem mCw_8 : Cond.code yX0_fillSub cX0_fillSub 6 none ∈ mAllW := mInT_1 (List.mem_of_getElem? (i := 191) rfl) rfl
theorem mCw_9 : Cond.code yX0_stretchKey cX0_stretchKey 6 none ∈ mAllW := mInT_4 (List.mem_of_getElem? (i := 8) rfl) rfl
theorem mCw_10 : Cond.code yX0_subWord cX0_subWord 2 (some .int) ∈ mAllW := mInT_4 (List.mem_of_getElem? (i := 13) rfl) rfl
theorem mCw_11 : Cond.code yX0_fillBlock cX0_fillBlock 3 none ∈ mAllW := mInT_4 (List.mem_of_getElem? (i := 81) rfl) rfl
theorem mCw_12 : Cond.code yX0_encipher cX0_encipher 3 none ∈ mAllW := mInT_4 (List.mem_of_getElem? (i := 18) rfl) rfl
theorem mCw_13 : Cond.code yX0_mixKey cX0_mixKey 3 none ∈ mAllW := mInT_4 (List.mem_of_getElem? (i := 22) rfl) rfl
theorem mCw_14 : Cond.code yX0_mixColumns cX0_mixColumns 7 none ∈ mAllW := mInT_4 (List.mem_of_getElem? (i := 26) rfl) rfl
theorem mCw_15 : Cond.code yX0_multiply cX0_multiply 20 none ∈ mAllW := mInT_4 (List.mem_of_getElem? (i := 104) rfl) rfl
theorem mCw_16 : Cond.code yX1_init cX1_init 2 none ∈ mAllW := mInT_1 (List.mem_of_getElem? (i := 181) rfl) rfl
theorem mCw_17 : Cond.code yX1_protect cX1_protect 4 none ∈ mAllW := mInT_4 (List.mem_of_getElem? (i := 66) rfl) rfl
theorem mCw_18 : Cond.code yX1_reveal cX1_reveal 6 (some .boolean) ∈ mAllW := mInT_4 (List.mem_of_getElem? (i := 156) rfl) rfl
theorem mCw_19 : Cond.code yX1_scramble cX1_scramble 7 none ∈ mAllW := mInT_4 (List.mem_of_getElem? (i := 71) rfl) rfl
theorem mCw_20 : Cond.code yX1_makeTag cX1_makeTag 4 none ∈ mAllW := mInT_4 (List.mem_of_getElem? (i := 90) rfl) rfl
theorem mCw_21 : Cond.code yX1_absorbRow cX1_absorbRow 5 none ∈ mAllW := mInT_4 (List.mem_of_getElem? (i := 94) rfl) rfl
theorem mCw_22 : Cond.code yX2_init cX2_init 1 none ∈ mAllW := mInT_2 (List.mem_of_getElem? (i := 36) rfl) rfl
theorem mCw_23 : Cond.code yX2_begin cX2_begin 5 none ∈ mAllW := mInT_4 (List.mem_of_getElem? (i := 193) rfl) rfl
theorem mCw_24 : Cond.code yX2_place cX2_place 4 none ∈ mAllW := mInT_4 (List.mem_of_getElem? (i := 197) rfl) rfl
theorem mCw_25 : Cond.code yX2_isAtEnd cX2_isAtEnd 1 (some .boolean) ∈ mAllW := mInT_4 (List.mem_of_getElem? (i := 235) rfl) rfl
theorem mCw_26 : Cond.code yX2_step cX2_step 1 none ∈ mAllW := mInT_5 (List.mem_of_getElem? (i := 10) rfl) rfl
theorem mCw_27 : Cond.code yX2_writeNonce cX2_writeNonce 4 none ∈ mAllW := mInT_5 (List.mem_of_getElem? (i := 3) rfl) rfl
theorem mCw_28 : Cond.code yX3_init cX3_init 1 none ∈ mAllW := mInT_1 (List.mem_of_getElem? (i := 136) rfl) rfl
theorem mCw_29 : Cond.code yX3_putAgreement cX3_putAgreement 4 (some .boolean) ∈ mAllW := mInT_3 (List.mem_of_getElem? (i := 67) rfl) rfl
theorem mCw_30 : Cond.code yX3_putPublic cX3_putPublic 3 none ∈ mAllW := mInT_3 (List.mem_of_getElem? (i := 132) rfl) rfl
theorem mCw_31 : Cond.code yX3_climb cX3_climb 4 none ∈ mAllW := mInT_3 (List.mem_of_getElem? (i := 82) rfl) rfl
theorem mCw_32 : Cond.code yX3_keyByte cX3_keyByte 3 (some .int) ∈ mAllW := mInT_3 (List.mem_of_getElem? (i := 89) rfl) rfl
theorem mCw_33 : Cond.code yX3_step cX3_step 6 none ∈ mAllW := mInT_3 (List.mem_of_getElem? (i := 93) rfl) rfl
theorem mCw_34 : Cond.code yX3_invert cX3_invert 2 none ∈ mAllW := mInT_3 (List.mem_of_getElem? (i := 108) rfl) rfl
theorem mCw_35 : Cond.code yX3_raise cX3_raise 6 none ∈ mAllW := mInT_3 (List.mem_of_getElem? (i := 112) rfl) rfl
theorem mCw_36 : Cond.code yX3_setSmall cX3_setSmall 3 none ∈ mAllW := mInT_3 (List.mem_of_getElem? (i := 85) rfl) rfl
theorem mCw_37 : Cond.code yX3_plus cX3_plus 4 none ∈ mAllW := mInT_3 (List.mem_of_getElem? (i := 96) rfl) rfl
theorem mCw_38 : Cond.code yX3_minus cX3_minus 4 none ∈ mAllW := mInT_3 (List.mem_of_getElem? (i := 99) rfl) rfl
theorem mCw_39 : Cond.code yX3_times cX3_times 71 none ∈ mAllW := mInT_3 (List.mem_of_getElem? (i := 102) rfl) rfl
theorem mCw_40 : Cond.code yX3_carry cX3_carry 8 none ∈ mAllW := mInT_3 (List.mem_of_getElem? (i := 75) rfl) rfl
theorem mCw_41 : Cond.code yX3_readLimbs cX3_readLimbs 8 none ∈ mAllW := mInT_3 (List.mem_of_getElem? (i := 71) rfl) rfl
theorem mCw_42 : Cond.code yX3_writeLimbs cX3_writeLimbs 11 none ∈ mAllW := mInT_3 (List.mem_of_getElem? (i := 116) rfl) rfl
theorem mCw_43 : Cond.code yX4_init cX4_init 1 none ∈ mAllW := mInT_1 (List.mem_of_getElem? (i := 46) rfl) rfl
theorem mCw_44 : Cond.code yX4_begin cX4_begin 3 none ∈ mAllW := mInT_2 (List.mem_of_getElem? (i := 220) rfl) rfl
theorem mCw_45 : Cond.code yX4_blockBytes cX4_blockBytes 1 (some .int) ∈ mAllW := mInT_2 (List.mem_of_getElem? (i := 236) rfl) rfl
theorem mCw_46 : Cond.code yX4_take cX4_take 3 none ∈ mAllW := mInT_2 (List.mem_of_getElem? (i := 232) rfl) rfl
theorem mCw_47 : Cond.code yX4_takeRow cX4_takeRow 3 none ∈ mAllW := mInT_2 (List.mem_of_getElem? (i := 227) rfl) rfl
theorem mCw_48 : Cond.code yX4_finish cX4_finish 6 none ∈ mAllW := mInT_3 (List.mem_of_getElem? (i := 14) rfl) rfl
theorem mCw_49 : Cond.code yX4_stretchWords cX4_stretchWords 18 none ∈ mAllW := mInT_3 (List.mem_of_getElem? (i := 0) rfl) rfl
theorem mCw_50 : Cond.code yX4_mixWords cX4_mixWords 35 none ∈ mAllW := mInT_3 (List.mem_of_getElem? (i := 8) rfl) rfl
theorem mCw_51 : Cond.code yX5_init cX5_init 1 none ∈ mAllW := mInT_1 (List.mem_of_getElem? (i := 40) rfl) rfl
theorem mCw_52 : Cond.code yX5_begin cX5_begin 3 none ∈ mAllW := mInT_3 (List.mem_of_getElem? (i := 24) rfl) rfl
theorem mCw_53 : Cond.code yX5_finish cX5_finish 2 none ∈ mAllW := mInT_3 (List.mem_of_getElem? (i := 39) rfl) rfl
theorem mCw_54 : Cond.code yX5_stretch cX5_stretch 7 none ∈ mAllW := mInT_3 (List.mem_of_getElem? (i := 50) rfl) rfl
theorem mCw_55 : Cond.code yX5_beginHalf cX5_beginHalf 3 none ∈ mAllW := mInT_3 (List.mem_of_getElem? (i := 33) rfl) rfl
theorem mCw_56 : Cond.code yX6_init cX6_init 1 none ∈ mAllW := mInT_1 (List.mem_of_getElem? (i := 34) rfl) rfl
theorem mCw_57 : Cond.code yX6_beginAgreement cX6_beginAgreement 1 none ∈ mAllW := mInT_3 (List.mem_of_getElem? (i := 140) rfl) rfl
theorem mCw_58 : Cond.code yX6_beginSuite cX6_beginSuite 3 none ∈ mAllW := mInT_4 (List.mem_of_getElem? (i := 207) rfl) rfl
theorem mCw_59 : Cond.code yX6_extract cX6_extract 5 none ∈ mAllW := mInT_3 (List.mem_of_getElem? (i := 201) rfl) rfl
theorem mCw_60 : Cond.code yX6_stretch cX6_stretch 6 none ∈ mAllW := mInT_3 (List.mem_of_getElem? (i := 215) rfl) rfl
theorem mCw_61 : Cond.code yX6_putLabel cX6_putLabel 2 none ∈ mAllW := mInT_3 (List.mem_of_getElem? (i := 205) rfl) rfl
theorem mCw_62 : Cond.code yX7_init cX7_init 2 none ∈ mAllW := mInT_1 (List.mem_of_getElem? (i := 80) rfl) rfl
theorem mCw_63 : Cond.code yX7_empty cX7_empty 1 none ∈ mAllW := mInT_2 (List.mem_of_getElem? (i := 153) rfl) rfl
theorem mCw_64 : Cond.code yX7_hasRoom cX7_hasRoom 2 (some .boolean) ∈ mAllW := mInT_2 (List.mem_of_getElem? (i := 137) rfl) rfl
theorem mCw_65 : Cond.code yX7_hasPart cX7_hasPart 3 (some .boolean) ∈ mAllW := mInT_2 (List.mem_of_getElem? (i := 161) rfl) rfl
theorem mCw_66 : Cond.code yX7_byteAt cX7_byteAt 2 (some .int) ∈ mAllW := mInT_2 (List.mem_of_getElem? (i := 200) rfl) rfl
theorem mCw_67 : Cond.code yX7_turnBit cX7_turnBit 3 (some .int) ∈ mAllW := mInT_2 (List.mem_of_getElem? (i := 196) rfl) rfl
theorem mCw_68 : Cond.code yX7_put cX7_put 2 none ∈ mAllW := mInT_2 (List.mem_of_getElem? (i := 145) rfl) rfl
theorem mCw_69 : Cond.code yX7_putNumber cX7_putNumber 5 none ∈ mAllW := mInT_2 (List.mem_of_getElem? (i := 141) rfl) rfl
theorem mCw_70 : Cond.code yX7_putText cX7_putText 3 none ∈ mAllW := mInT_3 (List.mem_of_getElem? (i := 146) rfl) rfl
theorem mCw_71 : Cond.code yX7_putPart cX7_putPart 5 none ∈ mAllW := mInT_2 (List.mem_of_getElem? (i := 165) rfl) rfl
theorem mCw_72 : Cond.code yX7_putRow cX7_putRow 2 none ∈ mAllW := mInT_2 (List.mem_of_getElem? (i := 188) rfl) rfl
theorem mCw_73 : Cond.code yX7_become cX7_become 2 none ∈ mAllW := mInT_2 (List.mem_of_getElem? (i := 179) rfl) rfl
theorem mCw_74 : Cond.code yX7_isZero cX7_isZero 3 (some .boolean) ∈ mAllW := mInT_3 (List.mem_of_getElem? (i := 123) rfl) rfl
theorem mCw_75 : Cond.code yX8_init cX8_init 1 none ∈ mAllW := mInT_2 (List.mem_of_getElem? (i := 8) rfl) rfl
theorem mCw_76 : Cond.code yX8_begin cX8_begin 4 none ∈ mAllW := mInT_4 (List.mem_of_getElem? (i := 33) rfl) rfl
theorem mCw_77 : Cond.code yX8_fillStream cX8_fillStream 2 none ∈ mAllW := mInT_4 (List.mem_of_getElem? (i := 84) rfl) rfl
theorem mCw_78 : Cond.code yX8_absorb cX8_absorb 1 none ∈ mAllW := mInT_4 (List.mem_of_getElem? (i := 108) rfl) rfl
theorem mCw_79 : Cond.code yX8_absorbLengths cX8_absorbLengths 3 none ∈ mAllW := mInT_4 (List.mem_of_getElem? (i := 127) rfl) rfl
theorem mCw_80 : Cond.code yX8_writeTag cX8_writeTag 9 none ∈ mAllW := mInT_4 (List.mem_of_getElem? (i := 138) rfl) rfl
theorem mCw_81 : Cond.code yX8_wordOf cX8_wordOf 2 (some .int) ∈ mAllW := mInT_4 (List.mem_of_getElem? (i := 40) rfl) rfl
theorem mCw_82 : Cond.code yX8_longOf cX8_longOf 5 (some .long) ∈ mAllW := mInT_4 (List.mem_of_getElem? (i := 53) rfl) rfl
theorem mCw_83 : Cond.code yX8_fillBlock cX8_fillBlock 5 none ∈ mAllW := mInT_4 (List.mem_of_getElem? (i := 45) rfl) rfl
theorem mCw_84 : Cond.code yX8_quarter cX8_quarter 9 none ∈ mAllW := mInT_4 (List.mem_of_getElem? (i := 50) rfl) rfl
theorem mCw_85 : Cond.code yX8_split cX8_split 5 none ∈ mAllW := mInT_4 (List.mem_of_getElem? (i := 59) rfl) rfl
theorem mCw_86 : Cond.code yX8_multiply cX8_multiply 9 none ∈ mAllW := mInT_4 (List.mem_of_getElem? (i := 112) rfl) rfl
theorem mCw_87 : Cond.code yX8_carry cX8_carry 6 none ∈ mAllW := mInT_4 (List.mem_of_getElem? (i := 117) rfl) rfl
theorem mCw_88 : Cond.code yX8_reduce cX8_reduce 6 none ∈ mAllW := mInT_4 (List.mem_of_getElem? (i := 142) rfl) rfl
theorem mCw_89 : Cond.code yX9_init cX9_init 2 none ∈ mAllW := mInT_1 (List.mem_of_getElem? (i := 22) rfl) rfl
theorem mCw_90 : Cond.code yX9_add cX9_add 6 (some .int) ∈ mAllW := mInT_2 (List.mem_of_getElem? (i := 130) rfl) rfl
theorem mCw_91 : Cond.code yX9_clear cX9_clear 3 (some .int) ∈ mAllW := mInT_2 (List.mem_of_getElem? (i := 149) rfl) rfl
theorem mCw_92 : Cond.code yX9_copy cX9_copy 5 (some .int) ∈ mAllW := mInT_2 (List.mem_of_getElem? (i := 157) rfl) rfl
theorem mCw_93 : Cond.code yX9_join cX9_join 3 (some .int) ∈ mAllW := mInT_2 (List.mem_of_getElem? (i := 184) rfl) rfl
theorem mCw_94 : Cond.code yX9_turn cX9_turn 4 (some .int) ∈ mAllW := mInT_2 (List.mem_of_getElem? (i := 192) rfl) rfl
theorem mCw_95 : Cond.code yX9_size cX9_size 2 (some .int) ∈ mAllW := mInT_2 (List.mem_of_getElem? (i := 204) rfl) rfl
theorem mCw_96 : Cond.code yX9_at cX9_at 3 (some .int) ∈ mAllW := mInT_2 (List.mem_of_getElem? (i := 208) rfl) rfl
theorem mCw_97 : Cond.code yX9_hash cX9_hash 4 (some .int) ∈ mAllW := mInT_2 (List.mem_of_getElem? (i := 213) rfl) rfl
theorem mCw_98 : Cond.code yX9_mac cX9_mac 5 (some .int) ∈ mAllW := mInT_3 (List.mem_of_getElem? (i := 20) rfl) rfl
theorem mCw_99 : Cond.code yX9_expand cX9_expand 6 (some .int) ∈ mAllW := mInT_3 (List.mem_of_getElem? (i := 43) rfl) rfl
theorem mCw_100 : Cond.code yX9_agree cX9_agree 4 (some .int) ∈ mAllW := mInT_3 (List.mem_of_getElem? (i := 59) rfl) rfl
theorem mCw_101 : Cond.code yX9_open cX9_open 3 (some .int) ∈ mAllW := mInT_3 (List.mem_of_getElem? (i := 128) rfl) rfl
theorem mCw_102 : Cond.code yX9_pair cX9_pair 4 (some .int) ∈ mAllW := mInT_3 (List.mem_of_getElem? (i := 136) rfl) rfl
theorem mCw_103 : Cond.code yX9_lock cX9_lock 8 (some .int) ∈ mAllW := mInT_3 (List.mem_of_getElem? (i := 220) rfl) rfl
theorem mCw_104 : Cond.code yX9_unlock cX9_unlock 8 (some .int) ∈ mAllW := mInT_4 (List.mem_of_getElem? (i := 150) rfl) rfl
theorem mCw_105 : Cond.code yX9_use cX9_use 3 (some .int) ∈ mAllW := mInT_4 (List.mem_of_getElem? (i := 160) rfl) rfl
theorem mCw_106 : Cond.code yX9_sender cX9_sender 8 (some .int) ∈ mAllW := mInT_4 (List.mem_of_getElem? (i := 164) rfl) rfl
theorem mCw_107 : Cond.code yX9_receiver cX9_receiver 7 (some .int) ∈ mAllW := mInT_4 (List.mem_of_getElem? (i := 219) rfl) rfl
theorem mCw_108 : Cond.code yX9_seal cX9_seal 7 (some .int) ∈ mAllW := mInT_4 (List.mem_of_getElem? (i := 227) rfl) rfl
theorem mCw_109 : Cond.code yX9_unseal cX9_unseal 7 (some .int) ∈ mAllW := mInT_5 (List.mem_of_getElem? (i := 14) rfl) rfl
theorem mCw_110 : Cond.code yX9_export cX9_export 6 (some .int) ∈ mAllW := mInT_5 (List.mem_of_getElem? (i := 18) rfl) rfl
theorem mCw_111 : Cond.code yX9_sequence cX9_sequence 5 (some .int) ∈ mAllW := mInT_5 (List.mem_of_getElem? (i := 27) rfl) rfl
theorem mCw_112 : Cond.code yX9_told cX9_told 4 (some .int) ∈ mAllW := mInT_5 (List.mem_of_getElem? (i := 32) rfl) rfl
theorem mCw_113 : Cond.code yX9_secret cX9_secret 6 (some .int) ∈ mAllW := mInT_5 (List.mem_of_getElem? (i := 36) rfl) rfl
theorem mCw_114 : Cond.code yX9_isRegister cX9_isRegister 1 (some .boolean) ∈ mAllW := mInT_2 (List.mem_of_getElem? (i := 133) rfl) rfl
theorem mCw_115 : Cond.code yX9_isContext cX9_isContext 1 (some .boolean) ∈ mAllW := mInT_4 (List.mem_of_getElem? (i := 167) rfl) rfl
theorem mCw_116 : Cond.code yX9_isKind cX9_isKind 1 (some .boolean) ∈ mAllW := mInT_2 (List.mem_of_getElem? (i := 216) rfl) rfl
theorem mCw_117 : Cond.code yX9_isLength cX9_isLength 1 (some .boolean) ∈ mAllW := mInT_3 (List.mem_of_getElem? (i := 46) rfl) rfl
theorem mCw_118 : Cond.code yX9_isCipher cX9_isCipher 1 (some .boolean) ∈ mAllW := mInT_3 (List.mem_of_getElem? (i := 227) rfl) rfl
theorem mCw_119 : Cond.code yX9_isKnown cX9_isKnown 1 (some .boolean) ∈ mAllW := mInT_4 (List.mem_of_getElem? (i := 177) rfl) rfl
theorem mCw_120 : Cond.code yX9_isSuite cX9_isSuite 3 (some .boolean) ∈ mAllW := mInT_4 (List.mem_of_getElem? (i := 170) rfl) rfl
theorem mCw_121 : Cond.code yX9_keyBytes cX9_keyBytes 1 (some .int) ∈ mAllW := mInT_3 (List.mem_of_getElem? (i := 230) rfl) rfl
theorem mCw_122 : Cond.code yX9_isBegun cX9_isBegun 2 (some .boolean) ∈ mAllW := mInT_5 (List.mem_of_getElem? (i := 22) rfl) rfl
theorem mCw_123 : Cond.code yX9_canCipher cX9_canCipher 3 (some .boolean) ∈ mAllW := mInT_4 (List.mem_of_getElem? (i := 231) rfl) rfl
theorem mCw_124 : Cond.code yX9_holdsKey cX9_holdsKey 2 (some .boolean) ∈ mAllW := mInT_3 (List.mem_of_getElem? (i := 63) rfl) rfl
theorem mCw_125 : Cond.code yX9_isLocking cX9_isLocking 4 (some .boolean) ∈ mAllW := mInT_3 (List.mem_of_getElem? (i := 224) rfl) rfl
theorem mCw_126 : Cond.code yX9_fitsWithTag cX9_fitsWithTag 2 (some .boolean) ∈ mAllW := mInT_3 (List.mem_of_getElem? (i := 234) rfl) rfl
theorem mCw_127 : Cond.code yX9_lastingFits cX9_lastingFits 3 (some .boolean) ∈ mAllW := mInT_4 (List.mem_of_getElem? (i := 174) rfl) rfl
theorem mCw_128 : Cond.code yX9_sharedFits cX9_sharedFits 3 (some .boolean) ∈ mAllW := mInT_4 (List.mem_of_getElem? (i := 185) rfl) rfl
theorem mCw_129 : Cond.code yX9_usedRow cX9_usedRow 3 (some (.object "KeySealer$Row")) ∈ mAllW := mInT_4 (List.mem_of_getElem? (i := 181) rfl) rfl
theorem mCw_130 : Cond.code yX9_give cX9_give 2 (some .int) ∈ mAllW := mInT_2 (List.mem_of_getElem? (i := 175) rfl) rfl
theorem mCw_131 : Cond.code yX9_cipherOf cX9_cipherOf 2 (some (.object "KeySealer$Cipher")) ∈ mAllW := mInT_3 (List.mem_of_getElem? (i := 238) rfl) rfl
theorem mCw_132 : Cond.code yX9_beginCipher cX9_beginCipher 3 (some (.object "KeySealer$Cipher")) ∈ mAllW := mInT_4 (List.mem_of_getElem? (i := 239) rfl) rfl
theorem mCw_133 : Cond.code yX9_agreeToSend cX9_agreeToSend 5 (some .boolean) ∈ mAllW := mInT_4 (List.mem_of_getElem? (i := 189) rfl) rfl
theorem mCw_134 : Cond.code yX9_agreeToReceive cX9_agreeToReceive 5 (some .boolean) ∈ mAllW := mInT_4 (List.mem_of_getElem? (i := 223) rfl) rfl
theorem mCw_135 : Cond.code yX9_fillContext cX9_fillContext 2 none ∈ mAllW := mInT_4 (List.mem_of_getElem? (i := 201) rfl) rfl
theorem mCw_136 : Cond.code yX10_init cX10_init 1 none ∈ mAllW := mInT_5 (List.mem_of_getElem? (i := 41) rfl) rfl
theorem mCw_137 : Cond.code yX10_isReg cX10_isReg 1 (some .boolean) ∈ mAllW := mInT_6 (List.mem_of_getElem? (i := 31) rfl) rfl
theorem mCw_138 : Cond.code yX10_areRegs cX10_areRegs 3 (some .boolean) ∈ mAllW := mInT_6 (List.mem_of_getElem? (i := 101) rfl) rfl
theorem mCw_139 : Cond.code yX10_add cX10_add 6 (some .int) ∈ mAllW := mInT_6 (List.mem_of_getElem? (i := 28) rfl) rfl
theorem mCw_140 : Cond.code yX10_clear cX10_clear 3 (some .int) ∈ mAllW := mInT_6 (List.mem_of_getElem? (i := 36) rfl) rfl
theorem mCw_141 : Cond.code yX10_copy cX10_copy 6 (some .int) ∈ mAllW := mInT_6 (List.mem_of_getElem? (i := 40) rfl) rfl
theorem mCw_142 : Cond.code yX10_join cX10_join 5 (some .int) ∈ mAllW := mInT_6 (List.mem_of_getElem? (i := 48) rfl) rfl
theorem mCw_143 : Cond.code yX10_turn cX10_turn 4 (some .int) ∈ mAllW := mInT_6 (List.mem_of_getElem? (i := 52) rfl) rfl
theorem mCw_144 : Cond.code yX10_size cX10_size 2 (some .int) ∈ mAllW := mInT_6 (List.mem_of_getElem? (i := 56) rfl) rfl
theorem mCw_145 : Cond.code yX10_at cX10_at 3 (some .int) ∈ mAllW := mInT_6 (List.mem_of_getElem? (i := 60) rfl) rfl
theorem mCw_146 : Cond.code yX10_give cX10_give 4 none ∈ mAllW := mInT_6 (List.mem_of_getElem? (i := 44) rfl) rfl
theorem mCw_147 : Cond.code yX10_hashSize cX10_hashSize 1 (some .int) ∈ mAllW := mInT_6 (List.mem_of_getElem? (i := 90) rfl) rfl
theorem mCw_148 : Cond.code yX10_turned cX10_turned 4 (some .long) ∈ mAllW := mInT_6 (List.mem_of_getElem? (i := 82) rfl) rfl
theorem mCw_149 : Cond.code yX10_three cX10_three 6 (some .long) ∈ mAllW := mInT_6 (List.mem_of_getElem? (i := 85) rfl) rfl
theorem mCw_150 : Cond.code yX10_mixed cX10_mixed 6 (some .long) ∈ mAllW := mInT_6 (List.mem_of_getElem? (i := 79) rfl) rfl
theorem mCw_151 : Cond.code yX10_digest cX10_digest 9 none ∈ mAllW := mInT_6 (List.mem_of_getElem? (i := 68) rfl) rfl
theorem mCw_152 : Cond.code yX10_doBlock cX10_doBlock 30 none ∈ mAllW := mInT_6 (List.mem_of_getElem? (i := 74) rfl) rfl
theorem mCw_153 : Cond.code yX10_hash cX10_hash 5 (some .int) ∈ mAllW := mInT_6 (List.mem_of_getElem? (i := 64) rfl) rfl
theorem mCw_154 : Cond.code yX10_giveHash cX10_giveHash 4 none ∈ mAllW := mInT_6 (List.mem_of_getElem? (i := 94) rfl) rfl
theorem mCw_155 : Cond.code yX10_build cX10_build 2 none ∈ mAllW := mInT_6 (List.mem_of_getElem? (i := 117) rfl) rfl
theorem mCw_156 : Cond.code yX10_buildAll cX10_buildAll 3 none ∈ mAllW := mInT_7 (List.mem_of_getElem? (i := 77) rfl) rfl
theorem mCw_157 : Cond.code yX10_buildPart cX10_buildPart 5 none ∈ mAllW := mInT_6 (List.mem_of_getElem? (i := 113) rfl) rfl
theorem mCw_158 : Cond.code yX10_buildReg cX10_buildReg 2 none ∈ mAllW := mInT_6 (List.mem_of_getElem? (i := 109) rfl) rfl
theorem mCw_159 : Cond.code yX10_keyIs cX10_keyIs 7 none ∈ mAllW := mInT_6 (List.mem_of_getElem? (i := 105) rfl) rfl
theorem mCw_160 : Cond.code yX10_keyed cX10_keyed 4 none ∈ mAllW := mInT_6 (List.mem_of_getElem? (i := 121) rfl) rfl
theorem mCw_161 : Cond.code yX10_expandTo cX10_expandTo 7 none ∈ mAllW := mInT_6 (List.mem_of_getElem? (i := 133) rfl) rfl
theorem mCw_162 : Cond.code yX10_mac cX10_mac 5 (some .int) ∈ mAllW := mInT_6 (List.mem_of_getElem? (i := 98) rfl) rfl
theorem mCw_163 : Cond.code yX10_aboutIsBuilt cX10_aboutIsBuilt 2 none ∈ mAllW := mInT_6 (List.mem_of_getElem? (i := 129) rfl) rfl
theorem mCw_164 : Cond.code yX10_expand cX10_expand 6 (some .int) ∈ mAllW := mInT_6 (List.mem_of_getElem? (i := 125) rfl) rfl
theorem mCw_165 : Cond.code yX10_carry cX10_carry 4 none ∈ mAllW := mInT_6 (List.mem_of_getElem? (i := 176) rfl) rfl
theorem mCw_166 : Cond.code yX10_plus cX10_plus 4 none ∈ mAllW := mInT_6 (List.mem_of_getElem? (i := 165) rfl) rfl
theorem mCw_167 : Cond.code yX10_minus cX10_minus 4 none ∈ mAllW := mInT_6 (List.mem_of_getElem? (i := 168) rfl) rfl
theorem mCw_168 : Cond.code yX10_times cX10_times 6 none ∈ mAllW := mInT_6 (List.mem_of_getElem? (i := 172) rfl) rfl
theorem mCw_169 : Cond.code yX10_is cX10_is 3 none ∈ mAllW := mInT_6 (List.mem_of_getElem? (i := 159) rfl) rfl
theorem mCw_170 : Cond.code yX10_isNumber cX10_isNumber 4 none ∈ mAllW := mInT_6 (List.mem_of_getElem? (i := 156) rfl) rfl
theorem mCw_171 : Cond.code yX10_swap cX10_swap 5 none ∈ mAllW := mInT_6 (List.mem_of_getElem? (i := 162) rfl) rfl
theorem mCw_172 : Cond.code yX10_invert cX10_invert 2 none ∈ mAllW := mInT_6 (List.mem_of_getElem? (i := 180) rfl) rfl
theorem mCw_173 : Cond.code yX10_agreed cX10_agreed 3 none ∈ mAllW := mInT_6 (List.mem_of_getElem? (i := 153) rfl) rfl
theorem mCw_174 : Cond.code yX10_pack cX10_pack 3 none ∈ mAllW := mInT_6 (List.mem_of_getElem? (i := 184) rfl) rfl
theorem mCw_175 : Cond.code yX10_first cX10_first 4 none ∈ mAllW := mInT_6 (List.mem_of_getElem? (i := 145) rfl) rfl
theorem mCw_176 : Cond.code yX10_second cX10_second 4 none ∈ mAllW := mInT_6 (List.mem_of_getElem? (i := 149) rfl) rfl
theorem mCw_177 : Cond.code yX10_publicOf cX10_publicOf 2 none ∈ mAllW := mInT_6 (List.mem_of_getElem? (i := 203) rfl) rfl
theorem mCw_178 : Cond.code yX10_isZero cX10_isZero 3 (some .boolean) ∈ mAllW := mInT_6 (List.mem_of_getElem? (i := 191) rfl) rfl
theorem mCw_179 : Cond.code yX10_isKey cX10_isKey 2 (some .boolean) ∈ mAllW := mInT_6 (List.mem_of_getElem? (i := 141) rfl) rfl
theorem mCw_180 : Cond.code yX10_giveKey cX10_giveKey 3 (some .int) ∈ mAllW := mInT_6 (List.mem_of_getElem? (i := 195) rfl) rfl
theorem mCw_181 : Cond.code yX10_agree cX10_agree 4 (some .int) ∈ mAllW := mInT_6 (List.mem_of_getElem? (i := 137) rfl) rfl
theorem mCw_182 : Cond.code yX10_open cX10_open 3 (some .int) ∈ mAllW := mInT_6 (List.mem_of_getElem? (i := 199) rfl) rfl
theorem mCw_183 : Cond.code yX10_times256 cX10_times256 5 (some .int) ∈ mAllW := mInT_5 (List.mem_of_getElem? (i := 50) rfl) rfl
theorem mCw_184 : Cond.code yX10_makeSubs cX10_makeSubs 6 none ∈ mAllW := mInT_5 (List.mem_of_getElem? (i := 47) rfl) rfl
theorem mCw_185 : Cond.code yX10_makeRounds cX10_makeRounds 7 none ∈ mAllW := mInT_6 (List.mem_of_getElem? (i := 226) rfl) rfl
theorem mCw_186 : Cond.code yX10_cipher cX10_cipher 5 none ∈ mAllW := mInT_7 (List.mem_of_getElem? (i := 11) rfl) rfl
theorem mCw_187 : Cond.code yX10_counter cX10_counter 3 none ∈ mAllW := mInT_7 (List.mem_of_getElem? (i := 7) rfl) rfl
theorem mCw_188 : Cond.code yX10_eight cX10_eight 5 (some .long) ∈ mAllW := mInT_7 (List.mem_of_getElem? (i := 37) rfl) rfl
theorem mCw_189 : Cond.code yX10_gather cX10_gather 17 none ∈ mAllW := mInT_7 (List.mem_of_getElem? (i := 45) rfl) rfl
theorem mCw_190 : Cond.code yX10_gatherAll cX10_gatherAll 5 none ∈ mAllW := mInT_7 (List.mem_of_getElem? (i := 41) rfl) rfl
theorem mCw_191 : Cond.code yX10_blockTag cX10_blockTag 2 none ∈ mAllW := mInT_7 (List.mem_of_getElem? (i := 34) rfl) rfl
theorem mCw_192 : Cond.code yX10_quarter cX10_quarter 5 none ∈ mAllW := mInT_7 (List.mem_of_getElem? (i := 3) rfl) rfl
theorem mCw_193 : Cond.code yX10_four cX10_four 2 (some .int) ∈ mAllW := mInT_6 (List.mem_of_getElem? (i := 239) rfl) rfl
theorem mCw_194 : Cond.code yX10_streamOf cX10_streamOf 4 none ∈ mAllW := mInT_6 (List.mem_of_getElem? (i := 234) rfl) rfl
theorem mCw_195 : Cond.code yX10_addPoly cX10_addPoly 8 none ∈ mAllW := mInT_7 (List.mem_of_getElem? (i := 23) rfl) rfl
theorem mCw_196 : Cond.code yX10_carryPoly cX10_carryPoly 4 none ∈ mAllW := mInT_7 (List.mem_of_getElem? (i := 28) rfl) rfl
theorem mCw_197 : Cond.code yX10_streamTag cX10_streamTag 7 none ∈ mAllW := mInT_7 (List.mem_of_getElem? (i := 19) rfl) rfl
theorem mCw_198 : Cond.code yX10_keySize cX10_keySize 1 (some .int) ∈ mAllW := mInT_6 (List.mem_of_getElem? (i := 214) rfl) rfl
theorem mCw_199 : Cond.code yX10_mask cX10_mask 4 none ∈ mAllW := mInT_6 (List.mem_of_getElem? (i := 230) rfl) rfl
theorem mCw_200 : Cond.code yX10_makeTag cX10_makeTag 2 none ∈ mAllW := mInT_7 (List.mem_of_getElem? (i := 15) rfl) rfl
theorem mCw_201 : Cond.code yX10_locked cX10_locked 6 (some .int) ∈ mAllW := mInT_6 (List.mem_of_getElem? (i := 218) rfl) rfl
theorem mCw_202 : Cond.code yX10_take cX10_take 5 none ∈ mAllW := mInT_6 (List.mem_of_getElem? (i := 222) rfl) rfl
theorem mCw_203 : Cond.code yX10_unlocked cX10_unlocked 7 (some .int) ∈ mAllW := mInT_7 (List.mem_of_getElem? (i := 55) rfl) rfl
theorem mCw_204 : Cond.code yX10_isLock cX10_isLock 9 (some .boolean) ∈ mAllW := mInT_6 (List.mem_of_getElem? (i := 211) rfl) rfl
theorem mCw_205 : Cond.code yX10_lock cX10_lock 7 (some .int) ∈ mAllW := mInT_6 (List.mem_of_getElem? (i := 207) rfl) rfl
theorem mCw_206 : Cond.code yX10_unlock cX10_unlock 7 (some .int) ∈ mAllW := mInT_7 (List.mem_of_getElem? (i := 51) rfl) rfl
theorem mCw_207 : Cond.code yX10_kemId cX10_kemId 2 none ∈ mAllW := mInT_7 (List.mem_of_getElem? (i := 63) rfl) rfl
theorem mCw_208 : Cond.code yX10_suiteId cX10_suiteId 4 none ∈ mAllW := mInT_7 (List.mem_of_getElem? (i := 137) rfl) rfl
theorem mCw_209 : Cond.code yX10_beginX cX10_beginX 2 none ∈ mAllW := mInT_7 (List.mem_of_getElem? (i := 71) rfl) rfl
theorem mCw_210 : Cond.code yX10_beginP cX10_beginP 3 none ∈ mAllW := mInT_7 (List.mem_of_getElem? (i := 87) rfl) rfl
theorem mCw_211 : Cond.code yX10_noSalt cX10_noSalt 2 none ∈ mAllW := mInT_7 (List.mem_of_getElem? (i := 81) rfl) rfl
theorem mCw_212 : Cond.code yX10_makeP cX10_makeP 3 none ∈ mAllW := mInT_7 (List.mem_of_getElem? (i := 91) rfl) rfl
theorem mCw_213 : Cond.code yX10_pair cX10_pair 4 (some .int) ∈ mAllW := mInT_7 (List.mem_of_getElem? (i := 59) rfl) rfl
theorem mCw_214 : Cond.code yX10_use cX10_use 3 (some .int) ∈ mAllW := mInT_7 (List.mem_of_getElem? (i := 95) rfl) rfl
theorem mCw_215 : Cond.code yX10_usedSize cX10_usedSize 2 (some .int) ∈ mAllW := mInT_7 (List.mem_of_getElem? (i := 109) rfl) rfl
theorem mCw_216 : Cond.code yX10_agreesToo cX10_agreesToo 2 (some .boolean) ∈ mAllW := mInT_7 (List.mem_of_getElem? (i := 121) rfl) rfl
theorem mCw_217 : Cond.code yX10_aboutToo cX10_aboutToo 4 none ∈ mAllW := mInT_7 (List.mem_of_getElem? (i := 117) rfl) rfl
theorem mCw_218 : Cond.code yX10_makeSecret cX10_makeSecret 2 none ∈ mAllW := mInT_7 (List.mem_of_getElem? (i := 129) rfl) rfl
theorem mCw_219 : Cond.code yX10_schedule cX10_schedule 8 none ∈ mAllW := mInT_7 (List.mem_of_getElem? (i := 125) rfl) rfl
theorem mCw_220 : Cond.code yX10_toZ cX10_toZ 3 none ∈ mAllW := mInT_7 (List.mem_of_getElem? (i := 143) rfl) rfl
theorem mCw_221 : Cond.code yX10_part cX10_part 7 none ∈ mAllW := mInT_7 (List.mem_of_getElem? (i := 153) rfl) rfl
theorem mCw_222 : Cond.code yX10_isContext cX10_isContext 1 (some .boolean) ∈ mAllW := mInT_7 (List.mem_of_getElem? (i := 105) rfl) rfl
theorem mCw_223 : Cond.code yX10_isSuite cX10_isSuite 4 (some .boolean) ∈ mAllW := mInT_7 (List.mem_of_getElem? (i := 102) rfl) rfl
theorem mCw_224 : Cond.code yX10_areShared cX10_areShared 3 (some .boolean) ∈ mAllW := mInT_7 (List.mem_of_getElem? (i := 113) rfl) rfl
theorem mCw_225 : Cond.code yX10_sender cX10_sender 10 (some .int) ∈ mAllW := mInT_7 (List.mem_of_getElem? (i := 99) rfl) rfl
theorem mCw_226 : Cond.code yX10_receiver cX10_receiver 8 (some .int) ∈ mAllW := mInT_7 (List.mem_of_getElem? (i := 161) rfl) rfl
theorem mCw_227 : Cond.code yX10_isLast cX10_isLast 2 (some .boolean) ∈ mAllW := mInT_7 (List.mem_of_getElem? (i := 169) rfl) rfl
theorem mCw_228 : Cond.code yX10_keyOf cX10_keyOf 3 none ∈ mAllW := mInT_7 (List.mem_of_getElem? (i := 173) rfl) rfl
theorem mCw_229 : Cond.code yX10_goesOn cX10_goesOn 4 none ∈ mAllW := mInT_7 (List.mem_of_getElem? (i := 177) rfl) rfl
theorem mCw_230 : Cond.code yX10_seal cX10_seal 6 (some .int) ∈ mAllW := mInT_7 (List.mem_of_getElem? (i := 165) rfl) rfl
theorem mCw_231 : Cond.code yX10_unseal cX10_unseal 6 (some .int) ∈ mAllW := mInT_7 (List.mem_of_getElem? (i := 181) rfl) rfl
theorem mCw_232 : Cond.code yX10_export cX10_export 5 (some .int) ∈ mAllW := mInT_7 (List.mem_of_getElem? (i := 185) rfl) rfl
theorem mCw_233 : Cond.code yX10_sequence cX10_sequence 5 (some .int) ∈ mAllW := mInT_7 (List.mem_of_getElem? (i := 191) rfl) rfl
theorem mCw_234 : Cond.code yX10_told cX10_told 3 (some .int) ∈ mAllW := mInT_7 (List.mem_of_getElem? (i := 195) rfl) rfl
theorem mCw_235 : Cond.code yX10_secret cX10_secret 6 (some .int) ∈ mAllW := mInT_7 (List.mem_of_getElem? (i := 199) rfl) rfl
theorem mCw_236 : Cond.code yJ0_length_8abf5 cJ0_length_8abf5 1 (some .int) ∈ mAllW := mInT_3 (List.mem_of_getElem? (i := 150) rfl) rfl
theorem mCw_237 : Cond.code yJ0_charAt_5068e cJ0_charAt_5068e 2 (some .char) ∈ mAllW := mInT_3 (List.mem_of_getElem? (i := 160) rfl) rfl
theorem mCw_238 : Cond.code yJ0_coder_7d493 cJ0_coder_7d493 1 (some .byte) ∈ mAllW := mInT_3 (List.mem_of_getElem? (i := 154) rfl) rfl
theorem mCw_239 : Cond.code yJ0_isLatin1_aae02 cJ0_isLatin1_aae02 1 (some .boolean) ∈ mAllW := mInT_3 (List.mem_of_getElem? (i := 164) rfl) rfl
theorem mCw_240 : Cond.code yJ1_charAt_3b067 cJ1_charAt_3b067 2 (some .char) ∈ mAllW := mInT_3 (List.mem_of_getElem? (i := 167) rfl) rfl
theorem mCw_241 : Cond.code yJ0_checkIndex_df160 cJ0_checkIndex_df160 2 none ∈ mAllW := mInT_3 (List.mem_of_getElem? (i := 170) rfl) rfl
theorem mCw_242 : Cond.code yJ3_checkIndex_8e157 cJ3_checkIndex_8e157 3 (some .int) ∈ mAllW := mInT_3 (List.mem_of_getElem? (i := 175) rfl) rfl
set_option maxRecDepth 100000 in
theorem mCws_0 : ∀ y ∈ mtab_0, Cond.code y.1 (mBy y) (mLo y) (mRe y) ∈ mAllW := List.forall_mem_cons.mpr ⟨mCw_0, List.forall_mem_cons.mpr ⟨mCw_1, List.forall_mem_cons.mpr ⟨mCw_2, List.forall_mem_cons.mpr ⟨mCw_3, List.forall_mem_cons.mpr ⟨mCw_4, List.forall_mem_cons.mpr ⟨mCw_5, List.forall_mem_cons.mpr ⟨mCw_6, List.forall_mem_cons.mpr ⟨mCw_7, List.forall_mem_cons.mpr ⟨mCw_8, List.forall_mem_cons.mpr ⟨mCw_9, List.forall_mem_cons.mpr ⟨mCw_10, List.forall_mem_cons.mpr ⟨mCw_11, List.forall_mem_cons.mpr ⟨mCw_12, List.forall_mem_cons.mpr ⟨mCw_13, List.forall_mem_cons.mpr ⟨mCw_14, List.forall_mem_cons.mpr ⟨mCw_15, List.forall_mem_cons.mpr ⟨mCw_16, List.forall_mem_cons.mpr ⟨mCw_17, List.forall_mem_cons.mpr ⟨mCw_18, List.forall_mem_cons.mpr ⟨mCw_19, List.forall_mem_cons.mpr ⟨mCw_20, List.forall_mem_cons.mpr ⟨mCw_21, List.forall_mem_cons.mpr ⟨mCw_22, List.forall_mem_cons.mpr ⟨mCw_23, List.forall_mem_cons.mpr ⟨mCw_24, List.forall_mem_cons.mpr ⟨mCw_25, List.forall_mem_cons.mpr ⟨mCw_26, List.forall_mem_cons.mpr ⟨mCw_27, List.forall_mem_cons.mpr ⟨mCw_28, List.forall_mem_cons.mpr ⟨mCw_29, List.forall_mem_cons.mpr ⟨mCw_30, List.forall_mem_cons.mpr ⟨mCw_31, List.forall_mem_cons.mpr ⟨mCw_32, List.forall_mem_cons.mpr ⟨mCw_33, List.forall_mem_cons.mpr ⟨mCw_34, List.forall_mem_cons.mpr ⟨mCw_35, List.forall_mem_cons.mpr ⟨mCw_36, List.forall_mem_cons.mpr ⟨mCw_37, List.forall_mem_cons.mpr ⟨mCw_38, List.forall_mem_cons.mpr ⟨mCw_39, List.forall_mem_cons.mpr ⟨mCw_40, List.forall_mem_cons.mpr ⟨mCw_41, List.forall_mem_cons.mpr ⟨mCw_42, List.forall_mem_cons.mpr ⟨mCw_43, List.forall_mem_cons.mpr ⟨mCw_44, List.forall_mem_cons.mpr ⟨mCw_45, List.forall_mem_cons.mpr ⟨mCw_46, List.forall_mem_cons.mpr ⟨mCw_47, List.forall_mem_cons.mpr ⟨mCw_48, List.forall_mem_cons.mpr ⟨mCw_49, fun _ h => absurd h List.not_mem_nil⟩⟩⟩⟩⟩⟩⟩⟩⟩⟩⟩⟩⟩⟩⟩⟩⟩⟩⟩⟩⟩⟩⟩⟩⟩⟩⟩⟩⟩⟩⟩⟩⟩⟩⟩⟩⟩⟩⟩⟩⟩⟩⟩⟩⟩⟩⟩⟩⟩⟩
set_option maxRecDepth 100000 in
theorem mCws_1 : ∀ y ∈ mtab_1, Cond.code y.1 (mBy y) (mLo y) (mRe y) ∈ mAllW := List.forall_mem_cons.mpr ⟨mCw_50, List.forall_mem_cons.mpr ⟨mCw_51, List.forall_mem_cons.mpr ⟨mCw_52, List.forall_mem_cons.mpr ⟨mCw_53, List.forall_mem_cons.mpr ⟨mCw_54, List.forall_mem_cons.mpr ⟨mCw_55, List.forall_mem_cons.mpr ⟨mCw_56, List.forall_mem_cons.mpr ⟨mCw_57, List.forall_mem_cons.mpr ⟨mCw_58, List.forall_mem_cons.mpr ⟨mCw_59, List.forall_mem_cons.mpr ⟨mCw_60, List.forall_mem_cons.mpr ⟨mCw_61, List.forall_mem_cons.mpr ⟨mCw_62, List.forall_mem_cons.mpr ⟨mCw_63, List.forall_mem_cons.mpr ⟨mCw_64, List.forall_mem_cons.mpr ⟨mCw_65, List.forall_mem_cons.mpr ⟨mCw_66, List.forall_mem_cons.mpr ⟨mCw_67, List.forall_mem_cons.mpr ⟨mCw_68, List.forall_mem_cons.mpr ⟨mCw_69, List.forall_mem_cons.mpr ⟨mCw_70, List.forall_mem_cons.mpr ⟨mCw_71, List.forall_mem_cons.mpr ⟨mCw_72, List.forall_mem_cons.mpr ⟨mCw_73, List.forall_mem_cons.mpr ⟨mCw_74, List.forall_mem_cons.mpr ⟨mCw_75, List.forall_mem_cons.mpr ⟨mCw_76, List.forall_mem_cons.mpr ⟨mCw_77, List.forall_mem_cons.mpr ⟨mCw_78, List.forall_mem_cons.mpr ⟨mCw_79, List.forall_mem_cons.mpr ⟨mCw_80, List.forall_mem_cons.mpr ⟨mCw_81, List.forall_mem_cons.mpr ⟨mCw_82, List.forall_mem_cons.mpr ⟨mCw_83, List.forall_mem_cons.mpr ⟨mCw_84, List.forall_mem_cons.mpr ⟨mCw_85, List.forall_mem_cons.mpr ⟨mCw_86, List.forall_mem_cons.mpr ⟨mCw_87, List.forall_mem_cons.mpr ⟨mCw_88, List.forall_mem_cons.mpr ⟨mCw_89, List.forall_mem_cons.mpr ⟨mCw_90, List.forall_mem_cons.mpr ⟨mCw_91, List.forall_mem_cons.mpr ⟨mCw_92, List.forall_mem_cons.mpr ⟨mCw_93, List.forall_mem_cons.mpr ⟨mCw_94, List.forall_mem_cons.mpr ⟨mCw_95, List.forall_mem_cons.mpr ⟨mCw_96, List.forall_mem_cons.mpr ⟨mCw_97, List.forall_mem_cons.mpr ⟨mCw_98, List.forall_mem_cons.mpr ⟨mCw_99, fun _ h => absurd h List.not_mem_nil⟩⟩⟩⟩⟩⟩⟩⟩⟩⟩⟩⟩⟩⟩⟩⟩⟩⟩⟩⟩⟩⟩⟩⟩⟩⟩⟩⟩⟩⟩⟩⟩⟩⟩⟩⟩⟩⟩⟩⟩⟩⟩⟩⟩⟩⟩⟩⟩⟩⟩
set_option maxRecDepth 100000 in
theorem mCws_2 : ∀ y ∈ mtab_2, Cond.code y.1 (mBy y) (mLo y) (mRe y) ∈ mAllW := List.forall_mem_cons.mpr ⟨mCw_100, List.forall_mem_cons.mpr ⟨mCw_101, List.forall_mem_cons.mpr ⟨mCw_102, List.forall_mem_cons.mpr ⟨mCw_103, List.forall_mem_cons.mpr ⟨mCw_104, List.forall_mem_cons.mpr ⟨mCw_105, List.forall_mem_cons.mpr ⟨mCw_106, List.forall_mem_cons.mpr ⟨mCw_107, List.forall_mem_cons.mpr ⟨mCw_108, List.forall_mem_cons.mpr ⟨mCw_109, List.forall_mem_cons.mpr ⟨mCw_110, List.forall_mem_cons.mpr ⟨mCw_111, List.forall_mem_cons.mpr ⟨mCw_112, List.forall_mem_cons.mpr ⟨mCw_113, List.forall_mem_cons.mpr ⟨mCw_114, List.forall_mem_cons.mpr ⟨mCw_115, List.forall_mem_cons.mpr ⟨mCw_116, List.forall_mem_cons.mpr ⟨mCw_117, List.forall_mem_cons.mpr ⟨mCw_118, List.forall_mem_cons.mpr ⟨mCw_119, List.forall_mem_cons.mpr ⟨mCw_120, List.forall_mem_cons.mpr ⟨mCw_121, List.forall_mem_cons.mpr ⟨mCw_122, List.forall_mem_cons.mpr ⟨mCw_123, List.forall_mem_cons.mpr ⟨mCw_124, List.forall_mem_cons.mpr ⟨mCw_125, List.forall_mem_cons.mpr ⟨mCw_126, List.forall_mem_cons.mpr ⟨mCw_127, List.forall_mem_cons.mpr ⟨mCw_128, List.forall_mem_cons.mpr ⟨mCw_129, List.forall_mem_cons.mpr ⟨mCw_130, List.forall_mem_cons.mpr ⟨mCw_131, List.forall_mem_cons.mpr ⟨mCw_132, List.forall_mem_cons.mpr ⟨mCw_133, List.forall_mem_cons.mpr ⟨mCw_134, List.forall_mem_cons.mpr ⟨mCw_135, List.forall_mem_cons.mpr ⟨mCw_136, List.forall_mem_cons.mpr ⟨mCw_137, List.forall_mem_cons.mpr ⟨mCw_138, List.forall_mem_cons.mpr ⟨mCw_139, List.forall_mem_cons.mpr ⟨mCw_140, List.forall_mem_cons.mpr ⟨mCw_141, List.forall_mem_cons.mpr ⟨mCw_142, List.forall_mem_cons.mpr ⟨mCw_143, List.forall_mem_cons.mpr ⟨mCw_144, List.forall_mem_cons.mpr ⟨mCw_145, List.forall_mem_cons.mpr ⟨mCw_146, List.forall_mem_cons.mpr ⟨mCw_147, List.forall_mem_cons.mpr ⟨mCw_148, List.forall_mem_cons.mpr ⟨mCw_149, fun _ h => absurd h List.not_mem_nil⟩⟩⟩⟩⟩⟩⟩⟩⟩⟩⟩⟩⟩⟩⟩⟩⟩⟩⟩⟩⟩⟩⟩⟩⟩⟩⟩⟩⟩⟩⟩⟩⟩⟩⟩⟩⟩⟩⟩⟩⟩⟩⟩⟩⟩⟩⟩⟩⟩⟩
set_option maxRecDepth 100000 in
theorem mCws_3 : ∀ y ∈ mtab_3, Cond.code y.1 (mBy y) (mLo y) (mRe y) ∈ mAllW := List.forall_mem_cons.mpr ⟨mCw_150, List.forall_mem_cons.mpr ⟨mCw_151, List.forall_mem_cons.mpr ⟨mCw_152, List.forall_mem_cons.mpr ⟨mCw_153, List.forall_mem_cons.mpr ⟨mCw_154, List.forall_mem_cons.mpr ⟨mCw_155, List.forall_mem_cons.mpr ⟨mCw_156, List.forall_mem_cons.mpr ⟨mCw_157, List.forall_mem_cons.mpr ⟨mCw_158, List.forall_mem_cons.mpr ⟨mCw_159, List.forall_mem_cons.mpr ⟨mCw_160, List.forall_mem_cons.mpr ⟨mCw_161, List.forall_mem_cons.mpr ⟨mCw_162, List.forall_mem_cons.mpr ⟨mCw_163, List.forall_mem_cons.mpr ⟨mCw_164, List.forall_mem_cons.mpr ⟨mCw_165, List.forall_mem_cons.mpr ⟨mCw_166, List.forall_mem_cons.mpr ⟨mCw_167, List.forall_mem_cons.mpr ⟨mCw_168, List.forall_mem_cons.mpr ⟨mCw_169, List.forall_mem_cons.mpr ⟨mCw_170, List.forall_mem_cons.mpr ⟨mCw_171, List.forall_mem_cons.mpr ⟨mCw_172, List.forall_mem_cons.mpr ⟨mCw_173, List.forall_mem_cons.mpr ⟨mCw_174, List.forall_mem_cons.mpr ⟨mCw_175, List.forall_mem_cons.mpr ⟨mCw_176, List.forall_mem_cons.mpr ⟨mCw_177, List.forall_mem_cons.mpr ⟨mCw_178, List.forall_mem_cons.mpr ⟨mCw_179, List.forall_mem_cons.mpr ⟨mCw_180, List.forall_mem_cons.mpr ⟨mCw_181, List.forall_mem_cons.mpr ⟨mCw_182, List.forall_mem_cons.mpr ⟨mCw_183, List.forall_mem_cons.mpr ⟨mCw_184, List.forall_mem_cons.mpr ⟨mCw_185, List.forall_mem_cons.mpr ⟨mCw_186, List.forall_mem_cons.mpr ⟨mCw_187, List.forall_mem_cons.mpr ⟨mCw_188, List.forall_mem_cons.mpr ⟨mCw_189, List.forall_mem_cons.mpr ⟨mCw_190, List.forall_mem_cons.mpr ⟨mCw_191, List.forall_mem_cons.mpr ⟨mCw_192, List.forall_mem_cons.mpr ⟨mCw_193, List.forall_mem_cons.mpr ⟨mCw_194, List.forall_mem_cons.mpr ⟨mCw_195, List.forall_mem_cons.mpr ⟨mCw_196, List.forall_mem_cons.mpr ⟨mCw_197, List.forall_mem_cons.mpr ⟨mCw_198, List.forall_mem_cons.mpr ⟨mCw_199, fun _ h => absurd h List.not_mem_nil⟩⟩⟩⟩⟩⟩⟩⟩⟩⟩⟩⟩⟩⟩⟩⟩⟩⟩⟩⟩⟩⟩⟩⟩⟩⟩⟩⟩⟩⟩⟩⟩⟩⟩⟩⟩⟩⟩⟩⟩⟩⟩⟩⟩⟩⟩⟩⟩⟩⟩
set_option maxRecDepth 100000 in
theorem mCws_4 : ∀ y ∈ mtab_4, Cond.code y.1 (mBy y) (mLo y) (mRe y) ∈ mAllW := List.forall_mem_cons.mpr ⟨mCw_200, List.forall_mem_cons.mpr ⟨mCw_201, List.forall_mem_cons.mpr ⟨mCw_202, List.forall_mem_cons.mpr ⟨mCw_203, List.forall_mem_cons.mpr ⟨mCw_204, List.forall_mem_cons.mpr ⟨mCw_205, List.forall_mem_cons.mpr ⟨mCw_206, List.forall_mem_cons.mpr ⟨mCw_207, List.forall_mem_cons.mpr ⟨mCw_208, List.forall_mem_cons.mpr ⟨mCw_209, List.forall_mem_cons.mpr ⟨mCw_210, List.forall_mem_cons.mpr ⟨mCw_211, List.forall_mem_cons.mpr ⟨mCw_212, List.forall_mem_cons.mpr ⟨mCw_213, List.forall_mem_cons.mpr ⟨mCw_214, List.forall_mem_cons.mpr ⟨mCw_215, List.forall_mem_cons.mpr ⟨mCw_216, List.forall_mem_cons.mpr ⟨mCw_217, List.forall_mem_cons.mpr ⟨mCw_218, List.forall_mem_cons.mpr ⟨mCw_219, List.forall_mem_cons.mpr ⟨mCw_220, List.forall_mem_cons.mpr ⟨mCw_221, List.forall_mem_cons.mpr ⟨mCw_222, List.forall_mem_cons.mpr ⟨mCw_223, List.forall_mem_cons.mpr ⟨mCw_224, List.forall_mem_cons.mpr ⟨mCw_225, List.forall_mem_cons.mpr ⟨mCw_226, List.forall_mem_cons.mpr ⟨mCw_227, List.forall_mem_cons.mpr ⟨mCw_228, List.forall_mem_cons.mpr ⟨mCw_229, List.forall_mem_cons.mpr ⟨mCw_230, List.forall_mem_cons.mpr ⟨mCw_231, List.forall_mem_cons.mpr ⟨mCw_232, List.forall_mem_cons.mpr ⟨mCw_233, List.forall_mem_cons.mpr ⟨mCw_234, List.forall_mem_cons.mpr ⟨mCw_235, List.forall_mem_cons.mpr ⟨mCw_236, List.forall_mem_cons.mpr ⟨mCw_237, List.forall_mem_cons.mpr ⟨mCw_238, List.forall_mem_cons.mpr ⟨mCw_239, List.forall_mem_cons.mpr ⟨mCw_240, List.forall_mem_cons.mpr ⟨mCw_241, List.forall_mem_cons.mpr ⟨mCw_242, fun _ h => absurd h List.not_mem_nil⟩⟩⟩⟩⟩⟩⟩⟩⟩⟩⟩⟩⟩⟩⟩⟩⟩⟩⟩⟩⟩⟩⟩⟩⟩⟩⟩⟩⟩⟩⟩⟩⟩⟩⟩⟩⟩⟩⟩⟩⟩⟩⟩
theorem mCws : ∀ y ∈ mtabM, Cond.code y.1 (mBy y) (mLo y) (mRe y) ∈ mAllW := by
  intro y hy
  simp only [mtabM, List.mem_append] at hy
  rcases hy with h | h | h | h | h
  · exact mCws_0 y h
  · exact mCws_1 y h
  · exact mCws_2 y h
  · exact mCws_3 y h
  · exact mCws_4 y h
set_option maxRecDepth 100000 in
theorem mtabM_len : mtabM.length = 243 := by decide +kernel
theorem mCode_ok {n : Nat} (h : n < 243) : Cond.code (mt n).1 (mBy (mt n)) (mLo (mt n)) (mRe (mt n)) ∈ mAllW := by
  refine mCws _ ?_
  have hl : n < mtabM.length := by rw [mtabM_len]; exact h
  have e : mt n = mtabM[n] := by
    simp only [mt, mtab, List.getD_eq_getElem?_getD]
    rw [List.getElem?_append_left hl, List.getElem?_eq_getElem hl]
    rfl
  rw [e]
  exact List.getElem_mem hl
set_option maxRecDepth 100000 in
theorem mLT_ok_0 : mLT_0.all (fun q => linkB (mOwn 0) q.1 q.2) = true := by decide +kernel
set_option maxRecDepth 100000 in
theorem mLT_ok_1 : mLT_1.all (fun q => linkB (mOwn 1) q.1 q.2) = true := by decide +kernel
set_option maxRecDepth 100000 in
theorem mLT_ok_2 : mLT_2.all (fun q => linkB (mOwn 2) q.1 q.2) = true := by decide +kernel
set_option maxRecDepth 100000 in
theorem mLT_ok_3 : mLT_3.all (fun q => linkB (mOwn 3) q.1 q.2) = true := by decide +kernel
set_option maxRecDepth 100000 in
theorem mLT_ok_4 : mLT_4.all (fun q => linkB (mOwn 4) q.1 q.2) = true := by decide +kernel
set_option maxRecDepth 100000 in
theorem mLT_ok_5 : mLT_5.all (fun q => linkB (mOwn 5) q.1 q.2) = true := by decide +kernel
set_option maxRecDepth 100000 in
theorem mLT_ok_6 : mLT_6.all (fun q => linkB (mOwn 6) q.1 q.2) = true := by decide +kernel
set_option maxRecDepth 100000 in
theorem mLT_ok_7 : mLT_7.all (fun q => linkB (mOwn 7) q.1 q.2) = true := by decide +kernel
set_option maxRecDepth 100000 in
theorem mLT_ok_8 : mLT_8.all (fun q => linkB (mOwn 8) q.1 q.2) = true := by decide +kernel
set_option maxRecDepth 100000 in
theorem mLT_ok_9 : mLT_9.all (fun q => linkB (mOwn 9) q.1 q.2) = true := by decide +kernel
set_option maxRecDepth 100000 in
theorem mLT_ok_10 : mLT_10.all (fun q => linkB (mOwn 10) q.1 q.2) = true := by decide +kernel
set_option maxRecDepth 100000 in
theorem mLT_ok_11 : mLT_11.all (fun q => linkB (mOwn 11) q.1 q.2) = true := by decide +kernel
set_option maxRecDepth 100000 in
theorem mLT_ok_12 : mLT_12.all (fun q => linkB (mOwn 12) q.1 q.2) = true := by decide +kernel
set_option maxRecDepth 100000 in
theorem mLT_ok_13 : mLT_13.all (fun q => linkB (mOwn 13) q.1 q.2) = true := by decide +kernel
set_option maxRecDepth 100000 in
theorem mLT_ok_14 : mLT_14.all (fun q => linkB (mOwn 14) q.1 q.2) = true := by decide +kernel
set_option maxRecDepth 100000 in
theorem mLT_ok_15 : mLT_15.all (fun q => linkB (mOwn 15) q.1 q.2) = true := by decide +kernel
theorem mLT_ok (cn : Nat) : ∀ q ∈ mLT cn, linkB (mOwn cn) q.1 q.2 = true := by
  intro q hq
  match cn, hq with
  | 0, hq => exact List.all_eq_true.mp mLT_ok_0 q hq
  | 1, hq => exact List.all_eq_true.mp mLT_ok_1 q hq
  | 2, hq => exact List.all_eq_true.mp mLT_ok_2 q hq
  | 3, hq => exact List.all_eq_true.mp mLT_ok_3 q hq
  | 4, hq => exact List.all_eq_true.mp mLT_ok_4 q hq
  | 5, hq => exact List.all_eq_true.mp mLT_ok_5 q hq
  | 6, hq => exact List.all_eq_true.mp mLT_ok_6 q hq
  | 7, hq => exact List.all_eq_true.mp mLT_ok_7 q hq
  | 8, hq => exact List.all_eq_true.mp mLT_ok_8 q hq
  | 9, hq => exact List.all_eq_true.mp mLT_ok_9 q hq
  | 10, hq => exact List.all_eq_true.mp mLT_ok_10 q hq
  | 11, hq => exact List.all_eq_true.mp mLT_ok_11 q hq
  | 12, hq => exact List.all_eq_true.mp mLT_ok_12 q hq
  | 13, hq => exact List.all_eq_true.mp mLT_ok_13 q hq
  | 14, hq => exact List.all_eq_true.mp mLT_ok_14 q hq
  | 15, hq => exact List.all_eq_true.mp mLT_ok_15 q hq
  | n + 16, hq => exact absurd hq List.not_mem_nil

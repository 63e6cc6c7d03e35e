/-! PART 13.06: blocks of code and their checks, printed by program (wip/whole/mk13.py) -/
-- method 168: KeySealerModel.times([J[J[J)V, locals 6, room (1, 23)
def bk_168_0 : List mO := [(.iconst 0, 0, 0, .int 0), (.istore 4, 4, 0, .null)]
set_option maxRecDepth 100000 in
theorem cb_168_0 : mChk 168 0 bk_168_0 3 = true := by decide +kernel
def bk_168_3 : List mO := [(.iload 4, 4, 0, .null), (.bipush 31, 0, 0, .int 31), (.if_icmp .ge 17, 24, 0, .null)]
set_option maxRecDepth 100000 in
theorem cb_168_3 : mChk 168 3 bk_168_3 10 = true := by decide +kernel
def bk_168_10 : List mO := [(.aload_n 0, 0, 0, .null), (.getfield 74, 9, 25, .null), (.iload 4, 4, 0, .null), (.lconst 0, 0, 0, .long 0), (.lastore, 0, 0, .null), (.iinc 4 1, 4, 0, .int 1), (.goto (-18), 3, 0, .null)]
set_option maxRecDepth 100000 in
theorem cb_168_10 : mChk 168 10 bk_168_10 24 = true := by decide +kernel
def bk_168_24 : List mO := [(.iconst 0, 0, 0, .int 0), (.istore 4, 4, 0, .null)]
set_option maxRecDepth 100000 in
theorem cb_168_24 : mChk 168 24 bk_168_24 27 = true := by decide +kernel
def bk_168_27 : List mO := [(.iload 4, 4, 0, .null), (.bipush 16, 0, 0, .int 16), (.if_icmp .ge 47, 78, 0, .null)]
set_option maxRecDepth 100000 in
theorem cb_168_27 : mChk 168 27 bk_168_27 34 = true := by decide +kernel
def bk_168_34 : List mO := [(.iconst 0, 0, 0, .int 0), (.istore 5, 5, 0, .null)]
set_option maxRecDepth 100000 in
theorem cb_168_34 : mChk 168 34 bk_168_34 37 = true := by decide +kernel
def bk_168_37 : List mO := [(.iload 5, 5, 0, .null), (.bipush 16, 0, 0, .int 16), (.if_icmp .ge 31, 72, 0, .null)]
set_option maxRecDepth 100000 in
theorem cb_168_37 : mChk 168 37 bk_168_37 44 = true := by decide +kernel
def bk_168_44 : List mO := [(.aload_n 0, 0, 0, .null), (.getfield 74, 9, 25, .null), (.iload 4, 4, 0, .null), (.iload 5, 5, 0, .null), (.iadd, 0, 0, .null), (.dup2, 0, 0, .null), (.laload, 0, 0, .null), (.aload_n 2, 2, 0, .null), (.iload 4, 4, 0, .null), (.laload, 0, 0, .null), (.aload_n 3, 3, 0, .null), (.iload 5, 5, 0, .null), (.laload, 0, 0, .null), (.lmul, 0, 0, .null), (.ladd, 0, 0, .null), (.lastore, 0, 0, .null), (.iinc 5 1, 5, 0, .int 1), (.goto (-32), 37, 0, .null)]
set_option maxRecDepth 100000 in
theorem cb_168_44 : mChk 168 44 bk_168_44 72 = true := by decide +kernel
def bk_168_72 : List mO := [(.iinc 4 1, 4, 0, .int 1), (.goto (-48), 27, 0, .null)]
set_option maxRecDepth 100000 in
theorem cb_168_72 : mChk 168 72 bk_168_72 78 = true := by decide +kernel
def bk_168_78 : List mO := [(.iconst 0, 0, 0, .int 0), (.istore 4, 4, 0, .null)]
set_option maxRecDepth 100000 in
theorem cb_168_78 : mChk 168 78 bk_168_78 81 = true := by decide +kernel
def bk_168_81 : List mO := [(.iload 4, 4, 0, .null), (.bipush 16, 0, 0, .int 16), (.if_icmp .ge 46, 131, 0, .null)]
set_option maxRecDepth 100000 in
theorem cb_168_81 : mChk 168 81 bk_168_81 88 = true := by decide +kernel
def bk_168_88 : List mO := [(.aload_n 1, 1, 0, .null), (.iload 4, 4, 0, .null), (.aload_n 0, 0, 0, .null), (.getfield 74, 9, 25, .null), (.iload 4, 4, 0, .null), (.laload, 0, 0, .null), (.iload 4, 4, 0, .null), (.bipush 15, 0, 0, .int 15), (.if_icmp .ge 20, 122, 0, .null)]
set_option maxRecDepth 100000 in
theorem cb_168_88 : mChk 168 88 bk_168_88 105 = true := by decide +kernel
def bk_168_105 : List mO := [(.ldc2_w 270, 0, 0, .long 38), (.aload_n 0, 0, 0, .null), (.getfield 74, 9, 25, .null), (.iload 4, 4, 0, .null), (.bipush 16, 0, 0, .int 16), (.iadd, 0, 0, .null), (.laload, 0, 0, .null), (.lmul, 0, 0, .null), (.goto 4, 123, 0, .null)]
set_option maxRecDepth 100000 in
theorem cb_168_105 : mChk 168 105 bk_168_105 122 = true := by decide +kernel
def bk_168_122 : List mO := [(.lconst 0, 0, 0, .long 0)]
set_option maxRecDepth 100000 in
theorem cb_168_122 : mChk 168 122 bk_168_122 123 = true := by decide +kernel
def bk_168_123 : List mO := [(.ladd, 0, 0, .null), (.lastore, 0, 0, .null), (.iinc 4 1, 4, 0, .int 1), (.goto (-47), 81, 0, .null)]
set_option maxRecDepth 100000 in
theorem cb_168_123 : mChk 168 123 bk_168_123 131 = true := by decide +kernel
def bk_168_131 : List mO := [(.aload_n 1, 1, 0, .null), (.invokestatic 272, 165, 1, .null), (.aload_n 1, 1, 0, .null), (.invokestatic 272, 165, 1, .null), (.return_, 0, 0, .null)]
set_option maxRecDepth 100000 in
theorem cb_168_131 : mChk 168 131 bk_168_131 140 = true := by decide +kernel
-- method 169: KeySealerModel.is([J[J)V, locals 3, room (0, 0)
def bk_169_0 : List mO := [(.iconst 0, 0, 0, .int 0), (.istore_n 2, 2, 0, .null)]
set_option maxRecDepth 100000 in
theorem cb_169_0 : mChk 169 0 bk_169_0 2 = true := by decide +kernel
def bk_169_2 : List mO := [(.iload_n 2, 2, 0, .null), (.bipush 16, 0, 0, .int 16), (.if_icmp .ge 15, 20, 0, .null)]
set_option maxRecDepth 100000 in
theorem cb_169_2 : mChk 169 2 bk_169_2 8 = true := by decide +kernel
def bk_169_8 : List mO := [(.aload_n 0, 0, 0, .null), (.iload_n 2, 2, 0, .null), (.aload_n 1, 1, 0, .null), (.iload_n 2, 2, 0, .null), (.laload, 0, 0, .null), (.lastore, 0, 0, .null), (.iinc 2 1, 2, 0, .int 1), (.goto (-15), 2, 0, .null)]
set_option maxRecDepth 100000 in
theorem cb_169_8 : mChk 169 8 bk_169_8 20 = true := by decide +kernel
def bk_169_20 : List mO := [(.return_, 0, 0, .null)]
set_option maxRecDepth 100000 in
theorem cb_169_20 : mChk 169 20 bk_169_20 21 = true := by decide +kernel
-- method 170: KeySealerModel.isNumber([JJ)V, locals 4, room (0, 0)
def bk_170_0 : List mO := [(.iconst 0, 0, 0, .int 0), (.istore_n 3, 3, 0, .null)]
set_option maxRecDepth 100000 in
theorem cb_170_0 : mChk 170 0 bk_170_0 2 = true := by decide +kernel
def bk_170_2 : List mO := [(.iload_n 3, 3, 0, .null), (.bipush 16, 0, 0, .int 16), (.if_icmp .ge 21, 26, 0, .null)]
set_option maxRecDepth 100000 in
theorem cb_170_2 : mChk 170 2 bk_170_2 8 = true := by decide +kernel
def bk_170_8 : List mO := [(.aload_n 0, 0, 0, .null), (.iload_n 3, 3, 0, .null), (.iload_n 3, 3, 0, .null), (.ifCond .ne 7, 18, 0, .null)]
set_option maxRecDepth 100000 in
theorem cb_170_8 : mChk 170 8 bk_170_8 14 = true := by decide +kernel
def bk_170_14 : List mO := [(.lload_n 1, 1, 0, .null), (.goto 4, 19, 0, .null)]
set_option maxRecDepth 100000 in
theorem cb_170_14 : mChk 170 14 bk_170_14 18 = true := by decide +kernel
def bk_170_18 : List mO := [(.lconst 0, 0, 0, .long 0)]
set_option maxRecDepth 100000 in
theorem cb_170_18 : mChk 170 18 bk_170_18 19 = true := by decide +kernel
def bk_170_19 : List mO := [(.lastore, 0, 0, .null), (.iinc 3 1, 3, 0, .int 1), (.goto (-21), 2, 0, .null)]
set_option maxRecDepth 100000 in
theorem cb_170_19 : mChk 170 19 bk_170_19 26 = true := by decide +kernel
def bk_170_26 : List mO := [(.return_, 0, 0, .null)]
set_option maxRecDepth 100000 in
theorem cb_170_26 : mChk 170 26 bk_170_26 27 = true := by decide +kernel
-- method 171: KeySealerModel.swap([J[J)V, locals 5, room (0, 0)
def bk_171_0 : List mO := [(.iconst 0, 0, 0, .int 0), (.istore_n 2, 2, 0, .null)]
set_option maxRecDepth 100000 in
theorem cb_171_0 : mChk 171 0 bk_171_0 2 = true := by decide +kernel
def bk_171_2 : List mO := [(.iload_n 2, 2, 0, .null), (.bipush 16, 0, 0, .int 16), (.if_icmp .ge 23, 28, 0, .null)]
set_option maxRecDepth 100000 in
theorem cb_171_2 : mChk 171 2 bk_171_2 8 = true := by decide +kernel
def bk_171_8 : List mO := [(.aload_n 0, 0, 0, .null), (.iload_n 2, 2, 0, .null), (.laload, 0, 0, .null), (.lstore_n 3, 3, 0, .null), (.aload_n 0, 0, 0, .null), (.iload_n 2, 2, 0, .null), (.aload_n 1, 1, 0, .null), (.iload_n 2, 2, 0, .null), (.laload, 0, 0, .null), (.lastore, 0, 0, .null), (.aload_n 1, 1, 0, .null), (.iload_n 2, 2, 0, .null), (.lload_n 3, 3, 0, .null), (.lastore, 0, 0, .null), (.iinc 2 1, 2, 0, .int 1), (.goto (-23), 2, 0, .null)]
set_option maxRecDepth 100000 in
theorem cb_171_8 : mChk 171 8 bk_171_8 28 = true := by decide +kernel
def bk_171_28 : List mO := [(.return_, 0, 0, .null)]
set_option maxRecDepth 100000 in
theorem cb_171_28 : mChk 171 28 bk_171_28 29 = true := by decide +kernel
-- method 172: KeySealerModel.invert()V, locals 2, room (2, 48)
def bk_172_0 : List mO := [(.aload_n 0, 0, 0, .null), (.getfield 56, 9, 19, .null), (.aload_n 0, 0, 0, .null), (.getfield 47, 9, 16, .null), (.invokestatic 276, 169, 2, .null), (.sipush 253, 0, 0, .int 253), (.istore_n 1, 1, 0, .null)]
set_option maxRecDepth 100000 in
theorem cb_172_0 : mChk 172 0 bk_172_0 15 = true := by decide +kernel
def bk_172_15 : List mO := [(.iload_n 1, 1, 0, .null), (.ifCond .lt 51, 67, 0, .null)]
set_option maxRecDepth 100000 in
theorem cb_172_15 : mChk 172 15 bk_172_15 19 = true := by decide +kernel
def bk_172_19 : List mO := [(.aload_n 0, 0, 0, .null), (.aload_n 0, 0, 0, .null), (.getfield 56, 9, 19, .null), (.aload_n 0, 0, 0, .null), (.getfield 56, 9, 19, .null), (.aload_n 0, 0, 0, .null), (.getfield 56, 9, 19, .null), (.invokevirtual 280, 168, 3, .ref 9), (.iload_n 1, 1, 0, .null), (.iconst 2, 0, 0, .int 2), (.if_icmp .eq 24, 61, 0, .null)]
set_option maxRecDepth 100000 in
theorem cb_172_19 : mChk 172 19 bk_172_19 40 = true := by decide +kernel
def bk_172_40 : List mO := [(.iload_n 1, 1, 0, .null), (.iconst 4, 0, 0, .int 4), (.if_icmp .eq 19, 61, 0, .null)]
set_option maxRecDepth 100000 in
theorem cb_172_40 : mChk 172 40 bk_172_40 45 = true := by decide +kernel
def bk_172_45 : List mO := [(.aload_n 0, 0, 0, .null), (.aload_n 0, 0, 0, .null), (.getfield 56, 9, 19, .null), (.aload_n 0, 0, 0, .null), (.getfield 56, 9, 19, .null), (.aload_n 0, 0, 0, .null), (.getfield 47, 9, 16, .null), (.invokevirtual 280, 168, 3, .ref 9)]
set_option maxRecDepth 100000 in
theorem cb_172_45 : mChk 172 45 bk_172_45 61 = true := by decide +kernel
def bk_172_61 : List mO := [(.iinc 1 (-1), 1, 0, .int (-1)), (.goto (-49), 15, 0, .null)]
set_option maxRecDepth 100000 in
theorem cb_172_61 : mChk 172 61 bk_172_61 67 = true := by decide +kernel
def bk_172_67 : List mO := [(.aload_n 0, 0, 0, .null), (.getfield 47, 9, 16, .null), (.aload_n 0, 0, 0, .null), (.getfield 56, 9, 19, .null), (.invokestatic 276, 169, 2, .null), (.return_, 0, 0, .null)]
set_option maxRecDepth 100000 in
theorem cb_172_67 : mChk 172 67 bk_172_67 79 = true := by decide +kernel
-- method 173: KeySealerModel.agreed()V, locals 3, room (3, 69)
def bk_173_0 : List mO := [(.iconst 0, 0, 0, .int 0), (.istore_n 1, 1, 0, .null)]
set_option maxRecDepth 100000 in
theorem cb_173_0 : mChk 173 0 bk_173_0 2 = true := by decide +kernel
def bk_173_2 : List mO := [(.iload_n 1, 1, 0, .null), (.bipush 16, 0, 0, .int 16), (.if_icmp .ge 57, 62, 0, .null)]
set_option maxRecDepth 100000 in
theorem cb_173_2 : mChk 173 2 bk_173_2 8 = true := by decide +kernel
def bk_173_8 : List mO := [(.aload_n 0, 0, 0, .null), (.getfield 41, 9, 14, .null), (.iload_n 1, 1, 0, .null), (.aload_n 0, 0, 0, .null), (.getfield 85, 9, 28, .null), (.iconst 2, 0, 0, .int 2), (.iload_n 1, 1, 0, .null), (.imul, 0, 0, .null), (.iaload, 0, 0, .null), (.iload_n 1, 1, 0, .null), (.bipush 15, 0, 0, .int 15), (.if_icmp .ne 16, 40, 0, .null)]
set_option maxRecDepth 100000 in
theorem cb_173_8 : mChk 173 8 bk_173_8 27 = true := by decide +kernel
def bk_173_27 : List mO := [(.aload_n 0, 0, 0, .null), (.getfield 85, 9, 28, .null), (.bipush 31, 0, 0, .int 31), (.iaload, 0, 0, .null), (.bipush 127, 0, 0, .int 127), (.iand, 0, 0, .null), (.goto 13, 50, 0, .null)]
set_option maxRecDepth 100000 in
theorem cb_173_27 : mChk 173 27 bk_173_27 40 = true := by decide +kernel
def bk_173_40 : List mO := [(.aload_n 0, 0, 0, .null), (.getfield 85, 9, 28, .null), (.iconst 2, 0, 0, .int 2), (.iload_n 1, 1, 0, .null), (.imul, 0, 0, .null), (.iconst 1, 0, 0, .int 1), (.iadd, 0, 0, .null), (.iaload, 0, 0, .null)]
set_option maxRecDepth 100000 in
theorem cb_173_40 : mChk 173 40 bk_173_40 50 = true := by decide +kernel
def bk_173_50 : List mO := [(.bipush 8, 0, 0, .int 8), (.ishl, 0, 0, .null), (.ior, 0, 0, .null), (.i2l, 0, 0, .null), (.lastore, 0, 0, .null), (.iinc 1 1, 1, 0, .int 1), (.goto (-57), 2, 0, .null)]
set_option maxRecDepth 100000 in
theorem cb_173_50 : mChk 173 50 bk_173_50 62 = true := by decide +kernel
def bk_173_62 : List mO := [(.aload_n 0, 0, 0, .null), (.getfield 44, 9, 15, .null), (.lconst 1, 0, 0, .long 1), (.invokestatic 284, 170, 2, .null), (.aload_n 0, 0, 0, .null), (.getfield 47, 9, 16, .null), (.lconst 0, 0, 0, .long 0), (.invokestatic 284, 170, 2, .null), (.aload_n 0, 0, 0, .null), (.getfield 50, 9, 17, .null), (.aload_n 0, 0, 0, .null), (.getfield 41, 9, 14, .null), (.invokestatic 276, 169, 2, .null), (.aload_n 0, 0, 0, .null), (.getfield 53, 9, 18, .null), (.lconst 1, 0, 0, .long 1), (.invokestatic 284, 170, 2, .null), (.sipush 254, 0, 0, .int 254), (.istore_n 1, 1, 0, .null)]
set_option maxRecDepth 100000 in
theorem cb_173_62 : mChk 173 62 bk_173_62 101 = true := by decide +kernel
def bk_173_101 : List mO := [(.iload_n 1, 1, 0, .null), (.ifCond .lt 380, 482, 0, .null)]
set_option maxRecDepth 100000 in
theorem cb_173_101 : mChk 173 101 bk_173_101 105 = true := by decide +kernel
def bk_173_105 : List mO := [(.iload_n 1, 1, 0, .null), (.iconst 3, 0, 0, .int 3), (.if_icmp .ge 7, 114, 0, .null)]
set_option maxRecDepth 100000 in
theorem cb_173_105 : mChk 173 105 bk_173_105 110 = true := by decide +kernel
def bk_173_110 : List mO := [(.iconst 0, 0, 0, .int 0), (.goto 30, 141, 0, .null)]
set_option maxRecDepth 100000 in
theorem cb_173_110 : mChk 173 110 bk_173_110 114 = true := by decide +kernel
def bk_173_114 : List mO := [(.iload_n 1, 1, 0, .null), (.sipush 254, 0, 0, .int 254), (.if_icmp .ne 7, 125, 0, .null)]
set_option maxRecDepth 100000 in
theorem cb_173_114 : mChk 173 114 bk_173_114 121 = true := by decide +kernel
def bk_173_121 : List mO := [(.iconst 1, 0, 0, .int 1), (.goto 19, 141, 0, .null)]
set_option maxRecDepth 100000 in
theorem cb_173_121 : mChk 173 121 bk_173_121 125 = true := by decide +kernel
def bk_173_125 : List mO := [(.aload_n 0, 0, 0, .null), (.getfield 82, 9, 27, .null), (.iload_n 1, 1, 0, .null), (.bipush 8, 0, 0, .int 8), (.idiv, 0, 0, .null), (.iaload, 0, 0, .null), (.iload_n 1, 1, 0, .null), (.bipush 8, 0, 0, .int 8), (.irem, 0, 0, .null), (.ishr, 0, 0, .null), (.iconst 1, 0, 0, .int 1), (.iand, 0, 0, .null)]
set_option maxRecDepth 100000 in
theorem cb_173_125 : mChk 173 125 bk_173_125 141 = true := by decide +kernel
def bk_173_141 : List mO := [(.istore_n 2, 2, 0, .null), (.iload_n 2, 2, 0, .null), (.iconst 1, 0, 0, .int 1), (.if_icmp .ne 25, 169, 0, .null)]
set_option maxRecDepth 100000 in
theorem cb_173_141 : mChk 173 141 bk_173_141 147 = true := by decide +kernel
def bk_173_147 : List mO := [(.aload_n 0, 0, 0, .null), (.getfield 44, 9, 15, .null), (.aload_n 0, 0, 0, .null), (.getfield 50, 9, 17, .null), (.invokestatic 288, 171, 2, .null), (.aload_n 0, 0, 0, .null), (.getfield 47, 9, 16, .null), (.aload_n 0, 0, 0, .null), (.getfield 53, 9, 18, .null), (.invokestatic 288, 171, 2, .null)]
set_option maxRecDepth 100000 in
theorem cb_173_147 : mChk 173 147 bk_173_147 169 = true := by decide +kernel
def bk_173_169 : List mO := [(.aload_n 0, 0, 0, .null), (.getfield 56, 9, 19, .null), (.aload_n 0, 0, 0, .null), (.getfield 44, 9, 15, .null), (.aload_n 0, 0, 0, .null), (.getfield 47, 9, 16, .null), (.invokestatic 291, 166, 3, .null), (.aload_n 0, 0, 0, .null), (.getfield 59, 9, 20, .null), (.aload_n 0, 0, 0, .null), (.getfield 44, 9, 15, .null), (.aload_n 0, 0, 0, .null), (.getfield 47, 9, 16, .null), (.invokestatic 294, 167, 3, .null), (.aload_n 0, 0, 0, .null), (.getfield 62, 9, 21, .null), (.aload_n 0, 0, 0, .null), (.getfield 50, 9, 17, .null), (.aload_n 0, 0, 0, .null), (.getfield 53, 9, 18, .null), (.invokestatic 291, 166, 3, .null), (.aload_n 0, 0, 0, .null), (.getfield 65, 9, 22, .null), (.aload_n 0, 0, 0, .null), (.getfield 50, 9, 17, .null), (.aload_n 0, 0, 0, .null), (.getfield 53, 9, 18, .null), (.invokestatic 294, 167, 3, .null), (.aload_n 0, 0, 0, .null), (.aload_n 0, 0, 0, .null), (.getfield 68, 9, 23, .null), (.aload_n 0, 0, 0, .null), (.getfield 65, 9, 22, .null), (.aload_n 0, 0, 0, .null), (.getfield 56, 9, 19, .null), (.invokevirtual 280, 168, 3, .ref 9), (.aload_n 0, 0, 0, .null), (.aload_n 0, 0, 0, .null), (.getfield 71, 9, 24, .null), (.aload_n 0, 0, 0, .null), (.getfield 62, 9, 21, .null), (.aload_n 0, 0, 0, .null), (.getfield 59, 9, 20, .null), (.invokevirtual 280, 168, 3, .ref 9), (.aload_n 0, 0, 0, .null), (.getfield 50, 9, 17, .null), (.aload_n 0, 0, 0, .null), (.getfield 68, 9, 23, .null), (.aload_n 0, 0, 0, .null), (.getfield 71, 9, 24, .null), (.invokestatic 291, 166, 3, .null), (.aload_n 0, 0, 0, .null), (.aload_n 0, 0, 0, .null), (.getfield 50, 9, 17, .null), (.aload_n 0, 0, 0, .null), (.getfield 50, 9, 17, .null), (.aload_n 0, 0, 0, .null), (.getfield 50, 9, 17, .null), (.invokevirtual 280, 168, 3, .ref 9), (.aload_n 0, 0, 0, .null), (.getfield 53, 9, 18, .null), (.aload_n 0, 0, 0, .null), (.getfield 68, 9, 23, .null), (.aload_n 0, 0, 0, .null), (.getfield 71, 9, 24, .null), (.invokestatic 294, 167, 3, .null), (.aload_n 0, 0, 0, .null), (.aload_n 0, 0, 0, .null), (.getfield 53, 9, 18, .null), (.aload_n 0, 0, 0, .null), (.getfield 53, 9, 18, .null), (.aload_n 0, 0, 0, .null), (.getfield 53, 9, 18, .null), (.invokevirtual 280, 168, 3, .ref 9), (.aload_n 0, 0, 0, .null), (.aload_n 0, 0, 0, .null), (.getfield 53, 9, 18, .null), (.aload_n 0, 0, 0, .null), (.getfield 53, 9, 18, .null), (.aload_n 0, 0, 0, .null), (.getfield 41, 9, 14, .null), (.invokevirtual 280, 168, 3, .ref 9), (.aload_n 0, 0, 0, .null), (.aload_n 0, 0, 0, .null), (.getfield 56, 9, 19, .null), (.aload_n 0, 0, 0, .null), (.getfield 56, 9, 19, .null), (.aload_n 0, 0, 0, .null), (.getfield 56, 9, 19, .null), (.invokevirtual 280, 168, 3, .ref 9), (.aload_n 0, 0, 0, .null), (.aload_n 0, 0, 0, .null), (.getfield 59, 9, 20, .null), (.aload_n 0, 0, 0, .null), (.getfield 59, 9, 20, .null), (.aload_n 0, 0, 0, .null), (.getfield 59, 9, 20, .null), (.invokevirtual 280, 168, 3, .ref 9), (.aload_n 0, 0, 0, .null), (.aload_n 0, 0, 0, .null), (.getfield 44, 9, 15, .null), (.aload_n 0, 0, 0, .null), (.getfield 56, 9, 19, .null), (.aload_n 0, 0, 0, .null), (.getfield 59, 9, 20, .null), (.invokevirtual 280, 168, 3, .ref 9), (.aload_n 0, 0, 0, .null), (.getfield 68, 9, 23, .null), (.aload_n 0, 0, 0, .null), (.getfield 56, 9, 19, .null), (.aload_n 0, 0, 0, .null), (.getfield 59, 9, 20, .null), (.invokestatic 294, 167, 3, .null), (.aload_n 0, 0, 0, .null), (.aload_n 0, 0, 0, .null), (.getfield 71, 9, 24, .null), (.aload_n 0, 0, 0, .null), (.getfield 68, 9, 23, .null), (.aload_n 0, 0, 0, .null), (.getfield 79, 9, 26, .null), (.invokevirtual 280, 168, 3, .ref 9), (.aload_n 0, 0, 0, .null), (.getfield 71, 9, 24, .null), (.aload_n 0, 0, 0, .null), (.getfield 71, 9, 24, .null), (.aload_n 0, 0, 0, .null), (.getfield 56, 9, 19, .null), (.invokestatic 291, 166, 3, .null), (.aload_n 0, 0, 0, .null), (.aload_n 0, 0, 0, .null), (.getfield 47, 9, 16, .null), (.aload_n 0, 0, 0, .null), (.getfield 68, 9, 23, .null), (.aload_n 0, 0, 0, .null), (.getfield 71, 9, 24, .null), (.invokevirtual 280, 168, 3, .ref 9), (.iload_n 2, 2, 0, .null), (.iconst 1, 0, 0, .int 1), (.if_icmp .ne 25, 476, 0, .null)]
set_option maxRecDepth 100000 in
theorem cb_173_169 : mChk 173 169 bk_173_169 454 = true := by decide +kernel
def bk_173_454 : List mO := [(.aload_n 0, 0, 0, .null), (.getfield 44, 9, 15, .null), (.aload_n 0, 0, 0, .null), (.getfield 50, 9, 17, .null), (.invokestatic 288, 171, 2, .null), (.aload_n 0, 0, 0, .null), (.getfield 47, 9, 16, .null), (.aload_n 0, 0, 0, .null), (.getfield 53, 9, 18, .null), (.invokestatic 288, 171, 2, .null)]
set_option maxRecDepth 100000 in
theorem cb_173_454 : mChk 173 454 bk_173_454 476 = true := by decide +kernel
def bk_173_476 : List mO := [(.iinc 1 (-1), 1, 0, .int (-1)), (.goto (-378), 101, 0, .null)]
set_option maxRecDepth 100000 in
theorem cb_173_476 : mChk 173 476 bk_173_476 482 = true := by decide +kernel
def bk_173_482 : List mO := [(.aload_n 0, 0, 0, .null), (.invokevirtual 297, 172, 0, .ref 9), (.aload_n 0, 0, 0, .null), (.aload_n 0, 0, 0, .null), (.getfield 44, 9, 15, .null), (.aload_n 0, 0, 0, .null), (.getfield 44, 9, 15, .null), (.aload_n 0, 0, 0, .null), (.getfield 47, 9, 16, .null), (.invokevirtual 280, 168, 3, .ref 9), (.aload_n 0, 0, 0, .null), (.invokevirtual 300, 174, 0, .ref 9), (.return_, 0, 0, .null)]
set_option maxRecDepth 100000 in
theorem cb_173_482 : mChk 173 482 bk_173_482 507 = true := by decide +kernel
-- method 174: KeySealerModel.pack()V, locals 3, room (1, 23)
def bk_174_0 : List mO := [(.aload_n 0, 0, 0, .null), (.getfield 44, 9, 15, .null), (.invokestatic 272, 165, 1, .null), (.aload_n 0, 0, 0, .null), (.getfield 44, 9, 15, .null), (.invokestatic 272, 165, 1, .null), (.aload_n 0, 0, 0, .null), (.getfield 44, 9, 15, .null), (.invokestatic 272, 165, 1, .null), (.iconst 0, 0, 0, .int 0), (.istore_n 1, 1, 0, .null)]
set_option maxRecDepth 100000 in
theorem cb_174_0 : mChk 174 0 bk_174_0 23 = true := by decide +kernel
def bk_174_23 : List mO := [(.iload_n 1, 1, 0, .null), (.iconst 2, 0, 0, .int 2), (.if_icmp .ge 165, 190, 0, .null)]
set_option maxRecDepth 100000 in
theorem cb_174_23 : mChk 174 23 bk_174_23 28 = true := by decide +kernel
def bk_174_28 : List mO := [(.aload_n 0, 0, 0, .null), (.getfield 56, 9, 19, .null), (.iconst 0, 0, 0, .int 0), (.aload_n 0, 0, 0, .null), (.getfield 44, 9, 15, .null), (.iconst 0, 0, 0, .int 0), (.laload, 0, 0, .null), (.ldc2_w 303, 0, 0, .long 65517), (.lsub, 0, 0, .null), (.lastore, 0, 0, .null), (.iconst 1, 0, 0, .int 1), (.istore_n 2, 2, 0, .null)]
set_option maxRecDepth 100000 in
theorem cb_174_28 : mChk 174 28 bk_174_28 46 = true := by decide +kernel
def bk_174_46 : List mO := [(.iload_n 2, 2, 0, .null), (.bipush 15, 0, 0, .int 15), (.if_icmp .ge 53, 102, 0, .null)]
set_option maxRecDepth 100000 in
theorem cb_174_46 : mChk 174 46 bk_174_46 52 = true := by decide +kernel
def bk_174_52 : List mO := [(.aload_n 0, 0, 0, .null), (.getfield 56, 9, 19, .null), (.iload_n 2, 2, 0, .null), (.aload_n 0, 0, 0, .null), (.getfield 44, 9, 15, .null), (.iload_n 2, 2, 0, .null), (.laload, 0, 0, .null), (.ldc2_w 305, 0, 0, .long 65535), (.lsub, 0, 0, .null), (.aload_n 0, 0, 0, .null), (.getfield 56, 9, 19, .null), (.iload_n 2, 2, 0, .null), (.iconst 1, 0, 0, .int 1), (.isub, 0, 0, .null), (.laload, 0, 0, .null), (.bipush 16, 0, 0, .int 16), (.lshr, 0, 0, .null), (.lconst 1, 0, 0, .long 1), (.land, 0, 0, .null), (.lsub, 0, 0, .null), (.lastore, 0, 0, .null), (.aload_n 0, 0, 0, .null), (.getfield 56, 9, 19, .null), (.iload_n 2, 2, 0, .null), (.iconst 1, 0, 0, .int 1), (.isub, 0, 0, .null), (.dup2, 0, 0, .null), (.laload, 0, 0, .null), (.ldc2_w 305, 0, 0, .long 65535), (.land, 0, 0, .null), (.lastore, 0, 0, .null), (.iinc 2 1, 2, 0, .int 1), (.goto (-53), 46, 0, .null)]
set_option maxRecDepth 100000 in
theorem cb_174_52 : mChk 174 52 bk_174_52 102 = true := by decide +kernel
def bk_174_102 : List mO := [(.aload_n 0, 0, 0, .null), (.getfield 56, 9, 19, .null), (.bipush 15, 0, 0, .int 15), (.aload_n 0, 0, 0, .null), (.getfield 44, 9, 15, .null), (.bipush 15, 0, 0, .int 15), (.laload, 0, 0, .null), (.ldc2_w 307, 0, 0, .long 32767), (.lsub, 0, 0, .null), (.aload_n 0, 0, 0, .null), (.getfield 56, 9, 19, .null), (.bipush 14, 0, 0, .int 14), (.laload, 0, 0, .null), (.bipush 16, 0, 0, .int 16), (.lshr, 0, 0, .null), (.lconst 1, 0, 0, .long 1), (.land, 0, 0, .null), (.lsub, 0, 0, .null), (.lastore, 0, 0, .null), (.aload_n 0, 0, 0, .null), (.getfield 56, 9, 19, .null), (.bipush 15, 0, 0, .int 15), (.laload, 0, 0, .null), (.bipush 16, 0, 0, .int 16), (.lshr, 0, 0, .null), (.lconst 1, 0, 0, .long 1), (.land, 0, 0, .null), (.lconst 1, 0, 0, .long 1), (.lcmp, 0, 0, .null), (.ifCond .ne 7, 154, 0, .null)]
set_option maxRecDepth 100000 in
theorem cb_174_102 : mChk 174 102 bk_174_102 150 = true := by decide +kernel
def bk_174_150 : List mO := [(.iconst 1, 0, 0, .int 1), (.goto 4, 155, 0, .null)]
set_option maxRecDepth 100000 in
theorem cb_174_150 : mChk 174 150 bk_174_150 154 = true := by decide +kernel
def bk_174_154 : List mO := [(.iconst 0, 0, 0, .int 0)]
set_option maxRecDepth 100000 in
theorem cb_174_154 : mChk 174 154 bk_174_154 155 = true := by decide +kernel
def bk_174_155 : List mO := [(.istore_n 2, 2, 0, .null), (.aload_n 0, 0, 0, .null), (.getfield 56, 9, 19, .null), (.bipush 14, 0, 0, .int 14), (.dup2, 0, 0, .null), (.laload, 0, 0, .null), (.ldc2_w 305, 0, 0, .long 65535), (.land, 0, 0, .null), (.lastore, 0, 0, .null), (.iload_n 2, 2, 0, .null), (.ifCond .ne 14, 184, 0, .null)]
set_option maxRecDepth 100000 in
theorem cb_174_155 : mChk 174 155 bk_174_155 173 = true := by decide +kernel
def bk_174_173 : List mO := [(.aload_n 0, 0, 0, .null), (.getfield 44, 9, 15, .null), (.aload_n 0, 0, 0, .null), (.getfield 56, 9, 19, .null), (.invokestatic 276, 169, 2, .null)]
set_option maxRecDepth 100000 in
theorem cb_174_173 : mChk 174 173 bk_174_173 184 = true := by decide +kernel
def bk_174_184 : List mO := [(.iinc 1 1, 1, 0, .int 1), (.goto (-164), 23, 0, .null)]
set_option maxRecDepth 100000 in
theorem cb_174_184 : mChk 174 184 bk_174_184 190 = true := by decide +kernel
def bk_174_190 : List mO := [(.iconst 0, 0, 0, .int 0), (.istore_n 1, 1, 0, .null)]
set_option maxRecDepth 100000 in
theorem cb_174_190 : mChk 174 190 bk_174_190 192 = true := by decide +kernel
def bk_174_192 : List mO := [(.iload_n 1, 1, 0, .null), (.bipush 16, 0, 0, .int 16), (.if_icmp .ge 52, 247, 0, .null)]
set_option maxRecDepth 100000 in
theorem cb_174_192 : mChk 174 192 bk_174_192 198 = true := by decide +kernel
def bk_174_198 : List mO := [(.aload_n 0, 0, 0, .null), (.getfield 88, 9, 29, .null), (.iconst 2, 0, 0, .int 2), (.iload_n 1, 1, 0, .null), (.imul, 0, 0, .null), (.aload_n 0, 0, 0, .null), (.getfield 44, 9, 15, .null), (.iload_n 1, 1, 0, .null), (.laload, 0, 0, .null), (.ldc2_w 188, 0, 0, .long 255), (.land, 0, 0, .null), (.l2i, 0, 0, .null), (.iastore, 0, 0, .null), (.aload_n 0, 0, 0, .null), (.getfield 88, 9, 29, .null), (.iconst 2, 0, 0, .int 2), (.iload_n 1, 1, 0, .null), (.imul, 0, 0, .null), (.iconst 1, 0, 0, .int 1), (.iadd, 0, 0, .null), (.aload_n 0, 0, 0, .null), (.getfield 44, 9, 15, .null), (.iload_n 1, 1, 0, .null), (.laload, 0, 0, .null), (.bipush 8, 0, 0, .int 8), (.lshr, 0, 0, .null), (.ldc2_w 188, 0, 0, .long 255), (.land, 0, 0, .null), (.l2i, 0, 0, .null), (.iastore, 0, 0, .null), (.iinc 1 1, 1, 0, .int 1), (.goto (-52), 192, 0, .null)]
set_option maxRecDepth 100000 in
theorem cb_174_198 : mChk 174 198 bk_174_198 247 = true := by decide +kernel
def bk_174_247 : List mO := [(.return_, 0, 0, .null)]
set_option maxRecDepth 100000 in
theorem cb_174_247 : mChk 174 247 bk_174_247 248 = true := by decide +kernel
-- method 175: KeySealerModel.first([II)V, locals 4, room (0, 0)
def bk_175_0 : List mO := [(.iconst 0, 0, 0, .int 0), (.istore_n 3, 3, 0, .null)]
set_option maxRecDepth 100000 in
theorem cb_175_0 : mChk 175 0 bk_175_0 2 = true := by decide +kernel
def bk_175_2 : List mO := [(.iload_n 3, 3, 0, .null), (.bipush 32, 0, 0, .int 32), (.if_icmp .ge 20, 25, 0, .null)]
set_option maxRecDepth 100000 in
theorem cb_175_2 : mChk 175 2 bk_175_2 8 = true := by decide +kernel
def bk_175_8 : List mO := [(.aload_n 0, 0, 0, .null), (.getfield 82, 9, 27, .null), (.iload_n 3, 3, 0, .null), (.aload_n 1, 1, 0, .null), (.iload_n 2, 2, 0, .null), (.iload_n 3, 3, 0, .null), (.iadd, 0, 0, .null), (.iaload, 0, 0, .null), (.iastore, 0, 0, .null), (.iinc 3 1, 3, 0, .int 1), (.goto (-20), 2, 0, .null)]
set_option maxRecDepth 100000 in
theorem cb_175_8 : mChk 175 8 bk_175_8 25 = true := by decide +kernel
def bk_175_25 : List mO := [(.return_, 0, 0, .null)]
set_option maxRecDepth 100000 in
theorem cb_175_25 : mChk 175 25 bk_175_25 26 = true := by decide +kernel
-- method 176: KeySealerModel.second([II)V, locals 4, room (0, 0)
def bk_176_0 : List mO := [(.iconst 0, 0, 0, .int 0), (.istore_n 3, 3, 0, .null)]
set_option maxRecDepth 100000 in
theorem cb_176_0 : mChk 176 0 bk_176_0 2 = true := by decide +kernel
def bk_176_2 : List mO := [(.iload_n 3, 3, 0, .null), (.bipush 32, 0, 0, .int 32), (.if_icmp .ge 20, 25, 0, .null)]
set_option maxRecDepth 100000 in
theorem cb_176_2 : mChk 176 2 bk_176_2 8 = true := by decide +kernel
def bk_176_8 : List mO := [(.aload_n 0, 0, 0, .null), (.getfield 85, 9, 28, .null), (.iload_n 3, 3, 0, .null), (.aload_n 1, 1, 0, .null), (.iload_n 2, 2, 0, .null), (.iload_n 3, 3, 0, .null), (.iadd, 0, 0, .null), (.iaload, 0, 0, .null), (.iastore, 0, 0, .null), (.iinc 3 1, 3, 0, .int 1), (.goto (-20), 2, 0, .null)]
set_option maxRecDepth 100000 in
theorem cb_176_8 : mChk 176 8 bk_176_8 25 = true := by decide +kernel
def bk_176_25 : List mO := [(.return_, 0, 0, .null)]
set_option maxRecDepth 100000 in
theorem cb_176_25 : mChk 176 25 bk_176_25 26 = true := by decide +kernel
-- method 177: KeySealerModel.publicOf()V, locals 2, room (4, 91)
def bk_177_0 : List mO := [(.iconst 0, 0, 0, .int 0), (.istore_n 1, 1, 0, .null)]
set_option maxRecDepth 100000 in
theorem cb_177_0 : mChk 177 0 bk_177_0 2 = true := by decide +kernel
def bk_177_2 : List mO := [(.iload_n 1, 1, 0, .null), (.bipush 32, 0, 0, .int 32), (.if_icmp .ge 25, 30, 0, .null)]
set_option maxRecDepth 100000 in
theorem cb_177_2 : mChk 177 2 bk_177_2 8 = true := by decide +kernel
def bk_177_8 : List mO := [(.aload_n 0, 0, 0, .null), (.getfield 85, 9, 28, .null), (.iload_n 1, 1, 0, .null), (.iload_n 1, 1, 0, .null), (.ifCond .ne 8, 22, 0, .null)]
set_option maxRecDepth 100000 in
theorem cb_177_8 : mChk 177 8 bk_177_8 17 = true := by decide +kernel
def bk_177_17 : List mO := [(.bipush 9, 0, 0, .int 9), (.goto 4, 23, 0, .null)]
set_option maxRecDepth 100000 in
theorem cb_177_17 : mChk 177 17 bk_177_17 22 = true := by decide +kernel
def bk_177_22 : List mO := [(.iconst 0, 0, 0, .int 0)]
set_option maxRecDepth 100000 in
theorem cb_177_22 : mChk 177 22 bk_177_22 23 = true := by decide +kernel
def bk_177_23 : List mO := [(.iastore, 0, 0, .null), (.iinc 1 1, 1, 0, .int 1), (.goto (-25), 2, 0, .null)]
set_option maxRecDepth 100000 in
theorem cb_177_23 : mChk 177 23 bk_177_23 30 = true := by decide +kernel
def bk_177_30 : List mO := [(.aload_n 0, 0, 0, .null), (.invokevirtual 309, 173, 0, .ref 9), (.return_, 0, 0, .null)]
set_option maxRecDepth 100000 in
theorem cb_177_30 : mChk 177 30 bk_177_30 35 = true := by decide +kernel
-- method 178: KeySealerModel.isZero()Z, locals 3, room (0, 0)
def bk_178_0 : List mO := [(.iconst 0, 0, 0, .int 0), (.istore_n 1, 1, 0, .null), (.iconst 0, 0, 0, .int 0), (.istore_n 2, 2, 0, .null)]
set_option maxRecDepth 100000 in
theorem cb_178_0 : mChk 178 0 bk_178_0 4 = true := by decide +kernel
def bk_178_4 : List mO := [(.iload_n 2, 2, 0, .null), (.bipush 32, 0, 0, .int 32), (.if_icmp .ge 18, 25, 0, .null)]
set_option maxRecDepth 100000 in
theorem cb_178_4 : mChk 178 4 bk_178_4 10 = true := by decide +kernel
def bk_178_10 : List mO := [(.iload_n 1, 1, 0, .null), (.aload_n 0, 0, 0, .null), (.getfield 88, 9, 29, .null), (.iload_n 2, 2, 0, .null), (.iaload, 0, 0, .null), (.ior, 0, 0, .null), (.istore_n 1, 1, 0, .null), (.iinc 2 1, 2, 0, .int 1), (.goto (-18), 4, 0, .null)]
set_option maxRecDepth 100000 in
theorem cb_178_10 : mChk 178 10 bk_178_10 25 = true := by decide +kernel
def bk_178_25 : List mO := [(.iload_n 1, 1, 0, .null), (.ifCond .ne 7, 33, 0, .null)]
set_option maxRecDepth 100000 in
theorem cb_178_25 : mChk 178 25 bk_178_25 29 = true := by decide +kernel
def bk_178_29 : List mO := [(.iconst 1, 0, 0, .int 1), (.goto 4, 34, 0, .null)]
set_option maxRecDepth 100000 in
theorem cb_178_29 : mChk 178 29 bk_178_29 33 = true := by decide +kernel
def bk_178_33 : List mO := [(.iconst 0, 0, 0, .int 0)]
set_option maxRecDepth 100000 in
theorem cb_178_33 : mChk 178 33 bk_178_33 34 = true := by decide +kernel
def bk_178_34 : List mO := [(.ireturn, 0, 0, .int 1)]
set_option maxRecDepth 100000 in
theorem cb_178_34 : mChk 178 34 bk_178_34 35 = true := by decide +kernel
-- method 179: KeySealerModel.isKey(I)Z, locals 2, room (1, 20)
def bk_179_0 : List mO := [(.iload_n 1, 1, 0, .null), (.invokestatic 184, 137, 1, .null), (.ifCond .eq 18, 22, 0, .null)]
set_option maxRecDepth 100000 in
theorem cb_179_0 : mChk 179 0 bk_179_0 7 = true := by decide +kernel
def bk_179_7 : List mO := [(.aload_n 0, 0, 0, .null), (.getfield 13, 9, 1, .null), (.iload_n 1, 1, 0, .null), (.iaload, 0, 0, .null), (.bipush 32, 0, 0, .int 32), (.if_icmp .ne 7, 22, 0, .null)]
set_option maxRecDepth 100000 in
theorem cb_179_7 : mChk 179 7 bk_179_7 18 = true := by decide +kernel
def bk_179_18 : List mO := [(.iconst 1, 0, 0, .int 1), (.goto 4, 23, 0, .null)]
set_option maxRecDepth 100000 in
theorem cb_179_18 : mChk 179 18 bk_179_18 22 = true := by decide +kernel
def bk_179_22 : List mO := [(.iconst 0, 0, 0, .int 0)]
set_option maxRecDepth 100000 in
theorem cb_179_22 : mChk 179 22 bk_179_22 23 = true := by decide +kernel
def bk_179_23 : List mO := [(.ireturn, 0, 0, .int 1)]
set_option maxRecDepth 100000 in
theorem cb_179_23 : mChk 179 23 bk_179_23 24 = true := by decide +kernel
-- method 180: KeySealerModel.giveKey(I)I, locals 3, room (1, 23)
def bk_180_0 : List mO := [(.iconst 0, 0, 0, .int 0), (.istore_n 2, 2, 0, .null)]
set_option maxRecDepth 100000 in
theorem cb_180_0 : mChk 180 0 bk_180_0 2 = true := by decide +kernel
def bk_180_2 : List mO := [(.iload_n 2, 2, 0, .null), (.bipush 32, 0, 0, .int 32), (.if_icmp .ge 21, 26, 0, .null)]
set_option maxRecDepth 100000 in
theorem cb_180_2 : mChk 180 2 bk_180_2 8 = true := by decide +kernel
def bk_180_8 : List mO := [(.aload_n 0, 0, 0, .null), (.getfield 16, 9, 2, .null), (.iload_n 2, 2, 0, .null), (.aload_n 0, 0, 0, .null), (.getfield 88, 9, 29, .null), (.iload_n 2, 2, 0, .null), (.iaload, 0, 0, .null), (.iastore, 0, 0, .null), (.iinc 2 1, 2, 0, .int 1), (.goto (-21), 2, 0, .null)]
set_option maxRecDepth 100000 in
theorem cb_180_8 : mChk 180 8 bk_180_8 26 = true := by decide +kernel
def bk_180_26 : List mO := [(.aload_n 0, 0, 0, .null), (.iload_n 1, 1, 0, .null), (.bipush 32, 0, 0, .int 32), (.invokevirtual 190, 146, 2, .ref 9), (.bipush 32, 0, 0, .int 32), (.ireturn, 0, 0, .int 0)]
set_option maxRecDepth 100000 in
theorem cb_180_26 : mChk 180 26 bk_180_26 36 = true := by decide +kernel
-- method 181: KeySealerModel.agree(III)I, locals 4, room (4, 91)
def bk_181_0 : List mO := [(.iload_n 1, 1, 0, .null), (.invokestatic 184, 137, 1, .null), (.ifCond .eq 19, 23, 0, .null)]
set_option maxRecDepth 100000 in
theorem cb_181_0 : mChk 181 0 bk_181_0 7 = true := by decide +kernel
def bk_181_7 : List mO := [(.aload_n 0, 0, 0, .null), (.iload_n 2, 2, 0, .null), (.invokevirtual 312, 179, 1, .ref 9), (.ifCond .eq 11, 23, 0, .null)]
set_option maxRecDepth 100000 in
theorem cb_181_7 : mChk 181 7 bk_181_7 15 = true := by decide +kernel
def bk_181_15 : List mO := [(.aload_n 0, 0, 0, .null), (.iload_n 3, 3, 0, .null), (.invokevirtual 312, 179, 1, .ref 9), (.ifCond .ne 6, 26, 0, .null)]
set_option maxRecDepth 100000 in
theorem cb_181_15 : mChk 181 15 bk_181_15 23 = true := by decide +kernel
def bk_181_23 : List mO := [(.bipush (-2), 0, 0, .int (-2)), (.ireturn, 0, 0, .int 0)]
set_option maxRecDepth 100000 in
theorem cb_181_23 : mChk 181 23 bk_181_23 26 = true := by decide +kernel
def bk_181_26 : List mO := [(.aload_n 0, 0, 0, .null), (.aload_n 0, 0, 0, .null), (.getfield 7, 9, 0, .null), (.sipush 300, 0, 0, .int 300), (.iload_n 2, 2, 0, .null), (.imul, 0, 0, .null), (.invokevirtual 315, 175, 2, .ref 9), (.aload_n 0, 0, 0, .null), (.aload_n 0, 0, 0, .null), (.getfield 7, 9, 0, .null), (.sipush 300, 0, 0, .int 300), (.iload_n 3, 3, 0, .null), (.imul, 0, 0, .null), (.invokevirtual 319, 176, 2, .ref 9), (.aload_n 0, 0, 0, .null), (.invokevirtual 309, 173, 0, .ref 9), (.aload_n 0, 0, 0, .null), (.invokevirtual 322, 178, 0, .ref 9), (.ifCond .eq 8, 68, 0, .null)]
set_option maxRecDepth 100000 in
theorem cb_181_26 : mChk 181 26 bk_181_26 63 = true := by decide +kernel
def bk_181_63 : List mO := [(.bipush (-11), 0, 0, .int (-11)), (.goto 8, 73, 0, .null)]
set_option maxRecDepth 100000 in
theorem cb_181_63 : mChk 181 63 bk_181_63 68 = true := by decide +kernel
def bk_181_68 : List mO := [(.aload_n 0, 0, 0, .null), (.iload_n 1, 1, 0, .null), (.invokevirtual 326, 180, 1, .ref 9)]
set_option maxRecDepth 100000 in
theorem cb_181_68 : mChk 181 68 bk_181_68 73 = true := by decide +kernel
def bk_181_73 : List mO := [(.ireturn, 0, 0, .int 0)]
set_option maxRecDepth 100000 in
theorem cb_181_73 : mChk 181 73 bk_181_73 74 = true := by decide +kernel
-- method 182: KeySealerModel.open(II)I, locals 3, room (5, 112)
def bk_182_0 : List mO := [(.iload_n 1, 1, 0, .null), (.invokestatic 184, 137, 1, .null), (.ifCond .eq 11, 15, 0, .null)]
set_option maxRecDepth 100000 in
theorem cb_182_0 : mChk 182 0 bk_182_0 7 = true := by decide +kernel
def bk_182_7 : List mO := [(.aload_n 0, 0, 0, .null), (.iload_n 2, 2, 0, .null), (.invokevirtual 312, 179, 1, .ref 9), (.ifCond .ne 6, 18, 0, .null)]
set_option maxRecDepth 100000 in
theorem cb_182_7 : mChk 182 7 bk_182_7 15 = true := by decide +kernel
def bk_182_15 : List mO := [(.bipush (-2), 0, 0, .int (-2)), (.ireturn, 0, 0, .int 0)]
set_option maxRecDepth 100000 in
theorem cb_182_15 : mChk 182 15 bk_182_15 18 = true := by decide +kernel
def bk_182_18 : List mO := [(.aload_n 0, 0, 0, .null), (.aload_n 0, 0, 0, .null), (.getfield 7, 9, 0, .null), (.sipush 300, 0, 0, .int 300), (.iload_n 2, 2, 0, .null), (.imul, 0, 0, .null), (.invokevirtual 315, 175, 2, .ref 9), (.aload_n 0, 0, 0, .null), (.invokevirtual 329, 177, 0, .ref 9), (.aload_n 0, 0, 0, .null), (.iload_n 1, 1, 0, .null), (.invokevirtual 326, 180, 1, .ref 9), (.ireturn, 0, 0, .int 0)]
set_option maxRecDepth 100000 in
theorem cb_182_18 : mChk 182 18 bk_182_18 41 = true := by decide +kernel
-- method 183: KeySealerModel.times256(II)I, locals 5, room (0, 0)
def bk_183_0 : List mO := [(.iconst 0, 0, 0, .int 0), (.istore_n 2, 2, 0, .null), (.iload_n 0, 0, 0, .null), (.istore_n 3, 3, 0, .null), (.iconst 0, 0, 0, .int 0), (.istore 4, 4, 0, .null)]
set_option maxRecDepth 100000 in
theorem cb_183_0 : mChk 183 0 bk_183_0 7 = true := by decide +kernel
def bk_183_7 : List mO := [(.iload 4, 4, 0, .null), (.bipush 8, 0, 0, .int 8), (.if_icmp .ge 45, 56, 0, .null)]
set_option maxRecDepth 100000 in
theorem cb_183_7 : mChk 183 7 bk_183_7 14 = true := by decide +kernel
def bk_183_14 : List mO := [(.iload_n 2, 2, 0, .null), (.iload_n 1, 1, 0, .null), (.iload 4, 4, 0, .null), (.ishr, 0, 0, .null), (.iconst 1, 0, 0, .int 1), (.iand, 0, 0, .null), (.iconst 1, 0, 0, .int 1), (.if_icmp .ne 7, 29, 0, .null)]
set_option maxRecDepth 100000 in
theorem cb_183_14 : mChk 183 14 bk_183_14 25 = true := by decide +kernel
def bk_183_25 : List mO := [(.iload_n 3, 3, 0, .null), (.goto 4, 30, 0, .null)]
set_option maxRecDepth 100000 in
theorem cb_183_25 : mChk 183 25 bk_183_25 29 = true := by decide +kernel
def bk_183_29 : List mO := [(.iconst 0, 0, 0, .int 0)]
set_option maxRecDepth 100000 in
theorem cb_183_29 : mChk 183 29 bk_183_29 30 = true := by decide +kernel
def bk_183_30 : List mO := [(.ixor, 0, 0, .null), (.istore_n 2, 2, 0, .null), (.iload_n 3, 3, 0, .null), (.iconst 1, 0, 0, .int 1), (.ishl, 0, 0, .null), (.iload_n 3, 3, 0, .null), (.bipush 127, 0, 0, .int 127), (.if_icmp .le 9, 47, 0, .null)]
set_option maxRecDepth 100000 in
theorem cb_183_30 : mChk 183 30 bk_183_30 41 = true := by decide +kernel
def bk_183_41 : List mO := [(.sipush 283, 0, 0, .int 283), (.goto 4, 48, 0, .null)]
set_option maxRecDepth 100000 in
theorem cb_183_41 : mChk 183 41 bk_183_41 47 = true := by decide +kernel
def bk_183_47 : List mO := [(.iconst 0, 0, 0, .int 0)]
set_option maxRecDepth 100000 in
theorem cb_183_47 : mChk 183 47 bk_183_47 48 = true := by decide +kernel
def bk_183_48 : List mO := [(.ixor, 0, 0, .null), (.istore_n 3, 3, 0, .null), (.iinc 4 1, 4, 0, .int 1), (.goto (-46), 7, 0, .null)]
set_option maxRecDepth 100000 in
theorem cb_183_48 : mChk 183 48 bk_183_48 56 = true := by decide +kernel
def bk_183_56 : List mO := [(.iload_n 2, 2, 0, .null), (.ireturn, 0, 0, .int 0)]
set_option maxRecDepth 100000 in
theorem cb_183_56 : mChk 183 56 bk_183_56 58 = true := by decide +kernel
-- method 184: KeySealerModel.makeSubs()V, locals 6, room (1, 24)
def bk_184_0 : List mO := [(.iconst 0, 0, 0, .int 0), (.istore_n 1, 1, 0, .null)]
set_option maxRecDepth 100000 in
theorem cb_184_0 : mChk 184 0 bk_184_0 2 = true := by decide +kernel
def bk_184_2 : List mO := [(.iload_n 1, 1, 0, .null), (.sipush 256, 0, 0, .int 256), (.if_icmp .ge 100, 106, 0, .null)]
set_option maxRecDepth 100000 in
theorem cb_184_2 : mChk 184 2 bk_184_2 9 = true := by decide +kernel
def bk_184_9 : List mO := [(.iconst 0, 0, 0, .int 0), (.istore_n 2, 2, 0, .null), (.iconst 1, 0, 0, .int 1), (.istore_n 3, 3, 0, .null)]
set_option maxRecDepth 100000 in
theorem cb_184_9 : mChk 184 9 bk_184_9 13 = true := by decide +kernel
def bk_184_13 : List mO := [(.iload_n 3, 3, 0, .null), (.sipush 256, 0, 0, .int 256), (.if_icmp .ge 24, 41, 0, .null)]
set_option maxRecDepth 100000 in
theorem cb_184_13 : mChk 184 13 bk_184_13 20 = true := by decide +kernel
def bk_184_20 : List mO := [(.iload_n 1, 1, 0, .null), (.iload_n 3, 3, 0, .null), (.invokestatic 332, 183, 2, .null), (.iconst 1, 0, 0, .int 1), (.if_icmp .ne 7, 33, 0, .null)]
set_option maxRecDepth 100000 in
theorem cb_184_20 : mChk 184 20 bk_184_20 29 = true := by decide +kernel
def bk_184_29 : List mO := [(.iload_n 3, 3, 0, .null), (.goto 4, 34, 0, .null)]
set_option maxRecDepth 100000 in
theorem cb_184_29 : mChk 184 29 bk_184_29 33 = true := by decide +kernel
def bk_184_33 : List mO := [(.iload_n 2, 2, 0, .null)]
set_option maxRecDepth 100000 in
theorem cb_184_33 : mChk 184 33 bk_184_33 34 = true := by decide +kernel
def bk_184_34 : List mO := [(.istore_n 2, 2, 0, .null), (.iinc 3 1, 3, 0, .int 1), (.goto (-25), 13, 0, .null)]
set_option maxRecDepth 100000 in
theorem cb_184_34 : mChk 184 34 bk_184_34 41 = true := by decide +kernel
def bk_184_41 : List mO := [(.bipush 99, 0, 0, .int 99), (.istore_n 3, 3, 0, .null), (.iconst 0, 0, 0, .int 0), (.istore 4, 4, 0, .null)]
set_option maxRecDepth 100000 in
theorem cb_184_41 : mChk 184 41 bk_184_41 47 = true := by decide +kernel
def bk_184_47 : List mO := [(.iload 4, 4, 0, .null), (.iconst 5, 0, 0, .int 5), (.if_icmp .ge 43, 93, 0, .null)]
set_option maxRecDepth 100000 in
theorem cb_184_47 : mChk 184 47 bk_184_47 53 = true := by decide +kernel
def bk_184_53 : List mO := [(.iload 4, 4, 0, .null), (.ifCond .ne 7, 62, 0, .null)]
set_option maxRecDepth 100000 in
theorem cb_184_53 : mChk 184 53 bk_184_53 58 = true := by decide +kernel
def bk_184_58 : List mO := [(.iconst 0, 0, 0, .int 0), (.goto 7, 66, 0, .null)]
set_option maxRecDepth 100000 in
theorem cb_184_58 : mChk 184 58 bk_184_58 62 = true := by decide +kernel
def bk_184_62 : List mO := [(.iload 4, 4, 0, .null), (.iconst 3, 0, 0, .int 3), (.iadd, 0, 0, .null)]
set_option maxRecDepth 100000 in
theorem cb_184_62 : mChk 184 62 bk_184_62 66 = true := by decide +kernel
def bk_184_66 : List mO := [(.istore 5, 5, 0, .null), (.iload_n 3, 3, 0, .null), (.iload_n 2, 2, 0, .null), (.iload 5, 5, 0, .null), (.ishr, 0, 0, .null), (.iload_n 2, 2, 0, .null), (.bipush 8, 0, 0, .int 8), (.iload 5, 5, 0, .null), (.isub, 0, 0, .null), (.ishl, 0, 0, .null), (.ior, 0, 0, .null), (.sipush 255, 0, 0, .int 255), (.iand, 0, 0, .null), (.ixor, 0, 0, .null), (.istore_n 3, 3, 0, .null), (.iinc 4 1, 4, 0, .int 1), (.goto (-43), 47, 0, .null)]
set_option maxRecDepth 100000 in
theorem cb_184_66 : mChk 184 66 bk_184_66 93 = true := by decide +kernel
def bk_184_93 : List mO := [(.aload_n 0, 0, 0, .null), (.getfield 91, 9, 30, .null), (.iload_n 1, 1, 0, .null), (.iload_n 3, 3, 0, .null), (.iastore, 0, 0, .null), (.iinc 1 1, 1, 0, .int 1), (.goto (-101), 2, 0, .null)]
set_option maxRecDepth 100000 in
theorem cb_184_93 : mChk 184 93 bk_184_93 106 = true := by decide +kernel
def bk_184_106 : List mO := [(.return_, 0, 0, .null)]
set_option maxRecDepth 100000 in
theorem cb_184_106 : mChk 184 106 bk_184_106 107 = true := by decide +kernel
-- method 185: KeySealerModel.makeRounds(I)V, locals 7, room (1, 24)
def bk_185_0 : List mO := [(.aload_n 0, 0, 0, .null), (.iload_n 1, 1, 0, .null), (.iconst 4, 0, 0, .int 4), (.idiv, 0, 0, .null), (.bipush 6, 0, 0, .int 6), (.iadd, 0, 0, .null), (.putfield 336, 9, 32, .int 0), (.iconst 0, 0, 0, .int 0), (.istore_n 2, 2, 0, .null)]
set_option maxRecDepth 100000 in
theorem cb_185_0 : mChk 185 0 bk_185_0 12 = true := by decide +kernel
def bk_185_12 : List mO := [(.iload_n 2, 2, 0, .null), (.iload_n 1, 1, 0, .null), (.if_icmp .ge 21, 35, 0, .null)]
set_option maxRecDepth 100000 in
theorem cb_185_12 : mChk 185 12 bk_185_12 17 = true := by decide +kernel
def bk_185_17 : List mO := [(.aload_n 0, 0, 0, .null), (.getfield 94, 9, 31, .null), (.iload_n 2, 2, 0, .null), (.aload_n 0, 0, 0, .null), (.getfield 103, 9, 35, .null), (.iload_n 2, 2, 0, .null), (.iaload, 0, 0, .null), (.iastore, 0, 0, .null), (.iinc 2 1, 2, 0, .int 1), (.goto (-20), 12, 0, .null)]
set_option maxRecDepth 100000 in
theorem cb_185_17 : mChk 185 17 bk_185_17 35 = true := by decide +kernel
def bk_185_35 : List mO := [(.iconst 1, 0, 0, .int 1), (.istore_n 2, 2, 0, .null), (.iload_n 1, 1, 0, .null), (.iconst 4, 0, 0, .int 4), (.idiv, 0, 0, .null), (.istore_n 3, 3, 0, .null)]
set_option maxRecDepth 100000 in
theorem cb_185_35 : mChk 185 35 bk_185_35 41 = true := by decide +kernel
def bk_185_41 : List mO := [(.iload_n 3, 3, 0, .null), (.iconst 4, 0, 0, .int 4), (.aload_n 0, 0, 0, .null), (.getfield 336, 9, 32, .null), (.imul, 0, 0, .null), (.iconst 4, 0, 0, .int 4), (.iadd, 0, 0, .null), (.if_icmp .ge 163, 213, 0, .null)]
set_option maxRecDepth 100000 in
theorem cb_185_41 : mChk 185 41 bk_185_41 53 = true := by decide +kernel
def bk_185_53 : List mO := [(.iconst 4, 0, 0, .int 4), (.iload_n 3, 3, 0, .null), (.imul, 0, 0, .null), (.iload_n 1, 1, 0, .null), (.irem, 0, 0, .null), (.ifCond .ne 7, 65, 0, .null)]
set_option maxRecDepth 100000 in
theorem cb_185_53 : mChk 185 53 bk_185_53 61 = true := by decide +kernel
def bk_185_61 : List mO := [(.iconst 1, 0, 0, .int 1), (.goto 4, 66, 0, .null)]
set_option maxRecDepth 100000 in
theorem cb_185_61 : mChk 185 61 bk_185_61 65 = true := by decide +kernel
def bk_185_65 : List mO := [(.iconst 0, 0, 0, .int 0)]
set_option maxRecDepth 100000 in
theorem cb_185_65 : mChk 185 65 bk_185_65 66 = true := by decide +kernel
def bk_185_66 : List mO := [(.istore 4, 4, 0, .null), (.iconst 0, 0, 0, .int 0), (.istore 5, 5, 0, .null)]
set_option maxRecDepth 100000 in
theorem cb_185_66 : mChk 185 66 bk_185_66 71 = true := by decide +kernel
def bk_185_71 : List mO := [(.iload 5, 5, 0, .null), (.iconst 4, 0, 0, .int 4), (.if_icmp .ge 118, 192, 0, .null)]
set_option maxRecDepth 100000 in
theorem cb_185_71 : mChk 185 71 bk_185_71 77 = true := by decide +kernel
def bk_185_77 : List mO := [(.aload_n 0, 0, 0, .null), (.getfield 94, 9, 31, .null), (.iconst 4, 0, 0, .int 4), (.iload_n 3, 3, 0, .null), (.imul, 0, 0, .null), (.iconst 4, 0, 0, .int 4), (.isub, 0, 0, .null), (.iload 4, 4, 0, .null), (.ifCond .eq 12, 100, 0, .null)]
set_option maxRecDepth 100000 in
theorem cb_185_77 : mChk 185 77 bk_185_77 91 = true := by decide +kernel
def bk_185_91 : List mO := [(.iload 5, 5, 0, .null), (.iconst 1, 0, 0, .int 1), (.iadd, 0, 0, .null), (.iconst 4, 0, 0, .int 4), (.irem, 0, 0, .null), (.goto 5, 102, 0, .null)]
set_option maxRecDepth 100000 in
theorem cb_185_91 : mChk 185 91 bk_185_91 100 = true := by decide +kernel
def bk_185_100 : List mO := [(.iload 5, 5, 0, .null)]
set_option maxRecDepth 100000 in
theorem cb_185_100 : mChk 185 100 bk_185_100 102 = true := by decide +kernel
def bk_185_102 : List mO := [(.iadd, 0, 0, .null), (.iaload, 0, 0, .null), (.istore 6, 6, 0, .null), (.iload 4, 4, 0, .null), (.ifCond .ne 17, 125, 0, .null)]
set_option maxRecDepth 100000 in
theorem cb_185_102 : mChk 185 102 bk_185_102 111 = true := by decide +kernel
def bk_185_111 : List mO := [(.iload_n 1, 1, 0, .null), (.bipush 32, 0, 0, .int 32), (.if_icmp .ne 21, 135, 0, .null)]
set_option maxRecDepth 100000 in
theorem cb_185_111 : mChk 185 111 bk_185_111 117 = true := by decide +kernel
def bk_185_117 : List mO := [(.iload_n 3, 3, 0, .null), (.bipush 8, 0, 0, .int 8), (.irem, 0, 0, .null), (.iconst 4, 0, 0, .int 4), (.if_icmp .ne 13, 135, 0, .null)]
set_option maxRecDepth 100000 in
theorem cb_185_117 : mChk 185 117 bk_185_117 125 = true := by decide +kernel
def bk_185_125 : List mO := [(.aload_n 0, 0, 0, .null), (.getfield 91, 9, 30, .null), (.iload 6, 6, 0, .null), (.iaload, 0, 0, .null), (.goto 5, 137, 0, .null)]
set_option maxRecDepth 100000 in
theorem cb_185_125 : mChk 185 125 bk_185_125 135 = true := by decide +kernel
def bk_185_135 : List mO := [(.iload 6, 6, 0, .null)]
set_option maxRecDepth 100000 in
theorem cb_185_135 : mChk 185 135 bk_185_135 137 = true := by decide +kernel
def bk_185_137 : List mO := [(.istore 6, 6, 0, .null), (.iload 6, 6, 0, .null), (.iload 4, 4, 0, .null), (.ifCond .eq 12, 155, 0, .null)]
set_option maxRecDepth 100000 in
theorem cb_185_137 : mChk 185 137 bk_185_137 146 = true := by decide +kernel
def bk_185_146 : List mO := [(.iload 5, 5, 0, .null), (.ifCond .ne 7, 155, 0, .null)]
set_option maxRecDepth 100000 in
theorem cb_185_146 : mChk 185 146 bk_185_146 151 = true := by decide +kernel
def bk_185_151 : List mO := [(.iload_n 2, 2, 0, .null), (.goto 4, 156, 0, .null)]
set_option maxRecDepth 100000 in
theorem cb_185_151 : mChk 185 151 bk_185_151 155 = true := by decide +kernel
def bk_185_155 : List mO := [(.iconst 0, 0, 0, .int 0)]
set_option maxRecDepth 100000 in
theorem cb_185_155 : mChk 185 155 bk_185_155 156 = true := by decide +kernel
def bk_185_156 : List mO := [(.ixor, 0, 0, .null), (.istore 6, 6, 0, .null), (.aload_n 0, 0, 0, .null), (.getfield 94, 9, 31, .null), (.iconst 4, 0, 0, .int 4), (.iload_n 3, 3, 0, .null), (.imul, 0, 0, .null), (.iload 5, 5, 0, .null), (.iadd, 0, 0, .null), (.aload_n 0, 0, 0, .null), (.getfield 94, 9, 31, .null), (.iconst 4, 0, 0, .int 4), (.iload_n 3, 3, 0, .null), (.imul, 0, 0, .null), (.iload_n 1, 1, 0, .null), (.isub, 0, 0, .null), (.iload 5, 5, 0, .null), (.iadd, 0, 0, .null), (.iaload, 0, 0, .null), (.iload 6, 6, 0, .null), (.ixor, 0, 0, .null), (.iastore, 0, 0, .null), (.iinc 5 1, 5, 0, .int 1), (.goto (-118), 71, 0, .null)]
set_option maxRecDepth 100000 in
theorem cb_185_156 : mChk 185 156 bk_185_156 192 = true := by decide +kernel
def bk_185_192 : List mO := [(.iload 4, 4, 0, .null), (.ifCond .eq 11, 205, 0, .null)]
set_option maxRecDepth 100000 in
theorem cb_185_192 : mChk 185 192 bk_185_192 197 = true := by decide +kernel
def bk_185_197 : List mO := [(.iload_n 2, 2, 0, .null), (.iconst 2, 0, 0, .int 2), (.invokestatic 332, 183, 2, .null), (.goto 4, 206, 0, .null)]
set_option maxRecDepth 100000 in
theorem cb_185_197 : mChk 185 197 bk_185_197 205 = true := by decide +kernel
def bk_185_205 : List mO := [(.iload_n 2, 2, 0, .null)]
set_option maxRecDepth 100000 in
theorem cb_185_205 : mChk 185 205 bk_185_205 206 = true := by decide +kernel
def bk_185_206 : List mO := [(.istore_n 2, 2, 0, .null), (.iinc 3 1, 3, 0, .int 1), (.goto (-169), 41, 0, .null)]
set_option maxRecDepth 100000 in
theorem cb_185_206 : mChk 185 206 bk_185_206 213 = true := by decide +kernel
def bk_185_213 : List mO := [(.return_, 0, 0, .null)]
set_option maxRecDepth 100000 in
theorem cb_185_213 : mChk 185 213 bk_185_213 214 = true := by decide +kernel
-- method 186: KeySealerModel.cipher()V, locals 5, room (1, 24)
def bk_186_0 : List mO := [(.iconst 0, 0, 0, .int 0), (.istore_n 1, 1, 0, .null)]
set_option maxRecDepth 100000 in
theorem cb_186_0 : mChk 186 0 bk_186_0 2 = true := by decide +kernel
def bk_186_2 : List mO := [(.iload_n 1, 1, 0, .null), (.bipush 16, 0, 0, .int 16), (.if_icmp .ge 24, 29, 0, .null)]
set_option maxRecDepth 100000 in
theorem cb_186_2 : mChk 186 2 bk_186_2 8 = true := by decide +kernel
def bk_186_8 : List mO := [(.aload_n 0, 0, 0, .null), (.getfield 97, 9, 33, .null), (.iload_n 1, 1, 0, .null), (.dup2, 0, 0, .null), (.iaload, 0, 0, .null), (.aload_n 0, 0, 0, .null), (.getfield 94, 9, 31, .null), (.iload_n 1, 1, 0, .null), (.iaload, 0, 0, .null), (.ixor, 0, 0, .null), (.iastore, 0, 0, .null), (.iinc 1 1, 1, 0, .int 1), (.goto (-24), 2, 0, .null)]
set_option maxRecDepth 100000 in
theorem cb_186_8 : mChk 186 8 bk_186_8 29 = true := by decide +kernel
def bk_186_29 : List mO := [(.iconst 1, 0, 0, .int 1), (.istore_n 1, 1, 0, .null)]
set_option maxRecDepth 100000 in
theorem cb_186_29 : mChk 186 29 bk_186_29 31 = true := by decide +kernel
def bk_186_31 : List mO := [(.iload_n 1, 1, 0, .null), (.aload_n 0, 0, 0, .null), (.getfield 336, 9, 32, .null), (.if_icmp .gt 169, 205, 0, .null)]
set_option maxRecDepth 100000 in
theorem cb_186_31 : mChk 186 31 bk_186_31 39 = true := by decide +kernel
def bk_186_39 : List mO := [(.iconst 0, 0, 0, .int 0), (.istore_n 2, 2, 0, .null)]
set_option maxRecDepth 100000 in
theorem cb_186_39 : mChk 186 39 bk_186_39 41 = true := by decide +kernel
def bk_186_41 : List mO := [(.iload_n 2, 2, 0, .null), (.bipush 16, 0, 0, .int 16), (.if_icmp .ge 35, 79, 0, .null)]
set_option maxRecDepth 100000 in
theorem cb_186_41 : mChk 186 41 bk_186_41 47 = true := by decide +kernel
def bk_186_47 : List mO := [(.aload_n 0, 0, 0, .null), (.getfield 100, 9, 34, .null), (.iload_n 2, 2, 0, .null), (.aload_n 0, 0, 0, .null), (.getfield 91, 9, 30, .null), (.aload_n 0, 0, 0, .null), (.getfield 97, 9, 33, .null), (.iload_n 2, 2, 0, .null), (.iconst 4, 0, 0, .int 4), (.iload_n 2, 2, 0, .null), (.iconst 4, 0, 0, .int 4), (.irem, 0, 0, .null), (.imul, 0, 0, .null), (.iadd, 0, 0, .null), (.bipush 16, 0, 0, .int 16), (.irem, 0, 0, .null), (.iaload, 0, 0, .null), (.iaload, 0, 0, .null), (.iastore, 0, 0, .null), (.iinc 2 1, 2, 0, .int 1), (.goto (-35), 41, 0, .null)]
set_option maxRecDepth 100000 in
theorem cb_186_47 : mChk 186 47 bk_186_47 79 = true := by decide +kernel
def bk_186_79 : List mO := [(.iconst 0, 0, 0, .int 0), (.istore_n 2, 2, 0, .null)]
set_option maxRecDepth 100000 in
theorem cb_186_79 : mChk 186 79 bk_186_79 81 = true := by decide +kernel
def bk_186_81 : List mO := [(.iload_n 2, 2, 0, .null), (.bipush 16, 0, 0, .int 16), (.if_icmp .ge 115, 199, 0, .null)]
set_option maxRecDepth 100000 in
theorem cb_186_81 : mChk 186 81 bk_186_81 87 = true := by decide +kernel
def bk_186_87 : List mO := [(.iconst 0, 0, 0, .int 0), (.istore_n 3, 3, 0, .null)]
set_option maxRecDepth 100000 in
theorem cb_186_87 : mChk 186 87 bk_186_87 89 = true := by decide +kernel
def bk_186_89 : List mO := [(.iload_n 3, 3, 0, .null), (.iconst 4, 0, 0, .int 4), (.if_icmp .ge 102, 193, 0, .null)]
set_option maxRecDepth 100000 in
theorem cb_186_89 : mChk 186 89 bk_186_89 94 = true := by decide +kernel
def bk_186_94 : List mO := [(.aload_n 0, 0, 0, .null), (.getfield 100, 9, 34, .null), (.iload_n 2, 2, 0, .null), (.iload_n 3, 3, 0, .null), (.iadd, 0, 0, .null), (.iaload, 0, 0, .null), (.istore 4, 4, 0, .null), (.iload_n 1, 1, 0, .null), (.aload_n 0, 0, 0, .null), (.getfield 336, 9, 32, .null), (.if_icmp .ge 54, 163, 0, .null)]
set_option maxRecDepth 100000 in
theorem cb_186_94 : mChk 186 94 bk_186_94 112 = true := by decide +kernel
def bk_186_112 : List mO := [(.iload 4, 4, 0, .null), (.iconst 2, 0, 0, .int 2), (.invokestatic 332, 183, 2, .null), (.aload_n 0, 0, 0, .null), (.getfield 100, 9, 34, .null), (.iload_n 2, 2, 0, .null), (.iload_n 3, 3, 0, .null), (.iconst 1, 0, 0, .int 1), (.iadd, 0, 0, .null), (.iconst 4, 0, 0, .int 4), (.irem, 0, 0, .null), (.iadd, 0, 0, .null), (.iaload, 0, 0, .null), (.iconst 3, 0, 0, .int 3), (.invokestatic 332, 183, 2, .null), (.ixor, 0, 0, .null), (.aload_n 0, 0, 0, .null), (.getfield 100, 9, 34, .null), (.iload_n 2, 2, 0, .null), (.iload_n 3, 3, 0, .null), (.iconst 2, 0, 0, .int 2), (.iadd, 0, 0, .null), (.iconst 4, 0, 0, .int 4), (.irem, 0, 0, .null), (.iadd, 0, 0, .null), (.iaload, 0, 0, .null), (.ixor, 0, 0, .null), (.aload_n 0, 0, 0, .null), (.getfield 100, 9, 34, .null), (.iload_n 2, 2, 0, .null), (.iload_n 3, 3, 0, .null), (.iconst 3, 0, 0, .int 3), (.iadd, 0, 0, .null), (.iconst 4, 0, 0, .int 4), (.irem, 0, 0, .null), (.iadd, 0, 0, .null), (.iaload, 0, 0, .null), (.ixor, 0, 0, .null), (.istore 4, 4, 0, .null)]
set_option maxRecDepth 100000 in
theorem cb_186_112 : mChk 186 112 bk_186_112 163 = true := by decide +kernel
def bk_186_163 : List mO := [(.aload_n 0, 0, 0, .null), (.getfield 97, 9, 33, .null), (.iload_n 2, 2, 0, .null), (.iload_n 3, 3, 0, .null), (.iadd, 0, 0, .null), (.iload 4, 4, 0, .null), (.aload_n 0, 0, 0, .null), (.getfield 94, 9, 31, .null), (.bipush 16, 0, 0, .int 16), (.iload_n 1, 1, 0, .null), (.imul, 0, 0, .null), (.iload_n 2, 2, 0, .null), (.iadd, 0, 0, .null), (.iload_n 3, 3, 0, .null), (.iadd, 0, 0, .null), (.iaload, 0, 0, .null), (.ixor, 0, 0, .null), (.iastore, 0, 0, .null), (.iinc 3 1, 3, 0, .int 1), (.goto (-101), 89, 0, .null)]
set_option maxRecDepth 100000 in
theorem cb_186_163 : mChk 186 163 bk_186_163 193 = true := by decide +kernel
def bk_186_193 : List mO := [(.iinc 2 4, 2, 0, .int 4), (.goto (-115), 81, 0, .null)]
set_option maxRecDepth 100000 in
theorem cb_186_193 : mChk 186 193 bk_186_193 199 = true := by decide +kernel
def bk_186_199 : List mO := [(.iinc 1 1, 1, 0, .int 1), (.goto (-171), 31, 0, .null)]
set_option maxRecDepth 100000 in
theorem cb_186_199 : mChk 186 199 bk_186_199 205 = true := by decide +kernel
def bk_186_205 : List mO := [(.return_, 0, 0, .null)]
set_option maxRecDepth 100000 in
theorem cb_186_205 : mChk 186 205 bk_186_205 206 = true := by decide +kernel
-- method 187: KeySealerModel.counter(I)V, locals 3, room (2, 48)
def bk_187_0 : List mO := [(.iconst 0, 0, 0, .int 0), (.istore_n 2, 2, 0, .null)]
set_option maxRecDepth 100000 in
theorem cb_187_0 : mChk 187 0 bk_187_0 2 = true := by decide +kernel
def bk_187_2 : List mO := [(.iload_n 2, 2, 0, .null), (.bipush 12, 0, 0, .int 12), (.if_icmp .ge 21, 26, 0, .null)]
set_option maxRecDepth 100000 in
theorem cb_187_2 : mChk 187 2 bk_187_2 8 = true := by decide +kernel
def bk_187_8 : List mO := [(.aload_n 0, 0, 0, .null), (.getfield 97, 9, 33, .null), (.iload_n 2, 2, 0, .null), (.aload_n 0, 0, 0, .null), (.getfield 106, 9, 36, .null), (.iload_n 2, 2, 0, .null), (.iaload, 0, 0, .null), (.iastore, 0, 0, .null), (.iinc 2 1, 2, 0, .int 1), (.goto (-21), 2, 0, .null)]
set_option maxRecDepth 100000 in
theorem cb_187_8 : mChk 187 8 bk_187_8 26 = true := by decide +kernel
def bk_187_26 : List mO := [(.bipush 12, 0, 0, .int 12), (.istore_n 2, 2, 0, .null)]
set_option maxRecDepth 100000 in
theorem cb_187_26 : mChk 187 26 bk_187_26 29 = true := by decide +kernel
def bk_187_29 : List mO := [(.iload_n 2, 2, 0, .null), (.bipush 16, 0, 0, .int 16), (.if_icmp .ge 28, 60, 0, .null)]
set_option maxRecDepth 100000 in
theorem cb_187_29 : mChk 187 29 bk_187_29 35 = true := by decide +kernel
def bk_187_35 : List mO := [(.aload_n 0, 0, 0, .null), (.getfield 97, 9, 33, .null), (.iload_n 2, 2, 0, .null), (.iload_n 1, 1, 0, .null), (.bipush 8, 0, 0, .int 8), (.bipush 15, 0, 0, .int 15), (.iload_n 2, 2, 0, .null), (.isub, 0, 0, .null), (.imul, 0, 0, .null), (.ishr, 0, 0, .null), (.sipush 255, 0, 0, .int 255), (.iand, 0, 0, .null), (.iastore, 0, 0, .null), (.iinc 2 1, 2, 0, .int 1), (.goto (-28), 29, 0, .null)]
set_option maxRecDepth 100000 in
theorem cb_187_35 : mChk 187 35 bk_187_35 60 = true := by decide +kernel
def bk_187_60 : List mO := [(.aload_n 0, 0, 0, .null), (.invokevirtual 339, 186, 0, .ref 9), (.return_, 0, 0, .null)]
set_option maxRecDepth 100000 in
theorem cb_187_60 : mChk 187 60 bk_187_60 65 = true := by decide +kernel
-- method 188: KeySealerModel.eight([II)J, locals 5, room (0, 0)
def bk_188_0 : List mO := [(.lconst 0, 0, 0, .long 0), (.lstore_n 2, 2, 0, .null), (.iconst 0, 0, 0, .int 0), (.istore 4, 4, 0, .null)]
set_option maxRecDepth 100000 in
theorem cb_188_0 : mChk 188 0 bk_188_0 5 = true := by decide +kernel
def bk_188_5 : List mO := [(.iload 4, 4, 0, .null), (.bipush 8, 0, 0, .int 8), (.if_icmp .ge 22, 31, 0, .null)]
set_option maxRecDepth 100000 in
theorem cb_188_5 : mChk 188 5 bk_188_5 12 = true := by decide +kernel
def bk_188_12 : List mO := [(.lload_n 2, 2, 0, .null), (.bipush 8, 0, 0, .int 8), (.lshl, 0, 0, .null), (.aload_n 0, 0, 0, .null), (.iload_n 1, 1, 0, .null), (.iload 4, 4, 0, .null), (.iadd, 0, 0, .null), (.iaload, 0, 0, .null), (.i2l, 0, 0, .null), (.lor, 0, 0, .null), (.lstore_n 2, 2, 0, .null), (.iinc 4 1, 4, 0, .int 1), (.goto (-23), 5, 0, .null)]
set_option maxRecDepth 100000 in
theorem cb_188_12 : mChk 188 12 bk_188_12 31 = true := by decide +kernel
def bk_188_31 : List mO := [(.lload_n 2, 2, 0, .null), (.lreturn, 0, 0, .null)]
set_option maxRecDepth 100000 in
theorem cb_188_31 : mChk 188 31 bk_188_31 33 = true := by decide +kernel
-- method 189: KeySealerModel.gather(JJ)V, locals 17, room (0, 0)
def bk_189_0 : List mO := [(.aload_n 0, 0, 0, .null), (.getfield 342, 9, 44, .null), (.lload_n 1, 1, 0, .null), (.lxor, 0, 0, .null), (.lstore 5, 5, 0, .null), (.aload_n 0, 0, 0, .null), (.getfield 346, 9, 45, .null), (.lload_n 3, 3, 0, .null), (.lxor, 0, 0, .null), (.lstore 7, 7, 0, .null), (.aload_n 0, 0, 0, .null), (.getfield 349, 9, 42, .null), (.lstore 9, 9, 0, .null), (.aload_n 0, 0, 0, .null), (.getfield 352, 9, 43, .null), (.lstore 11, 11, 0, .null), (.aload_n 0, 0, 0, .null), (.lconst 0, 0, 0, .long 0), (.putfield 342, 9, 44, .long 0), (.aload_n 0, 0, 0, .null), (.lconst 0, 0, 0, .long 0), (.putfield 346, 9, 45, .long 0), (.iconst 0, 0, 0, .int 0), (.istore 13, 13, 0, .null)]
set_option maxRecDepth 100000 in
theorem cb_189_0 : mChk 189 0 bk_189_0 41 = true := by decide +kernel
def bk_189_41 : List mO := [(.iload 13, 13, 0, .null), (.sipush 128, 0, 0, .int 128), (.if_icmp .ge 117, 163, 0, .null)]
set_option maxRecDepth 100000 in
theorem cb_189_41 : mChk 189 41 bk_189_41 49 = true := by decide +kernel
def bk_189_49 : List mO := [(.iload 13, 13, 0, .null), (.bipush 64, 0, 0, .int 64), (.if_icmp .ge 16, 69, 0, .null)]
set_option maxRecDepth 100000 in
theorem cb_189_49 : mChk 189 49 bk_189_49 56 = true := by decide +kernel
def bk_189_56 : List mO := [(.lload 5, 5, 0, .null), (.bipush 63, 0, 0, .int 63), (.iload 13, 13, 0, .null), (.isub, 0, 0, .null), (.lushr, 0, 0, .null), (.lconst 1, 0, 0, .long 1), (.land, 0, 0, .null), (.goto 13, 79, 0, .null)]
set_option maxRecDepth 100000 in
theorem cb_189_56 : mChk 189 56 bk_189_56 69 = true := by decide +kernel
def bk_189_69 : List mO := [(.lload 7, 7, 0, .null), (.bipush 127, 0, 0, .int 127), (.iload 13, 13, 0, .null), (.isub, 0, 0, .null), (.lushr, 0, 0, .null), (.lconst 1, 0, 0, .long 1), (.land, 0, 0, .null)]
set_option maxRecDepth 100000 in
theorem cb_189_69 : mChk 189 69 bk_189_69 79 = true := by decide +kernel
def bk_189_79 : List mO := [(.lstore 14, 14, 0, .null), (.lload 14, 14, 0, .null), (.lconst 1, 0, 0, .long 1), (.lcmp, 0, 0, .null), (.ifCond .ne 25, 110, 0, .null)]
set_option maxRecDepth 100000 in
theorem cb_189_79 : mChk 189 79 bk_189_79 88 = true := by decide +kernel
def bk_189_88 : List mO := [(.aload_n 0, 0, 0, .null), (.dup, 0, 0, .null), (.getfield 342, 9, 44, .null), (.lload 9, 9, 0, .null), (.lxor, 0, 0, .null), (.putfield 342, 9, 44, .long 0), (.aload_n 0, 0, 0, .null), (.dup, 0, 0, .null), (.getfield 346, 9, 45, .null), (.lload 11, 11, 0, .null), (.lxor, 0, 0, .null), (.putfield 346, 9, 45, .long 0)]
set_option maxRecDepth 100000 in
theorem cb_189_88 : mChk 189 88 bk_189_88 110 = true := by decide +kernel
def bk_189_110 : List mO := [(.lload 11, 11, 0, .null), (.lconst 1, 0, 0, .long 1), (.land, 0, 0, .null), (.lconst 1, 0, 0, .long 1), (.lcmp, 0, 0, .null), (.ifCond .ne 7, 123, 0, .null)]
set_option maxRecDepth 100000 in
theorem cb_189_110 : mChk 189 110 bk_189_110 119 = true := by decide +kernel
def bk_189_119 : List mO := [(.iconst 1, 0, 0, .int 1), (.goto 4, 124, 0, .null)]
set_option maxRecDepth 100000 in
theorem cb_189_119 : mChk 189 119 bk_189_119 123 = true := by decide +kernel
def bk_189_123 : List mO := [(.iconst 0, 0, 0, .int 0)]
set_option maxRecDepth 100000 in
theorem cb_189_123 : mChk 189 123 bk_189_123 124 = true := by decide +kernel
def bk_189_124 : List mO := [(.istore 16, 16, 0, .null), (.lload 11, 11, 0, .null), (.iconst 1, 0, 0, .int 1), (.lushr, 0, 0, .null), (.lload 9, 9, 0, .null), (.bipush 63, 0, 0, .int 63), (.lshl, 0, 0, .null), (.lor, 0, 0, .null), (.lstore 11, 11, 0, .null), (.lload 9, 9, 0, .null), (.iconst 1, 0, 0, .int 1), (.lushr, 0, 0, .null), (.iload 16, 16, 0, .null), (.ifCond .eq 9, 153, 0, .null)]
set_option maxRecDepth 100000 in
theorem cb_189_124 : mChk 189 124 bk_189_124 147 = true := by decide +kernel
def bk_189_147 : List mO := [(.ldc2_w 355, 0, 0, .long (-2233785415175766016)), (.goto 4, 154, 0, .null)]
set_option maxRecDepth 100000 in
theorem cb_189_147 : mChk 189 147 bk_189_147 153 = true := by decide +kernel
def bk_189_153 : List mO := [(.lconst 0, 0, 0, .long 0)]
set_option maxRecDepth 100000 in
theorem cb_189_153 : mChk 189 153 bk_189_153 154 = true := by decide +kernel
def bk_189_154 : List mO := [(.lxor, 0, 0, .null), (.lstore 9, 9, 0, .null), (.iinc 13 1, 13, 0, .int 1), (.goto (-119), 41, 0, .null)]
set_option maxRecDepth 100000 in
theorem cb_189_154 : mChk 189 154 bk_189_154 163 = true := by decide +kernel
def bk_189_163 : List mO := [(.return_, 0, 0, .null)]
set_option maxRecDepth 100000 in
theorem cb_189_163 : mChk 189 163 bk_189_163 164 = true := by decide +kernel

/-! PART 54.04: blocks of code and their checks, printed by program (wip/whole/mk13.py) -/
-- method 223: KeySealerModel.isSuite(IIII)Z, locals 4, room (1, 20)
def bk_223_0 : List mO := [(.iload_n 0, 0, 0, .null), (.invokestatic 518, 222, 1, .null), (.ifCond .eq 43, 47, 0, .null)]
set_option maxRecDepth 100000 in
theorem cb_223_0 : mChk 223 0 bk_223_0 7 = true := by decide +kernel
def bk_223_7 : List mO := [(.iload_n 1, 1, 0, .null), (.ifCond .lt 39, 47, 0, .null)]
set_option maxRecDepth 100000 in
theorem cb_223_7 : mChk 223 7 bk_223_7 11 = true := by decide +kernel
def bk_223_11 : List mO := [(.iload_n 1, 1, 0, .null), (.iconst 4, 0, 0, .int 4), (.if_icmp .ge 34, 47, 0, .null)]
set_option maxRecDepth 100000 in
theorem cb_223_11 : mChk 223 11 bk_223_11 16 = true := by decide +kernel
def bk_223_16 : List mO := [(.iload_n 2, 2, 0, .null), (.iconst 1, 0, 0, .int 1), (.if_icmp .eq 8, 26, 0, .null)]
set_option maxRecDepth 100000 in
theorem cb_223_16 : mChk 223 16 bk_223_16 21 = true := by decide +kernel
def bk_223_21 : List mO := [(.iload_n 2, 2, 0, .null), (.iconst 3, 0, 0, .int 3), (.if_icmp .ne 24, 47, 0, .null)]
set_option maxRecDepth 100000 in
theorem cb_223_21 : mChk 223 21 bk_223_21 26 = true := by decide +kernel
def bk_223_26 : List mO := [(.iload_n 3, 3, 0, .null), (.iconst 1, 0, 0, .int 1), (.if_icmp .lt 8, 36, 0, .null)]
set_option maxRecDepth 100000 in
theorem cb_223_26 : mChk 223 26 bk_223_26 31 = true := by decide +kernel
def bk_223_31 : List mO := [(.iload_n 3, 3, 0, .null), (.iconst 3, 0, 0, .int 3), (.if_icmp .le 10, 43, 0, .null)]
set_option maxRecDepth 100000 in
theorem cb_223_31 : mChk 223 31 bk_223_31 36 = true := by decide +kernel
def bk_223_36 : List mO := [(.iload_n 3, 3, 0, .null), (.sipush 255, 0, 0, .int 255), (.if_icmp .ne 7, 47, 0, .null)]
set_option maxRecDepth 100000 in
theorem cb_223_36 : mChk 223 36 bk_223_36 43 = true := by decide +kernel
def bk_223_43 : List mO := [(.iconst 1, 0, 0, .int 1), (.goto 4, 48, 0, .null)]
set_option maxRecDepth 100000 in
theorem cb_223_43 : mChk 223 43 bk_223_43 47 = true := by decide +kernel
def bk_223_47 : List mO := [(.iconst 0, 0, 0, .int 0)]
set_option maxRecDepth 100000 in
theorem cb_223_47 : mChk 223 47 bk_223_47 48 = true := by decide +kernel
def bk_223_48 : List mO := [(.ireturn, 0, 0, .int 1)]
set_option maxRecDepth 100000 in
theorem cb_223_48 : mChk 223 48 bk_223_48 49 = true := by decide +kernel
-- method 224: KeySealerModel.areShared(I)Z, locals 3, room (1, 21)
def bk_224_0 : List mO := [(.iload_n 1, 1, 0, .null), (.iconst 1, 0, 0, .int 1), (.if_icmp .eq 8, 10, 0, .null)]
set_option maxRecDepth 100000 in
theorem cb_224_0 : mChk 224 0 bk_224_0 5 = true := by decide +kernel
def bk_224_5 : List mO := [(.iload_n 1, 1, 0, .null), (.iconst 3, 0, 0, .int 3), (.if_icmp .ne 7, 14, 0, .null)]
set_option maxRecDepth 100000 in
theorem cb_224_5 : mChk 224 5 bk_224_5 10 = true := by decide +kernel
def bk_224_10 : List mO := [(.iconst 1, 0, 0, .int 1), (.goto 4, 15, 0, .null)]
set_option maxRecDepth 100000 in
theorem cb_224_10 : mChk 224 10 bk_224_10 14 = true := by decide +kernel
def bk_224_14 : List mO := [(.iconst 0, 0, 0, .int 0)]
set_option maxRecDepth 100000 in
theorem cb_224_14 : mChk 224 14 bk_224_14 15 = true := by decide +kernel
def bk_224_15 : List mO := [(.istore_n 2, 2, 0, .null), (.aload_n 0, 0, 0, .null), (.iconst 1, 0, 0, .int 1), (.invokevirtual 521, 215, 1, .ref 9), (.ifCond .le 7, 28, 0, .null)]
set_option maxRecDepth 100000 in
theorem cb_224_15 : mChk 224 15 bk_224_15 24 = true := by decide +kernel
def bk_224_24 : List mO := [(.iconst 1, 0, 0, .int 1), (.goto 4, 29, 0, .null)]
set_option maxRecDepth 100000 in
theorem cb_224_24 : mChk 224 24 bk_224_24 28 = true := by decide +kernel
def bk_224_28 : List mO := [(.iconst 0, 0, 0, .int 0)]
set_option maxRecDepth 100000 in
theorem cb_224_28 : mChk 224 28 bk_224_28 29 = true := by decide +kernel
def bk_224_29 : List mO := [(.iload_n 2, 2, 0, .null), (.if_icmp .ne 24, 54, 0, .null)]
set_option maxRecDepth 100000 in
theorem cb_224_29 : mChk 224 29 bk_224_29 33 = true := by decide +kernel
def bk_224_33 : List mO := [(.aload_n 0, 0, 0, .null), (.iconst 2, 0, 0, .int 2), (.invokevirtual 521, 215, 1, .ref 9), (.ifCond .le 7, 45, 0, .null)]
set_option maxRecDepth 100000 in
theorem cb_224_33 : mChk 224 33 bk_224_33 41 = true := by decide +kernel
def bk_224_41 : List mO := [(.iconst 1, 0, 0, .int 1), (.goto 4, 46, 0, .null)]
set_option maxRecDepth 100000 in
theorem cb_224_41 : mChk 224 41 bk_224_41 45 = true := by decide +kernel
def bk_224_45 : List mO := [(.iconst 0, 0, 0, .int 0)]
set_option maxRecDepth 100000 in
theorem cb_224_45 : mChk 224 45 bk_224_45 46 = true := by decide +kernel
def bk_224_46 : List mO := [(.iload_n 2, 2, 0, .null), (.if_icmp .ne 7, 54, 0, .null)]
set_option maxRecDepth 100000 in
theorem cb_224_46 : mChk 224 46 bk_224_46 50 = true := by decide +kernel
def bk_224_50 : List mO := [(.iconst 1, 0, 0, .int 1), (.goto 4, 55, 0, .null)]
set_option maxRecDepth 100000 in
theorem cb_224_50 : mChk 224 50 bk_224_50 54 = true := by decide +kernel
def bk_224_54 : List mO := [(.iconst 0, 0, 0, .int 0)]
set_option maxRecDepth 100000 in
theorem cb_224_54 : mChk 224 54 bk_224_54 55 = true := by decide +kernel
def bk_224_55 : List mO := [(.ireturn, 0, 0, .int 1)]
set_option maxRecDepth 100000 in
theorem cb_224_55 : mChk 224 55 bk_224_55 56 = true := by decide +kernel
-- method 225: KeySealerModel.sender(IIIIIII)I, locals 10, room (9, 249)
def bk_225_0 : List mO := [(.iload_n 1, 1, 0, .null), (.iload_n 2, 2, 0, .null), (.iload_n 3, 3, 0, .null), (.iload 4, 4, 0, .null), (.invokestatic 524, 223, 4, .null), (.ifCond .eq 44, 52, 0, .null)]
set_option maxRecDepth 100000 in
theorem cb_225_0 : mChk 225 0 bk_225_0 11 = true := by decide +kernel
def bk_225_11 : List mO := [(.iload 5, 5, 0, .null), (.invokestatic 184, 137, 1, .null), (.ifCond .eq 36, 52, 0, .null)]
set_option maxRecDepth 100000 in
theorem cb_225_11 : mChk 225 11 bk_225_11 19 = true := by decide +kernel
def bk_225_19 : List mO := [(.aload_n 0, 0, 0, .null), (.iload 6, 6, 0, .null), (.invokevirtual 312, 179, 1, .ref 9), (.ifCond .eq 27, 52, 0, .null)]
set_option maxRecDepth 100000 in
theorem cb_225_19 : mChk 225 19 bk_225_19 28 = true := by decide +kernel
def bk_225_28 : List mO := [(.aload_n 0, 0, 0, .null), (.iload 7, 7, 0, .null), (.invokevirtual 312, 179, 1, .ref 9), (.ifCond .eq 18, 52, 0, .null)]
set_option maxRecDepth 100000 in
theorem cb_225_28 : mChk 225 28 bk_225_28 37 = true := by decide +kernel
def bk_225_37 : List mO := [(.iload_n 2, 2, 0, .null), (.iconst 1, 0, 0, .int 1), (.if_icmp .le 16, 55, 0, .null)]
set_option maxRecDepth 100000 in
theorem cb_225_37 : mChk 225 37 bk_225_37 42 = true := by decide +kernel
def bk_225_42 : List mO := [(.aload_n 0, 0, 0, .null), (.iconst 3, 0, 0, .int 3), (.invokevirtual 521, 215, 1, .ref 9), (.bipush 32, 0, 0, .int 32), (.if_icmp .eq 6, 55, 0, .null)]
set_option maxRecDepth 100000 in
theorem cb_225_42 : mChk 225 42 bk_225_42 52 = true := by decide +kernel
def bk_225_52 : List mO := [(.bipush (-2), 0, 0, .int (-2)), (.ireturn, 0, 0, .int 0)]
set_option maxRecDepth 100000 in
theorem cb_225_52 : mChk 225 52 bk_225_52 55 = true := by decide +kernel
def bk_225_55 : List mO := [(.aload_n 0, 0, 0, .null), (.iload_n 2, 2, 0, .null), (.invokevirtual 528, 224, 1, .ref 9), (.ifCond .ne 6, 66, 0, .null)]
set_option maxRecDepth 100000 in
theorem cb_225_55 : mChk 225 55 bk_225_55 63 = true := by decide +kernel
def bk_225_63 : List mO := [(.bipush (-12), 0, 0, .int (-12)), (.ireturn, 0, 0, .int 0)]
set_option maxRecDepth 100000 in
theorem cb_225_63 : mChk 225 63 bk_225_63 66 = true := by decide +kernel
def bk_225_66 : List mO := [(.aload_n 0, 0, 0, .null), (.iconst 0, 0, 0, .int 0), (.putfield 472, 9, 57, .int 0), (.aload_n 0, 0, 0, .null), (.iconst 0, 0, 0, .int 0), (.putfield 475, 9, 59, .int 0), (.aload_n 0, 0, 0, .null), (.aload_n 0, 0, 0, .null), (.getfield 7, 9, 0, .null), (.sipush 300, 0, 0, .int 300), (.iload 6, 6, 0, .null), (.imul, 0, 0, .null), (.invokevirtual 315, 175, 2, .ref 9), (.aload_n 0, 0, 0, .null), (.invokevirtual 329, 177, 0, .ref 9), (.aload_n 0, 0, 0, .null), (.aload_n 0, 0, 0, .null), (.getfield 88, 9, 29, .null), (.iconst 0, 0, 0, .int 0), (.invokevirtual 531, 217, 2, .ref 9), (.aload_n 0, 0, 0, .null), (.aload_n 0, 0, 0, .null), (.getfield 7, 9, 0, .null), (.sipush 300, 0, 0, .int 300), (.iload 7, 7, 0, .null), (.imul, 0, 0, .null), (.invokevirtual 531, 217, 2, .ref 9), (.aload_n 0, 0, 0, .null), (.aload_n 0, 0, 0, .null), (.getfield 7, 9, 0, .null), (.sipush 300, 0, 0, .int 300), (.iload 7, 7, 0, .null), (.imul, 0, 0, .null), (.invokevirtual 319, 176, 2, .ref 9), (.aload_n 0, 0, 0, .null), (.invokevirtual 534, 216, 0, .ref 9), (.istore 8, 8, 0, .null), (.iload_n 2, 2, 0, .null), (.iconst 1, 0, 0, .int 1), (.if_icmp .le 53, 192, 0, .null)]
set_option maxRecDepth 100000 in
theorem cb_225_66 : mChk 225 66 bk_225_66 142 = true := by decide +kernel
def bk_225_142 : List mO := [(.aload_n 0, 0, 0, .null), (.aload_n 0, 0, 0, .null), (.getfield 7, 9, 0, .null), (.sipush 300, 0, 0, .int 300), (.aload_n 0, 0, 0, .null), (.getfield 142, 9, 55, .null), (.iconst 3, 0, 0, .int 3), (.iaload, 0, 0, .null), (.imul, 0, 0, .null), (.invokevirtual 315, 175, 2, .ref 9), (.aload_n 0, 0, 0, .null), (.invokevirtual 534, 216, 0, .ref 9), (.ifCond .eq 12, 176, 0, .null)]
set_option maxRecDepth 100000 in
theorem cb_225_142 : mChk 225 142 bk_225_142 167 = true := by decide +kernel
def bk_225_167 : List mO := [(.iload 8, 8, 0, .null), (.ifCond .eq 7, 176, 0, .null)]
set_option maxRecDepth 100000 in
theorem cb_225_167 : mChk 225 167 bk_225_167 172 = true := by decide +kernel
def bk_225_172 : List mO := [(.iconst 1, 0, 0, .int 1), (.goto 4, 177, 0, .null)]
set_option maxRecDepth 100000 in
theorem cb_225_172 : mChk 225 172 bk_225_172 176 = true := by decide +kernel
def bk_225_176 : List mO := [(.iconst 0, 0, 0, .int 0)]
set_option maxRecDepth 100000 in
theorem cb_225_176 : mChk 225 176 bk_225_176 177 = true := by decide +kernel
def bk_225_177 : List mO := [(.istore 8, 8, 0, .null), (.aload_n 0, 0, 0, .null), (.invokevirtual 329, 177, 0, .ref 9), (.aload_n 0, 0, 0, .null), (.aload_n 0, 0, 0, .null), (.getfield 88, 9, 29, .null), (.iconst 0, 0, 0, .int 0), (.invokevirtual 531, 217, 2, .ref 9)]
set_option maxRecDepth 100000 in
theorem cb_225_177 : mChk 225 177 bk_225_177 192 = true := by decide +kernel
def bk_225_192 : List mO := [(.iload 8, 8, 0, .null), (.ifCond .ne 6, 200, 0, .null)]
set_option maxRecDepth 100000 in
theorem cb_225_192 : mChk 225 192 bk_225_192 197 = true := by decide +kernel
def bk_225_197 : List mO := [(.bipush (-11), 0, 0, .int (-11)), (.ireturn, 0, 0, .int 0)]
set_option maxRecDepth 100000 in
theorem cb_225_197 : mChk 225 197 bk_225_197 200 = true := by decide +kernel
def bk_225_200 : List mO := [(.aload_n 0, 0, 0, .null), (.iload_n 1, 1, 0, .null), (.iconst 1, 0, 0, .int 1), (.iload_n 2, 2, 0, .null), (.iload_n 3, 3, 0, .null), (.iload 4, 4, 0, .null), (.invokevirtual 537, 219, 5, .ref 9), (.iconst 0, 0, 0, .int 0), (.istore 9, 9, 0, .null)]
set_option maxRecDepth 100000 in
theorem cb_225_200 : mChk 225 200 bk_225_200 213 = true := by decide +kernel
def bk_225_213 : List mO := [(.iload 9, 9, 0, .null), (.bipush 32, 0, 0, .int 32), (.if_icmp .ge 23, 240, 0, .null)]
set_option maxRecDepth 100000 in
theorem cb_225_213 : mChk 225 213 bk_225_213 220 = true := by decide +kernel
def bk_225_220 : List mO := [(.aload_n 0, 0, 0, .null), (.getfield 16, 9, 2, .null), (.iload 9, 9, 0, .null), (.aload_n 0, 0, 0, .null), (.getfield 148, 9, 58, .null), (.iload 9, 9, 0, .null), (.iaload, 0, 0, .null), (.iastore, 0, 0, .null), (.iinc 9 1, 9, 0, .int 1), (.goto (-24), 213, 0, .null)]
set_option maxRecDepth 100000 in
theorem cb_225_220 : mChk 225 220 bk_225_220 240 = true := by decide +kernel
def bk_225_240 : List mO := [(.aload_n 0, 0, 0, .null), (.iload 5, 5, 0, .null), (.bipush 32, 0, 0, .int 32), (.invokevirtual 190, 146, 2, .ref 9), (.bipush 32, 0, 0, .int 32), (.ireturn, 0, 0, .int 0)]
set_option maxRecDepth 100000 in
theorem cb_225_240 : mChk 225 240 bk_225_240 251 = true := by decide +kernel
-- method 226: KeySealerModel.receiver(IIIIII)I, locals 8, room (9, 249)
def bk_226_0 : List mO := [(.iload_n 1, 1, 0, .null), (.iload_n 2, 2, 0, .null), (.iload_n 3, 3, 0, .null), (.iload 4, 4, 0, .null), (.invokestatic 524, 223, 4, .null), (.ifCond .eq 36, 44, 0, .null)]
set_option maxRecDepth 100000 in
theorem cb_226_0 : mChk 226 0 bk_226_0 11 = true := by decide +kernel
def bk_226_11 : List mO := [(.aload_n 0, 0, 0, .null), (.iload 5, 5, 0, .null), (.invokevirtual 312, 179, 1, .ref 9), (.ifCond .eq 27, 44, 0, .null)]
set_option maxRecDepth 100000 in
theorem cb_226_11 : mChk 226 11 bk_226_11 20 = true := by decide +kernel
def bk_226_20 : List mO := [(.aload_n 0, 0, 0, .null), (.iload 6, 6, 0, .null), (.invokevirtual 312, 179, 1, .ref 9), (.ifCond .eq 18, 44, 0, .null)]
set_option maxRecDepth 100000 in
theorem cb_226_20 : mChk 226 20 bk_226_20 29 = true := by decide +kernel
def bk_226_29 : List mO := [(.iload_n 2, 2, 0, .null), (.iconst 1, 0, 0, .int 1), (.if_icmp .le 16, 47, 0, .null)]
set_option maxRecDepth 100000 in
theorem cb_226_29 : mChk 226 29 bk_226_29 34 = true := by decide +kernel
def bk_226_34 : List mO := [(.aload_n 0, 0, 0, .null), (.iconst 4, 0, 0, .int 4), (.invokevirtual 521, 215, 1, .ref 9), (.bipush 32, 0, 0, .int 32), (.if_icmp .eq 6, 47, 0, .null)]
set_option maxRecDepth 100000 in
theorem cb_226_34 : mChk 226 34 bk_226_34 44 = true := by decide +kernel
def bk_226_44 : List mO := [(.bipush (-2), 0, 0, .int (-2)), (.ireturn, 0, 0, .int 0)]
set_option maxRecDepth 100000 in
theorem cb_226_44 : mChk 226 44 bk_226_44 47 = true := by decide +kernel
def bk_226_47 : List mO := [(.aload_n 0, 0, 0, .null), (.iload_n 2, 2, 0, .null), (.invokevirtual 528, 224, 1, .ref 9), (.ifCond .ne 6, 58, 0, .null)]
set_option maxRecDepth 100000 in
theorem cb_226_47 : mChk 226 47 bk_226_47 55 = true := by decide +kernel
def bk_226_55 : List mO := [(.bipush (-12), 0, 0, .int (-12)), (.ireturn, 0, 0, .int 0)]
set_option maxRecDepth 100000 in
theorem cb_226_55 : mChk 226 55 bk_226_55 58 = true := by decide +kernel
def bk_226_58 : List mO := [(.aload_n 0, 0, 0, .null), (.iconst 0, 0, 0, .int 0), (.putfield 472, 9, 57, .int 0), (.aload_n 0, 0, 0, .null), (.iconst 0, 0, 0, .int 0), (.putfield 475, 9, 59, .int 0), (.aload_n 0, 0, 0, .null), (.aload_n 0, 0, 0, .null), (.getfield 7, 9, 0, .null), (.sipush 300, 0, 0, .int 300), (.iload 6, 6, 0, .null), (.imul, 0, 0, .null), (.invokevirtual 315, 175, 2, .ref 9), (.aload_n 0, 0, 0, .null), (.aload_n 0, 0, 0, .null), (.getfield 7, 9, 0, .null), (.sipush 300, 0, 0, .int 300), (.iload 5, 5, 0, .null), (.imul, 0, 0, .null), (.invokevirtual 531, 217, 2, .ref 9), (.aload_n 0, 0, 0, .null), (.invokevirtual 329, 177, 0, .ref 9), (.aload_n 0, 0, 0, .null), (.aload_n 0, 0, 0, .null), (.getfield 88, 9, 29, .null), (.iconst 0, 0, 0, .int 0), (.invokevirtual 531, 217, 2, .ref 9), (.aload_n 0, 0, 0, .null), (.aload_n 0, 0, 0, .null), (.getfield 7, 9, 0, .null), (.sipush 300, 0, 0, .int 300), (.iload 5, 5, 0, .null), (.imul, 0, 0, .null), (.invokevirtual 319, 176, 2, .ref 9), (.aload_n 0, 0, 0, .null), (.invokevirtual 534, 216, 0, .ref 9), (.istore 7, 7, 0, .null), (.iload_n 2, 2, 0, .null), (.iconst 1, 0, 0, .int 1), (.if_icmp .le 58, 189, 0, .null)]
set_option maxRecDepth 100000 in
theorem cb_226_58 : mChk 226 58 bk_226_58 134 = true := by decide +kernel
def bk_226_134 : List mO := [(.aload_n 0, 0, 0, .null), (.aload_n 0, 0, 0, .null), (.getfield 7, 9, 0, .null), (.sipush 300, 0, 0, .int 300), (.aload_n 0, 0, 0, .null), (.getfield 142, 9, 55, .null), (.iconst 4, 0, 0, .int 4), (.iaload, 0, 0, .null), (.imul, 0, 0, .null), (.invokevirtual 319, 176, 2, .ref 9), (.aload_n 0, 0, 0, .null), (.invokevirtual 534, 216, 0, .ref 9), (.ifCond .eq 12, 168, 0, .null)]
set_option maxRecDepth 100000 in
theorem cb_226_134 : mChk 226 134 bk_226_134 159 = true := by decide +kernel
def bk_226_159 : List mO := [(.iload 7, 7, 0, .null), (.ifCond .eq 7, 168, 0, .null)]
set_option maxRecDepth 100000 in
theorem cb_226_159 : mChk 226 159 bk_226_159 164 = true := by decide +kernel
def bk_226_164 : List mO := [(.iconst 1, 0, 0, .int 1), (.goto 4, 169, 0, .null)]
set_option maxRecDepth 100000 in
theorem cb_226_164 : mChk 226 164 bk_226_164 168 = true := by decide +kernel
def bk_226_168 : List mO := [(.iconst 0, 0, 0, .int 0)]
set_option maxRecDepth 100000 in
theorem cb_226_168 : mChk 226 168 bk_226_168 169 = true := by decide +kernel
def bk_226_169 : List mO := [(.istore 7, 7, 0, .null), (.aload_n 0, 0, 0, .null), (.aload_n 0, 0, 0, .null), (.getfield 7, 9, 0, .null), (.sipush 300, 0, 0, .int 300), (.aload_n 0, 0, 0, .null), (.getfield 142, 9, 55, .null), (.iconst 4, 0, 0, .int 4), (.iaload, 0, 0, .null), (.imul, 0, 0, .null), (.invokevirtual 531, 217, 2, .ref 9)]
set_option maxRecDepth 100000 in
theorem cb_226_169 : mChk 226 169 bk_226_169 189 = true := by decide +kernel
def bk_226_189 : List mO := [(.iload 7, 7, 0, .null), (.ifCond .ne 6, 197, 0, .null)]
set_option maxRecDepth 100000 in
theorem cb_226_189 : mChk 226 189 bk_226_189 194 = true := by decide +kernel
def bk_226_194 : List mO := [(.bipush (-11), 0, 0, .int (-11)), (.ireturn, 0, 0, .int 0)]
set_option maxRecDepth 100000 in
theorem cb_226_194 : mChk 226 194 bk_226_194 197 = true := by decide +kernel
def bk_226_197 : List mO := [(.aload_n 0, 0, 0, .null), (.iload_n 1, 1, 0, .null), (.iconst 2, 0, 0, .int 2), (.iload_n 2, 2, 0, .null), (.iload_n 3, 3, 0, .null), (.iload 4, 4, 0, .null), (.invokevirtual 537, 219, 5, .ref 9), (.iconst 0, 0, 0, .int 0), (.ireturn, 0, 0, .int 0)]
set_option maxRecDepth 100000 in
theorem cb_226_197 : mChk 226 197 bk_226_197 209 = true := by decide +kernel
-- method 227: KeySealerModel.isLast(I)Z, locals 2, room (0, 0)
def bk_227_0 : List mO := [(.aload_n 0, 0, 0, .null), (.getfield 166, 9, 65, .null), (.iconst 3, 0, 0, .int 3), (.iload_n 1, 1, 0, .null), (.imul, 0, 0, .null), (.laload, 0, 0, .null), (.ldc2_w 194, 0, 0, .long 4294967295), (.lcmp, 0, 0, .null), (.ifCond .ne 41, 53, 0, .null)]
set_option maxRecDepth 100000 in
theorem cb_227_0 : mChk 227 0 bk_227_0 15 = true := by decide +kernel
def bk_227_15 : List mO := [(.aload_n 0, 0, 0, .null), (.getfield 166, 9, 65, .null), (.iconst 3, 0, 0, .int 3), (.iload_n 1, 1, 0, .null), (.imul, 0, 0, .null), (.iconst 1, 0, 0, .int 1), (.iadd, 0, 0, .null), (.laload, 0, 0, .null), (.ldc2_w 194, 0, 0, .long 4294967295), (.lcmp, 0, 0, .null), (.ifCond .ne 24, 53, 0, .null)]
set_option maxRecDepth 100000 in
theorem cb_227_15 : mChk 227 15 bk_227_15 32 = true := by decide +kernel
def bk_227_32 : List mO := [(.aload_n 0, 0, 0, .null), (.getfield 166, 9, 65, .null), (.iconst 3, 0, 0, .int 3), (.iload_n 1, 1, 0, .null), (.imul, 0, 0, .null), (.iconst 2, 0, 0, .int 2), (.iadd, 0, 0, .null), (.laload, 0, 0, .null), (.ldc2_w 194, 0, 0, .long 4294967295), (.lcmp, 0, 0, .null), (.ifCond .ne 7, 53, 0, .null)]
set_option maxRecDepth 100000 in
theorem cb_227_32 : mChk 227 32 bk_227_32 49 = true := by decide +kernel
def bk_227_49 : List mO := [(.iconst 1, 0, 0, .int 1), (.goto 4, 54, 0, .null)]
set_option maxRecDepth 100000 in
theorem cb_227_49 : mChk 227 49 bk_227_49 53 = true := by decide +kernel
def bk_227_53 : List mO := [(.iconst 0, 0, 0, .int 0)]
set_option maxRecDepth 100000 in
theorem cb_227_53 : mChk 227 53 bk_227_53 54 = true := by decide +kernel
def bk_227_54 : List mO := [(.ireturn, 0, 0, .int 1)]
set_option maxRecDepth 100000 in
theorem cb_227_54 : mChk 227 54 bk_227_54 55 = true := by decide +kernel
-- method 228: KeySealerModel.keyOf(I)V, locals 3, room (0, 0)
def bk_228_0 : List mO := [(.iconst 0, 0, 0, .int 0), (.istore_n 2, 2, 0, .null)]
set_option maxRecDepth 100000 in
theorem cb_228_0 : mChk 228 0 bk_228_0 2 = true := by decide +kernel
def bk_228_2 : List mO := [(.iload_n 2, 2, 0, .null), (.bipush 32, 0, 0, .int 32), (.if_icmp .ge 26, 31, 0, .null)]
set_option maxRecDepth 100000 in
theorem cb_228_2 : mChk 228 2 bk_228_2 8 = true := by decide +kernel
def bk_228_8 : List mO := [(.aload_n 0, 0, 0, .null), (.getfield 103, 9, 35, .null), (.iload_n 2, 2, 0, .null), (.aload_n 0, 0, 0, .null), (.getfield 169, 9, 66, .null), (.bipush 32, 0, 0, .int 32), (.iload_n 1, 1, 0, .null), (.imul, 0, 0, .null), (.iload_n 2, 2, 0, .null), (.iadd, 0, 0, .null), (.iaload, 0, 0, .null), (.iastore, 0, 0, .null), (.iinc 2 1, 2, 0, .int 1), (.goto (-26), 2, 0, .null)]
set_option maxRecDepth 100000 in
theorem cb_228_8 : mChk 228 8 bk_228_8 31 = true := by decide +kernel
def bk_228_31 : List mO := [(.iconst 0, 0, 0, .int 0), (.istore_n 2, 2, 0, .null)]
set_option maxRecDepth 100000 in
theorem cb_228_31 : mChk 228 31 bk_228_31 33 = true := by decide +kernel
def bk_228_33 : List mO := [(.iload_n 2, 2, 0, .null), (.bipush 12, 0, 0, .int 12), (.if_icmp .ge 54, 90, 0, .null)]
set_option maxRecDepth 100000 in
theorem cb_228_33 : mChk 228 33 bk_228_33 39 = true := by decide +kernel
def bk_228_39 : List mO := [(.aload_n 0, 0, 0, .null), (.getfield 106, 9, 36, .null), (.iload_n 2, 2, 0, .null), (.aload_n 0, 0, 0, .null), (.getfield 172, 9, 67, .null), (.bipush 12, 0, 0, .int 12), (.iload_n 1, 1, 0, .null), (.imul, 0, 0, .null), (.iload_n 2, 2, 0, .null), (.iadd, 0, 0, .null), (.iaload, 0, 0, .null), (.aload_n 0, 0, 0, .null), (.getfield 166, 9, 65, .null), (.iconst 3, 0, 0, .int 3), (.iload_n 1, 1, 0, .null), (.imul, 0, 0, .null), (.iload_n 2, 2, 0, .null), (.iconst 4, 0, 0, .int 4), (.idiv, 0, 0, .null), (.iadd, 0, 0, .null), (.laload, 0, 0, .null), (.bipush 24, 0, 0, .int 24), (.bipush 8, 0, 0, .int 8), (.iload_n 2, 2, 0, .null), (.iconst 4, 0, 0, .int 4), (.irem, 0, 0, .null), (.imul, 0, 0, .null), (.isub, 0, 0, .null), (.lshr, 0, 0, .null), (.ldc2_w 188, 0, 0, .long 255), (.land, 0, 0, .null), (.l2i, 0, 0, .null), (.ixor, 0, 0, .null), (.iastore, 0, 0, .null), (.iinc 2 1, 2, 0, .int 1), (.goto (-54), 33, 0, .null)]
set_option maxRecDepth 100000 in
theorem cb_228_39 : mChk 228 39 bk_228_39 90 = true := by decide +kernel
def bk_228_90 : List mO := [(.return_, 0, 0, .null)]
set_option maxRecDepth 100000 in
theorem cb_228_90 : mChk 228 90 bk_228_90 91 = true := by decide +kernel
-- method 229: KeySealerModel.goesOn(I)V, locals 4, room (0, 0)
def bk_229_0 : List mO := [(.iconst 1, 0, 0, .int 1), (.istore_n 2, 2, 0, .null), (.iconst 2, 0, 0, .int 2), (.istore_n 3, 3, 0, .null)]
set_option maxRecDepth 100000 in
theorem cb_229_0 : mChk 229 0 bk_229_0 4 = true := by decide +kernel
def bk_229_4 : List mO := [(.iload_n 3, 3, 0, .null), (.ifCond .lt 60, 65, 0, .null)]
set_option maxRecDepth 100000 in
theorem cb_229_4 : mChk 229 4 bk_229_4 8 = true := by decide +kernel
def bk_229_8 : List mO := [(.iload_n 2, 2, 0, .null), (.ifCond .eq 56, 65, 0, .null)]
set_option maxRecDepth 100000 in
theorem cb_229_8 : mChk 229 8 bk_229_8 12 = true := by decide +kernel
def bk_229_12 : List mO := [(.aload_n 0, 0, 0, .null), (.getfield 166, 9, 65, .null), (.iconst 3, 0, 0, .int 3), (.iload_n 1, 1, 0, .null), (.imul, 0, 0, .null), (.iload_n 3, 3, 0, .null), (.iadd, 0, 0, .null), (.aload_n 0, 0, 0, .null), (.getfield 166, 9, 65, .null), (.iconst 3, 0, 0, .int 3), (.iload_n 1, 1, 0, .null), (.imul, 0, 0, .null), (.iload_n 3, 3, 0, .null), (.iadd, 0, 0, .null), (.laload, 0, 0, .null), (.lconst 1, 0, 0, .long 1), (.ladd, 0, 0, .null), (.ldc2_w 194, 0, 0, .long 4294967295), (.land, 0, 0, .null), (.lastore, 0, 0, .null), (.aload_n 0, 0, 0, .null), (.getfield 166, 9, 65, .null), (.iconst 3, 0, 0, .int 3), (.iload_n 1, 1, 0, .null), (.imul, 0, 0, .null), (.iload_n 3, 3, 0, .null), (.iadd, 0, 0, .null), (.laload, 0, 0, .null), (.lconst 0, 0, 0, .long 0), (.lcmp, 0, 0, .null), (.ifCond .ne 7, 57, 0, .null)]
set_option maxRecDepth 100000 in
theorem cb_229_12 : mChk 229 12 bk_229_12 53 = true := by decide +kernel
def bk_229_53 : List mO := [(.iconst 1, 0, 0, .int 1), (.goto 4, 58, 0, .null)]
set_option maxRecDepth 100000 in
theorem cb_229_53 : mChk 229 53 bk_229_53 57 = true := by decide +kernel
def bk_229_57 : List mO := [(.iconst 0, 0, 0, .int 0)]
set_option maxRecDepth 100000 in
theorem cb_229_57 : mChk 229 57 bk_229_57 58 = true := by decide +kernel
def bk_229_58 : List mO := [(.istore_n 2, 2, 0, .null), (.iinc 3 (-1), 3, 0, .int (-1)), (.goto (-58), 4, 0, .null)]
set_option maxRecDepth 100000 in
theorem cb_229_58 : mChk 229 58 bk_229_58 65 = true := by decide +kernel
def bk_229_65 : List mO := [(.return_, 0, 0, .null)]
set_option maxRecDepth 100000 in
theorem cb_229_65 : mChk 229 65 bk_229_65 66 = true := by decide +kernel
-- method 230: KeySealerModel.seal(IIII)I, locals 6, room (6, 137)
def bk_230_0 : List mO := [(.iload_n 1, 1, 0, .null), (.invokestatic 518, 222, 1, .null), (.ifCond .eq 35, 39, 0, .null)]
set_option maxRecDepth 100000 in
theorem cb_230_0 : mChk 230 0 bk_230_0 7 = true := by decide +kernel
def bk_230_7 : List mO := [(.aload_n 0, 0, 0, .null), (.getfield 154, 9, 61, .null), (.iload_n 1, 1, 0, .null), (.iaload, 0, 0, .null), (.iconst 1, 0, 0, .int 1), (.if_icmp .ne 25, 39, 0, .null)]
set_option maxRecDepth 100000 in
theorem cb_230_7 : mChk 230 7 bk_230_7 17 = true := by decide +kernel
def bk_230_17 : List mO := [(.aload_n 0, 0, 0, .null), (.getfield 163, 9, 64, .null), (.iload_n 1, 1, 0, .null), (.iaload, 0, 0, .null), (.sipush 255, 0, 0, .int 255), (.if_icmp .eq 13, 39, 0, .null)]
set_option maxRecDepth 100000 in
theorem cb_230_17 : mChk 230 17 bk_230_17 29 = true := by decide +kernel
def bk_230_29 : List mO := [(.iload_n 2, 2, 0, .null), (.iload_n 3, 3, 0, .null), (.iload 4, 4, 0, .null), (.invokestatic 253, 138, 3, .null), (.ifCond .ne 6, 42, 0, .null)]
set_option maxRecDepth 100000 in
theorem cb_230_29 : mChk 230 29 bk_230_29 39 = true := by decide +kernel
def bk_230_39 : List mO := [(.bipush (-2), 0, 0, .int (-2)), (.ireturn, 0, 0, .int 0)]
set_option maxRecDepth 100000 in
theorem cb_230_39 : mChk 230 39 bk_230_39 42 = true := by decide +kernel
def bk_230_42 : List mO := [(.aload_n 0, 0, 0, .null), (.iload_n 1, 1, 0, .null), (.invokevirtual 541, 227, 1, .ref 9), (.ifCond .eq 6, 53, 0, .null)]
set_option maxRecDepth 100000 in
theorem cb_230_42 : mChk 230 42 bk_230_42 50 = true := by decide +kernel
def bk_230_50 : List mO := [(.bipush (-13), 0, 0, .int (-13)), (.ireturn, 0, 0, .int 0)]
set_option maxRecDepth 100000 in
theorem cb_230_50 : mChk 230 50 bk_230_50 53 = true := by decide +kernel
def bk_230_53 : List mO := [(.aload_n 0, 0, 0, .null), (.getfield 13, 9, 1, .null), (.iload 4, 4, 0, .null), (.iaload, 0, 0, .null), (.sipush 284, 0, 0, .int 284), (.if_icmp .le 6, 69, 0, .null)]
set_option maxRecDepth 100000 in
theorem cb_230_53 : mChk 230 53 bk_230_53 66 = true := by decide +kernel
def bk_230_66 : List mO := [(.bipush (-3), 0, 0, .int (-3)), (.ireturn, 0, 0, .int 0)]
set_option maxRecDepth 100000 in
theorem cb_230_66 : mChk 230 66 bk_230_66 69 = true := by decide +kernel
def bk_230_69 : List mO := [(.aload_n 0, 0, 0, .null), (.iload_n 1, 1, 0, .null), (.invokevirtual 544, 228, 1, .ref 9), (.aload_n 0, 0, 0, .null), (.aload_n 0, 0, 0, .null), (.getfield 163, 9, 64, .null), (.iload_n 1, 1, 0, .null), (.iaload, 0, 0, .null), (.iload_n 2, 2, 0, .null), (.iload_n 3, 3, 0, .null), (.iload 4, 4, 0, .null), (.invokevirtual 431, 201, 4, .ref 9), (.istore 5, 5, 0, .null), (.aload_n 0, 0, 0, .null), (.iload_n 1, 1, 0, .null), (.invokevirtual 547, 229, 1, .ref 9), (.iload 5, 5, 0, .null), (.ireturn, 0, 0, .int 0)]
set_option maxRecDepth 100000 in
theorem cb_230_69 : mChk 230 69 bk_230_69 98 = true := by decide +kernel
-- method 231: KeySealerModel.unseal(IIII)I, locals 6, room (6, 138)
def bk_231_0 : List mO := [(.iload_n 1, 1, 0, .null), (.invokestatic 518, 222, 1, .null), (.ifCond .eq 35, 39, 0, .null)]
set_option maxRecDepth 100000 in
theorem cb_231_0 : mChk 231 0 bk_231_0 7 = true := by decide +kernel
def bk_231_7 : List mO := [(.aload_n 0, 0, 0, .null), (.getfield 154, 9, 61, .null), (.iload_n 1, 1, 0, .null), (.iaload, 0, 0, .null), (.iconst 2, 0, 0, .int 2), (.if_icmp .ne 25, 39, 0, .null)]
set_option maxRecDepth 100000 in
theorem cb_231_7 : mChk 231 7 bk_231_7 17 = true := by decide +kernel
def bk_231_17 : List mO := [(.aload_n 0, 0, 0, .null), (.getfield 163, 9, 64, .null), (.iload_n 1, 1, 0, .null), (.iaload, 0, 0, .null), (.sipush 255, 0, 0, .int 255), (.if_icmp .eq 13, 39, 0, .null)]
set_option maxRecDepth 100000 in
theorem cb_231_17 : mChk 231 17 bk_231_17 29 = true := by decide +kernel
def bk_231_29 : List mO := [(.iload_n 2, 2, 0, .null), (.iload_n 3, 3, 0, .null), (.iload 4, 4, 0, .null), (.invokestatic 253, 138, 3, .null), (.ifCond .ne 6, 42, 0, .null)]
set_option maxRecDepth 100000 in
theorem cb_231_29 : mChk 231 29 bk_231_29 39 = true := by decide +kernel
def bk_231_39 : List mO := [(.bipush (-2), 0, 0, .int (-2)), (.ireturn, 0, 0, .int 0)]
set_option maxRecDepth 100000 in
theorem cb_231_39 : mChk 231 39 bk_231_39 42 = true := by decide +kernel
def bk_231_42 : List mO := [(.aload_n 0, 0, 0, .null), (.iload_n 1, 1, 0, .null), (.invokevirtual 541, 227, 1, .ref 9), (.ifCond .eq 6, 53, 0, .null)]
set_option maxRecDepth 100000 in
theorem cb_231_42 : mChk 231 42 bk_231_42 50 = true := by decide +kernel
def bk_231_50 : List mO := [(.bipush (-13), 0, 0, .int (-13)), (.ireturn, 0, 0, .int 0)]
set_option maxRecDepth 100000 in
theorem cb_231_50 : mChk 231 50 bk_231_50 53 = true := by decide +kernel
def bk_231_53 : List mO := [(.aload_n 0, 0, 0, .null), (.iload_n 1, 1, 0, .null), (.invokevirtual 544, 228, 1, .ref 9), (.aload_n 0, 0, 0, .null), (.aload_n 0, 0, 0, .null), (.getfield 163, 9, 64, .null), (.iload_n 1, 1, 0, .null), (.iaload, 0, 0, .null), (.iload_n 2, 2, 0, .null), (.iload_n 3, 3, 0, .null), (.iload 4, 4, 0, .null), (.invokevirtual 435, 203, 4, .ref 9), (.istore 5, 5, 0, .null), (.iload 5, 5, 0, .null), (.ifCond .lt 8, 84, 0, .null)]
set_option maxRecDepth 100000 in
theorem cb_231_53 : mChk 231 53 bk_231_53 79 = true := by decide +kernel
def bk_231_79 : List mO := [(.aload_n 0, 0, 0, .null), (.iload_n 1, 1, 0, .null), (.invokevirtual 547, 229, 1, .ref 9)]
set_option maxRecDepth 100000 in
theorem cb_231_79 : mChk 231 79 bk_231_79 84 = true := by decide +kernel
def bk_231_84 : List mO := [(.iload 5, 5, 0, .null), (.ireturn, 0, 0, .int 0)]
set_option maxRecDepth 100000 in
theorem cb_231_84 : mChk 231 84 bk_231_84 87 = true := by decide +kernel
-- method 232: KeySealerModel.export(IIII)I, locals 5, room (7, 196)
def bk_232_0 : List mO := [(.iload_n 1, 1, 0, .null), (.invokestatic 518, 222, 1, .null), (.ifCond .eq 39, 43, 0, .null)]
set_option maxRecDepth 100000 in
theorem cb_232_0 : mChk 232 0 bk_232_0 7 = true := by decide +kernel
def bk_232_7 : List mO := [(.aload_n 0, 0, 0, .null), (.getfield 154, 9, 61, .null), (.iload_n 1, 1, 0, .null), (.iaload, 0, 0, .null), (.ifCond .eq 30, 43, 0, .null)]
set_option maxRecDepth 100000 in
theorem cb_232_7 : mChk 232 7 bk_232_7 16 = true := by decide +kernel
def bk_232_16 : List mO := [(.iload_n 2, 2, 0, .null), (.invokestatic 184, 137, 1, .null), (.ifCond .eq 23, 43, 0, .null)]
set_option maxRecDepth 100000 in
theorem cb_232_16 : mChk 232 16 bk_232_16 23 = true := by decide +kernel
def bk_232_23 : List mO := [(.iload_n 3, 3, 0, .null), (.invokestatic 184, 137, 1, .null), (.ifCond .eq 16, 43, 0, .null)]
set_option maxRecDepth 100000 in
theorem cb_232_23 : mChk 232 23 bk_232_23 30 = true := by decide +kernel
def bk_232_30 : List mO := [(.iload 4, 4, 0, .null), (.ifCond .lt 11, 43, 0, .null)]
set_option maxRecDepth 100000 in
theorem cb_232_30 : mChk 232 30 bk_232_30 35 = true := by decide +kernel
def bk_232_35 : List mO := [(.iload 4, 4, 0, .null), (.sipush 300, 0, 0, .int 300), (.if_icmp .le 6, 46, 0, .null)]
set_option maxRecDepth 100000 in
theorem cb_232_35 : mChk 232 35 bk_232_35 43 = true := by decide +kernel
def bk_232_43 : List mO := [(.bipush (-2), 0, 0, .int (-2)), (.ireturn, 0, 0, .int 0)]
set_option maxRecDepth 100000 in
theorem cb_232_43 : mChk 232 43 bk_232_43 46 = true := by decide +kernel
def bk_232_46 : List mO := [(.aload_n 0, 0, 0, .null), (.aload_n 0, 0, 0, .null), (.getfield 160, 9, 63, .null), (.iload_n 1, 1, 0, .null), (.iaload, 0, 0, .null), (.aload_n 0, 0, 0, .null), (.getfield 163, 9, 64, .null), (.iload_n 1, 1, 0, .null), (.iaload, 0, 0, .null), (.invokevirtual 487, 208, 2, .ref 9), (.aload_n 0, 0, 0, .null), (.aload_n 0, 0, 0, .null), (.getfield 160, 9, 63, .null), (.iload_n 1, 1, 0, .null), (.iaload, 0, 0, .null), (.aload_n 0, 0, 0, .null), (.getfield 175, 9, 68, .null), (.bipush 64, 0, 0, .int 64), (.iload_n 1, 1, 0, .null), (.imul, 0, 0, .null), (.aload_n 0, 0, 0, .null), (.getfield 160, 9, 63, .null), (.iload_n 1, 1, 0, .null), (.iaload, 0, 0, .null), (.invokestatic 227, 147, 1, .null), (.invokevirtual 257, 159, 4, .ref 9), (.aload_n 0, 0, 0, .null), (.getstatic 550, 0, 0, .ref 1000019), (.iload 4, 4, 0, .null), (.invokevirtual 466, 210, 2, .ref 9), (.aload_n 0, 0, 0, .null), (.iload_n 3, 3, 0, .null), (.invokevirtual 261, 158, 1, .ref 9), (.aload_n 0, 0, 0, .null), (.aload_n 0, 0, 0, .null), (.getfield 160, 9, 63, .null), (.iload_n 1, 1, 0, .null), (.iaload, 0, 0, .null), (.iload 4, 4, 0, .null), (.invokevirtual 469, 212, 2, .ref 9), (.aload_n 0, 0, 0, .null), (.iload_n 2, 2, 0, .null), (.iload 4, 4, 0, .null), (.invokevirtual 190, 146, 2, .ref 9), (.iload 4, 4, 0, .null), (.ireturn, 0, 0, .int 0)]
set_option maxRecDepth 100000 in
theorem cb_232_46 : mChk 232 46 bk_232_46 125 = true := by decide +kernel
-- method 233: KeySealerModel.sequence(IIII)I, locals 5, room (1, 20)
def bk_233_0 : List mO := [(.iload_n 1, 1, 0, .null), (.invokestatic 518, 222, 1, .null), (.ifCond .eq 12, 16, 0, .null)]
set_option maxRecDepth 100000 in
theorem cb_233_0 : mChk 233 0 bk_233_0 7 = true := by decide +kernel
def bk_233_7 : List mO := [(.aload_n 0, 0, 0, .null), (.getfield 154, 9, 61, .null), (.iload_n 1, 1, 0, .null), (.iaload, 0, 0, .null), (.ifCond .ne 6, 19, 0, .null)]
set_option maxRecDepth 100000 in
theorem cb_233_7 : mChk 233 7 bk_233_7 16 = true := by decide +kernel
def bk_233_16 : List mO := [(.bipush (-2), 0, 0, .int (-2)), (.ireturn, 0, 0, .int 0)]
set_option maxRecDepth 100000 in
theorem cb_233_16 : mChk 233 16 bk_233_16 19 = true := by decide +kernel
def bk_233_19 : List mO := [(.aload_n 0, 0, 0, .null), (.getfield 166, 9, 65, .null), (.iconst 3, 0, 0, .int 3), (.iload_n 1, 1, 0, .null), (.imul, 0, 0, .null), (.iload_n 2, 2, 0, .null), (.i2l, 0, 0, .null), (.ldc2_w 194, 0, 0, .long 4294967295), (.land, 0, 0, .null), (.lastore, 0, 0, .null), (.aload_n 0, 0, 0, .null), (.getfield 166, 9, 65, .null), (.iconst 3, 0, 0, .int 3), (.iload_n 1, 1, 0, .null), (.imul, 0, 0, .null), (.iconst 1, 0, 0, .int 1), (.iadd, 0, 0, .null), (.iload_n 3, 3, 0, .null), (.i2l, 0, 0, .null), (.ldc2_w 194, 0, 0, .long 4294967295), (.land, 0, 0, .null), (.lastore, 0, 0, .null), (.aload_n 0, 0, 0, .null), (.getfield 166, 9, 65, .null), (.iconst 3, 0, 0, .int 3), (.iload_n 1, 1, 0, .null), (.imul, 0, 0, .null), (.iconst 2, 0, 0, .int 2), (.iadd, 0, 0, .null), (.iload 4, 4, 0, .null), (.i2l, 0, 0, .null), (.ldc2_w 194, 0, 0, .long 4294967295), (.land, 0, 0, .null), (.lastore, 0, 0, .null), (.iconst 0, 0, 0, .int 0), (.ireturn, 0, 0, .int 0)]
set_option maxRecDepth 100000 in
theorem cb_233_19 : mChk 233 19 bk_233_19 68 = true := by decide +kernel
-- method 234: KeySealerModel.told(II)I, locals 3, room (1, 20)
def bk_234_0 : List mO := [(.iload_n 1, 1, 0, .null), (.invokestatic 518, 222, 1, .null), (.ifCond .eq 13, 17, 0, .null)]
set_option maxRecDepth 100000 in
theorem cb_234_0 : mChk 234 0 bk_234_0 7 = true := by decide +kernel
def bk_234_7 : List mO := [(.iload_n 2, 2, 0, .null), (.ifCond .lt 9, 17, 0, .null)]
set_option maxRecDepth 100000 in
theorem cb_234_7 : mChk 234 7 bk_234_7 11 = true := by decide +kernel
def bk_234_11 : List mO := [(.iload_n 2, 2, 0, .null), (.bipush 6, 0, 0, .int 6), (.if_icmp .le 6, 20, 0, .null)]
set_option maxRecDepth 100000 in
theorem cb_234_11 : mChk 234 11 bk_234_11 17 = true := by decide +kernel
def bk_234_17 : List mO := [(.bipush (-2), 0, 0, .int (-2)), (.ireturn, 0, 0, .int 0)]
set_option maxRecDepth 100000 in
theorem cb_234_17 : mChk 234 17 bk_234_17 20 = true := by decide +kernel
def bk_234_20 : List mO := [(.aload_n 0, 0, 0, .null), (.getfield 154, 9, 61, .null), (.iload_n 1, 1, 0, .null), (.iaload, 0, 0, .null), (.ifCond .ne 5, 31, 0, .null)]
set_option maxRecDepth 100000 in
theorem cb_234_20 : mChk 234 20 bk_234_20 29 = true := by decide +kernel
def bk_234_29 : List mO := [(.iconst 0, 0, 0, .int 0), (.ireturn, 0, 0, .int 0)]
set_option maxRecDepth 100000 in
theorem cb_234_29 : mChk 234 29 bk_234_29 31 = true := by decide +kernel
def bk_234_31 : List mO := [(.iload_n 2, 2, 0, .null), (.ifCond .ne 12, 44, 0, .null)]
set_option maxRecDepth 100000 in
theorem cb_234_31 : mChk 234 31 bk_234_31 35 = true := by decide +kernel
def bk_234_35 : List mO := [(.aload_n 0, 0, 0, .null), (.getfield 154, 9, 61, .null), (.iload_n 1, 1, 0, .null), (.iaload, 0, 0, .null), (.goto 58, 99, 0, .null)]
set_option maxRecDepth 100000 in
theorem cb_234_35 : mChk 234 35 bk_234_35 44 = true := by decide +kernel
def bk_234_44 : List mO := [(.iload_n 2, 2, 0, .null), (.iconst 1, 0, 0, .int 1), (.if_icmp .ne 12, 58, 0, .null)]
set_option maxRecDepth 100000 in
theorem cb_234_44 : mChk 234 44 bk_234_44 49 = true := by decide +kernel
def bk_234_49 : List mO := [(.aload_n 0, 0, 0, .null), (.getfield 157, 9, 62, .null), (.iload_n 1, 1, 0, .null), (.iaload, 0, 0, .null), (.goto 44, 99, 0, .null)]
set_option maxRecDepth 100000 in
theorem cb_234_49 : mChk 234 49 bk_234_49 58 = true := by decide +kernel
def bk_234_58 : List mO := [(.iload_n 2, 2, 0, .null), (.iconst 2, 0, 0, .int 2), (.if_icmp .ne 12, 72, 0, .null)]
set_option maxRecDepth 100000 in
theorem cb_234_58 : mChk 234 58 bk_234_58 63 = true := by decide +kernel
def bk_234_63 : List mO := [(.aload_n 0, 0, 0, .null), (.getfield 160, 9, 63, .null), (.iload_n 1, 1, 0, .null), (.iaload, 0, 0, .null), (.goto 30, 99, 0, .null)]
set_option maxRecDepth 100000 in
theorem cb_234_63 : mChk 234 63 bk_234_63 72 = true := by decide +kernel
def bk_234_72 : List mO := [(.iload_n 2, 2, 0, .null), (.iconst 3, 0, 0, .int 3), (.if_icmp .ne 12, 86, 0, .null)]
set_option maxRecDepth 100000 in
theorem cb_234_72 : mChk 234 72 bk_234_72 77 = true := by decide +kernel
def bk_234_77 : List mO := [(.aload_n 0, 0, 0, .null), (.getfield 163, 9, 64, .null), (.iload_n 1, 1, 0, .null), (.iaload, 0, 0, .null), (.goto 16, 99, 0, .null)]
set_option maxRecDepth 100000 in
theorem cb_234_77 : mChk 234 77 bk_234_77 86 = true := by decide +kernel
def bk_234_86 : List mO := [(.aload_n 0, 0, 0, .null), (.getfield 166, 9, 65, .null), (.iconst 3, 0, 0, .int 3), (.iload_n 1, 1, 0, .null), (.imul, 0, 0, .null), (.iload_n 2, 2, 0, .null), (.iadd, 0, 0, .null), (.iconst 4, 0, 0, .int 4), (.isub, 0, 0, .null), (.laload, 0, 0, .null), (.l2i, 0, 0, .null)]
set_option maxRecDepth 100000 in
theorem cb_234_86 : mChk 234 86 bk_234_86 99 = true := by decide +kernel
def bk_234_99 : List mO := [(.ireturn, 0, 0, .int 0)]
set_option maxRecDepth 100000 in
theorem cb_234_99 : mChk 234 99 bk_234_99 100 = true := by decide +kernel
-- method 235: KeySealerModel.secret(III)I, locals 6, room (1, 23)
def bk_235_0 : List mO := [(.iload_n 1, 1, 0, .null), (.invokestatic 518, 222, 1, .null), (.ifCond .eq 28, 32, 0, .null)]
set_option maxRecDepth 100000 in
theorem cb_235_0 : mChk 235 0 bk_235_0 7 = true := by decide +kernel
def bk_235_7 : List mO := [(.aload_n 0, 0, 0, .null), (.getfield 154, 9, 61, .null), (.iload_n 1, 1, 0, .null), (.iaload, 0, 0, .null), (.ifCond .eq 19, 32, 0, .null)]
set_option maxRecDepth 100000 in
theorem cb_235_7 : mChk 235 7 bk_235_7 16 = true := by decide +kernel
def bk_235_16 : List mO := [(.iload_n 2, 2, 0, .null), (.ifCond .lt 15, 32, 0, .null)]
set_option maxRecDepth 100000 in
theorem cb_235_16 : mChk 235 16 bk_235_16 20 = true := by decide +kernel
def bk_235_20 : List mO := [(.iload_n 2, 2, 0, .null), (.iconst 2, 0, 0, .int 2), (.if_icmp .gt 10, 32, 0, .null)]
set_option maxRecDepth 100000 in
theorem cb_235_20 : mChk 235 20 bk_235_20 25 = true := by decide +kernel
def bk_235_25 : List mO := [(.iload_n 3, 3, 0, .null), (.invokestatic 184, 137, 1, .null), (.ifCond .ne 6, 35, 0, .null)]
set_option maxRecDepth 100000 in
theorem cb_235_25 : mChk 235 25 bk_235_25 32 = true := by decide +kernel
def bk_235_32 : List mO := [(.bipush (-2), 0, 0, .int (-2)), (.ireturn, 0, 0, .int 0)]
set_option maxRecDepth 100000 in
theorem cb_235_32 : mChk 235 32 bk_235_32 35 = true := by decide +kernel
def bk_235_35 : List mO := [(.iload_n 2, 2, 0, .null), (.iconst 2, 0, 0, .int 2), (.if_icmp .ne 15, 52, 0, .null)]
set_option maxRecDepth 100000 in
theorem cb_235_35 : mChk 235 35 bk_235_35 40 = true := by decide +kernel
def bk_235_40 : List mO := [(.aload_n 0, 0, 0, .null), (.getfield 160, 9, 63, .null), (.iload_n 1, 1, 0, .null), (.iaload, 0, 0, .null), (.invokestatic 227, 147, 1, .null), (.goto 37, 86, 0, .null)]
set_option maxRecDepth 100000 in
theorem cb_235_40 : mChk 235 40 bk_235_40 52 = true := by decide +kernel
def bk_235_52 : List mO := [(.aload_n 0, 0, 0, .null), (.getfield 163, 9, 64, .null), (.iload_n 1, 1, 0, .null), (.iaload, 0, 0, .null), (.sipush 255, 0, 0, .int 255), (.if_icmp .ne 7, 68, 0, .null)]
set_option maxRecDepth 100000 in
theorem cb_235_52 : mChk 235 52 bk_235_52 64 = true := by decide +kernel
def bk_235_64 : List mO := [(.iconst 0, 0, 0, .int 0), (.goto 21, 86, 0, .null)]
set_option maxRecDepth 100000 in
theorem cb_235_64 : mChk 235 64 bk_235_64 68 = true := by decide +kernel
def bk_235_68 : List mO := [(.iload_n 2, 2, 0, .null), (.ifCond .ne 15, 84, 0, .null)]
set_option maxRecDepth 100000 in
theorem cb_235_68 : mChk 235 68 bk_235_68 72 = true := by decide +kernel
def bk_235_72 : List mO := [(.aload_n 0, 0, 0, .null), (.getfield 163, 9, 64, .null), (.iload_n 1, 1, 0, .null), (.iaload, 0, 0, .null), (.invokestatic 421, 198, 1, .null), (.goto 5, 86, 0, .null)]
set_option maxRecDepth 100000 in
theorem cb_235_72 : mChk 235 72 bk_235_72 84 = true := by decide +kernel
def bk_235_84 : List mO := [(.bipush 12, 0, 0, .int 12)]
set_option maxRecDepth 100000 in
theorem cb_235_84 : mChk 235 84 bk_235_84 86 = true := by decide +kernel
def bk_235_86 : List mO := [(.istore 4, 4, 0, .null), (.iconst 0, 0, 0, .int 0), (.istore 5, 5, 0, .null)]
set_option maxRecDepth 100000 in
theorem cb_235_86 : mChk 235 86 bk_235_86 91 = true := by decide +kernel
def bk_235_91 : List mO := [(.iload 5, 5, 0, .null), (.iload 4, 4, 0, .null), (.if_icmp .ge 67, 162, 0, .null)]
set_option maxRecDepth 100000 in
theorem cb_235_91 : mChk 235 91 bk_235_91 98 = true := by decide +kernel
def bk_235_98 : List mO := [(.aload_n 0, 0, 0, .null), (.getfield 16, 9, 2, .null), (.iload 5, 5, 0, .null), (.iload_n 2, 2, 0, .null), (.ifCond .ne 18, 123, 0, .null)]
set_option maxRecDepth 100000 in
theorem cb_235_98 : mChk 235 98 bk_235_98 108 = true := by decide +kernel
def bk_235_108 : List mO := [(.aload_n 0, 0, 0, .null), (.getfield 169, 9, 66, .null), (.bipush 32, 0, 0, .int 32), (.iload_n 1, 1, 0, .null), (.imul, 0, 0, .null), (.iload 5, 5, 0, .null), (.iadd, 0, 0, .null), (.iaload, 0, 0, .null), (.goto 35, 155, 0, .null)]
set_option maxRecDepth 100000 in
theorem cb_235_108 : mChk 235 108 bk_235_108 123 = true := by decide +kernel
def bk_235_123 : List mO := [(.iload_n 2, 2, 0, .null), (.iconst 1, 0, 0, .int 1), (.if_icmp .ne 18, 143, 0, .null)]
set_option maxRecDepth 100000 in
theorem cb_235_123 : mChk 235 123 bk_235_123 128 = true := by decide +kernel
def bk_235_128 : List mO := [(.aload_n 0, 0, 0, .null), (.getfield 172, 9, 67, .null), (.bipush 12, 0, 0, .int 12), (.iload_n 1, 1, 0, .null), (.imul, 0, 0, .null), (.iload 5, 5, 0, .null), (.iadd, 0, 0, .null), (.iaload, 0, 0, .null), (.goto 15, 155, 0, .null)]
set_option maxRecDepth 100000 in
theorem cb_235_128 : mChk 235 128 bk_235_128 143 = true := by decide +kernel
def bk_235_143 : List mO := [(.aload_n 0, 0, 0, .null), (.getfield 175, 9, 68, .null), (.bipush 64, 0, 0, .int 64), (.iload_n 1, 1, 0, .null), (.imul, 0, 0, .null), (.iload 5, 5, 0, .null), (.iadd, 0, 0, .null), (.iaload, 0, 0, .null)]
set_option maxRecDepth 100000 in
theorem cb_235_143 : mChk 235 143 bk_235_143 155 = true := by decide +kernel
def bk_235_155 : List mO := [(.iastore, 0, 0, .null), (.iinc 5 1, 5, 0, .int 1), (.goto (-68), 91, 0, .null)]
set_option maxRecDepth 100000 in
theorem cb_235_155 : mChk 235 155 bk_235_155 162 = true := by decide +kernel
def bk_235_162 : List mO := [(.aload_n 0, 0, 0, .null), (.iload_n 3, 3, 0, .null), (.iload 4, 4, 0, .null), (.invokevirtual 190, 146, 2, .ref 9), (.iload 4, 4, 0, .null), (.ireturn, 0, 0, .int 0)]
set_option maxRecDepth 100000 in
theorem cb_235_162 : mChk 235 162 bk_235_162 172 = true := by decide +kernel

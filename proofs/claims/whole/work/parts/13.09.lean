/-! PART 13.09: blocks of code and their checks, printed by program (wip/whole/mk13.py) -/
-- method 233: KeySealerModel.sequence(IIII)I, locals 5, room (1, 20)
def bk_233_0 : List mO := [(.iload_n 1, 1, 0, .null), (.invokestatic 518, 222, 1, .null), (.ifCond .eq 12, 16, 0, .null)]
set_option maxRecDepth 100000 in
theorem cb_233_0 : mChk 233 0 bk_233_0 7 = true := by decide +kernel
def bk_233_7 : List mO := [(.aload_n 0, 0, 0, .null), (.getfield 154, 9, 61, .null), (.iload_n 1, 1, 0, .null), (.iaload, 0, 0, .null), (.ifCond .ne 6, 19, 0, .null)]
set_option maxRecDepth 100000 in
theorem cb_233_7 : mChk 233 7 bk_233_7 16 = true := by decide +kernel
def bk_233_16 : List mO := [(.bipush (-2), 0, 0, .int (-2)), (.ireturn, 0, 0, .int 0)]
set_option maxRecDepth 100000 in
theorem cb_233_16 : mChk 233 16 bk_233_16 19 = true := by decide +kernel
def bk_233_19 : List mO := [(.aload_n 0, 0, 0, .null), (.getfield 166, 9, 65, .null), (.iconst 3, 0, 0, .int 3), (.iload_n 1, 1, 0, .null), (.imul, 0, 0, .null), (.iload_n 2, 2, 0, .null), (.i2l, 0, 0, .null), (.ldc2_w 194, 0, 0, .long 4294967295), (.land, 0, 0, .null), (.lastore, 0, 0, .null), (.aload_n 0, 0, 0, .null), (.getfield 166, 9, 65, .null), (.iconst 3, 0, 0, .int 3), (.iload_n 1, 1, 0, .null), (.imul, 0, 0, .null), (.iconst 1, 0, 0, .int 1), (.iadd, 0, 0, .null), (.iload_n 3, 3, 0, .null), (.i2l, 0, 0, .null), (.ldc2_w 194, 0, 0, .long 4294967295), (.land, 0, 0, .null), (.lastore, 0, 0, .null), (.aload_n 0, 0, 0, .null), (.getfield 166, 9, 65, .null), (.iconst 3, 0, 0, .int 3), (.iload_n 1, 1, 0, .null), (.imul, 0, 0, .null), (.iconst 2, 0, 0, .int 2), (.iadd, 0, 0, .null), (.iload 4, 4, 0, .null), (.i2l, 0, 0, .null), (.ldc2_w 194, 0, 0, .long 4294967295), (.land, 0, 0, .null), (.lastore, 0, 0, .null), (.iconst 0, 0, 0, .int 0), (.ireturn, 0, 0, .int 0)]
set_option maxRecDepth 100000 in
theorem cb_233_19 : mChk 233 19 bk_233_19 68 = true := by decide +kernel
-- method 234: KeySealerModel.told(II)I, locals 3, room (1, 20)
def bk_234_0 : List mO := [(.iload_n 1, 1, 0, .null), (.invokestatic 518, 222, 1, .null), (.ifCond .eq 13, 17, 0, .null)]
set_option maxRecDepth 100000 in
theorem cb_234_0 : mChk 234 0 bk_234_0 7 = true := by decide +kernel
def bk_234_7 : List mO := [(.iload_n 2, 2, 0, .null), (.ifCond .lt 9, 17, 0, .null)]
set_option maxRecDepth 100000 in
theorem cb_234_7 : mChk 234 7 bk_234_7 11 = true := by decide +kernel
def bk_234_11 : List mO := [(.iload_n 2, 2, 0, .null), (.bipush 6, 0, 0, .int 6), (.if_icmp .le 6, 20, 0, .null)]
set_option maxRecDepth 100000 in
theorem cb_234_11 : mChk 234 11 bk_234_11 17 = true := by decide +kernel
def bk_234_17 : List mO := [(.bipush (-2), 0, 0, .int (-2)), (.ireturn, 0, 0, .int 0)]
set_option maxRecDepth 100000 in
theorem cb_234_17 : mChk 234 17 bk_234_17 20 = true := by decide +kernel
def bk_234_20 : List mO := [(.aload_n 0, 0, 0, .null), (.getfield 154, 9, 61, .null), (.iload_n 1, 1, 0, .null), (.iaload, 0, 0, .null), (.ifCond .ne 5, 31, 0, .null)]
set_option maxRecDepth 100000 in
theorem cb_234_20 : mChk 234 20 bk_234_20 29 = true := by decide +kernel
def bk_234_29 : List mO := [(.iconst 0, 0, 0, .int 0), (.ireturn, 0, 0, .int 0)]
set_option maxRecDepth 100000 in
theorem cb_234_29 : mChk 234 29 bk_234_29 31 = true := by decide +kernel
def bk_234_31 : List mO := [(.iload_n 2, 2, 0, .null), (.ifCond .ne 12, 44, 0, .null)]
set_option maxRecDepth 100000 in
theorem cb_234_31 : mChk 234 31 bk_234_31 35 = true := by decide +kernel
def bk_234_35 : List mO := [(.aload_n 0, 0, 0, .null), (.getfield 154, 9, 61, .null), (.iload_n 1, 1, 0, .null), (.iaload, 0, 0, .null), (.goto 58, 99, 0, .null)]
set_option maxRecDepth 100000 in
theorem cb_234_35 : mChk 234 35 bk_234_35 44 = true := by decide +kernel
def bk_234_44 : List mO := [(.iload_n 2, 2, 0, .null), (.iconst 1, 0, 0, .int 1), (.if_icmp .ne 12, 58, 0, .null)]
set_option maxRecDepth 100000 in
theorem cb_234_44 : mChk 234 44 bk_234_44 49 = true := by decide +kernel
def bk_234_49 : List mO := [(.aload_n 0, 0, 0, .null), (.getfield 157, 9, 62, .null), (.iload_n 1, 1, 0, .null), (.iaload, 0, 0, .null), (.goto 44, 99, 0, .null)]
set_option maxRecDepth 100000 in
theorem cb_234_49 : mChk 234 49 bk_234_49 58 = true := by decide +kernel
def bk_234_58 : List mO := [(.iload_n 2, 2, 0, .null), (.iconst 2, 0, 0, .int 2), (.if_icmp .ne 12, 72, 0, .null)]
set_option maxRecDepth 100000 in
theorem cb_234_58 : mChk 234 58 bk_234_58 63 = true := by decide +kernel
def bk_234_63 : List mO := [(.aload_n 0, 0, 0, .null), (.getfield 160, 9, 63, .null), (.iload_n 1, 1, 0, .null), (.iaload, 0, 0, .null), (.goto 30, 99, 0, .null)]
set_option maxRecDepth 100000 in
theorem cb_234_63 : mChk 234 63 bk_234_63 72 = true := by decide +kernel
def bk_234_72 : List mO := [(.iload_n 2, 2, 0, .null), (.iconst 3, 0, 0, .int 3), (.if_icmp .ne 12, 86, 0, .null)]
set_option maxRecDepth 100000 in
theorem cb_234_72 : mChk 234 72 bk_234_72 77 = true := by decide +kernel
def bk_234_77 : List mO := [(.aload_n 0, 0, 0, .null), (.getfield 163, 9, 64, .null), (.iload_n 1, 1, 0, .null), (.iaload, 0, 0, .null), (.goto 16, 99, 0, .null)]
set_option maxRecDepth 100000 in
theorem cb_234_77 : mChk 234 77 bk_234_77 86 = true := by decide +kernel
def bk_234_86 : List mO := [(.aload_n 0, 0, 0, .null), (.getfield 166, 9, 65, .null), (.iconst 3, 0, 0, .int 3), (.iload_n 1, 1, 0, .null), (.imul, 0, 0, .null), (.iload_n 2, 2, 0, .null), (.iadd, 0, 0, .null), (.iconst 4, 0, 0, .int 4), (.isub, 0, 0, .null), (.laload, 0, 0, .null), (.l2i, 0, 0, .null)]
set_option maxRecDepth 100000 in
theorem cb_234_86 : mChk 234 86 bk_234_86 99 = true := by decide +kernel
def bk_234_99 : List mO := [(.ireturn, 0, 0, .int 0)]
set_option maxRecDepth 100000 in
theorem cb_234_99 : mChk 234 99 bk_234_99 100 = true := by decide +kernel
-- method 235: KeySealerModel.secret(III)I, locals 6, room (1, 23)
def bk_235_0 : List mO := [(.iload_n 1, 1, 0, .null), (.invokestatic 518, 222, 1, .null), (.ifCond .eq 28, 32, 0, .null)]
set_option maxRecDepth 100000 in
theorem cb_235_0 : mChk 235 0 bk_235_0 7 = true := by decide +kernel
def bk_235_7 : List mO := [(.aload_n 0, 0, 0, .null), (.getfield 154, 9, 61, .null), (.iload_n 1, 1, 0, .null), (.iaload, 0, 0, .null), (.ifCond .eq 19, 32, 0, .null)]
set_option maxRecDepth 100000 in
theorem cb_235_7 : mChk 235 7 bk_235_7 16 = true := by decide +kernel
def bk_235_16 : List mO := [(.iload_n 2, 2, 0, .null), (.ifCond .lt 15, 32, 0, .null)]
set_option maxRecDepth 100000 in
theorem cb_235_16 : mChk 235 16 bk_235_16 20 = true := by decide +kernel
def bk_235_20 : List mO := [(.iload_n 2, 2, 0, .null), (.iconst 2, 0, 0, .int 2), (.if_icmp .gt 10, 32, 0, .null)]
set_option maxRecDepth 100000 in
theorem cb_235_20 : mChk 235 20 bk_235_20 25 = true := by decide +kernel
def bk_235_25 : List mO := [(.iload_n 3, 3, 0, .null), (.invokestatic 184, 137, 1, .null), (.ifCond .ne 6, 35, 0, .null)]
set_option maxRecDepth 100000 in
theorem cb_235_25 : mChk 235 25 bk_235_25 32 = true := by decide +kernel
def bk_235_32 : List mO := [(.bipush (-2), 0, 0, .int (-2)), (.ireturn, 0, 0, .int 0)]
set_option maxRecDepth 100000 in
theorem cb_235_32 : mChk 235 32 bk_235_32 35 = true := by decide +kernel
def bk_235_35 : List mO := [(.iload_n 2, 2, 0, .null), (.iconst 2, 0, 0, .int 2), (.if_icmp .ne 15, 52, 0, .null)]
set_option maxRecDepth 100000 in
theorem cb_235_35 : mChk 235 35 bk_235_35 40 = true := by decide +kernel
def bk_235_40 : List mO := [(.aload_n 0, 0, 0, .null), (.getfield 160, 9, 63, .null), (.iload_n 1, 1, 0, .null), (.iaload, 0, 0, .null), (.invokestatic 227, 147, 1, .null), (.goto 37, 86, 0, .null)]
set_option maxRecDepth 100000 in
theorem cb_235_40 : mChk 235 40 bk_235_40 52 = true := by decide +kernel
def bk_235_52 : List mO := [(.aload_n 0, 0, 0, .null), (.getfield 163, 9, 64, .null), (.iload_n 1, 1, 0, .null), (.iaload, 0, 0, .null), (.sipush 255, 0, 0, .int 255), (.if_icmp .ne 7, 68, 0, .null)]
set_option maxRecDepth 100000 in
theorem cb_235_52 : mChk 235 52 bk_235_52 64 = true := by decide +kernel
def bk_235_64 : List mO := [(.iconst 0, 0, 0, .int 0), (.goto 21, 86, 0, .null)]
set_option maxRecDepth 100000 in
theorem cb_235_64 : mChk 235 64 bk_235_64 68 = true := by decide +kernel
def bk_235_68 : List mO := [(.iload_n 2, 2, 0, .null), (.ifCond .ne 15, 84, 0, .null)]
set_option maxRecDepth 100000 in
theorem cb_235_68 : mChk 235 68 bk_235_68 72 = true := by decide +kernel
def bk_235_72 : List mO := [(.aload_n 0, 0, 0, .null), (.getfield 163, 9, 64, .null), (.iload_n 1, 1, 0, .null), (.iaload, 0, 0, .null), (.invokestatic 421, 198, 1, .null), (.goto 5, 86, 0, .null)]
set_option maxRecDepth 100000 in
theorem cb_235_72 : mChk 235 72 bk_235_72 84 = true := by decide +kernel
def bk_235_84 : List mO := [(.bipush 12, 0, 0, .int 12)]
set_option maxRecDepth 100000 in
theorem cb_235_84 : mChk 235 84 bk_235_84 86 = true := by decide +kernel
def bk_235_86 : List mO := [(.istore 4, 4, 0, .null), (.iconst 0, 0, 0, .int 0), (.istore 5, 5, 0, .null)]
set_option maxRecDepth 100000 in
theorem cb_235_86 : mChk 235 86 bk_235_86 91 = true := by decide +kernel
def bk_235_91 : List mO := [(.iload 5, 5, 0, .null), (.iload 4, 4, 0, .null), (.if_icmp .ge 67, 162, 0, .null)]
set_option maxRecDepth 100000 in
theorem cb_235_91 : mChk 235 91 bk_235_91 98 = true := by decide +kernel
def bk_235_98 : List mO := [(.aload_n 0, 0, 0, .null), (.getfield 16, 9, 2, .null), (.iload 5, 5, 0, .null), (.iload_n 2, 2, 0, .null), (.ifCond .ne 18, 123, 0, .null)]
set_option maxRecDepth 100000 in
theorem cb_235_98 : mChk 235 98 bk_235_98 108 = true := by decide +kernel
def bk_235_108 : List mO := [(.aload_n 0, 0, 0, .null), (.getfield 169, 9, 66, .null), (.bipush 32, 0, 0, .int 32), (.iload_n 1, 1, 0, .null), (.imul, 0, 0, .null), (.iload 5, 5, 0, .null), (.iadd, 0, 0, .null), (.iaload, 0, 0, .null), (.goto 35, 155, 0, .null)]
set_option maxRecDepth 100000 in
theorem cb_235_108 : mChk 235 108 bk_235_108 123 = true := by decide +kernel
def bk_235_123 : List mO := [(.iload_n 2, 2, 0, .null), (.iconst 1, 0, 0, .int 1), (.if_icmp .ne 18, 143, 0, .null)]
set_option maxRecDepth 100000 in
theorem cb_235_123 : mChk 235 123 bk_235_123 128 = true := by decide +kernel
def bk_235_128 : List mO := [(.aload_n 0, 0, 0, .null), (.getfield 172, 9, 67, .null), (.bipush 12, 0, 0, .int 12), (.iload_n 1, 1, 0, .null), (.imul, 0, 0, .null), (.iload 5, 5, 0, .null), (.iadd, 0, 0, .null), (.iaload, 0, 0, .null), (.goto 15, 155, 0, .null)]
set_option maxRecDepth 100000 in
theorem cb_235_128 : mChk 235 128 bk_235_128 143 = true := by decide +kernel
def bk_235_143 : List mO := [(.aload_n 0, 0, 0, .null), (.getfield 175, 9, 68, .null), (.bipush 64, 0, 0, .int 64), (.iload_n 1, 1, 0, .null), (.imul, 0, 0, .null), (.iload 5, 5, 0, .null), (.iadd, 0, 0, .null), (.iaload, 0, 0, .null)]
set_option maxRecDepth 100000 in
theorem cb_235_143 : mChk 235 143 bk_235_143 155 = true := by decide +kernel
def bk_235_155 : List mO := [(.iastore, 0, 0, .null), (.iinc 5 1, 5, 0, .int 1), (.goto (-68), 91, 0, .null)]
set_option maxRecDepth 100000 in
theorem cb_235_155 : mChk 235 155 bk_235_155 162 = true := by decide +kernel
def bk_235_162 : List mO := [(.aload_n 0, 0, 0, .null), (.iload_n 3, 3, 0, .null), (.iload 4, 4, 0, .null), (.invokevirtual 190, 146, 2, .ref 9), (.iload 4, 4, 0, .null), (.ireturn, 0, 0, .int 0)]
set_option maxRecDepth 100000 in
theorem cb_235_162 : mChk 235 162 bk_235_162 172 = true := by decide +kernel
-- method 241: KeySealerLaw.law([I)Z, locals 4, room (10, 278)
def bk_241_0 : List mO := [(.new 7, 8, 15, .null), (.dup, 0, 0, .null), (.invokespecial 9, 89, 0, .int 0), (.astore_n 1, 1, 0, .null), (.new 10, 9, 71, .null), (.dup, 0, 0, .null), (.invokespecial 12, 136, 0, .int 0), (.astore_n 2, 2, 0, .null), (.iconst 0, 0, 0, .int 0), (.istore_n 3, 3, 0, .null)]
set_option maxRecDepth 100000 in
theorem cb_241_0 : mChk 241 0 bk_241_0 18 = true := by decide +kernel
def bk_241_18 : List mO := [(.iload_n 3, 3, 0, .null), (.aload_n 0, 0, 0, .null), (.arraylength, 0, 0, .null), (.bipush 8, 0, 0, .int 8), (.isub, 0, 0, .null), (.if_icmp .gt 1318, 1342, 0, .null)]
set_option maxRecDepth 100000 in
theorem cb_241_18 : mChk 241 18 bk_241_18 27 = true := by decide +kernel
def bk_241_27 : List mO := [(.aload_n 0, 0, 0, .null), (.iload_n 3, 3, 0, .null), (.iaload, 0, 0, .null), (.bipush 31, 0, 0, .int 31), (.iand, 0, 0, .null), (.tableswitch 1303 0 23 #[111, 184, 207, 260, 293, 336, 359, 392, 435, 488, 551, 594, 627, 670, 745, 820, 853, 940, 1015, 1068, 1121, 1174, 1227, 1260], 33, 0, .null)]
set_option maxRecDepth 100000 in
theorem cb_241_27 : mChk 241 27 bk_241_27 34 = true := by decide +kernel
def bk_241_144 : List mO := [(.aload_n 1, 1, 0, .null), (.aload_n 0, 0, 0, .null), (.iload_n 3, 3, 0, .null), (.iconst 1, 0, 0, .int 1), (.iadd, 0, 0, .null), (.iaload, 0, 0, .null), (.aload_n 0, 0, 0, .null), (.iload_n 3, 3, 0, .null), (.iconst 2, 0, 0, .int 2), (.iadd, 0, 0, .null), (.iaload, 0, 0, .null), (.aload_n 0, 0, 0, .null), (.iload_n 3, 3, 0, .null), (.iconst 3, 0, 0, .int 3), (.iadd, 0, 0, .null), (.iaload, 0, 0, .null), (.i2l, 0, 0, .null), (.bipush 32, 0, 0, .int 32), (.lshl, 0, 0, .null), (.aload_n 0, 0, 0, .null), (.iload_n 3, 3, 0, .null), (.iconst 4, 0, 0, .int 4), (.iadd, 0, 0, .null), (.iaload, 0, 0, .null), (.i2l, 0, 0, .null), (.ldc2_w 13, 0, 0, .long 4294967295), (.land, 0, 0, .null), (.lor, 0, 0, .null), (.invokevirtual 15, 90, 3, .ref 8), (.aload_n 2, 2, 0, .null), (.aload_n 0, 0, 0, .null), (.iload_n 3, 3, 0, .null), (.iconst 1, 0, 0, .int 1), (.iadd, 0, 0, .null), (.iaload, 0, 0, .null), (.aload_n 0, 0, 0, .null), (.iload_n 3, 3, 0, .null), (.iconst 2, 0, 0, .int 2), (.iadd, 0, 0, .null), (.iaload, 0, 0, .null), (.aload_n 0, 0, 0, .null), (.iload_n 3, 3, 0, .null), (.iconst 3, 0, 0, .int 3), (.iadd, 0, 0, .null), (.iaload, 0, 0, .null), (.i2l, 0, 0, .null), (.bipush 32, 0, 0, .int 32), (.lshl, 0, 0, .null), (.aload_n 0, 0, 0, .null), (.iload_n 3, 3, 0, .null), (.iconst 4, 0, 0, .int 4), (.iadd, 0, 0, .null), (.iaload, 0, 0, .null), (.i2l, 0, 0, .null), (.ldc2_w 13, 0, 0, .long 4294967295), (.land, 0, 0, .null), (.lor, 0, 0, .null), (.invokevirtual 19, 139, 3, .ref 9), (.if_icmp .eq 1124, 1336, 0, .null)]
set_option maxRecDepth 100000 in
theorem cb_241_144 : mChk 241 144 bk_241_144 215 = true := by decide +kernel
def bk_241_215 : List mO := [(.iconst 0, 0, 0, .int 0), (.ireturn, 0, 0, .int 1)]
set_option maxRecDepth 100000 in
theorem cb_241_215 : mChk 241 215 bk_241_215 217 = true := by decide +kernel
def bk_241_217 : List mO := [(.aload_n 1, 1, 0, .null), (.aload_n 0, 0, 0, .null), (.iload_n 3, 3, 0, .null), (.iconst 1, 0, 0, .int 1), (.iadd, 0, 0, .null), (.iaload, 0, 0, .null), (.invokevirtual 20, 91, 1, .ref 8), (.aload_n 2, 2, 0, .null), (.aload_n 0, 0, 0, .null), (.iload_n 3, 3, 0, .null), (.iconst 1, 0, 0, .int 1), (.iadd, 0, 0, .null), (.iaload, 0, 0, .null), (.invokevirtual 24, 140, 1, .ref 9), (.if_icmp .eq 1101, 1336, 0, .null)]
set_option maxRecDepth 100000 in
theorem cb_241_217 : mChk 241 217 bk_241_217 238 = true := by decide +kernel
def bk_241_238 : List mO := [(.iconst 0, 0, 0, .int 0), (.ireturn, 0, 0, .int 1)]
set_option maxRecDepth 100000 in
theorem cb_241_238 : mChk 241 238 bk_241_238 240 = true := by decide +kernel
def bk_241_240 : List mO := [(.aload_n 1, 1, 0, .null), (.aload_n 0, 0, 0, .null), (.iload_n 3, 3, 0, .null), (.iconst 1, 0, 0, .int 1), (.iadd, 0, 0, .null), (.iaload, 0, 0, .null), (.aload_n 0, 0, 0, .null), (.iload_n 3, 3, 0, .null), (.iconst 2, 0, 0, .int 2), (.iadd, 0, 0, .null), (.iaload, 0, 0, .null), (.aload_n 0, 0, 0, .null), (.iload_n 3, 3, 0, .null), (.iconst 3, 0, 0, .int 3), (.iadd, 0, 0, .null), (.iaload, 0, 0, .null), (.aload_n 0, 0, 0, .null), (.iload_n 3, 3, 0, .null), (.iconst 4, 0, 0, .int 4), (.iadd, 0, 0, .null), (.iaload, 0, 0, .null), (.invokevirtual 25, 92, 4, .ref 8), (.aload_n 2, 2, 0, .null), (.aload_n 0, 0, 0, .null), (.iload_n 3, 3, 0, .null), (.iconst 1, 0, 0, .int 1), (.iadd, 0, 0, .null), (.iaload, 0, 0, .null), (.aload_n 0, 0, 0, .null), (.iload_n 3, 3, 0, .null), (.iconst 2, 0, 0, .int 2), (.iadd, 0, 0, .null), (.iaload, 0, 0, .null), (.aload_n 0, 0, 0, .null), (.iload_n 3, 3, 0, .null), (.iconst 3, 0, 0, .int 3), (.iadd, 0, 0, .null), (.iaload, 0, 0, .null), (.aload_n 0, 0, 0, .null), (.iload_n 3, 3, 0, .null), (.iconst 4, 0, 0, .int 4), (.iadd, 0, 0, .null), (.iaload, 0, 0, .null), (.invokevirtual 29, 141, 4, .ref 9), (.if_icmp .eq 1048, 1336, 0, .null)]
set_option maxRecDepth 100000 in
theorem cb_241_240 : mChk 241 240 bk_241_240 291 = true := by decide +kernel
def bk_241_291 : List mO := [(.iconst 0, 0, 0, .int 0), (.ireturn, 0, 0, .int 1)]
set_option maxRecDepth 100000 in
theorem cb_241_291 : mChk 241 291 bk_241_291 293 = true := by decide +kernel
def bk_241_293 : List mO := [(.aload_n 1, 1, 0, .null), (.aload_n 0, 0, 0, .null), (.iload_n 3, 3, 0, .null), (.iconst 1, 0, 0, .int 1), (.iadd, 0, 0, .null), (.iaload, 0, 0, .null), (.aload_n 0, 0, 0, .null), (.iload_n 3, 3, 0, .null), (.iconst 2, 0, 0, .int 2), (.iadd, 0, 0, .null), (.iaload, 0, 0, .null), (.invokevirtual 30, 93, 2, .ref 8), (.aload_n 2, 2, 0, .null), (.aload_n 0, 0, 0, .null), (.iload_n 3, 3, 0, .null), (.iconst 1, 0, 0, .int 1), (.iadd, 0, 0, .null), (.iaload, 0, 0, .null), (.aload_n 0, 0, 0, .null), (.iload_n 3, 3, 0, .null), (.iconst 2, 0, 0, .int 2), (.iadd, 0, 0, .null), (.iaload, 0, 0, .null), (.invokevirtual 34, 142, 2, .ref 9), (.if_icmp .eq 1015, 1336, 0, .null)]
set_option maxRecDepth 100000 in
theorem cb_241_293 : mChk 241 293 bk_241_293 324 = true := by decide +kernel
def bk_241_324 : List mO := [(.iconst 0, 0, 0, .int 0), (.ireturn, 0, 0, .int 1)]
set_option maxRecDepth 100000 in
theorem cb_241_324 : mChk 241 324 bk_241_324 326 = true := by decide +kernel
def bk_241_326 : List mO := [(.aload_n 1, 1, 0, .null), (.aload_n 0, 0, 0, .null), (.iload_n 3, 3, 0, .null), (.iconst 1, 0, 0, .int 1), (.iadd, 0, 0, .null), (.iaload, 0, 0, .null), (.aload_n 0, 0, 0, .null), (.iload_n 3, 3, 0, .null), (.iconst 2, 0, 0, .int 2), (.iadd, 0, 0, .null), (.iaload, 0, 0, .null), (.aload_n 0, 0, 0, .null), (.iload_n 3, 3, 0, .null), (.iconst 3, 0, 0, .int 3), (.iadd, 0, 0, .null), (.iaload, 0, 0, .null), (.invokevirtual 35, 94, 3, .ref 8), (.aload_n 2, 2, 0, .null), (.aload_n 0, 0, 0, .null), (.iload_n 3, 3, 0, .null), (.iconst 1, 0, 0, .int 1), (.iadd, 0, 0, .null), (.iaload, 0, 0, .null), (.aload_n 0, 0, 0, .null), (.iload_n 3, 3, 0, .null), (.iconst 2, 0, 0, .int 2), (.iadd, 0, 0, .null), (.iaload, 0, 0, .null), (.aload_n 0, 0, 0, .null), (.iload_n 3, 3, 0, .null), (.iconst 3, 0, 0, .int 3), (.iadd, 0, 0, .null), (.iaload, 0, 0, .null), (.invokevirtual 39, 143, 3, .ref 9), (.if_icmp .eq 972, 1336, 0, .null)]
set_option maxRecDepth 100000 in
theorem cb_241_326 : mChk 241 326 bk_241_326 367 = true := by decide +kernel
def bk_241_367 : List mO := [(.iconst 0, 0, 0, .int 0), (.ireturn, 0, 0, .int 1)]
set_option maxRecDepth 100000 in
theorem cb_241_367 : mChk 241 367 bk_241_367 369 = true := by decide +kernel
def bk_241_369 : List mO := [(.aload_n 1, 1, 0, .null), (.aload_n 0, 0, 0, .null), (.iload_n 3, 3, 0, .null), (.iconst 1, 0, 0, .int 1), (.iadd, 0, 0, .null), (.iaload, 0, 0, .null), (.invokevirtual 40, 95, 1, .ref 8), (.aload_n 2, 2, 0, .null), (.aload_n 0, 0, 0, .null), (.iload_n 3, 3, 0, .null), (.iconst 1, 0, 0, .int 1), (.iadd, 0, 0, .null), (.iaload, 0, 0, .null), (.invokevirtual 43, 144, 1, .ref 9), (.if_icmp .eq 949, 1336, 0, .null)]
set_option maxRecDepth 100000 in
theorem cb_241_369 : mChk 241 369 bk_241_369 390 = true := by decide +kernel
def bk_241_390 : List mO := [(.iconst 0, 0, 0, .int 0), (.ireturn, 0, 0, .int 1)]
set_option maxRecDepth 100000 in
theorem cb_241_390 : mChk 241 390 bk_241_390 392 = true := by decide +kernel
def bk_241_392 : List mO := [(.aload_n 1, 1, 0, .null), (.aload_n 0, 0, 0, .null), (.iload_n 3, 3, 0, .null), (.iconst 1, 0, 0, .int 1), (.iadd, 0, 0, .null), (.iaload, 0, 0, .null), (.aload_n 0, 0, 0, .null), (.iload_n 3, 3, 0, .null), (.iconst 2, 0, 0, .int 2), (.iadd, 0, 0, .null), (.iaload, 0, 0, .null), (.invokevirtual 44, 96, 2, .ref 8), (.aload_n 2, 2, 0, .null), (.aload_n 0, 0, 0, .null), (.iload_n 3, 3, 0, .null), (.iconst 1, 0, 0, .int 1), (.iadd, 0, 0, .null), (.iaload, 0, 0, .null), (.aload_n 0, 0, 0, .null), (.iload_n 3, 3, 0, .null), (.iconst 2, 0, 0, .int 2), (.iadd, 0, 0, .null), (.iaload, 0, 0, .null), (.invokevirtual 47, 145, 2, .ref 9), (.if_icmp .eq 916, 1336, 0, .null)]
set_option maxRecDepth 100000 in
theorem cb_241_392 : mChk 241 392 bk_241_392 423 = true := by decide +kernel
def bk_241_423 : List mO := [(.iconst 0, 0, 0, .int 0), (.ireturn, 0, 0, .int 1)]
set_option maxRecDepth 100000 in
theorem cb_241_423 : mChk 241 423 bk_241_423 425 = true := by decide +kernel
def bk_241_425 : List mO := [(.aload_n 1, 1, 0, .null), (.aload_n 0, 0, 0, .null), (.iload_n 3, 3, 0, .null), (.iconst 1, 0, 0, .int 1), (.iadd, 0, 0, .null), (.iaload, 0, 0, .null), (.aload_n 0, 0, 0, .null), (.iload_n 3, 3, 0, .null), (.iconst 2, 0, 0, .int 2), (.iadd, 0, 0, .null), (.iaload, 0, 0, .null), (.aload_n 0, 0, 0, .null), (.iload_n 3, 3, 0, .null), (.iconst 3, 0, 0, .int 3), (.iadd, 0, 0, .null), (.iaload, 0, 0, .null), (.invokevirtual 48, 97, 3, .ref 8), (.aload_n 2, 2, 0, .null), (.aload_n 0, 0, 0, .null), (.iload_n 3, 3, 0, .null), (.iconst 1, 0, 0, .int 1), (.iadd, 0, 0, .null), (.iaload, 0, 0, .null), (.aload_n 0, 0, 0, .null), (.iload_n 3, 3, 0, .null), (.iconst 2, 0, 0, .int 2), (.iadd, 0, 0, .null), (.iaload, 0, 0, .null), (.aload_n 0, 0, 0, .null), (.iload_n 3, 3, 0, .null), (.iconst 3, 0, 0, .int 3), (.iadd, 0, 0, .null), (.iaload, 0, 0, .null), (.invokevirtual 51, 153, 3, .ref 9), (.if_icmp .eq 873, 1336, 0, .null)]
set_option maxRecDepth 100000 in
theorem cb_241_425 : mChk 241 425 bk_241_425 466 = true := by decide +kernel
def bk_241_466 : List mO := [(.iconst 0, 0, 0, .int 0), (.ireturn, 0, 0, .int 1)]
set_option maxRecDepth 100000 in
theorem cb_241_466 : mChk 241 466 bk_241_466 468 = true := by decide +kernel
def bk_241_468 : List mO := [(.aload_n 1, 1, 0, .null), (.aload_n 0, 0, 0, .null), (.iload_n 3, 3, 0, .null), (.iconst 1, 0, 0, .int 1), (.iadd, 0, 0, .null), (.iaload, 0, 0, .null), (.aload_n 0, 0, 0, .null), (.iload_n 3, 3, 0, .null), (.iconst 2, 0, 0, .int 2), (.iadd, 0, 0, .null), (.iaload, 0, 0, .null), (.aload_n 0, 0, 0, .null), (.iload_n 3, 3, 0, .null), (.iconst 3, 0, 0, .int 3), (.iadd, 0, 0, .null), (.iaload, 0, 0, .null), (.aload_n 0, 0, 0, .null), (.iload_n 3, 3, 0, .null), (.iconst 4, 0, 0, .int 4), (.iadd, 0, 0, .null), (.iaload, 0, 0, .null), (.invokevirtual 52, 98, 4, .ref 8), (.aload_n 2, 2, 0, .null), (.aload_n 0, 0, 0, .null), (.iload_n 3, 3, 0, .null), (.iconst 1, 0, 0, .int 1), (.iadd, 0, 0, .null), (.iaload, 0, 0, .null), (.aload_n 0, 0, 0, .null), (.iload_n 3, 3, 0, .null), (.iconst 2, 0, 0, .int 2), (.iadd, 0, 0, .null), (.iaload, 0, 0, .null), (.aload_n 0, 0, 0, .null), (.iload_n 3, 3, 0, .null), (.iconst 3, 0, 0, .int 3), (.iadd, 0, 0, .null), (.iaload, 0, 0, .null), (.aload_n 0, 0, 0, .null), (.iload_n 3, 3, 0, .null), (.iconst 4, 0, 0, .int 4), (.iadd, 0, 0, .null), (.iaload, 0, 0, .null), (.invokevirtual 55, 162, 4, .ref 9), (.if_icmp .eq 820, 1336, 0, .null)]
set_option maxRecDepth 100000 in
theorem cb_241_468 : mChk 241 468 bk_241_468 519 = true := by decide +kernel
def bk_241_519 : List mO := [(.iconst 0, 0, 0, .int 0), (.ireturn, 0, 0, .int 1)]
set_option maxRecDepth 100000 in
theorem cb_241_519 : mChk 241 519 bk_241_519 521 = true := by decide +kernel
def bk_241_521 : List mO := [(.aload_n 1, 1, 0, .null), (.aload_n 0, 0, 0, .null), (.iload_n 3, 3, 0, .null), (.iconst 1, 0, 0, .int 1), (.iadd, 0, 0, .null), (.iaload, 0, 0, .null), (.aload_n 0, 0, 0, .null), (.iload_n 3, 3, 0, .null), (.iconst 2, 0, 0, .int 2), (.iadd, 0, 0, .null), (.iaload, 0, 0, .null), (.aload_n 0, 0, 0, .null), (.iload_n 3, 3, 0, .null), (.iconst 3, 0, 0, .int 3), (.iadd, 0, 0, .null), (.iaload, 0, 0, .null), (.aload_n 0, 0, 0, .null), (.iload_n 3, 3, 0, .null), (.iconst 4, 0, 0, .int 4), (.iadd, 0, 0, .null), (.iaload, 0, 0, .null), (.aload_n 0, 0, 0, .null), (.iload_n 3, 3, 0, .null), (.iconst 5, 0, 0, .int 5), (.iadd, 0, 0, .null), (.iaload, 0, 0, .null), (.invokevirtual 56, 99, 5, .ref 8), (.aload_n 2, 2, 0, .null), (.aload_n 0, 0, 0, .null), (.iload_n 3, 3, 0, .null), (.iconst 1, 0, 0, .int 1), (.iadd, 0, 0, .null), (.iaload, 0, 0, .null), (.aload_n 0, 0, 0, .null), (.iload_n 3, 3, 0, .null), (.iconst 2, 0, 0, .int 2), (.iadd, 0, 0, .null), (.iaload, 0, 0, .null), (.aload_n 0, 0, 0, .null), (.iload_n 3, 3, 0, .null), (.iconst 3, 0, 0, .int 3), (.iadd, 0, 0, .null), (.iaload, 0, 0, .null), (.aload_n 0, 0, 0, .null), (.iload_n 3, 3, 0, .null), (.iconst 4, 0, 0, .int 4), (.iadd, 0, 0, .null), (.iaload, 0, 0, .null), (.aload_n 0, 0, 0, .null), (.iload_n 3, 3, 0, .null), (.iconst 5, 0, 0, .int 5), (.iadd, 0, 0, .null), (.iaload, 0, 0, .null), (.invokevirtual 60, 164, 5, .ref 9), (.if_icmp .eq 757, 1336, 0, .null)]
set_option maxRecDepth 100000 in
theorem cb_241_521 : mChk 241 521 bk_241_521 582 = true := by decide +kernel
def bk_241_582 : List mO := [(.iconst 0, 0, 0, .int 0), (.ireturn, 0, 0, .int 1)]
set_option maxRecDepth 100000 in
theorem cb_241_582 : mChk 241 582 bk_241_582 584 = true := by decide +kernel
def bk_241_584 : List mO := [(.aload_n 1, 1, 0, .null), (.aload_n 0, 0, 0, .null), (.iload_n 3, 3, 0, .null), (.iconst 1, 0, 0, .int 1), (.iadd, 0, 0, .null), (.iaload, 0, 0, .null), (.aload_n 0, 0, 0, .null), (.iload_n 3, 3, 0, .null), (.iconst 2, 0, 0, .int 2), (.iadd, 0, 0, .null), (.iaload, 0, 0, .null), (.aload_n 0, 0, 0, .null), (.iload_n 3, 3, 0, .null), (.iconst 3, 0, 0, .int 3), (.iadd, 0, 0, .null), (.iaload, 0, 0, .null), (.invokevirtual 61, 100, 3, .ref 8), (.aload_n 2, 2, 0, .null), (.aload_n 0, 0, 0, .null), (.iload_n 3, 3, 0, .null), (.iconst 1, 0, 0, .int 1), (.iadd, 0, 0, .null), (.iaload, 0, 0, .null), (.aload_n 0, 0, 0, .null), (.iload_n 3, 3, 0, .null), (.iconst 2, 0, 0, .int 2), (.iadd, 0, 0, .null), (.iaload, 0, 0, .null), (.aload_n 0, 0, 0, .null), (.iload_n 3, 3, 0, .null), (.iconst 3, 0, 0, .int 3), (.iadd, 0, 0, .null), (.iaload, 0, 0, .null), (.invokevirtual 64, 181, 3, .ref 9), (.if_icmp .eq 714, 1336, 0, .null)]
set_option maxRecDepth 100000 in
theorem cb_241_584 : mChk 241 584 bk_241_584 625 = true := by decide +kernel
def bk_241_625 : List mO := [(.iconst 0, 0, 0, .int 0), (.ireturn, 0, 0, .int 1)]
set_option maxRecDepth 100000 in
theorem cb_241_625 : mChk 241 625 bk_241_625 627 = true := by decide +kernel
def bk_241_627 : List mO := [(.aload_n 1, 1, 0, .null), (.aload_n 0, 0, 0, .null), (.iload_n 3, 3, 0, .null), (.iconst 1, 0, 0, .int 1), (.iadd, 0, 0, .null), (.iaload, 0, 0, .null), (.aload_n 0, 0, 0, .null), (.iload_n 3, 3, 0, .null), (.iconst 2, 0, 0, .int 2), (.iadd, 0, 0, .null), (.iaload, 0, 0, .null), (.invokevirtual 65, 101, 2, .ref 8), (.aload_n 2, 2, 0, .null), (.aload_n 0, 0, 0, .null), (.iload_n 3, 3, 0, .null), (.iconst 1, 0, 0, .int 1), (.iadd, 0, 0, .null), (.iaload, 0, 0, .null), (.aload_n 0, 0, 0, .null), (.iload_n 3, 3, 0, .null), (.iconst 2, 0, 0, .int 2), (.iadd, 0, 0, .null), (.iaload, 0, 0, .null), (.invokevirtual 68, 182, 2, .ref 9), (.if_icmp .eq 681, 1336, 0, .null)]
set_option maxRecDepth 100000 in
theorem cb_241_627 : mChk 241 627 bk_241_627 658 = true := by decide +kernel
def bk_241_658 : List mO := [(.iconst 0, 0, 0, .int 0), (.ireturn, 0, 0, .int 1)]
set_option maxRecDepth 100000 in
theorem cb_241_658 : mChk 241 658 bk_241_658 660 = true := by decide +kernel
def bk_241_660 : List mO := [(.aload_n 1, 1, 0, .null), (.aload_n 0, 0, 0, .null), (.iload_n 3, 3, 0, .null), (.iconst 1, 0, 0, .int 1), (.iadd, 0, 0, .null), (.iaload, 0, 0, .null), (.aload_n 0, 0, 0, .null), (.iload_n 3, 3, 0, .null), (.iconst 2, 0, 0, .int 2), (.iadd, 0, 0, .null), (.iaload, 0, 0, .null), (.aload_n 0, 0, 0, .null), (.iload_n 3, 3, 0, .null), (.iconst 3, 0, 0, .int 3), (.iadd, 0, 0, .null), (.iaload, 0, 0, .null), (.invokevirtual 69, 102, 3, .ref 8), (.aload_n 2, 2, 0, .null), (.aload_n 0, 0, 0, .null), (.iload_n 3, 3, 0, .null), (.iconst 1, 0, 0, .int 1), (.iadd, 0, 0, .null), (.iaload, 0, 0, .null), (.aload_n 0, 0, 0, .null), (.iload_n 3, 3, 0, .null), (.iconst 2, 0, 0, .int 2), (.iadd, 0, 0, .null), (.iaload, 0, 0, .null), (.aload_n 0, 0, 0, .null), (.iload_n 3, 3, 0, .null), (.iconst 3, 0, 0, .int 3), (.iadd, 0, 0, .null), (.iaload, 0, 0, .null), (.invokevirtual 72, 213, 3, .ref 9), (.if_icmp .eq 638, 1336, 0, .null)]
set_option maxRecDepth 100000 in
theorem cb_241_660 : mChk 241 660 bk_241_660 701 = true := by decide +kernel
def bk_241_701 : List mO := [(.iconst 0, 0, 0, .int 0), (.ireturn, 0, 0, .int 1)]
set_option maxRecDepth 100000 in
theorem cb_241_701 : mChk 241 701 bk_241_701 703 = true := by decide +kernel
def bk_241_703 : List mO := [(.aload_n 1, 1, 0, .null), (.aload_n 0, 0, 0, .null), (.iload_n 3, 3, 0, .null), (.iconst 1, 0, 0, .int 1), (.iadd, 0, 0, .null), (.iaload, 0, 0, .null), (.aload_n 0, 0, 0, .null), (.iload_n 3, 3, 0, .null), (.iconst 2, 0, 0, .int 2), (.iadd, 0, 0, .null), (.iaload, 0, 0, .null), (.aload_n 0, 0, 0, .null), (.iload_n 3, 3, 0, .null), (.iconst 3, 0, 0, .int 3), (.iadd, 0, 0, .null), (.iaload, 0, 0, .null), (.aload_n 0, 0, 0, .null), (.iload_n 3, 3, 0, .null), (.iconst 4, 0, 0, .int 4), (.iadd, 0, 0, .null), (.iaload, 0, 0, .null), (.aload_n 0, 0, 0, .null), (.iload_n 3, 3, 0, .null), (.iconst 5, 0, 0, .int 5), (.iadd, 0, 0, .null), (.iaload, 0, 0, .null), (.aload_n 0, 0, 0, .null), (.iload_n 3, 3, 0, .null), (.bipush 6, 0, 0, .int 6), (.iadd, 0, 0, .null), (.iaload, 0, 0, .null), (.invokevirtual 73, 103, 6, .ref 8), (.aload_n 2, 2, 0, .null), (.aload_n 0, 0, 0, .null), (.iload_n 3, 3, 0, .null), (.iconst 1, 0, 0, .int 1), (.iadd, 0, 0, .null), (.iaload, 0, 0, .null), (.aload_n 0, 0, 0, .null), (.iload_n 3, 3, 0, .null), (.iconst 2, 0, 0, .int 2), (.iadd, 0, 0, .null), (.iaload, 0, 0, .null), (.aload_n 0, 0, 0, .null), (.iload_n 3, 3, 0, .null), (.iconst 3, 0, 0, .int 3), (.iadd, 0, 0, .null), (.iaload, 0, 0, .null), (.aload_n 0, 0, 0, .null), (.iload_n 3, 3, 0, .null), (.iconst 4, 0, 0, .int 4), (.iadd, 0, 0, .null), (.iaload, 0, 0, .null), (.aload_n 0, 0, 0, .null), (.iload_n 3, 3, 0, .null), (.iconst 5, 0, 0, .int 5), (.iadd, 0, 0, .null), (.iaload, 0, 0, .null), (.aload_n 0, 0, 0, .null), (.iload_n 3, 3, 0, .null), (.bipush 6, 0, 0, .int 6), (.iadd, 0, 0, .null), (.iaload, 0, 0, .null), (.invokevirtual 77, 205, 6, .ref 9), (.if_icmp .eq 563, 1336, 0, .null)]
set_option maxRecDepth 100000 in
theorem cb_241_703 : mChk 241 703 bk_241_703 776 = true := by decide +kernel
def bk_241_776 : List mO := [(.iconst 0, 0, 0, .int 0), (.ireturn, 0, 0, .int 1)]
set_option maxRecDepth 100000 in
theorem cb_241_776 : mChk 241 776 bk_241_776 778 = true := by decide +kernel
def bk_241_778 : List mO := [(.aload_n 1, 1, 0, .null), (.aload_n 0, 0, 0, .null), (.iload_n 3, 3, 0, .null), (.iconst 1, 0, 0, .int 1), (.iadd, 0, 0, .null), (.iaload, 0, 0, .null), (.aload_n 0, 0, 0, .null), (.iload_n 3, 3, 0, .null), (.iconst 2, 0, 0, .int 2), (.iadd, 0, 0, .null), (.iaload, 0, 0, .null), (.aload_n 0, 0, 0, .null), (.iload_n 3, 3, 0, .null), (.iconst 3, 0, 0, .int 3), (.iadd, 0, 0, .null), (.iaload, 0, 0, .null), (.aload_n 0, 0, 0, .null), (.iload_n 3, 3, 0, .null), (.iconst 4, 0, 0, .int 4), (.iadd, 0, 0, .null), (.iaload, 0, 0, .null), (.aload_n 0, 0, 0, .null), (.iload_n 3, 3, 0, .null), (.iconst 5, 0, 0, .int 5), (.iadd, 0, 0, .null), (.iaload, 0, 0, .null), (.aload_n 0, 0, 0, .null), (.iload_n 3, 3, 0, .null), (.bipush 6, 0, 0, .int 6), (.iadd, 0, 0, .null), (.iaload, 0, 0, .null), (.invokevirtual 78, 104, 6, .ref 8), (.aload_n 2, 2, 0, .null), (.aload_n 0, 0, 0, .null), (.iload_n 3, 3, 0, .null), (.iconst 1, 0, 0, .int 1), (.iadd, 0, 0, .null), (.iaload, 0, 0, .null), (.aload_n 0, 0, 0, .null), (.iload_n 3, 3, 0, .null), (.iconst 2, 0, 0, .int 2), (.iadd, 0, 0, .null), (.iaload, 0, 0, .null), (.aload_n 0, 0, 0, .null), (.iload_n 3, 3, 0, .null), (.iconst 3, 0, 0, .int 3), (.iadd, 0, 0, .null), (.iaload, 0, 0, .null), (.aload_n 0, 0, 0, .null), (.iload_n 3, 3, 0, .null), (.iconst 4, 0, 0, .int 4), (.iadd, 0, 0, .null), (.iaload, 0, 0, .null), (.aload_n 0, 0, 0, .null), (.iload_n 3, 3, 0, .null), (.iconst 5, 0, 0, .int 5), (.iadd, 0, 0, .null), (.iaload, 0, 0, .null), (.aload_n 0, 0, 0, .null), (.iload_n 3, 3, 0, .null), (.bipush 6, 0, 0, .int 6), (.iadd, 0, 0, .null), (.iaload, 0, 0, .null), (.invokevirtual 81, 206, 6, .ref 9), (.if_icmp .eq 488, 1336, 0, .null)]
set_option maxRecDepth 100000 in
theorem cb_241_778 : mChk 241 778 bk_241_778 851 = true := by decide +kernel
def bk_241_851 : List mO := [(.iconst 0, 0, 0, .int 0), (.ireturn, 0, 0, .int 1)]
set_option maxRecDepth 100000 in
theorem cb_241_851 : mChk 241 851 bk_241_851 853 = true := by decide +kernel
def bk_241_853 : List mO := [(.aload_n 1, 1, 0, .null), (.aload_n 0, 0, 0, .null), (.iload_n 3, 3, 0, .null), (.iconst 1, 0, 0, .int 1), (.iadd, 0, 0, .null), (.iaload, 0, 0, .null), (.aload_n 0, 0, 0, .null), (.iload_n 3, 3, 0, .null), (.iconst 2, 0, 0, .int 2), (.iadd, 0, 0, .null), (.iaload, 0, 0, .null), (.invokevirtual 82, 105, 2, .ref 8), (.aload_n 2, 2, 0, .null), (.aload_n 0, 0, 0, .null), (.iload_n 3, 3, 0, .null), (.iconst 1, 0, 0, .int 1), (.iadd, 0, 0, .null), (.iaload, 0, 0, .null), (.aload_n 0, 0, 0, .null), (.iload_n 3, 3, 0, .null), (.iconst 2, 0, 0, .int 2), (.iadd, 0, 0, .null), (.iaload, 0, 0, .null), (.invokevirtual 85, 214, 2, .ref 9), (.if_icmp .eq 455, 1336, 0, .null)]
set_option maxRecDepth 100000 in
theorem cb_241_853 : mChk 241 853 bk_241_853 884 = true := by decide +kernel
def bk_241_884 : List mO := [(.iconst 0, 0, 0, .int 0), (.ireturn, 0, 0, .int 1)]
set_option maxRecDepth 100000 in
theorem cb_241_884 : mChk 241 884 bk_241_884 886 = true := by decide +kernel
def bk_241_886 : List mO := [(.aload_n 1, 1, 0, .null), (.aload_n 0, 0, 0, .null), (.iload_n 3, 3, 0, .null), (.iconst 1, 0, 0, .int 1), (.iadd, 0, 0, .null), (.iaload, 0, 0, .null), (.aload_n 0, 0, 0, .null), (.iload_n 3, 3, 0, .null), (.iconst 2, 0, 0, .int 2), (.iadd, 0, 0, .null), (.iaload, 0, 0, .null), (.aload_n 0, 0, 0, .null), (.iload_n 3, 3, 0, .null), (.iconst 3, 0, 0, .int 3), (.iadd, 0, 0, .null), (.iaload, 0, 0, .null), (.aload_n 0, 0, 0, .null), (.iload_n 3, 3, 0, .null), (.iconst 4, 0, 0, .int 4), (.iadd, 0, 0, .null), (.iaload, 0, 0, .null), (.aload_n 0, 0, 0, .null), (.iload_n 3, 3, 0, .null), (.iconst 5, 0, 0, .int 5), (.iadd, 0, 0, .null), (.iaload, 0, 0, .null), (.aload_n 0, 0, 0, .null), (.iload_n 3, 3, 0, .null), (.bipush 6, 0, 0, .int 6), (.iadd, 0, 0, .null), (.iaload, 0, 0, .null), (.aload_n 0, 0, 0, .null), (.iload_n 3, 3, 0, .null), (.bipush 7, 0, 0, .int 7), (.iadd, 0, 0, .null), (.iaload, 0, 0, .null), (.invokevirtual 86, 106, 7, .ref 8), (.aload_n 2, 2, 0, .null), (.aload_n 0, 0, 0, .null), (.iload_n 3, 3, 0, .null), (.iconst 1, 0, 0, .int 1), (.iadd, 0, 0, .null), (.iaload, 0, 0, .null), (.aload_n 0, 0, 0, .null), (.iload_n 3, 3, 0, .null), (.iconst 2, 0, 0, .int 2), (.iadd, 0, 0, .null), (.iaload, 0, 0, .null), (.aload_n 0, 0, 0, .null), (.iload_n 3, 3, 0, .null), (.iconst 3, 0, 0, .int 3), (.iadd, 0, 0, .null), (.iaload, 0, 0, .null), (.aload_n 0, 0, 0, .null), (.iload_n 3, 3, 0, .null), (.iconst 4, 0, 0, .int 4), (.iadd, 0, 0, .null), (.iaload, 0, 0, .null), (.aload_n 0, 0, 0, .null), (.iload_n 3, 3, 0, .null), (.iconst 5, 0, 0, .int 5), (.iadd, 0, 0, .null), (.iaload, 0, 0, .null), (.aload_n 0, 0, 0, .null), (.iload_n 3, 3, 0, .null), (.bipush 6, 0, 0, .int 6), (.iadd, 0, 0, .null), (.iaload, 0, 0, .null), (.aload_n 0, 0, 0, .null), (.iload_n 3, 3, 0, .null), (.bipush 7, 0, 0, .int 7), (.iadd, 0, 0, .null), (.iaload, 0, 0, .null), (.invokevirtual 90, 225, 7, .ref 9), (.if_icmp .eq 368, 1336, 0, .null)]
set_option maxRecDepth 100000 in
theorem cb_241_886 : mChk 241 886 bk_241_886 971 = true := by decide +kernel
def bk_241_971 : List mO := [(.iconst 0, 0, 0, .int 0), (.ireturn, 0, 0, .int 1)]
set_option maxRecDepth 100000 in
theorem cb_241_971 : mChk 241 971 bk_241_971 973 = true := by decide +kernel
def bk_241_973 : List mO := [(.aload_n 1, 1, 0, .null), (.aload_n 0, 0, 0, .null), (.iload_n 3, 3, 0, .null), (.iconst 1, 0, 0, .int 1), (.iadd, 0, 0, .null), (.iaload, 0, 0, .null), (.aload_n 0, 0, 0, .null), (.iload_n 3, 3, 0, .null), (.iconst 2, 0, 0, .int 2), (.iadd, 0, 0, .null), (.iaload, 0, 0, .null), (.aload_n 0, 0, 0, .null), (.iload_n 3, 3, 0, .null), (.iconst 3, 0, 0, .int 3), (.iadd, 0, 0, .null), (.iaload, 0, 0, .null), (.aload_n 0, 0, 0, .null), (.iload_n 3, 3, 0, .null), (.iconst 4, 0, 0, .int 4), (.iadd, 0, 0, .null), (.iaload, 0, 0, .null), (.aload_n 0, 0, 0, .null), (.iload_n 3, 3, 0, .null), (.iconst 5, 0, 0, .int 5), (.iadd, 0, 0, .null), (.iaload, 0, 0, .null), (.aload_n 0, 0, 0, .null), (.iload_n 3, 3, 0, .null), (.bipush 6, 0, 0, .int 6), (.iadd, 0, 0, .null), (.iaload, 0, 0, .null), (.invokevirtual 91, 107, 6, .ref 8), (.aload_n 2, 2, 0, .null), (.aload_n 0, 0, 0, .null), (.iload_n 3, 3, 0, .null), (.iconst 1, 0, 0, .int 1), (.iadd, 0, 0, .null), (.iaload, 0, 0, .null), (.aload_n 0, 0, 0, .null), (.iload_n 3, 3, 0, .null), (.iconst 2, 0, 0, .int 2), (.iadd, 0, 0, .null), (.iaload, 0, 0, .null), (.aload_n 0, 0, 0, .null), (.iload_n 3, 3, 0, .null), (.iconst 3, 0, 0, .int 3), (.iadd, 0, 0, .null), (.iaload, 0, 0, .null), (.aload_n 0, 0, 0, .null), (.iload_n 3, 3, 0, .null), (.iconst 4, 0, 0, .int 4), (.iadd, 0, 0, .null), (.iaload, 0, 0, .null), (.aload_n 0, 0, 0, .null), (.iload_n 3, 3, 0, .null), (.iconst 5, 0, 0, .int 5), (.iadd, 0, 0, .null), (.iaload, 0, 0, .null), (.aload_n 0, 0, 0, .null), (.iload_n 3, 3, 0, .null), (.bipush 6, 0, 0, .int 6), (.iadd, 0, 0, .null), (.iaload, 0, 0, .null), (.invokevirtual 94, 226, 6, .ref 9), (.if_icmp .eq 293, 1336, 0, .null)]
set_option maxRecDepth 100000 in
theorem cb_241_973 : mChk 241 973 bk_241_973 1046 = true := by decide +kernel
def bk_241_1046 : List mO := [(.iconst 0, 0, 0, .int 0), (.ireturn, 0, 0, .int 1)]
set_option maxRecDepth 100000 in
theorem cb_241_1046 : mChk 241 1046 bk_241_1046 1048 = true := by decide +kernel
def bk_241_1048 : List mO := [(.aload_n 1, 1, 0, .null), (.aload_n 0, 0, 0, .null), (.iload_n 3, 3, 0, .null), (.iconst 1, 0, 0, .int 1), (.iadd, 0, 0, .null), (.iaload, 0, 0, .null), (.aload_n 0, 0, 0, .null), (.iload_n 3, 3, 0, .null), (.iconst 2, 0, 0, .int 2), (.iadd, 0, 0, .null), (.iaload, 0, 0, .null), (.aload_n 0, 0, 0, .null), (.iload_n 3, 3, 0, .null), (.iconst 3, 0, 0, .int 3), (.iadd, 0, 0, .null), (.iaload, 0, 0, .null), (.aload_n 0, 0, 0, .null), (.iload_n 3, 3, 0, .null), (.iconst 4, 0, 0, .int 4), (.iadd, 0, 0, .null), (.iaload, 0, 0, .null), (.invokevirtual 95, 108, 4, .ref 8), (.aload_n 2, 2, 0, .null), (.aload_n 0, 0, 0, .null), (.iload_n 3, 3, 0, .null), (.iconst 1, 0, 0, .int 1), (.iadd, 0, 0, .null), (.iaload, 0, 0, .null), (.aload_n 0, 0, 0, .null), (.iload_n 3, 3, 0, .null), (.iconst 2, 0, 0, .int 2), (.iadd, 0, 0, .null), (.iaload, 0, 0, .null), (.aload_n 0, 0, 0, .null), (.iload_n 3, 3, 0, .null), (.iconst 3, 0, 0, .int 3), (.iadd, 0, 0, .null), (.iaload, 0, 0, .null), (.aload_n 0, 0, 0, .null), (.iload_n 3, 3, 0, .null), (.iconst 4, 0, 0, .int 4), (.iadd, 0, 0, .null), (.iaload, 0, 0, .null), (.invokevirtual 98, 230, 4, .ref 9), (.if_icmp .eq 240, 1336, 0, .null)]
set_option maxRecDepth 100000 in
theorem cb_241_1048 : mChk 241 1048 bk_241_1048 1099 = true := by decide +kernel
def bk_241_1099 : List mO := [(.iconst 0, 0, 0, .int 0), (.ireturn, 0, 0, .int 1)]
set_option maxRecDepth 100000 in
theorem cb_241_1099 : mChk 241 1099 bk_241_1099 1101 = true := by decide +kernel
def bk_241_1101 : List mO := [(.aload_n 1, 1, 0, .null), (.aload_n 0, 0, 0, .null), (.iload_n 3, 3, 0, .null), (.iconst 1, 0, 0, .int 1), (.iadd, 0, 0, .null), (.iaload, 0, 0, .null), (.aload_n 0, 0, 0, .null), (.iload_n 3, 3, 0, .null), (.iconst 2, 0, 0, .int 2), (.iadd, 0, 0, .null), (.iaload, 0, 0, .null), (.aload_n 0, 0, 0, .null), (.iload_n 3, 3, 0, .null), (.iconst 3, 0, 0, .int 3), (.iadd, 0, 0, .null), (.iaload, 0, 0, .null), (.aload_n 0, 0, 0, .null), (.iload_n 3, 3, 0, .null), (.iconst 4, 0, 0, .int 4), (.iadd, 0, 0, .null), (.iaload, 0, 0, .null), (.invokevirtual 99, 109, 4, .ref 8), (.aload_n 2, 2, 0, .null), (.aload_n 0, 0, 0, .null), (.iload_n 3, 3, 0, .null), (.iconst 1, 0, 0, .int 1), (.iadd, 0, 0, .null), (.iaload, 0, 0, .null), (.aload_n 0, 0, 0, .null), (.iload_n 3, 3, 0, .null), (.iconst 2, 0, 0, .int 2), (.iadd, 0, 0, .null), (.iaload, 0, 0, .null), (.aload_n 0, 0, 0, .null), (.iload_n 3, 3, 0, .null), (.iconst 3, 0, 0, .int 3), (.iadd, 0, 0, .null), (.iaload, 0, 0, .null), (.aload_n 0, 0, 0, .null), (.iload_n 3, 3, 0, .null), (.iconst 4, 0, 0, .int 4), (.iadd, 0, 0, .null), (.iaload, 0, 0, .null), (.invokevirtual 102, 231, 4, .ref 9), (.if_icmp .eq 187, 1336, 0, .null)]
set_option maxRecDepth 100000 in
theorem cb_241_1101 : mChk 241 1101 bk_241_1101 1152 = true := by decide +kernel
def bk_241_1152 : List mO := [(.iconst 0, 0, 0, .int 0), (.ireturn, 0, 0, .int 1)]
set_option maxRecDepth 100000 in
theorem cb_241_1152 : mChk 241 1152 bk_241_1152 1154 = true := by decide +kernel
def bk_241_1154 : List mO := [(.aload_n 1, 1, 0, .null), (.aload_n 0, 0, 0, .null), (.iload_n 3, 3, 0, .null), (.iconst 1, 0, 0, .int 1), (.iadd, 0, 0, .null), (.iaload, 0, 0, .null), (.aload_n 0, 0, 0, .null), (.iload_n 3, 3, 0, .null), (.iconst 2, 0, 0, .int 2), (.iadd, 0, 0, .null), (.iaload, 0, 0, .null), (.aload_n 0, 0, 0, .null), (.iload_n 3, 3, 0, .null), (.iconst 3, 0, 0, .int 3), (.iadd, 0, 0, .null), (.iaload, 0, 0, .null), (.aload_n 0, 0, 0, .null), (.iload_n 3, 3, 0, .null), (.iconst 4, 0, 0, .int 4), (.iadd, 0, 0, .null), (.iaload, 0, 0, .null), (.invokevirtual 103, 110, 4, .ref 8), (.aload_n 2, 2, 0, .null), (.aload_n 0, 0, 0, .null), (.iload_n 3, 3, 0, .null), (.iconst 1, 0, 0, .int 1), (.iadd, 0, 0, .null), (.iaload, 0, 0, .null), (.aload_n 0, 0, 0, .null), (.iload_n 3, 3, 0, .null), (.iconst 2, 0, 0, .int 2), (.iadd, 0, 0, .null), (.iaload, 0, 0, .null), (.aload_n 0, 0, 0, .null), (.iload_n 3, 3, 0, .null), (.iconst 3, 0, 0, .int 3), (.iadd, 0, 0, .null), (.iaload, 0, 0, .null), (.aload_n 0, 0, 0, .null), (.iload_n 3, 3, 0, .null), (.iconst 4, 0, 0, .int 4), (.iadd, 0, 0, .null), (.iaload, 0, 0, .null), (.invokevirtual 106, 232, 4, .ref 9), (.if_icmp .eq 134, 1336, 0, .null)]
set_option maxRecDepth 100000 in
theorem cb_241_1154 : mChk 241 1154 bk_241_1154 1205 = true := by decide +kernel
def bk_241_1205 : List mO := [(.iconst 0, 0, 0, .int 0), (.ireturn, 0, 0, .int 1)]
set_option maxRecDepth 100000 in
theorem cb_241_1205 : mChk 241 1205 bk_241_1205 1207 = true := by decide +kernel
def bk_241_1207 : List mO := [(.aload_n 1, 1, 0, .null), (.aload_n 0, 0, 0, .null), (.iload_n 3, 3, 0, .null), (.iconst 1, 0, 0, .int 1), (.iadd, 0, 0, .null), (.iaload, 0, 0, .null), (.aload_n 0, 0, 0, .null), (.iload_n 3, 3, 0, .null), (.iconst 2, 0, 0, .int 2), (.iadd, 0, 0, .null), (.iaload, 0, 0, .null), (.aload_n 0, 0, 0, .null), (.iload_n 3, 3, 0, .null), (.iconst 3, 0, 0, .int 3), (.iadd, 0, 0, .null), (.iaload, 0, 0, .null), (.aload_n 0, 0, 0, .null), (.iload_n 3, 3, 0, .null), (.iconst 4, 0, 0, .int 4), (.iadd, 0, 0, .null), (.iaload, 0, 0, .null), (.invokevirtual 107, 111, 4, .ref 8), (.aload_n 2, 2, 0, .null), (.aload_n 0, 0, 0, .null), (.iload_n 3, 3, 0, .null), (.iconst 1, 0, 0, .int 1), (.iadd, 0, 0, .null), (.iaload, 0, 0, .null), (.aload_n 0, 0, 0, .null), (.iload_n 3, 3, 0, .null), (.iconst 2, 0, 0, .int 2), (.iadd, 0, 0, .null), (.iaload, 0, 0, .null), (.aload_n 0, 0, 0, .null), (.iload_n 3, 3, 0, .null), (.iconst 3, 0, 0, .int 3), (.iadd, 0, 0, .null), (.iaload, 0, 0, .null), (.aload_n 0, 0, 0, .null), (.iload_n 3, 3, 0, .null), (.iconst 4, 0, 0, .int 4), (.iadd, 0, 0, .null), (.iaload, 0, 0, .null), (.invokevirtual 110, 233, 4, .ref 9), (.if_icmp .eq 81, 1336, 0, .null)]
set_option maxRecDepth 100000 in
theorem cb_241_1207 : mChk 241 1207 bk_241_1207 1258 = true := by decide +kernel
def bk_241_1258 : List mO := [(.iconst 0, 0, 0, .int 0), (.ireturn, 0, 0, .int 1)]
set_option maxRecDepth 100000 in
theorem cb_241_1258 : mChk 241 1258 bk_241_1258 1260 = true := by decide +kernel
def bk_241_1260 : List mO := [(.aload_n 1, 1, 0, .null), (.aload_n 0, 0, 0, .null), (.iload_n 3, 3, 0, .null), (.iconst 1, 0, 0, .int 1), (.iadd, 0, 0, .null), (.iaload, 0, 0, .null), (.aload_n 0, 0, 0, .null), (.iload_n 3, 3, 0, .null), (.iconst 2, 0, 0, .int 2), (.iadd, 0, 0, .null), (.iaload, 0, 0, .null), (.invokevirtual 111, 112, 2, .ref 8), (.aload_n 2, 2, 0, .null), (.aload_n 0, 0, 0, .null), (.iload_n 3, 3, 0, .null), (.iconst 1, 0, 0, .int 1), (.iadd, 0, 0, .null), (.iaload, 0, 0, .null), (.aload_n 0, 0, 0, .null), (.iload_n 3, 3, 0, .null), (.iconst 2, 0, 0, .int 2), (.iadd, 0, 0, .null), (.iaload, 0, 0, .null), (.invokevirtual 114, 234, 2, .ref 9), (.if_icmp .eq 48, 1336, 0, .null)]
set_option maxRecDepth 100000 in
theorem cb_241_1260 : mChk 241 1260 bk_241_1260 1291 = true := by decide +kernel
def bk_241_1291 : List mO := [(.iconst 0, 0, 0, .int 0), (.ireturn, 0, 0, .int 1)]
set_option maxRecDepth 100000 in
theorem cb_241_1291 : mChk 241 1291 bk_241_1291 1293 = true := by decide +kernel
def bk_241_1293 : List mO := [(.aload_n 1, 1, 0, .null), (.aload_n 0, 0, 0, .null), (.iload_n 3, 3, 0, .null), (.iconst 1, 0, 0, .int 1), (.iadd, 0, 0, .null), (.iaload, 0, 0, .null), (.aload_n 0, 0, 0, .null), (.iload_n 3, 3, 0, .null), (.iconst 2, 0, 0, .int 2), (.iadd, 0, 0, .null), (.iaload, 0, 0, .null), (.aload_n 0, 0, 0, .null), (.iload_n 3, 3, 0, .null), (.iconst 3, 0, 0, .int 3), (.iadd, 0, 0, .null), (.iaload, 0, 0, .null), (.invokevirtual 115, 113, 3, .ref 8), (.aload_n 2, 2, 0, .null), (.aload_n 0, 0, 0, .null), (.iload_n 3, 3, 0, .null), (.iconst 1, 0, 0, .int 1), (.iadd, 0, 0, .null), (.iaload, 0, 0, .null), (.aload_n 0, 0, 0, .null), (.iload_n 3, 3, 0, .null), (.iconst 2, 0, 0, .int 2), (.iadd, 0, 0, .null), (.iaload, 0, 0, .null), (.aload_n 0, 0, 0, .null), (.iload_n 3, 3, 0, .null), (.iconst 3, 0, 0, .int 3), (.iadd, 0, 0, .null), (.iaload, 0, 0, .null), (.invokevirtual 118, 235, 3, .ref 9), (.if_icmp .eq 5, 1336, 0, .null)]
set_option maxRecDepth 100000 in
theorem cb_241_1293 : mChk 241 1293 bk_241_1293 1334 = true := by decide +kernel
def bk_241_1334 : List mO := [(.iconst 0, 0, 0, .int 0), (.ireturn, 0, 0, .int 1)]
set_option maxRecDepth 100000 in
theorem cb_241_1334 : mChk 241 1334 bk_241_1334 1336 = true := by decide +kernel
def bk_241_1336 : List mO := [(.iinc 3 8, 3, 0, .int 8), (.goto (-1321), 18, 0, .null)]
set_option maxRecDepth 100000 in
theorem cb_241_1336 : mChk 241 1336 bk_241_1336 1342 = true := by decide +kernel
def bk_241_1342 : List mO := [(.iconst 1, 0, 0, .int 1), (.ireturn, 0, 0, .int 1)]
set_option maxRecDepth 100000 in
theorem cb_241_1342 : mChk 241 1342 bk_241_1342 1344 = true := by decide +kernel

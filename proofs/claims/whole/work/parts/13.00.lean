/-! PART 13.00: blocks of code and their checks, printed by program (wip/whole/mk13.py) -/
-- method 62: KeySealer$Row.<init>(I)V, locals 2, room (1, 21)
def bk_62_0 : List mO := [(.aload_n 0, 0, 0, .null), (.invokespecial 1, 9000, 0, .null), (.aload_n 0, 0, 0, .null), (.iconst 0, 0, 0, .int 0), (.putfield 7, 6, 1, .int 0), (.aload_n 0, 0, 0, .null), (.iload_n 1, 1, 0, .null), (.iconst 0, 0, 0, .int 0), (.invokestatic 13, 9002, 2, .null), (.newarray .byte, 0, 0, .null), (.putfield 19, 6, 0, .ref 0), (.return_, 0, 0, .null)]
set_option maxRecDepth 100000 in
theorem cb_62_0 : mChk 62 0 bk_62_0 21 = true := by decide +kernel
-- method 63: KeySealer$Row.empty()V, locals 1, room (0, 0)
def bk_63_0 : List mO := [(.aload_n 0, 0, 0, .null), (.iconst 0, 0, 0, .int 0), (.putfield 7, 6, 1, .int 0), (.return_, 0, 0, .null)]
set_option maxRecDepth 100000 in
theorem cb_63_0 : mChk 63 0 bk_63_0 6 = true := by decide +kernel
-- method 64: KeySealer$Row.hasRoom(I)Z, locals 2, room (0, 0)
def bk_64_0 : List mO := [(.iload_n 1, 1, 0, .null), (.ifCond .lt 21, 22, 0, .null)]
set_option maxRecDepth 100000 in
theorem cb_64_0 : mChk 64 0 bk_64_0 4 = true := by decide +kernel
def bk_64_4 : List mO := [(.iload_n 1, 1, 0, .null), (.aload_n 0, 0, 0, .null), (.getfield 19, 6, 0, .null), (.arraylength, 0, 0, .null), (.aload_n 0, 0, 0, .null), (.getfield 7, 6, 1, .null), (.isub, 0, 0, .null), (.if_icmp .gt 7, 22, 0, .null)]
set_option maxRecDepth 100000 in
theorem cb_64_4 : mChk 64 4 bk_64_4 18 = true := by decide +kernel
def bk_64_18 : List mO := [(.iconst 1, 0, 0, .int 1), (.goto 4, 23, 0, .null)]
set_option maxRecDepth 100000 in
theorem cb_64_18 : mChk 64 18 bk_64_18 22 = true := by decide +kernel
def bk_64_22 : List mO := [(.iconst 0, 0, 0, .int 0)]
set_option maxRecDepth 100000 in
theorem cb_64_22 : mChk 64 22 bk_64_22 23 = true := by decide +kernel
def bk_64_23 : List mO := [(.ireturn, 0, 0, .int 1)]
set_option maxRecDepth 100000 in
theorem cb_64_23 : mChk 64 23 bk_64_23 24 = true := by decide +kernel
-- method 65: KeySealer$Row.hasPart(II)Z, locals 3, room (0, 0)
def bk_65_0 : List mO := [(.iload_n 1, 1, 0, .null), (.ifCond .lt 29, 30, 0, .null)]
set_option maxRecDepth 100000 in
theorem cb_65_0 : mChk 65 0 bk_65_0 4 = true := by decide +kernel
def bk_65_4 : List mO := [(.iload_n 2, 2, 0, .null), (.ifCond .lt 25, 30, 0, .null)]
set_option maxRecDepth 100000 in
theorem cb_65_4 : mChk 65 4 bk_65_4 8 = true := by decide +kernel
def bk_65_8 : List mO := [(.iload_n 1, 1, 0, .null), (.aload_n 0, 0, 0, .null), (.getfield 7, 6, 1, .null), (.if_icmp .gt 17, 30, 0, .null)]
set_option maxRecDepth 100000 in
theorem cb_65_8 : mChk 65 8 bk_65_8 16 = true := by decide +kernel
def bk_65_16 : List mO := [(.iload_n 2, 2, 0, .null), (.aload_n 0, 0, 0, .null), (.getfield 7, 6, 1, .null), (.iload_n 1, 1, 0, .null), (.isub, 0, 0, .null), (.if_icmp .gt 7, 30, 0, .null)]
set_option maxRecDepth 100000 in
theorem cb_65_16 : mChk 65 16 bk_65_16 26 = true := by decide +kernel
def bk_65_26 : List mO := [(.iconst 1, 0, 0, .int 1), (.goto 4, 31, 0, .null)]
set_option maxRecDepth 100000 in
theorem cb_65_26 : mChk 65 26 bk_65_26 30 = true := by decide +kernel
def bk_65_30 : List mO := [(.iconst 0, 0, 0, .int 0)]
set_option maxRecDepth 100000 in
theorem cb_65_30 : mChk 65 30 bk_65_30 31 = true := by decide +kernel
def bk_65_31 : List mO := [(.ireturn, 0, 0, .int 1)]
set_option maxRecDepth 100000 in
theorem cb_65_31 : mChk 65 31 bk_65_31 32 = true := by decide +kernel
-- method 66: KeySealer$Row.byteAt(I)I, locals 2, room (0, 0)
def bk_66_0 : List mO := [(.iload_n 1, 1, 0, .null), (.ifCond .lt 24, 25, 0, .null)]
set_option maxRecDepth 100000 in
theorem cb_66_0 : mChk 66 0 bk_66_0 4 = true := by decide +kernel
def bk_66_4 : List mO := [(.iload_n 1, 1, 0, .null), (.aload_n 0, 0, 0, .null), (.getfield 7, 6, 1, .null), (.if_icmp .ge 16, 25, 0, .null)]
set_option maxRecDepth 100000 in
theorem cb_66_4 : mChk 66 4 bk_66_4 12 = true := by decide +kernel
def bk_66_12 : List mO := [(.aload_n 0, 0, 0, .null), (.getfield 19, 6, 0, .null), (.iload_n 1, 1, 0, .null), (.baload, 0, 0, .null), (.sipush 255, 0, 0, .int 255), (.iand, 0, 0, .null), (.goto 4, 26, 0, .null)]
set_option maxRecDepth 100000 in
theorem cb_66_12 : mChk 66 12 bk_66_12 25 = true := by decide +kernel
def bk_66_25 : List mO := [(.iconst 0, 0, 0, .int 0)]
set_option maxRecDepth 100000 in
theorem cb_66_25 : mChk 66 25 bk_66_25 26 = true := by decide +kernel
def bk_66_26 : List mO := [(.ireturn, 0, 0, .int 0)]
set_option maxRecDepth 100000 in
theorem cb_66_26 : mChk 66 26 bk_66_26 27 = true := by decide +kernel
-- method 67: KeySealer$Row.turnBit(II)I, locals 3, room (1, 21)
def bk_67_0 : List mO := [(.iload_n 1, 1, 0, .null), (.ifCond .lt 28, 29, 0, .null)]
set_option maxRecDepth 100000 in
theorem cb_67_0 : mChk 67 0 bk_67_0 4 = true := by decide +kernel
def bk_67_4 : List mO := [(.iload_n 1, 1, 0, .null), (.aload_n 0, 0, 0, .null), (.getfield 7, 6, 1, .null), (.if_icmp .ge 20, 29, 0, .null)]
set_option maxRecDepth 100000 in
theorem cb_67_4 : mChk 67 4 bk_67_4 12 = true := by decide +kernel
def bk_67_12 : List mO := [(.aload_n 0, 0, 0, .null), (.getfield 19, 6, 0, .null), (.iload_n 1, 1, 0, .null), (.aload_n 0, 0, 0, .null), (.getfield 19, 6, 0, .null), (.iload_n 1, 1, 0, .null), (.baload, 0, 0, .null), (.iconst 1, 0, 0, .int 1), (.iload_n 2, 2, 0, .null), (.ishl, 0, 0, .null), (.ixor, 0, 0, .null), (.i2b, 0, 0, .null), (.bastore, 0, 0, .null)]
set_option maxRecDepth 100000 in
theorem cb_67_12 : mChk 67 12 bk_67_12 29 = true := by decide +kernel
def bk_67_29 : List mO := [(.aload_n 0, 0, 0, .null), (.iload_n 1, 1, 0, .null), (.invokevirtual 23, 66, 1, .ref 6), (.ireturn, 0, 0, .int 0)]
set_option maxRecDepth 100000 in
theorem cb_67_29 : mChk 67 29 bk_67_29 35 = true := by decide +kernel
-- method 68: KeySealer$Row.put(I)V, locals 2, room (0, 0)
def bk_68_0 : List mO := [(.aload_n 0, 0, 0, .null), (.getfield 7, 6, 1, .null), (.aload_n 0, 0, 0, .null), (.getfield 19, 6, 0, .null), (.arraylength, 0, 0, .null), (.if_icmp .ge 24, 33, 0, .null)]
set_option maxRecDepth 100000 in
theorem cb_68_0 : mChk 68 0 bk_68_0 12 = true := by decide +kernel
def bk_68_12 : List mO := [(.aload_n 0, 0, 0, .null), (.getfield 19, 6, 0, .null), (.aload_n 0, 0, 0, .null), (.getfield 7, 6, 1, .null), (.iload_n 1, 1, 0, .null), (.i2b, 0, 0, .null), (.bastore, 0, 0, .null), (.aload_n 0, 0, 0, .null), (.dup, 0, 0, .null), (.getfield 7, 6, 1, .null), (.iconst 1, 0, 0, .int 1), (.iadd, 0, 0, .null), (.putfield 7, 6, 1, .int 0)]
set_option maxRecDepth 100000 in
theorem cb_68_12 : mChk 68 12 bk_68_12 33 = true := by decide +kernel
def bk_68_33 : List mO := [(.return_, 0, 0, .null)]
set_option maxRecDepth 100000 in
theorem cb_68_33 : mChk 68 33 bk_68_33 34 = true := by decide +kernel
-- method 69: KeySealer$Row.putNumber(JI)V, locals 5, room (1, 21)
def bk_69_0 : List mO := [(.iload_n 3, 3, 0, .null), (.iconst 1, 0, 0, .int 1), (.isub, 0, 0, .null), (.istore 4, 4, 0, .null)]
set_option maxRecDepth 100000 in
theorem cb_69_0 : mChk 69 0 bk_69_0 5 = true := by decide +kernel
def bk_69_5 : List mO := [(.iload 4, 4, 0, .null), (.ifCond .lt 21, 28, 0, .null)]
set_option maxRecDepth 100000 in
theorem cb_69_5 : mChk 69 5 bk_69_5 10 = true := by decide +kernel
def bk_69_10 : List mO := [(.aload_n 0, 0, 0, .null), (.lload_n 1, 1, 0, .null), (.bipush 8, 0, 0, .int 8), (.iload 4, 4, 0, .null), (.imul, 0, 0, .null), (.lushr, 0, 0, .null), (.l2i, 0, 0, .null), (.invokevirtual 27, 68, 1, .ref 6), (.iinc 4 (-1), 4, 0, .int (-1)), (.goto (-20), 5, 0, .null)]
set_option maxRecDepth 100000 in
theorem cb_69_10 : mChk 69 10 bk_69_10 28 = true := by decide +kernel
def bk_69_28 : List mO := [(.return_, 0, 0, .null)]
set_option maxRecDepth 100000 in
theorem cb_69_28 : mChk 69 28 bk_69_28 29 = true := by decide +kernel
-- method 70: KeySealer$Row.putText(Ljava/lang/String;)V, locals 3, room (4, 85)
def bk_70_0 : List mO := [(.iconst 0, 0, 0, .int 0), (.istore_n 2, 2, 0, .null)]
set_option maxRecDepth 100000 in
theorem cb_70_0 : mChk 70 0 bk_70_0 2 = true := by decide +kernel
def bk_70_2 : List mO := [(.iload_n 2, 2, 0, .null), (.aload_n 1, 1, 0, .null), (.invokevirtual 31, 236, 0, .ref 999), (.if_icmp .ge 18, 25, 0, .null)]
set_option maxRecDepth 100000 in
theorem cb_70_2 : mChk 70 2 bk_70_2 10 = true := by decide +kernel
def bk_70_10 : List mO := [(.aload_n 0, 0, 0, .null), (.aload_n 1, 1, 0, .null), (.iload_n 2, 2, 0, .null), (.invokevirtual 37, 237, 1, .ref 999), (.invokevirtual 27, 68, 1, .ref 6), (.iinc 2 1, 2, 0, .int 1), (.goto (-20), 2, 0, .null)]
set_option maxRecDepth 100000 in
theorem cb_70_10 : mChk 70 10 bk_70_10 25 = true := by decide +kernel
def bk_70_25 : List mO := [(.return_, 0, 0, .null)]
set_option maxRecDepth 100000 in
theorem cb_70_25 : mChk 70 25 bk_70_25 26 = true := by decide +kernel
-- method 71: KeySealer$Row.putPart(LKeySealer$Row;II)V, locals 5, room (1, 26)
def bk_71_0 : List mO := [(.iload_n 2, 2, 0, .null), (.ifCond .ge 4, 5, 0, .null)]
set_option maxRecDepth 100000 in
theorem cb_71_0 : mChk 71 0 bk_71_0 4 = true := by decide +kernel
def bk_71_4 : List mO := [(.return_, 0, 0, .null)]
set_option maxRecDepth 100000 in
theorem cb_71_4 : mChk 71 4 bk_71_4 5 = true := by decide +kernel
def bk_71_5 : List mO := [(.iload_n 3, 3, 0, .null), (.aload_n 1, 1, 0, .null), (.getfield 7, 6, 1, .null), (.iload_n 2, 2, 0, .null), (.isub, 0, 0, .null), (.aload_n 0, 0, 0, .null), (.getfield 19, 6, 0, .null), (.arraylength, 0, 0, .null), (.aload_n 0, 0, 0, .null), (.getfield 7, 6, 1, .null), (.isub, 0, 0, .null), (.invokestatic 41, 9003, 2, .null), (.invokestatic 41, 9003, 2, .null), (.istore 4, 4, 0, .null), (.iload 4, 4, 0, .null), (.ifCond .le 32, 64, 0, .null)]
set_option maxRecDepth 100000 in
theorem cb_71_5 : mChk 71 5 bk_71_5 35 = true := by decide +kernel
def bk_71_35 : List mO := [(.aload_n 1, 1, 0, .null), (.getfield 19, 6, 0, .null), (.iload_n 2, 2, 0, .null), (.aload_n 0, 0, 0, .null), (.getfield 19, 6, 0, .null), (.aload_n 0, 0, 0, .null), (.getfield 7, 6, 1, .null), (.iload 4, 4, 0, .null), (.invokestatic 44, 9001, 5, .null), (.aload_n 0, 0, 0, .null), (.dup, 0, 0, .null), (.getfield 7, 6, 1, .null), (.iload 4, 4, 0, .null), (.iadd, 0, 0, .null), (.putfield 7, 6, 1, .int 0)]
set_option maxRecDepth 100000 in
theorem cb_71_35 : mChk 71 35 bk_71_35 64 = true := by decide +kernel
def bk_71_64 : List mO := [(.return_, 0, 0, .null)]
set_option maxRecDepth 100000 in
theorem cb_71_64 : mChk 71 64 bk_71_64 65 = true := by decide +kernel
-- method 72: KeySealer$Row.putRow(LKeySealer$Row;)V, locals 2, room (2, 50)
def bk_72_0 : List mO := [(.aload_n 0, 0, 0, .null), (.aload_n 1, 1, 0, .null), (.iconst 0, 0, 0, .int 0), (.aload_n 1, 1, 0, .null), (.getfield 7, 6, 1, .null), (.invokevirtual 50, 71, 3, .ref 6), (.return_, 0, 0, .null)]
set_option maxRecDepth 100000 in
theorem cb_72_0 : mChk 72 0 bk_72_0 11 = true := by decide +kernel
-- method 73: KeySealer$Row.become(LKeySealer$Row;)V, locals 2, room (2, 50)
def bk_73_0 : List mO := [(.aload_n 0, 0, 0, .null), (.iconst 0, 0, 0, .int 0), (.putfield 7, 6, 1, .int 0), (.aload_n 0, 0, 0, .null), (.aload_n 1, 1, 0, .null), (.iconst 0, 0, 0, .int 0), (.aload_n 1, 1, 0, .null), (.getfield 7, 6, 1, .null), (.invokevirtual 50, 71, 3, .ref 6), (.return_, 0, 0, .null)]
set_option maxRecDepth 100000 in
theorem cb_73_0 : mChk 73 0 bk_73_0 16 = true := by decide +kernel
-- method 74: KeySealer$Row.isZero()Z, locals 3, room (0, 0)
def bk_74_0 : List mO := [(.iconst 0, 0, 0, .int 0), (.istore_n 1, 1, 0, .null), (.iconst 0, 0, 0, .int 0), (.istore_n 2, 2, 0, .null)]
set_option maxRecDepth 100000 in
theorem cb_74_0 : mChk 74 0 bk_74_0 4 = true := by decide +kernel
def bk_74_4 : List mO := [(.iload_n 2, 2, 0, .null), (.aload_n 0, 0, 0, .null), (.getfield 7, 6, 1, .null), (.if_icmp .ge 18, 27, 0, .null)]
set_option maxRecDepth 100000 in
theorem cb_74_4 : mChk 74 4 bk_74_4 12 = true := by decide +kernel
def bk_74_12 : List mO := [(.iload_n 1, 1, 0, .null), (.aload_n 0, 0, 0, .null), (.getfield 19, 6, 0, .null), (.iload_n 2, 2, 0, .null), (.baload, 0, 0, .null), (.ior, 0, 0, .null), (.istore_n 1, 1, 0, .null), (.iinc 2 1, 2, 0, .int 1), (.goto (-20), 4, 0, .null)]
set_option maxRecDepth 100000 in
theorem cb_74_12 : mChk 74 12 bk_74_12 27 = true := by decide +kernel
def bk_74_27 : List mO := [(.iload_n 1, 1, 0, .null), (.ifCond .ne 7, 35, 0, .null)]
set_option maxRecDepth 100000 in
theorem cb_74_27 : mChk 74 27 bk_74_27 31 = true := by decide +kernel
def bk_74_31 : List mO := [(.iconst 1, 0, 0, .int 1), (.goto 4, 36, 0, .null)]
set_option maxRecDepth 100000 in
theorem cb_74_31 : mChk 74 31 bk_74_31 35 = true := by decide +kernel
def bk_74_35 : List mO := [(.iconst 0, 0, 0, .int 0)]
set_option maxRecDepth 100000 in
theorem cb_74_35 : mChk 74 35 bk_74_35 36 = true := by decide +kernel
def bk_74_36 : List mO := [(.ireturn, 0, 0, .int 1)]
set_option maxRecDepth 100000 in
theorem cb_74_36 : mChk 74 36 bk_74_36 37 = true := by decide +kernel
-- method 236: java/lang/String.length()I, locals 1, room (1, 20)
def bk_236_0 : List mO := [(.aload_n 0, 0, 0, .null), (.getfield 9, 999, 0, .null), (.arraylength, 0, 0, .null), (.aload_n 0, 0, 0, .null), (.invokevirtual 335, 238, 0, .ref 999), (.ishr, 0, 0, .null), (.ireturn, 0, 0, .int 0)]
set_option maxRecDepth 100000 in
theorem cb_236_0 : mChk 236 0 bk_236_0 11 = true := by decide +kernel
-- method 237: java/lang/String.charAt(I)C, locals 2, room (3, 64)
def bk_237_0 : List mO := [(.aload_n 0, 0, 0, .null), (.invokevirtual 492, 239, 0, .ref 999), (.ifCond .eq 12, 16, 0, .null)]
set_option maxRecDepth 100000 in
theorem cb_237_0 : mChk 237 0 bk_237_0 7 = true := by decide +kernel
def bk_237_7 : List mO := [(.aload_n 0, 0, 0, .null), (.getfield 9, 999, 0, .null), (.iload_n 1, 1, 0, .null), (.invokestatic 495, 240, 2, .null), (.ireturn, 0, 0, .int 2)]
set_option maxRecDepth 100000 in
theorem cb_237_7 : mChk 237 7 bk_237_7 16 = true := by decide +kernel
-- method 238: java/lang/String.coder()B, locals 1, room (0, 0)
def bk_238_0 : List mO := [(.getstatic 38, 0, 0, .int 1), (.ifCond .eq 10, 13, 0, .null)]
set_option maxRecDepth 100000 in
theorem cb_238_0 : mChk 238 0 bk_238_0 6 = true := by decide +kernel
def bk_238_6 : List mO := [(.aload_n 0, 0, 0, .null), (.getfield 15, 999, 1, .null), (.goto 4, 14, 0, .null)]
set_option maxRecDepth 100000 in
theorem cb_238_6 : mChk 238 6 bk_238_6 13 = true := by decide +kernel
def bk_238_13 : List mO := [(.iconst 1, 0, 0, .int 1)]
set_option maxRecDepth 100000 in
theorem cb_238_13 : mChk 238 13 bk_238_13 14 = true := by decide +kernel
def bk_238_14 : List mO := [(.ireturn, 0, 0, .int 3)]
set_option maxRecDepth 100000 in
theorem cb_238_14 : mChk 238 14 bk_238_14 15 = true := by decide +kernel
-- method 239: java/lang/String.isLatin1()Z, locals 1, room (0, 0)
def bk_239_0 : List mO := [(.getstatic 38, 0, 0, .int 1), (.ifCond .eq 14, 17, 0, .null)]
set_option maxRecDepth 100000 in
theorem cb_239_0 : mChk 239 0 bk_239_0 6 = true := by decide +kernel
def bk_239_6 : List mO := [(.aload_n 0, 0, 0, .null), (.getfield 15, 999, 1, .null), (.ifCond .ne 7, 17, 0, .null)]
set_option maxRecDepth 100000 in
theorem cb_239_6 : mChk 239 6 bk_239_6 13 = true := by decide +kernel
def bk_239_13 : List mO := [(.iconst 1, 0, 0, .int 1), (.goto 4, 18, 0, .null)]
set_option maxRecDepth 100000 in
theorem cb_239_13 : mChk 239 13 bk_239_13 17 = true := by decide +kernel
def bk_239_17 : List mO := [(.iconst 0, 0, 0, .int 0)]
set_option maxRecDepth 100000 in
theorem cb_239_17 : mChk 239 17 bk_239_17 18 = true := by decide +kernel
def bk_239_18 : List mO := [(.ireturn, 0, 0, .int 1)]
set_option maxRecDepth 100000 in
theorem cb_239_18 : mChk 239 18 bk_239_18 19 = true := by decide +kernel
-- method 241: java/lang/String.checkIndex(II)V, locals 2, room (1, 22)
def bk_241_0 : List mO := [(.iload_n 0, 0, 0, .null), (.iload_n 1, 1, 0, .null), (.getstatic 1053, 0, 0, .retAddr 0), (.invokestatic 1059, 242, 3, .null), (.pop, 0, 0, .null), (.return_, 0, 0, .null)]
set_option maxRecDepth 100000 in
theorem cb_241_0 : mChk 241 0 bk_241_0 10 = true := by decide +kernel
-- method 240: java/lang/StringLatin1.charAt([BI)C, locals 2, room (2, 43)
def bk_240_0 : List mO := [(.iload_n 1, 1, 0, .null), (.aload_n 0, 0, 0, .null), (.arraylength, 0, 0, .null), (.invokestatic 9, 241, 2, .null), (.aload_n 0, 0, 0, .null), (.iload_n 1, 1, 0, .null), (.baload, 0, 0, .null), (.sipush 255, 0, 0, .int 255), (.iand, 0, 0, .null), (.i2c, 0, 0, .null), (.ireturn, 0, 0, .int 2)]
set_option maxRecDepth 100000 in
theorem cb_240_0 : mChk 240 0 bk_240_0 15 = true := by decide +kernel
-- method 242: jdk/internal/util/Preconditions.checkIndex(IILjava/util/function/BiFunction;)I, locals 3, room (0, 0)
def bk_242_0 : List mO := [(.iload_n 0, 0, 0, .null), (.ifCond .lt 8, 9, 0, .null)]
set_option maxRecDepth 100000 in
theorem cb_242_0 : mChk 242 0 bk_242_0 4 = true := by decide +kernel
def bk_242_4 : List mO := [(.iload_n 0, 0, 0, .null), (.iload_n 1, 1, 0, .null), (.if_icmp .lt 10, 16, 0, .null)]
set_option maxRecDepth 100000 in
theorem cb_242_4 : mChk 242 4 bk_242_4 9 = true := by decide +kernel
def bk_242_16 : List mO := [(.iload_n 0, 0, 0, .null), (.ireturn, 0, 0, .int 0)]
set_option maxRecDepth 100000 in
theorem cb_242_16 : mChk 242 16 bk_242_16 18 = true := by decide +kernel
-- method 43: KeySealer$Digest.<init>()V, locals 1, room (1, 20)
def bk_43_0 : List mO := [(.aload_n 0, 0, 0, .null), (.invokespecial 1, 9000, 0, .null), (.aload_n 0, 0, 0, .null), (.bipush 8, 0, 0, .int 8), (.newarray .long, 0, 0, .null), (.putfield 7, 3, 0, .ref 0), (.aload_n 0, 0, 0, .null), (.bipush 80, 0, 0, .int 80), (.newarray .long, 0, 0, .null), (.putfield 13, 3, 1, .ref 0), (.aload_n 0, 0, 0, .null), (.iconst 0, 0, 0, .int 0), (.putfield 16, 3, 2, .int 1), (.aload_n 0, 0, 0, .null), (.bipush 32, 0, 0, .int 32), (.putfield 20, 3, 3, .int 0), (.aload_n 0, 0, 0, .null), (.bipush 64, 0, 0, .int 64), (.putfield 24, 3, 4, .int 0), (.aload_n 0, 0, 0, .null), (.ldc2_w 27, 0, 0, .long 4294967295), (.putfield 29, 3, 5, .long 0), (.aload_n 0, 0, 0, .null), (.iconst 0, 0, 0, .int 0), (.putfield 33, 3, 6, .int 0), (.aload_n 0, 0, 0, .null), (.iconst 0, 0, 0, .int 0), (.putfield 36, 3, 7, .int 0), (.return_, 0, 0, .null)]
set_option maxRecDepth 100000 in
theorem cb_43_0 : mChk 43 0 bk_43_0 55 = true := by decide +kernel
-- method 44: KeySealer$Digest.begin(I)V, locals 3, room (0, 0)
def bk_44_0 : List mO := [(.aload_n 0, 0, 0, .null), (.iload_n 1, 1, 0, .null), (.iconst 3, 0, 0, .int 3), (.if_icmp .ne 7, 10, 0, .null)]
set_option maxRecDepth 100000 in
theorem cb_44_0 : mChk 44 0 bk_44_0 6 = true := by decide +kernel
def bk_44_6 : List mO := [(.iconst 1, 0, 0, .int 1), (.goto 4, 11, 0, .null)]
set_option maxRecDepth 100000 in
theorem cb_44_6 : mChk 44 6 bk_44_6 10 = true := by decide +kernel
def bk_44_10 : List mO := [(.iconst 0, 0, 0, .int 0)]
set_option maxRecDepth 100000 in
theorem cb_44_10 : mChk 44 10 bk_44_10 11 = true := by decide +kernel
def bk_44_11 : List mO := [(.putfield 16, 3, 2, .int 1), (.aload_n 0, 0, 0, .null), (.aload_n 0, 0, 0, .null), (.getfield 16, 3, 2, .null), (.ifCond .eq 8, 27, 0, .null)]
set_option maxRecDepth 100000 in
theorem cb_44_11 : mChk 44 11 bk_44_11 22 = true := by decide +kernel
def bk_44_22 : List mO := [(.bipush 64, 0, 0, .int 64), (.goto 5, 29, 0, .null)]
set_option maxRecDepth 100000 in
theorem cb_44_22 : mChk 44 22 bk_44_22 27 = true := by decide +kernel
def bk_44_27 : List mO := [(.bipush 32, 0, 0, .int 32)]
set_option maxRecDepth 100000 in
theorem cb_44_27 : mChk 44 27 bk_44_27 29 = true := by decide +kernel
def bk_44_29 : List mO := [(.putfield 20, 3, 3, .int 0), (.aload_n 0, 0, 0, .null), (.aload_n 0, 0, 0, .null), (.getfield 16, 3, 2, .null), (.ifCond .eq 8, 45, 0, .null)]
set_option maxRecDepth 100000 in
theorem cb_44_29 : mChk 44 29 bk_44_29 40 = true := by decide +kernel
def bk_44_40 : List mO := [(.bipush 80, 0, 0, .int 80), (.goto 5, 47, 0, .null)]
set_option maxRecDepth 100000 in
theorem cb_44_40 : mChk 44 40 bk_44_40 45 = true := by decide +kernel
def bk_44_45 : List mO := [(.bipush 64, 0, 0, .int 64)]
set_option maxRecDepth 100000 in
theorem cb_44_45 : mChk 44 45 bk_44_45 47 = true := by decide +kernel
def bk_44_47 : List mO := [(.putfield 24, 3, 4, .int 0), (.aload_n 0, 0, 0, .null), (.aload_n 0, 0, 0, .null), (.getfield 16, 3, 2, .null), (.ifCond .eq 9, 64, 0, .null)]
set_option maxRecDepth 100000 in
theorem cb_44_47 : mChk 44 47 bk_44_47 58 = true := by decide +kernel
def bk_44_58 : List mO := [(.ldc2_w 39, 0, 0, .long (-1)), (.goto 6, 67, 0, .null)]
set_option maxRecDepth 100000 in
theorem cb_44_58 : mChk 44 58 bk_44_58 64 = true := by decide +kernel
def bk_44_64 : List mO := [(.ldc2_w 27, 0, 0, .long 4294967295)]
set_option maxRecDepth 100000 in
theorem cb_44_64 : mChk 44 64 bk_44_64 67 = true := by decide +kernel
def bk_44_67 : List mO := [(.putfield 29, 3, 5, .long 0), (.aload_n 0, 0, 0, .null), (.iconst 0, 0, 0, .int 0), (.putfield 33, 3, 6, .int 0), (.aload_n 0, 0, 0, .null), (.iconst 0, 0, 0, .int 0), (.putfield 36, 3, 7, .int 0), (.iconst 0, 0, 0, .int 0), (.istore_n 2, 2, 0, .null)]
set_option maxRecDepth 100000 in
theorem cb_44_67 : mChk 44 67 bk_44_67 82 = true := by decide +kernel
def bk_44_82 : List mO := [(.iload_n 2, 2, 0, .null), (.bipush 8, 0, 0, .int 8), (.if_icmp .ge 38, 123, 0, .null)]
set_option maxRecDepth 100000 in
theorem cb_44_82 : mChk 44 82 bk_44_82 88 = true := by decide +kernel
def bk_44_88 : List mO := [(.aload_n 0, 0, 0, .null), (.getfield 7, 3, 0, .null), (.iload_n 2, 2, 0, .null), (.aload_n 0, 0, 0, .null), (.getfield 16, 3, 2, .null), (.ifCond .eq 11, 108, 0, .null)]
set_option maxRecDepth 100000 in
theorem cb_44_88 : mChk 44 88 bk_44_88 100 = true := by decide +kernel
def bk_44_100 : List mO := [(.getstatic 41, 0, 0, .ref 1000000), (.iload_n 2, 2, 0, .null), (.laload, 0, 0, .null), (.goto 11, 116, 0, .null)]
set_option maxRecDepth 100000 in
theorem cb_44_100 : mChk 44 100 bk_44_100 108 = true := by decide +kernel
def bk_44_108 : List mO := [(.getstatic 41, 0, 0, .ref 1000000), (.iload_n 2, 2, 0, .null), (.laload, 0, 0, .null), (.bipush 32, 0, 0, .int 32), (.lushr, 0, 0, .null)]
set_option maxRecDepth 100000 in
theorem cb_44_108 : mChk 44 108 bk_44_108 116 = true := by decide +kernel
def bk_44_116 : List mO := [(.lastore, 0, 0, .null), (.iinc 2 1, 2, 0, .int 1), (.goto (-38), 82, 0, .null)]
set_option maxRecDepth 100000 in
theorem cb_44_116 : mChk 44 116 bk_44_116 123 = true := by decide +kernel
def bk_44_123 : List mO := [(.return_, 0, 0, .null)]
set_option maxRecDepth 100000 in
theorem cb_44_123 : mChk 44 123 bk_44_123 124 = true := by decide +kernel
-- method 45: KeySealer$Digest.blockBytes()I, locals 1, room (0, 0)
def bk_45_0 : List mO := [(.iconst 2, 0, 0, .int 2), (.aload_n 0, 0, 0, .null), (.getfield 20, 3, 3, .null), (.imul, 0, 0, .null), (.ireturn, 0, 0, .int 0)]
set_option maxRecDepth 100000 in
theorem cb_45_0 : mChk 45 0 bk_45_0 7 = true := by decide +kernel
-- method 46: KeySealer$Digest.take(I)V, locals 3, room (1, 54)
def bk_46_0 : List mO := [(.aload_n 0, 0, 0, .null), (.getfield 16, 3, 2, .null), (.ifCond .eq 12, 16, 0, .null)]
set_option maxRecDepth 100000 in
theorem cb_46_0 : mChk 46 0 bk_46_0 7 = true := by decide +kernel
def bk_46_7 : List mO := [(.aload_n 0, 0, 0, .null), (.getfield 33, 3, 6, .null), (.iconst 3, 0, 0, .int 3), (.ishr, 0, 0, .null), (.goto 9, 22, 0, .null)]
set_option maxRecDepth 100000 in
theorem cb_46_7 : mChk 46 7 bk_46_7 16 = true := by decide +kernel
def bk_46_16 : List mO := [(.aload_n 0, 0, 0, .null), (.getfield 33, 3, 6, .null), (.iconst 2, 0, 0, .int 2), (.ishr, 0, 0, .null)]
set_option maxRecDepth 100000 in
theorem cb_46_16 : mChk 46 16 bk_46_16 22 = true := by decide +kernel
def bk_46_22 : List mO := [(.istore_n 2, 2, 0, .null), (.aload_n 0, 0, 0, .null), (.getfield 13, 3, 1, .null), (.iload_n 2, 2, 0, .null), (.aload_n 0, 0, 0, .null), (.getfield 13, 3, 1, .null), (.iload_n 2, 2, 0, .null), (.laload, 0, 0, .null), (.bipush 8, 0, 0, .int 8), (.lshl, 0, 0, .null), (.iload_n 1, 1, 0, .null), (.sipush 255, 0, 0, .int 255), (.iand, 0, 0, .null), (.i2l, 0, 0, .null), (.lor, 0, 0, .null), (.aload_n 0, 0, 0, .null), (.getfield 29, 3, 5, .null), (.land, 0, 0, .null), (.lastore, 0, 0, .null), (.aload_n 0, 0, 0, .null), (.dup, 0, 0, .null), (.getfield 36, 3, 7, .null), (.iconst 1, 0, 0, .int 1), (.iadd, 0, 0, .null), (.putfield 36, 3, 7, .int 0), (.aload_n 0, 0, 0, .null), (.dup, 0, 0, .null), (.getfield 33, 3, 6, .null), (.iconst 1, 0, 0, .int 1), (.iadd, 0, 0, .null), (.putfield 33, 3, 6, .int 0), (.aload_n 0, 0, 0, .null), (.getfield 33, 3, 6, .null), (.aload_n 0, 0, 0, .null), (.invokevirtual 44, 45, 0, .ref 3), (.if_icmp .ne 16, 94, 0, .null)]
set_option maxRecDepth 100000 in
theorem cb_46_22 : mChk 46 22 bk_46_22 81 = true := by decide +kernel
def bk_46_81 : List mO := [(.aload_n 0, 0, 0, .null), (.iconst 0, 0, 0, .int 0), (.putfield 33, 3, 6, .int 0), (.aload_n 0, 0, 0, .null), (.invokevirtual 48, 49, 0, .ref 3), (.aload_n 0, 0, 0, .null), (.invokevirtual 51, 50, 0, .ref 3)]
set_option maxRecDepth 100000 in
theorem cb_46_81 : mChk 46 81 bk_46_81 94 = true := by decide +kernel
def bk_46_94 : List mO := [(.return_, 0, 0, .null)]
set_option maxRecDepth 100000 in
theorem cb_46_94 : mChk 46 94 bk_46_94 95 = true := by decide +kernel
-- method 47: KeySealer$Digest.takeRow(LKeySealer$Row;)V, locals 3, room (2, 76)
def bk_47_0 : List mO := [(.iconst 0, 0, 0, .int 0), (.istore_n 2, 2, 0, .null)]
set_option maxRecDepth 100000 in
theorem cb_47_0 : mChk 47 0 bk_47_0 2 = true := by decide +kernel
def bk_47_2 : List mO := [(.iload_n 2, 2, 0, .null), (.aload_n 1, 1, 0, .null), (.getfield 54, 6, 1, .null), (.if_icmp .ge 18, 25, 0, .null)]
set_option maxRecDepth 100000 in
theorem cb_47_2 : mChk 47 2 bk_47_2 10 = true := by decide +kernel
def bk_47_10 : List mO := [(.aload_n 0, 0, 0, .null), (.aload_n 1, 1, 0, .null), (.iload_n 2, 2, 0, .null), (.invokevirtual 59, 66, 1, .ref 6), (.invokevirtual 63, 46, 1, .ref 3), (.iinc 2 1, 2, 0, .int 1), (.goto (-20), 2, 0, .null)]
set_option maxRecDepth 100000 in
theorem cb_47_10 : mChk 47 10 bk_47_10 25 = true := by decide +kernel
def bk_47_25 : List mO := [(.return_, 0, 0, .null)]
set_option maxRecDepth 100000 in
theorem cb_47_25 : mChk 47 25 bk_47_25 26 = true := by decide +kernel
-- method 48: KeySealer$Digest.finish(LKeySealer$Row;)V, locals 6, room (2, 76)
def bk_48_0 : List mO := [(.bipush 8, 0, 0, .int 8), (.aload_n 0, 0, 0, .null), (.getfield 36, 3, 7, .null), (.imul, 0, 0, .null), (.istore_n 2, 2, 0, .null), (.aload_n 0, 0, 0, .null), (.getfield 20, 3, 3, .null), (.iconst 4, 0, 0, .int 4), (.idiv, 0, 0, .null), (.istore_n 3, 3, 0, .null), (.aload_n 0, 0, 0, .null), (.invokevirtual 44, 45, 0, .ref 3), (.iload_n 3, 3, 0, .null), (.isub, 0, 0, .null), (.istore 4, 4, 0, .null), (.aload_n 0, 0, 0, .null), (.sipush 128, 0, 0, .int 128), (.invokevirtual 63, 46, 1, .ref 3), (.iconst 0, 0, 0, .int 0), (.istore 5, 5, 0, .null)]
set_option maxRecDepth 100000 in
theorem cb_48_0 : mChk 48 0 bk_48_0 33 = true := by decide +kernel
def bk_48_33 : List mO := [(.iload 5, 5, 0, .null), (.sipush 128, 0, 0, .int 128), (.if_icmp .ge 23, 61, 0, .null)]
set_option maxRecDepth 100000 in
theorem cb_48_33 : mChk 48 33 bk_48_33 41 = true := by decide +kernel
def bk_48_41 : List mO := [(.aload_n 0, 0, 0, .null), (.getfield 33, 3, 6, .null), (.iload 4, 4, 0, .null), (.if_icmp .eq 14, 61, 0, .null)]
set_option maxRecDepth 100000 in
theorem cb_48_41 : mChk 48 41 bk_48_41 50 = true := by decide +kernel
def bk_48_50 : List mO := [(.aload_n 0, 0, 0, .null), (.iconst 0, 0, 0, .int 0), (.invokevirtual 63, 46, 1, .ref 3), (.iinc 5 1, 5, 0, .int 1), (.goto (-25), 33, 0, .null)]
set_option maxRecDepth 100000 in
theorem cb_48_50 : mChk 48 50 bk_48_50 61 = true := by decide +kernel
def bk_48_61 : List mO := [(.iload_n 3, 3, 0, .null), (.iconst 1, 0, 0, .int 1), (.isub, 0, 0, .null), (.istore 5, 5, 0, .null)]
set_option maxRecDepth 100000 in
theorem cb_48_61 : mChk 48 61 bk_48_61 66 = true := by decide +kernel
def bk_48_66 : List mO := [(.iload 5, 5, 0, .null), (.ifCond .lt 30, 98, 0, .null)]
set_option maxRecDepth 100000 in
theorem cb_48_66 : mChk 48 66 bk_48_66 71 = true := by decide +kernel
def bk_48_71 : List mO := [(.aload_n 0, 0, 0, .null), (.iload 5, 5, 0, .null), (.iconst 4, 0, 0, .int 4), (.if_icmp .ge 13, 88, 0, .null)]
set_option maxRecDepth 100000 in
theorem cb_48_71 : mChk 48 71 bk_48_71 78 = true := by decide +kernel
def bk_48_78 : List mO := [(.iload_n 2, 2, 0, .null), (.bipush 8, 0, 0, .int 8), (.iload 5, 5, 0, .null), (.imul, 0, 0, .null), (.iushr, 0, 0, .null), (.goto 4, 89, 0, .null)]
set_option maxRecDepth 100000 in
theorem cb_48_78 : mChk 48 78 bk_48_78 88 = true := by decide +kernel
def bk_48_88 : List mO := [(.iconst 0, 0, 0, .int 0)]
set_option maxRecDepth 100000 in
theorem cb_48_88 : mChk 48 88 bk_48_88 89 = true := by decide +kernel
def bk_48_89 : List mO := [(.invokevirtual 63, 46, 1, .ref 3), (.iinc 5 (-1), 5, 0, .int (-1)), (.goto (-29), 66, 0, .null)]
set_option maxRecDepth 100000 in
theorem cb_48_89 : mChk 48 89 bk_48_89 98 = true := by decide +kernel
def bk_48_98 : List mO := [(.aload_n 1, 1, 0, .null), (.invokevirtual 67, 63, 0, .ref 6), (.iconst 0, 0, 0, .int 0), (.istore 5, 5, 0, .null)]
set_option maxRecDepth 100000 in
theorem cb_48_98 : mChk 48 98 bk_48_98 105 = true := by decide +kernel
def bk_48_105 : List mO := [(.iload 5, 5, 0, .null), (.bipush 8, 0, 0, .int 8), (.if_icmp .ge 27, 136, 0, .null)]
set_option maxRecDepth 100000 in
theorem cb_48_105 : mChk 48 105 bk_48_105 112 = true := by decide +kernel
def bk_48_112 : List mO := [(.aload_n 1, 1, 0, .null), (.aload_n 0, 0, 0, .null), (.getfield 7, 3, 0, .null), (.iload 5, 5, 0, .null), (.laload, 0, 0, .null), (.aload_n 0, 0, 0, .null), (.getfield 20, 3, 3, .null), (.bipush 8, 0, 0, .int 8), (.idiv, 0, 0, .null), (.invokevirtual 70, 69, 2, .ref 6), (.iinc 5 1, 5, 0, .int 1), (.goto (-28), 105, 0, .null)]
set_option maxRecDepth 100000 in
theorem cb_48_112 : mChk 48 112 bk_48_112 136 = true := by decide +kernel
def bk_48_136 : List mO := [(.return_, 0, 0, .null)]
set_option maxRecDepth 100000 in
theorem cb_48_136 : mChk 48 136 bk_48_136 137 = true := by decide +kernel
-- method 49: KeySealer$Digest.stretchWords()V, locals 18, room (0, 0)
def bk_49_0 : List mO := [(.aload_n 0, 0, 0, .null), (.getfield 16, 3, 2, .null), (.ifCond .eq 9, 13, 0, .null)]
set_option maxRecDepth 100000 in
theorem cb_49_0 : mChk 49 0 bk_49_0 7 = true := by decide +kernel
def bk_49_7 : List mO := [(.getstatic 74, 0, 0, .ref 1000001), (.goto 6, 16, 0, .null)]
set_option maxRecDepth 100000 in
theorem cb_49_7 : mChk 49 7 bk_49_7 13 = true := by decide +kernel
def bk_49_13 : List mO := [(.getstatic 78, 0, 0, .ref 1000002)]
set_option maxRecDepth 100000 in
theorem cb_49_13 : mChk 49 13 bk_49_13 16 = true := by decide +kernel
def bk_49_16 : List mO := [(.astore_n 1, 1, 0, .null), (.aload_n 0, 0, 0, .null), (.getfield 20, 3, 3, .null), (.istore_n 2, 2, 0, .null), (.aload_n 1, 1, 0, .null), (.bipush 6, 0, 0, .int 6), (.iaload, 0, 0, .null), (.istore_n 3, 3, 0, .null), (.aload_n 1, 1, 0, .null), (.bipush 7, 0, 0, .int 7), (.iaload, 0, 0, .null), (.istore 4, 4, 0, .null), (.aload_n 1, 1, 0, .null), (.bipush 8, 0, 0, .int 8), (.iaload, 0, 0, .null), (.istore 5, 5, 0, .null), (.aload_n 1, 1, 0, .null), (.bipush 9, 0, 0, .int 9), (.iaload, 0, 0, .null), (.istore 6, 6, 0, .null), (.aload_n 1, 1, 0, .null), (.bipush 10, 0, 0, .int 10), (.iaload, 0, 0, .null), (.istore 7, 7, 0, .null), (.aload_n 1, 1, 0, .null), (.bipush 11, 0, 0, .int 11), (.iaload, 0, 0, .null), (.istore 8, 8, 0, .null), (.bipush 16, 0, 0, .int 16), (.istore 9, 9, 0, .null)]
set_option maxRecDepth 100000 in
theorem cb_49_16 : mChk 49 16 bk_49_16 61 = true := by decide +kernel
def bk_49_61 : List mO := [(.iload 9, 9, 0, .null), (.aload_n 0, 0, 0, .null), (.getfield 24, 3, 4, .null), (.if_icmp .ge 139, 206, 0, .null)]
set_option maxRecDepth 100000 in
theorem cb_49_61 : mChk 49 61 bk_49_61 70 = true := by decide +kernel
def bk_49_70 : List mO := [(.aload_n 0, 0, 0, .null), (.getfield 13, 3, 1, .null), (.iload 9, 9, 0, .null), (.bipush 15, 0, 0, .int 15), (.isub, 0, 0, .null), (.laload, 0, 0, .null), (.lstore 10, 10, 0, .null), (.aload_n 0, 0, 0, .null), (.getfield 13, 3, 1, .null), (.iload 9, 9, 0, .null), (.iconst 2, 0, 0, .int 2), (.isub, 0, 0, .null), (.laload, 0, 0, .null), (.lstore 12, 12, 0, .null), (.lload 10, 10, 0, .null), (.iload_n 3, 3, 0, .null), (.lushr, 0, 0, .null), (.lload 10, 10, 0, .null), (.iload_n 2, 2, 0, .null), (.iload_n 3, 3, 0, .null), (.isub, 0, 0, .null), (.lshl, 0, 0, .null), (.lor, 0, 0, .null), (.lload 10, 10, 0, .null), (.iload 4, 4, 0, .null), (.lushr, 0, 0, .null), (.lload 10, 10, 0, .null), (.iload_n 2, 2, 0, .null), (.iload 4, 4, 0, .null), (.isub, 0, 0, .null), (.lshl, 0, 0, .null), (.lor, 0, 0, .null), (.lxor, 0, 0, .null), (.lload 10, 10, 0, .null), (.iload 5, 5, 0, .null), (.lushr, 0, 0, .null), (.lxor, 0, 0, .null), (.lstore 14, 14, 0, .null), (.lload 12, 12, 0, .null), (.iload 6, 6, 0, .null), (.lushr, 0, 0, .null), (.lload 12, 12, 0, .null), (.iload_n 2, 2, 0, .null), (.iload 6, 6, 0, .null), (.isub, 0, 0, .null), (.lshl, 0, 0, .null), (.lor, 0, 0, .null), (.lload 12, 12, 0, .null), (.iload 7, 7, 0, .null), (.lushr, 0, 0, .null), (.lload 12, 12, 0, .null), (.iload_n 2, 2, 0, .null), (.iload 7, 7, 0, .null), (.isub, 0, 0, .null), (.lshl, 0, 0, .null), (.lor, 0, 0, .null), (.lxor, 0, 0, .null), (.lload 12, 12, 0, .null), (.iload 8, 8, 0, .null), (.lushr, 0, 0, .null), (.lxor, 0, 0, .null), (.lstore 16, 16, 0, .null), (.aload_n 0, 0, 0, .null), (.getfield 13, 3, 1, .null), (.iload 9, 9, 0, .null), (.lload 16, 16, 0, .null), (.aload_n 0, 0, 0, .null), (.getfield 13, 3, 1, .null), (.iload 9, 9, 0, .null), (.bipush 7, 0, 0, .int 7), (.isub, 0, 0, .null), (.laload, 0, 0, .null), (.ladd, 0, 0, .null), (.lload 14, 14, 0, .null), (.ladd, 0, 0, .null), (.aload_n 0, 0, 0, .null), (.getfield 13, 3, 1, .null), (.iload 9, 9, 0, .null), (.bipush 16, 0, 0, .int 16), (.isub, 0, 0, .null), (.laload, 0, 0, .null), (.ladd, 0, 0, .null), (.aload_n 0, 0, 0, .null), (.getfield 29, 3, 5, .null), (.land, 0, 0, .null), (.lastore, 0, 0, .null), (.iinc 9 1, 9, 0, .int 1), (.goto (-142), 61, 0, .null)]
set_option maxRecDepth 100000 in
theorem cb_49_70 : mChk 49 70 bk_49_70 206 = true := by decide +kernel
def bk_49_206 : List mO := [(.return_, 0, 0, .null)]
set_option maxRecDepth 100000 in
theorem cb_49_206 : mChk 49 206 bk_49_206 207 = true := by decide +kernel
-- method 50: KeySealer$Digest.mixWords()V, locals 35, room (0, 0)
def bk_50_0 : List mO := [(.aload_n 0, 0, 0, .null), (.getfield 16, 3, 2, .null), (.ifCond .eq 9, 13, 0, .null)]
set_option maxRecDepth 100000 in
theorem cb_50_0 : mChk 50 0 bk_50_0 7 = true := by decide +kernel
def bk_50_7 : List mO := [(.getstatic 74, 0, 0, .ref 1000001), (.goto 6, 16, 0, .null)]
set_option maxRecDepth 100000 in
theorem cb_50_7 : mChk 50 7 bk_50_7 13 = true := by decide +kernel
def bk_50_13 : List mO := [(.getstatic 78, 0, 0, .ref 1000002)]
set_option maxRecDepth 100000 in
theorem cb_50_13 : mChk 50 13 bk_50_13 16 = true := by decide +kernel
def bk_50_16 : List mO := [(.astore_n 1, 1, 0, .null), (.aload_n 0, 0, 0, .null), (.getfield 20, 3, 3, .null), (.istore_n 2, 2, 0, .null), (.bipush 64, 0, 0, .int 64), (.iload_n 2, 2, 0, .null), (.isub, 0, 0, .null), (.istore_n 3, 3, 0, .null), (.aload_n 1, 1, 0, .null), (.iconst 0, 0, 0, .int 0), (.iaload, 0, 0, .null), (.istore 4, 4, 0, .null), (.aload_n 1, 1, 0, .null), (.iconst 1, 0, 0, .int 1), (.iaload, 0, 0, .null), (.istore 5, 5, 0, .null), (.aload_n 1, 1, 0, .null), (.iconst 2, 0, 0, .int 2), (.iaload, 0, 0, .null), (.istore 6, 6, 0, .null), (.aload_n 1, 1, 0, .null), (.iconst 3, 0, 0, .int 3), (.iaload, 0, 0, .null), (.istore 7, 7, 0, .null), (.aload_n 1, 1, 0, .null), (.iconst 4, 0, 0, .int 4), (.iaload, 0, 0, .null), (.istore 8, 8, 0, .null), (.aload_n 1, 1, 0, .null), (.iconst 5, 0, 0, .int 5), (.iaload, 0, 0, .null), (.istore 9, 9, 0, .null), (.aload_n 0, 0, 0, .null), (.getfield 7, 3, 0, .null), (.iconst 0, 0, 0, .int 0), (.laload, 0, 0, .null), (.lstore 10, 10, 0, .null), (.aload_n 0, 0, 0, .null), (.getfield 7, 3, 0, .null), (.iconst 1, 0, 0, .int 1), (.laload, 0, 0, .null), (.lstore 12, 12, 0, .null), (.aload_n 0, 0, 0, .null), (.getfield 7, 3, 0, .null), (.iconst 2, 0, 0, .int 2), (.laload, 0, 0, .null), (.lstore 14, 14, 0, .null), (.aload_n 0, 0, 0, .null), (.getfield 7, 3, 0, .null), (.iconst 3, 0, 0, .int 3), (.laload, 0, 0, .null), (.lstore 16, 16, 0, .null), (.aload_n 0, 0, 0, .null), (.getfield 7, 3, 0, .null), (.iconst 4, 0, 0, .int 4), (.laload, 0, 0, .null), (.lstore 18, 18, 0, .null), (.aload_n 0, 0, 0, .null), (.getfield 7, 3, 0, .null), (.iconst 5, 0, 0, .int 5), (.laload, 0, 0, .null), (.lstore 20, 20, 0, .null), (.aload_n 0, 0, 0, .null), (.getfield 7, 3, 0, .null), (.bipush 6, 0, 0, .int 6), (.laload, 0, 0, .null), (.lstore 22, 22, 0, .null), (.aload_n 0, 0, 0, .null), (.getfield 7, 3, 0, .null), (.bipush 7, 0, 0, .int 7), (.laload, 0, 0, .null), (.lstore 24, 24, 0, .null), (.iconst 0, 0, 0, .int 0), (.istore 26, 26, 0, .null)]
set_option maxRecDepth 100000 in
theorem cb_50_16 : mChk 50 16 bk_50_16 126 = true := by decide +kernel
def bk_50_126 : List mO := [(.iload 26, 26, 0, .null), (.aload_n 0, 0, 0, .null), (.getfield 24, 3, 4, .null), (.if_icmp .ge 205, 337, 0, .null)]
set_option maxRecDepth 100000 in
theorem cb_50_126 : mChk 50 126 bk_50_126 135 = true := by decide +kernel
def bk_50_135 : List mO := [(.lload 18, 18, 0, .null), (.iload 7, 7, 0, .null), (.lushr, 0, 0, .null), (.lload 18, 18, 0, .null), (.iload_n 2, 2, 0, .null), (.iload 7, 7, 0, .null), (.isub, 0, 0, .null), (.lshl, 0, 0, .null), (.lor, 0, 0, .null), (.lload 18, 18, 0, .null), (.iload 8, 8, 0, .null), (.lushr, 0, 0, .null), (.lload 18, 18, 0, .null), (.iload_n 2, 2, 0, .null), (.iload 8, 8, 0, .null), (.isub, 0, 0, .null), (.lshl, 0, 0, .null), (.lor, 0, 0, .null), (.lxor, 0, 0, .null), (.lload 18, 18, 0, .null), (.iload 9, 9, 0, .null), (.lushr, 0, 0, .null), (.lload 18, 18, 0, .null), (.iload_n 2, 2, 0, .null), (.iload 9, 9, 0, .null), (.isub, 0, 0, .null), (.lshl, 0, 0, .null), (.lor, 0, 0, .null), (.lxor, 0, 0, .null), (.lstore 27, 27, 0, .null), (.lload 10, 10, 0, .null), (.iload 4, 4, 0, .null), (.lushr, 0, 0, .null), (.lload 10, 10, 0, .null), (.iload_n 2, 2, 0, .null), (.iload 4, 4, 0, .null), (.isub, 0, 0, .null), (.lshl, 0, 0, .null), (.lor, 0, 0, .null), (.lload 10, 10, 0, .null), (.iload 5, 5, 0, .null), (.lushr, 0, 0, .null), (.lload 10, 10, 0, .null), (.iload_n 2, 2, 0, .null), (.iload 5, 5, 0, .null), (.isub, 0, 0, .null), (.lshl, 0, 0, .null), (.lor, 0, 0, .null), (.lxor, 0, 0, .null), (.lload 10, 10, 0, .null), (.iload 6, 6, 0, .null), (.lushr, 0, 0, .null), (.lload 10, 10, 0, .null), (.iload_n 2, 2, 0, .null), (.iload 6, 6, 0, .null), (.isub, 0, 0, .null), (.lshl, 0, 0, .null), (.lor, 0, 0, .null), (.lxor, 0, 0, .null), (.lstore 29, 29, 0, .null), (.lload 24, 24, 0, .null), (.lload 27, 27, 0, .null), (.ladd, 0, 0, .null), (.lload 18, 18, 0, .null), (.lload 20, 20, 0, .null), (.land, 0, 0, .null), (.lload 18, 18, 0, .null), (.ldc2_w 39, 0, 0, .long (-1)), (.lxor, 0, 0, .null), (.lload 22, 22, 0, .null), (.land, 0, 0, .null), (.lxor, 0, 0, .null), (.ladd, 0, 0, .null), (.getstatic 81, 0, 0, .ref 1000003), (.iload 26, 26, 0, .null), (.laload, 0, 0, .null), (.iload_n 3, 3, 0, .null), (.lushr, 0, 0, .null), (.ladd, 0, 0, .null), (.aload_n 0, 0, 0, .null), (.getfield 13, 3, 1, .null), (.iload 26, 26, 0, .null), (.laload, 0, 0, .null), (.ladd, 0, 0, .null), (.lstore 31, 31, 0, .null), (.lload 29, 29, 0, .null), (.lload 10, 10, 0, .null), (.lload 12, 12, 0, .null), (.land, 0, 0, .null), (.lload 10, 10, 0, .null), (.lload 14, 14, 0, .null), (.land, 0, 0, .null), (.lxor, 0, 0, .null), (.lload 12, 12, 0, .null), (.lload 14, 14, 0, .null), (.land, 0, 0, .null), (.lxor, 0, 0, .null), (.ladd, 0, 0, .null), (.lstore 33, 33, 0, .null), (.lload 22, 22, 0, .null), (.lstore 24, 24, 0, .null), (.lload 20, 20, 0, .null), (.lstore 22, 22, 0, .null), (.lload 18, 18, 0, .null), (.lstore 20, 20, 0, .null), (.lload 16, 16, 0, .null), (.lload 31, 31, 0, .null), (.ladd, 0, 0, .null), (.aload_n 0, 0, 0, .null), (.getfield 29, 3, 5, .null), (.land, 0, 0, .null), (.lstore 18, 18, 0, .null), (.lload 14, 14, 0, .null), (.lstore 16, 16, 0, .null), (.lload 12, 12, 0, .null), (.lstore 14, 14, 0, .null), (.lload 10, 10, 0, .null), (.lstore 12, 12, 0, .null), (.lload 31, 31, 0, .null), (.lload 33, 33, 0, .null), (.ladd, 0, 0, .null), (.aload_n 0, 0, 0, .null), (.getfield 29, 3, 5, .null), (.land, 0, 0, .null), (.lstore 10, 10, 0, .null), (.iinc 26 1, 26, 0, .int 1), (.goto (-208), 126, 0, .null)]
set_option maxRecDepth 100000 in
theorem cb_50_135 : mChk 50 135 bk_50_135 337 = true := by decide +kernel
def bk_50_337 : List mO := [(.aload_n 0, 0, 0, .null), (.getfield 7, 3, 0, .null), (.iconst 0, 0, 0, .int 0), (.aload_n 0, 0, 0, .null), (.getfield 7, 3, 0, .null), (.iconst 0, 0, 0, .int 0), (.laload, 0, 0, .null), (.lload 10, 10, 0, .null), (.ladd, 0, 0, .null), (.aload_n 0, 0, 0, .null), (.getfield 29, 3, 5, .null), (.land, 0, 0, .null), (.lastore, 0, 0, .null), (.aload_n 0, 0, 0, .null), (.getfield 7, 3, 0, .null), (.iconst 1, 0, 0, .int 1), (.aload_n 0, 0, 0, .null), (.getfield 7, 3, 0, .null), (.iconst 1, 0, 0, .int 1), (.laload, 0, 0, .null), (.lload 12, 12, 0, .null), (.ladd, 0, 0, .null), (.aload_n 0, 0, 0, .null), (.getfield 29, 3, 5, .null), (.land, 0, 0, .null), (.lastore, 0, 0, .null), (.aload_n 0, 0, 0, .null), (.getfield 7, 3, 0, .null), (.iconst 2, 0, 0, .int 2), (.aload_n 0, 0, 0, .null), (.getfield 7, 3, 0, .null), (.iconst 2, 0, 0, .int 2), (.laload, 0, 0, .null), (.lload 14, 14, 0, .null), (.ladd, 0, 0, .null), (.aload_n 0, 0, 0, .null), (.getfield 29, 3, 5, .null), (.land, 0, 0, .null), (.lastore, 0, 0, .null), (.aload_n 0, 0, 0, .null), (.getfield 7, 3, 0, .null), (.iconst 3, 0, 0, .int 3), (.aload_n 0, 0, 0, .null), (.getfield 7, 3, 0, .null), (.iconst 3, 0, 0, .int 3), (.laload, 0, 0, .null), (.lload 16, 16, 0, .null), (.ladd, 0, 0, .null), (.aload_n 0, 0, 0, .null), (.getfield 29, 3, 5, .null), (.land, 0, 0, .null), (.lastore, 0, 0, .null), (.aload_n 0, 0, 0, .null), (.getfield 7, 3, 0, .null), (.iconst 4, 0, 0, .int 4), (.aload_n 0, 0, 0, .null), (.getfield 7, 3, 0, .null), (.iconst 4, 0, 0, .int 4), (.laload, 0, 0, .null), (.lload 18, 18, 0, .null), (.ladd, 0, 0, .null), (.aload_n 0, 0, 0, .null), (.getfield 29, 3, 5, .null), (.land, 0, 0, .null), (.lastore, 0, 0, .null), (.aload_n 0, 0, 0, .null), (.getfield 7, 3, 0, .null), (.iconst 5, 0, 0, .int 5), (.aload_n 0, 0, 0, .null), (.getfield 7, 3, 0, .null), (.iconst 5, 0, 0, .int 5), (.laload, 0, 0, .null), (.lload 20, 20, 0, .null), (.ladd, 0, 0, .null), (.aload_n 0, 0, 0, .null), (.getfield 29, 3, 5, .null), (.land, 0, 0, .null), (.lastore, 0, 0, .null), (.aload_n 0, 0, 0, .null), (.getfield 7, 3, 0, .null), (.bipush 6, 0, 0, .int 6), (.aload_n 0, 0, 0, .null), (.getfield 7, 3, 0, .null), (.bipush 6, 0, 0, .int 6), (.laload, 0, 0, .null), (.lload 22, 22, 0, .null), (.ladd, 0, 0, .null), (.aload_n 0, 0, 0, .null), (.getfield 29, 3, 5, .null), (.land, 0, 0, .null), (.lastore, 0, 0, .null), (.aload_n 0, 0, 0, .null), (.getfield 7, 3, 0, .null), (.bipush 7, 0, 0, .int 7), (.aload_n 0, 0, 0, .null), (.getfield 7, 3, 0, .null), (.bipush 7, 0, 0, .int 7), (.laload, 0, 0, .null), (.lload 24, 24, 0, .null), (.ladd, 0, 0, .null), (.aload_n 0, 0, 0, .null), (.getfield 29, 3, 5, .null), (.land, 0, 0, .null), (.lastore, 0, 0, .null), (.return_, 0, 0, .null)]
set_option maxRecDepth 100000 in
theorem cb_50_337 : mChk 50 337 bk_50_337 502 = true := by decide +kernel
-- method 51: KeySealer$Keyed.<init>()V, locals 1, room (2, 42)
def bk_51_0 : List mO := [(.aload_n 0, 0, 0, .null), (.invokespecial 3, 9000, 0, .null), (.aload_n 0, 0, 0, .null), (.new 9, 3, 8, .null), (.dup, 0, 0, .null), (.invokespecial 11, 43, 0, .int 1), (.putfield 12, 4, 0, .ref 0), (.aload_n 0, 0, 0, .null), (.new 18, 6, 2, .null), (.dup, 0, 0, .null), (.sipush 128, 0, 0, .int 128), (.invokespecial 20, 62, 1, .int 0), (.putfield 23, 4, 1, .ref 0), (.aload_n 0, 0, 0, .null), (.new 18, 6, 2, .null), (.dup, 0, 0, .null), (.bipush 64, 0, 0, .int 64), (.invokespecial 20, 62, 1, .int 0), (.putfield 27, 4, 2, .ref 0), (.aload_n 0, 0, 0, .null), (.new 18, 6, 2, .null), (.dup, 0, 0, .null), (.bipush 64, 0, 0, .int 64), (.invokespecial 20, 62, 1, .int 0), (.putfield 30, 4, 3, .ref 0), (.aload_n 0, 0, 0, .null), (.iconst 1, 0, 0, .int 1), (.putfield 33, 4, 4, .int 0), (.return_, 0, 0, .null)]
set_option maxRecDepth 100000 in
theorem cb_51_0 : mChk 51 0 bk_51_0 61 = true := by decide +kernel
-- method 52: KeySealer$Keyed.begin(ILKeySealer$Row;)V, locals 3, room (3, 101)
def bk_52_0 : List mO := [(.aload_n 0, 0, 0, .null), (.iload_n 1, 1, 0, .null), (.putfield 33, 4, 4, .int 0), (.aload_n 0, 0, 0, .null), (.getfield 12, 4, 0, .null), (.aload_n 0, 0, 0, .null), (.getfield 33, 4, 4, .null), (.invokevirtual 37, 44, 1, .ref 3), (.aload_n 2, 2, 0, .null), (.getfield 40, 6, 1, .null), (.aload_n 0, 0, 0, .null), (.getfield 12, 4, 0, .null), (.invokevirtual 43, 45, 0, .ref 3), (.if_icmp .le 25, 52, 0, .null)]
set_option maxRecDepth 100000 in
theorem cb_52_0 : mChk 52 0 bk_52_0 30 = true := by decide +kernel
def bk_52_30 : List mO := [(.aload_n 0, 0, 0, .null), (.getfield 12, 4, 0, .null), (.aload_n 2, 2, 0, .null), (.invokevirtual 47, 47, 1, .ref 3), (.aload_n 0, 0, 0, .null), (.getfield 12, 4, 0, .null), (.aload_n 0, 0, 0, .null), (.getfield 23, 4, 1, .null), (.invokevirtual 51, 48, 1, .ref 3), (.goto 11, 60, 0, .null)]
set_option maxRecDepth 100000 in
theorem cb_52_30 : mChk 52 30 bk_52_30 52 = true := by decide +kernel
def bk_52_52 : List mO := [(.aload_n 0, 0, 0, .null), (.getfield 23, 4, 1, .null), (.aload_n 2, 2, 0, .null), (.invokevirtual 54, 73, 1, .ref 6)]
set_option maxRecDepth 100000 in
theorem cb_52_52 : mChk 52 52 bk_52_52 60 = true := by decide +kernel
def bk_52_60 : List mO := [(.aload_n 0, 0, 0, .null), (.bipush 54, 0, 0, .int 54), (.invokevirtual 57, 55, 1, .ref 4), (.return_, 0, 0, .null)]
set_option maxRecDepth 100000 in
theorem cb_52_60 : mChk 52 60 bk_52_60 67 = true := by decide +kernel
-- method 53: KeySealer$Keyed.finish(LKeySealer$Row;)V, locals 2, room (3, 101)
def bk_53_0 : List mO := [(.aload_n 0, 0, 0, .null), (.getfield 12, 4, 0, .null), (.aload_n 0, 0, 0, .null), (.getfield 27, 4, 2, .null), (.invokevirtual 51, 48, 1, .ref 3), (.aload_n 0, 0, 0, .null), (.bipush 92, 0, 0, .int 92), (.invokevirtual 57, 55, 1, .ref 4), (.aload_n 0, 0, 0, .null), (.getfield 12, 4, 0, .null), (.aload_n 0, 0, 0, .null), (.getfield 27, 4, 2, .null), (.invokevirtual 47, 47, 1, .ref 3), (.aload_n 0, 0, 0, .null), (.getfield 12, 4, 0, .null), (.aload_n 1, 1, 0, .null), (.invokevirtual 51, 48, 1, .ref 3), (.return_, 0, 0, .null)]
set_option maxRecDepth 100000 in
theorem cb_53_0 : mChk 53 0 bk_53_0 37 = true := by decide +kernel
-- method 54: KeySealer$Keyed.stretch(ILKeySealer$Row;LKeySealer$Row;ILKeySealer$Row;)V, locals 7, room (4, 123)
def bk_54_0 : List mO := [(.aload 5, 5, 0, .null), (.invokevirtual 60, 63, 0, .ref 6), (.aload_n 0, 0, 0, .null), (.getfield 30, 4, 3, .null), (.invokevirtual 60, 63, 0, .ref 6), (.iconst 1, 0, 0, .int 1), (.istore 6, 6, 0, .null)]
set_option maxRecDepth 100000 in
theorem cb_54_0 : mChk 54 0 bk_54_0 15 = true := by decide +kernel
def bk_54_15 : List mO := [(.iload 6, 6, 0, .null), (.sipush 255, 0, 0, .int 255), (.if_icmp .gt 89, 109, 0, .null)]
set_option maxRecDepth 100000 in
theorem cb_54_15 : mChk 54 15 bk_54_15 23 = true := by decide +kernel
def bk_54_23 : List mO := [(.aload 5, 5, 0, .null), (.getfield 40, 6, 1, .null), (.iload 4, 4, 0, .null), (.if_icmp .ge 79, 109, 0, .null)]
set_option maxRecDepth 100000 in
theorem cb_54_23 : mChk 54 23 bk_54_23 33 = true := by decide +kernel
def bk_54_33 : List mO := [(.aload_n 0, 0, 0, .null), (.iload_n 1, 1, 0, .null), (.aload_n 2, 2, 0, .null), (.invokevirtual 63, 52, 2, .ref 4), (.aload_n 0, 0, 0, .null), (.getfield 12, 4, 0, .null), (.aload_n 0, 0, 0, .null), (.getfield 30, 4, 3, .null), (.invokevirtual 47, 47, 1, .ref 3), (.aload_n 0, 0, 0, .null), (.getfield 12, 4, 0, .null), (.aload_n 3, 3, 0, .null), (.invokevirtual 47, 47, 1, .ref 3), (.aload_n 0, 0, 0, .null), (.getfield 12, 4, 0, .null), (.iload 6, 6, 0, .null), (.invokevirtual 66, 46, 1, .ref 3), (.aload_n 0, 0, 0, .null), (.aload_n 0, 0, 0, .null), (.getfield 30, 4, 3, .null), (.invokevirtual 69, 53, 1, .ref 4), (.aload 5, 5, 0, .null), (.aload_n 0, 0, 0, .null), (.getfield 30, 4, 3, .null), (.iconst 0, 0, 0, .int 0), (.aload_n 0, 0, 0, .null), (.getfield 30, 4, 3, .null), (.getfield 40, 6, 1, .null), (.iload 4, 4, 0, .null), (.aload 5, 5, 0, .null), (.getfield 40, 6, 1, .null), (.isub, 0, 0, .null), (.invokestatic 70, 9003, 2, .null), (.invokevirtual 76, 71, 3, .ref 6), (.iinc 6 1, 6, 0, .int 1), (.goto (-91), 15, 0, .null)]
set_option maxRecDepth 100000 in
theorem cb_54_33 : mChk 54 33 bk_54_33 109 = true := by decide +kernel
def bk_54_109 : List mO := [(.return_, 0, 0, .null)]
set_option maxRecDepth 100000 in
theorem cb_54_109 : mChk 54 109 bk_54_109 110 = true := by decide +kernel
-- method 55: KeySealer$Keyed.beginHalf(I)V, locals 3, room (2, 76)
def bk_55_0 : List mO := [(.aload_n 0, 0, 0, .null), (.getfield 12, 4, 0, .null), (.aload_n 0, 0, 0, .null), (.getfield 33, 4, 4, .null), (.invokevirtual 37, 44, 1, .ref 3), (.iconst 0, 0, 0, .int 0), (.istore_n 2, 2, 0, .null)]
set_option maxRecDepth 100000 in
theorem cb_55_0 : mChk 55 0 bk_55_0 13 = true := by decide +kernel
def bk_55_13 : List mO := [(.iload_n 2, 2, 0, .null), (.aload_n 0, 0, 0, .null), (.getfield 12, 4, 0, .null), (.invokevirtual 43, 45, 0, .ref 3), (.if_icmp .ge 26, 47, 0, .null)]
set_option maxRecDepth 100000 in
theorem cb_55_13 : mChk 55 13 bk_55_13 24 = true := by decide +kernel
def bk_55_24 : List mO := [(.aload_n 0, 0, 0, .null), (.getfield 12, 4, 0, .null), (.aload_n 0, 0, 0, .null), (.getfield 23, 4, 1, .null), (.iload_n 2, 2, 0, .null), (.invokevirtual 80, 66, 1, .ref 6), (.iload_n 1, 1, 0, .null), (.ixor, 0, 0, .null), (.invokevirtual 66, 46, 1, .ref 3), (.iinc 2 1, 2, 0, .int 1), (.goto (-31), 13, 0, .null)]
set_option maxRecDepth 100000 in
theorem cb_55_24 : mChk 55 24 bk_55_24 47 = true := by decide +kernel
def bk_55_47 : List mO := [(.return_, 0, 0, .null)]
set_option maxRecDepth 100000 in
theorem cb_55_47 : mChk 55 47 bk_55_47 48 = true := by decide +kernel
-- method 56: KeySealer$Labels.<init>()V, locals 1, room (3, 62)
def bk_56_0 : List mO := [(.aload_n 0, 0, 0, .null), (.invokespecial 3, 9000, 0, .null), (.aload_n 0, 0, 0, .null), (.new 9, 4, 5, .null), (.dup, 0, 0, .null), (.invokespecial 11, 51, 0, .int 1), (.putfield 12, 5, 0, .ref 0), (.aload_n 0, 0, 0, .null), (.new 18, 6, 2, .null), (.dup, 0, 0, .null), (.bipush 10, 0, 0, .int 10), (.invokespecial 20, 62, 1, .int 0), (.putfield 23, 5, 1, .ref 0), (.aload_n 0, 0, 0, .null), (.new 18, 6, 2, .null), (.dup, 0, 0, .null), (.sipush 364, 0, 0, .int 364), (.invokespecial 20, 62, 1, .int 0), (.putfield 27, 5, 2, .ref 0), (.aload_n 0, 0, 0, .null), (.iconst 1, 0, 0, .int 1), (.putfield 30, 5, 3, .int 0), (.return_, 0, 0, .null)]
set_option maxRecDepth 100000 in
theorem cb_56_0 : mChk 56 0 bk_56_0 48 = true := by decide +kernel
-- method 57: KeySealer$Labels.beginAgreement()V, locals 1, room (5, 107)
def bk_57_0 : List mO := [(.aload_n 0, 0, 0, .null), (.iconst 1, 0, 0, .int 1), (.putfield 30, 5, 3, .int 0), (.aload_n 0, 0, 0, .null), (.getfield 23, 5, 1, .null), (.invokevirtual 34, 63, 0, .ref 6), (.aload_n 0, 0, 0, .null), (.getfield 23, 5, 1, .null), (.ldc 37, 0, 0, .ref 2000000), (.invokevirtual 39, 70, 1, .ref 6), (.aload_n 0, 0, 0, .null), (.getfield 23, 5, 1, .null), (.ldc2_w 43, 0, 0, .long 32), (.iconst 2, 0, 0, .int 2), (.invokevirtual 45, 69, 2, .ref 6), (.return_, 0, 0, .null)]
set_option maxRecDepth 100000 in
theorem cb_57_0 : mChk 57 0 bk_57_0 33 = true := by decide +kernel
-- method 58: KeySealer$Labels.beginSuite(II)V, locals 3, room (5, 107)
def bk_58_0 : List mO := [(.aload_n 0, 0, 0, .null), (.iload_n 1, 1, 0, .null), (.putfield 30, 5, 3, .int 0), (.aload_n 0, 0, 0, .null), (.getfield 23, 5, 1, .null), (.invokevirtual 34, 63, 0, .ref 6), (.aload_n 0, 0, 0, .null), (.getfield 23, 5, 1, .null), (.ldc 49, 0, 0, .ref 2000006), (.invokevirtual 39, 70, 1, .ref 6), (.aload_n 0, 0, 0, .null), (.getfield 23, 5, 1, .null), (.ldc2_w 43, 0, 0, .long 32), (.iconst 2, 0, 0, .int 2), (.invokevirtual 45, 69, 2, .ref 6), (.aload_n 0, 0, 0, .null), (.getfield 23, 5, 1, .null), (.aload_n 0, 0, 0, .null), (.getfield 30, 5, 3, .null), (.i2l, 0, 0, .null), (.iconst 2, 0, 0, .int 2), (.invokevirtual 45, 69, 2, .ref 6), (.aload_n 0, 0, 0, .null), (.getfield 23, 5, 1, .null), (.iload_n 2, 2, 0, .null), (.sipush 255, 0, 0, .int 255), (.if_icmp .ne 9, 62, 0, .null)]
set_option maxRecDepth 100000 in
theorem cb_58_0 : mChk 58 0 bk_58_0 56 = true := by decide +kernel
def bk_58_56 : List mO := [(.ldc2_w 51, 0, 0, .long 65535), (.goto 5, 64, 0, .null)]
set_option maxRecDepth 100000 in
theorem cb_58_56 : mChk 58 56 bk_58_56 62 = true := by decide +kernel
def bk_58_62 : List mO := [(.iload_n 2, 2, 0, .null), (.i2l, 0, 0, .null)]
set_option maxRecDepth 100000 in
theorem cb_58_62 : mChk 58 62 bk_58_62 64 = true := by decide +kernel
def bk_58_64 : List mO := [(.iconst 2, 0, 0, .int 2), (.invokevirtual 45, 69, 2, .ref 6), (.return_, 0, 0, .null)]
set_option maxRecDepth 100000 in
theorem cb_58_64 : mChk 58 64 bk_58_64 69 = true := by decide +kernel
-- method 59: KeySealer$Labels.extract(LKeySealer$Row;Ljava/lang/String;LKeySealer$Row;LKeySealer$Row;)V, locals 5, room (6, 128)
def bk_59_0 : List mO := [(.aload_n 0, 0, 0, .null), (.getfield 27, 5, 2, .null), (.invokevirtual 34, 63, 0, .ref 6), (.aload_n 0, 0, 0, .null), (.aload_n 2, 2, 0, .null), (.invokevirtual 53, 61, 1, .ref 5), (.aload_n 0, 0, 0, .null), (.getfield 12, 5, 0, .null), (.aload_n 0, 0, 0, .null), (.getfield 30, 5, 3, .null), (.aload_n 1, 1, 0, .null), (.invokevirtual 56, 52, 2, .ref 4), (.aload_n 0, 0, 0, .null), (.getfield 12, 5, 0, .null), (.getfield 60, 4, 0, .null), (.aload_n 0, 0, 0, .null), (.getfield 27, 5, 2, .null), (.invokevirtual 64, 47, 1, .ref 3), (.aload_n 0, 0, 0, .null), (.getfield 12, 5, 0, .null), (.getfield 60, 4, 0, .null), (.aload_n 3, 3, 0, .null), (.invokevirtual 64, 47, 1, .ref 3), (.aload_n 0, 0, 0, .null), (.getfield 12, 5, 0, .null), (.aload 4, 4, 0, .null), (.invokevirtual 70, 53, 1, .ref 4), (.return_, 0, 0, .null)]
set_option maxRecDepth 100000 in
theorem cb_59_0 : mChk 59 0 bk_59_0 59 = true := by decide +kernel
-- method 60: KeySealer$Labels.stretch(LKeySealer$Row;Ljava/lang/String;LKeySealer$Row;ILKeySealer$Row;)V, locals 6, room (6, 149)
def bk_60_0 : List mO := [(.aload_n 0, 0, 0, .null), (.getfield 27, 5, 2, .null), (.invokevirtual 34, 63, 0, .ref 6), (.aload_n 0, 0, 0, .null), (.getfield 27, 5, 2, .null), (.iload 4, 4, 0, .null), (.i2l, 0, 0, .null), (.iconst 2, 0, 0, .int 2), (.invokevirtual 45, 69, 2, .ref 6), (.aload_n 0, 0, 0, .null), (.aload_n 2, 2, 0, .null), (.invokevirtual 53, 61, 1, .ref 5), (.aload_n 0, 0, 0, .null), (.getfield 27, 5, 2, .null), (.aload_n 3, 3, 0, .null), (.invokevirtual 73, 72, 1, .ref 6), (.aload_n 0, 0, 0, .null), (.getfield 12, 5, 0, .null), (.aload_n 0, 0, 0, .null), (.getfield 30, 5, 3, .null), (.aload_n 1, 1, 0, .null), (.aload_n 0, 0, 0, .null), (.getfield 27, 5, 2, .null), (.iload 4, 4, 0, .null), (.aload 5, 5, 0, .null), (.invokevirtual 76, 54, 5, .ref 4), (.return_, 0, 0, .null)]
set_option maxRecDepth 100000 in
theorem cb_60_0 : mChk 60 0 bk_60_0 52 = true := by decide +kernel
-- method 61: KeySealer$Labels.putLabel(Ljava/lang/String;)V, locals 2, room (5, 107)
def bk_61_0 : List mO := [(.aload_n 0, 0, 0, .null), (.getfield 27, 5, 2, .null), (.ldc 80, 0, 0, .ref 2000002), (.invokevirtual 39, 70, 1, .ref 6), (.aload_n 0, 0, 0, .null), (.getfield 27, 5, 2, .null), (.aload_n 0, 0, 0, .null), (.getfield 23, 5, 1, .null), (.invokevirtual 73, 72, 1, .ref 6), (.aload_n 0, 0, 0, .null), (.getfield 27, 5, 2, .null), (.aload_n 1, 1, 0, .null), (.invokevirtual 39, 70, 1, .ref 6), (.return_, 0, 0, .null)]
set_option maxRecDepth 100000 in
theorem cb_61_0 : mChk 61 0 bk_61_0 29 = true := by decide +kernel
-- method 22: KeySealer$Context.<init>()V, locals 1, room (2, 42)
def bk_22_0 : List mO := [(.aload_n 0, 0, 0, .null), (.invokespecial 3, 9000, 0, .null), (.aload_n 0, 0, 0, .null), (.new 9, 6, 2, .null), (.dup, 0, 0, .null), (.bipush 32, 0, 0, .int 32), (.invokespecial 11, 62, 1, .int 0), (.putfield 14, 1, 0, .ref 0), (.aload_n 0, 0, 0, .null), (.new 9, 6, 2, .null), (.dup, 0, 0, .null), (.bipush 12, 0, 0, .int 12), (.invokespecial 11, 62, 1, .int 0), (.putfield 20, 1, 1, .ref 0), (.aload_n 0, 0, 0, .null), (.new 9, 6, 2, .null), (.dup, 0, 0, .null), (.bipush 64, 0, 0, .int 64), (.invokespecial 11, 62, 1, .int 0), (.putfield 23, 1, 2, .ref 0), (.aload_n 0, 0, 0, .null), (.iconst 0, 0, 0, .int 0), (.putfield 26, 1, 3, .int 0), (.aload_n 0, 0, 0, .null), (.iconst 0, 0, 0, .int 0), (.putfield 30, 1, 4, .int 0), (.aload_n 0, 0, 0, .null), (.iconst 0, 0, 0, .int 0), (.putfield 33, 1, 5, .int 0), (.aload_n 0, 0, 0, .null), (.iconst 0, 0, 0, .int 0), (.putfield 36, 1, 6, .int 0), (.aload_n 0, 0, 0, .null), (.iconst 0, 0, 0, .int 0), (.putfield 39, 1, 7, .int 0), (.aload_n 0, 0, 0, .null), (.iconst 0, 0, 0, .int 0), (.putfield 42, 1, 8, .int 0), (.aload_n 0, 0, 0, .null), (.iconst 0, 0, 0, .int 0), (.putfield 45, 1, 9, .int 0), (.return_, 0, 0, .null)]
set_option maxRecDepth 100000 in
theorem cb_22_0 : mChk 22 0 bk_22_0 79 = true := by decide +kernel

/-! PART 24.00: blocks of code and their checks, printed by program (wip/whole/mk13.py) -/
-- method 23: KeySealer$Context.begin(IIII)V, locals 5, room (1, 23)
def bk_23_0 : List mO := [(.aload_n 0, 0, 0, .null), (.iload_n 1, 1, 0, .null), (.putfield 26, 1, 3, .int 0), (.aload_n 0, 0, 0, .null), (.iload_n 2, 2, 0, .null), (.putfield 30, 1, 4, .int 0), (.aload_n 0, 0, 0, .null), (.iload_n 3, 3, 0, .null), (.putfield 33, 1, 5, .int 0), (.aload_n 0, 0, 0, .null), (.iload 4, 4, 0, .null), (.putfield 36, 1, 6, .int 0), (.aload_n 0, 0, 0, .null), (.iconst 0, 0, 0, .int 0), (.iconst 0, 0, 0, .int 0), (.iconst 0, 0, 0, .int 0), (.invokevirtual 48, 24, 3, .ref 1), (.return_, 0, 0, .null)]
set_option maxRecDepth 100000 in
theorem cb_23_0 : mChk 23 0 bk_23_0 29 = true := by decide +kernel
-- method 24: KeySealer$Context.place(III)V, locals 4, room (0, 0)
def bk_24_0 : List mO := [(.aload_n 0, 0, 0, .null), (.iload_n 1, 1, 0, .null), (.putfield 39, 1, 7, .int 0), (.aload_n 0, 0, 0, .null), (.iload_n 2, 2, 0, .null), (.putfield 42, 1, 8, .int 0), (.aload_n 0, 0, 0, .null), (.iload_n 3, 3, 0, .null), (.putfield 45, 1, 9, .int 0), (.return_, 0, 0, .null)]
set_option maxRecDepth 100000 in
theorem cb_24_0 : mChk 24 0 bk_24_0 16 = true := by decide +kernel
-- method 25: KeySealer$Context.isAtEnd()Z, locals 1, room (0, 0)
def bk_25_0 : List mO := [(.aload_n 0, 0, 0, .null), (.getfield 39, 1, 7, .null), (.iconst (-1), 0, 0, .int (-1)), (.if_icmp .ne 23, 28, 0, .null)]
set_option maxRecDepth 100000 in
theorem cb_25_0 : mChk 25 0 bk_25_0 8 = true := by decide +kernel
def bk_25_8 : List mO := [(.aload_n 0, 0, 0, .null), (.getfield 42, 1, 8, .null), (.iconst (-1), 0, 0, .int (-1)), (.if_icmp .ne 15, 28, 0, .null)]
set_option maxRecDepth 100000 in
theorem cb_25_8 : mChk 25 8 bk_25_8 16 = true := by decide +kernel
def bk_25_16 : List mO := [(.aload_n 0, 0, 0, .null), (.getfield 45, 1, 9, .null), (.iconst (-1), 0, 0, .int (-1)), (.if_icmp .ne 7, 28, 0, .null)]
set_option maxRecDepth 100000 in
theorem cb_25_16 : mChk 25 16 bk_25_16 24 = true := by decide +kernel
def bk_25_24 : List mO := [(.iconst 1, 0, 0, .int 1), (.goto 4, 29, 0, .null)]
set_option maxRecDepth 100000 in
theorem cb_25_24 : mChk 25 24 bk_25_24 28 = true := by decide +kernel
def bk_25_28 : List mO := [(.iconst 0, 0, 0, .int 0)]
set_option maxRecDepth 100000 in
theorem cb_25_28 : mChk 25 28 bk_25_28 29 = true := by decide +kernel
def bk_25_29 : List mO := [(.ireturn, 0, 0, .int 1)]
set_option maxRecDepth 100000 in
theorem cb_25_29 : mChk 25 29 bk_25_29 30 = true := by decide +kernel
-- method 26: KeySealer$Context.step()V, locals 1, room (0, 0)
def bk_26_0 : List mO := [(.aload_n 0, 0, 0, .null), (.dup, 0, 0, .null), (.getfield 45, 1, 9, .null), (.iconst 1, 0, 0, .int 1), (.iadd, 0, 0, .null), (.putfield 45, 1, 9, .int 0), (.aload_n 0, 0, 0, .null), (.getfield 45, 1, 9, .null), (.ifCond .ne 30, 44, 0, .null)]
set_option maxRecDepth 100000 in
theorem cb_26_0 : mChk 26 0 bk_26_0 17 = true := by decide +kernel
def bk_26_17 : List mO := [(.aload_n 0, 0, 0, .null), (.dup, 0, 0, .null), (.getfield 42, 1, 8, .null), (.iconst 1, 0, 0, .int 1), (.iadd, 0, 0, .null), (.putfield 42, 1, 8, .int 0), (.aload_n 0, 0, 0, .null), (.getfield 42, 1, 8, .null), (.ifCond .ne 13, 44, 0, .null)]
set_option maxRecDepth 100000 in
theorem cb_26_17 : mChk 26 17 bk_26_17 34 = true := by decide +kernel
def bk_26_34 : List mO := [(.aload_n 0, 0, 0, .null), (.dup, 0, 0, .null), (.getfield 39, 1, 7, .null), (.iconst 1, 0, 0, .int 1), (.iadd, 0, 0, .null), (.putfield 39, 1, 7, .int 0)]
set_option maxRecDepth 100000 in
theorem cb_26_34 : mChk 26 34 bk_26_34 44 = true := by decide +kernel
def bk_26_44 : List mO := [(.return_, 0, 0, .null)]
set_option maxRecDepth 100000 in
theorem cb_26_44 : mChk 26 44 bk_26_44 45 = true := by decide +kernel
-- method 27: KeySealer$Context.writeNonce(LKeySealer$Row;)V, locals 4, room (1, 21)
def bk_27_0 : List mO := [(.aload_n 1, 1, 0, .null), (.invokevirtual 52, 63, 0, .ref 6), (.iconst 0, 0, 0, .int 0), (.istore_n 2, 2, 0, .null)]
set_option maxRecDepth 100000 in
theorem cb_27_0 : mChk 27 0 bk_27_0 6 = true := by decide +kernel
def bk_27_6 : List mO := [(.iload_n 2, 2, 0, .null), (.bipush 12, 0, 0, .int 12), (.if_icmp .ge 63, 72, 0, .null)]
set_option maxRecDepth 100000 in
theorem cb_27_6 : mChk 27 6 bk_27_6 12 = true := by decide +kernel
def bk_27_12 : List mO := [(.iload_n 2, 2, 0, .null), (.iconst 4, 0, 0, .int 4), (.if_icmp .ge 10, 24, 0, .null)]
set_option maxRecDepth 100000 in
theorem cb_27_12 : mChk 27 12 bk_27_12 17 = true := by decide +kernel
def bk_27_17 : List mO := [(.aload_n 0, 0, 0, .null), (.getfield 39, 1, 7, .null), (.goto 20, 41, 0, .null)]
set_option maxRecDepth 100000 in
theorem cb_27_17 : mChk 27 17 bk_27_17 24 = true := by decide +kernel
def bk_27_24 : List mO := [(.iload_n 2, 2, 0, .null), (.bipush 8, 0, 0, .int 8), (.if_icmp .ge 10, 37, 0, .null)]
set_option maxRecDepth 100000 in
theorem cb_27_24 : mChk 27 24 bk_27_24 30 = true := by decide +kernel
def bk_27_30 : List mO := [(.aload_n 0, 0, 0, .null), (.getfield 42, 1, 8, .null), (.goto 7, 41, 0, .null)]
set_option maxRecDepth 100000 in
theorem cb_27_30 : mChk 27 30 bk_27_30 37 = true := by decide +kernel
def bk_27_37 : List mO := [(.aload_n 0, 0, 0, .null), (.getfield 45, 1, 9, .null)]
set_option maxRecDepth 100000 in
theorem cb_27_37 : mChk 27 37 bk_27_37 41 = true := by decide +kernel
def bk_27_41 : List mO := [(.istore_n 3, 3, 0, .null), (.aload_n 1, 1, 0, .null), (.aload_n 0, 0, 0, .null), (.getfield 20, 1, 1, .null), (.iload_n 2, 2, 0, .null), (.invokevirtual 55, 66, 1, .ref 6), (.iload_n 3, 3, 0, .null), (.bipush 24, 0, 0, .int 24), (.bipush 8, 0, 0, .int 8), (.iload_n 2, 2, 0, .null), (.iconst 3, 0, 0, .int 3), (.iand, 0, 0, .null), (.imul, 0, 0, .null), (.isub, 0, 0, .null), (.iushr, 0, 0, .null), (.ixor, 0, 0, .null), (.invokevirtual 59, 68, 1, .ref 6), (.iinc 2 1, 2, 0, .int 1), (.goto (-63), 6, 0, .null)]
set_option maxRecDepth 100000 in
theorem cb_27_41 : mChk 27 41 bk_27_41 72 = true := by decide +kernel
def bk_27_72 : List mO := [(.return_, 0, 0, .null)]
set_option maxRecDepth 100000 in
theorem cb_27_72 : mChk 27 72 bk_27_72 73 = true := by decide +kernel
-- method 28: KeySealer$Curve.<init>()V, locals 1, room (2, 42)
def bk_28_0 : List mO := [(.aload_n 0, 0, 0, .null), (.invokespecial 3, 9000, 0, .null), (.aload_n 0, 0, 0, .null), (.bipush 10, 0, 0, .int 10), (.newarray .long, 0, 0, .null), (.putfield 11, 2, 0, .ref 0), (.aload_n 0, 0, 0, .null), (.bipush 10, 0, 0, .int 10), (.newarray .long, 0, 0, .null), (.putfield 15, 2, 1, .ref 0), (.aload_n 0, 0, 0, .null), (.bipush 10, 0, 0, .int 10), (.newarray .long, 0, 0, .null), (.putfield 18, 2, 2, .ref 0), (.aload_n 0, 0, 0, .null), (.bipush 10, 0, 0, .int 10), (.newarray .long, 0, 0, .null), (.putfield 21, 2, 3, .ref 0), (.aload_n 0, 0, 0, .null), (.bipush 10, 0, 0, .int 10), (.newarray .long, 0, 0, .null), (.putfield 24, 2, 4, .ref 0), (.aload_n 0, 0, 0, .null), (.bipush 10, 0, 0, .int 10), (.newarray .long, 0, 0, .null), (.putfield 27, 2, 5, .ref 0), (.aload_n 0, 0, 0, .null), (.bipush 10, 0, 0, .int 10), (.newarray .long, 0, 0, .null), (.putfield 30, 2, 6, .ref 0), (.aload_n 0, 0, 0, .null), (.bipush 10, 0, 0, .int 10), (.newarray .long, 0, 0, .null), (.putfield 33, 2, 7, .ref 0), (.aload_n 0, 0, 0, .null), (.bipush 10, 0, 0, .int 10), (.newarray .long, 0, 0, .null), (.putfield 36, 2, 8, .ref 0), (.aload_n 0, 0, 0, .null), (.bipush 10, 0, 0, .int 10), (.newarray .long, 0, 0, .null), (.putfield 39, 2, 9, .ref 0), (.aload_n 0, 0, 0, .null), (.new 42, 6, 2, .null), (.dup, 0, 0, .null), (.bipush 32, 0, 0, .int 32), (.invokespecial 44, 62, 1, .int 0), (.putfield 47, 2, 10, .ref 0), (.return_, 0, 0, .null)]
set_option maxRecDepth 100000 in
theorem cb_28_0 : mChk 28 0 bk_28_0 98 = true := by decide +kernel
-- method 29: KeySealer$Curve.putAgreement(LKeySealer$Row;LKeySealer$Row;LKeySealer$Row;)Z, locals 4, room (5, 186)
def bk_29_0 : List mO := [(.aload_n 0, 0, 0, .null), (.aload_n 2, 2, 0, .null), (.invokevirtual 51, 41, 1, .ref 2), (.aload_n 0, 0, 0, .null), (.aload_n 1, 1, 0, .null), (.invokevirtual 55, 31, 1, .ref 2), (.aload_n 0, 0, 0, .null), (.getfield 47, 2, 10, .null), (.invokevirtual 58, 74, 0, .ref 6), (.ifCond .eq 5, 22, 0, .null)]
set_option maxRecDepth 100000 in
theorem cb_29_0 : mChk 29 0 bk_29_0 20 = true := by decide +kernel
def bk_29_20 : List mO := [(.iconst 0, 0, 0, .int 0), (.ireturn, 0, 0, .int 1)]
set_option maxRecDepth 100000 in
theorem cb_29_20 : mChk 29 20 bk_29_20 22 = true := by decide +kernel
def bk_29_22 : List mO := [(.aload_n 3, 3, 0, .null), (.aload_n 0, 0, 0, .null), (.getfield 47, 2, 10, .null), (.invokevirtual 62, 72, 1, .ref 6), (.iconst 1, 0, 0, .int 1), (.ireturn, 0, 0, .int 1)]
set_option maxRecDepth 100000 in
theorem cb_29_22 : mChk 29 22 bk_29_22 32 = true := by decide +kernel
-- method 30: KeySealer$Curve.putPublic(LKeySealer$Row;LKeySealer$Row;)V, locals 3, room (5, 186)
def bk_30_0 : List mO := [(.aload_n 0, 0, 0, .null), (.getfield 11, 2, 0, .null), (.bipush 9, 0, 0, .int 9), (.invokestatic 65, 36, 2, .null), (.aload_n 0, 0, 0, .null), (.aload_n 1, 1, 0, .null), (.invokevirtual 55, 31, 1, .ref 2), (.aload_n 2, 2, 0, .null), (.aload_n 0, 0, 0, .null), (.getfield 47, 2, 10, .null), (.invokevirtual 62, 72, 1, .ref 6), (.return_, 0, 0, .null)]
set_option maxRecDepth 100000 in
theorem cb_30_0 : mChk 30 0 bk_30_0 23 = true := by decide +kernel
-- method 31: KeySealer$Curve.climb(LKeySealer$Row;)V, locals 4, room (4, 163)
def bk_31_0 : List mO := [(.aload_n 0, 0, 0, .null), (.getfield 15, 2, 1, .null), (.iconst 1, 0, 0, .int 1), (.invokestatic 65, 36, 2, .null), (.aload_n 0, 0, 0, .null), (.getfield 18, 2, 2, .null), (.iconst 0, 0, 0, .int 0), (.invokestatic 65, 36, 2, .null), (.aload_n 0, 0, 0, .null), (.getfield 11, 2, 0, .null), (.iconst 0, 0, 0, .int 0), (.aload_n 0, 0, 0, .null), (.getfield 21, 2, 3, .null), (.iconst 0, 0, 0, .int 0), (.bipush 10, 0, 0, .int 10), (.invokestatic 69, 9001, 5, .null), (.aload_n 0, 0, 0, .null), (.getfield 24, 2, 4, .null), (.iconst 1, 0, 0, .int 1), (.invokestatic 65, 36, 2, .null), (.sipush 254, 0, 0, .int 254), (.istore_n 2, 2, 0, .null)]
set_option maxRecDepth 100000 in
theorem cb_31_0 : mChk 31 0 bk_31_0 43 = true := by decide +kernel
def bk_31_43 : List mO := [(.iload_n 2, 2, 0, .null), (.ifCond .lt 72, 116, 0, .null)]
set_option maxRecDepth 100000 in
theorem cb_31_43 : mChk 31 43 bk_31_43 47 = true := by decide +kernel
def bk_31_47 : List mO := [(.aload_n 1, 1, 0, .null), (.iload_n 2, 2, 0, .null), (.iconst 3, 0, 0, .int 3), (.ishr, 0, 0, .null), (.invokestatic 75, 32, 2, .null), (.iload_n 2, 2, 0, .null), (.bipush 7, 0, 0, .int 7), (.iand, 0, 0, .null), (.ishr, 0, 0, .null), (.iconst 1, 0, 0, .int 1), (.iand, 0, 0, .null), (.istore_n 3, 3, 0, .null), (.iload_n 3, 3, 0, .null), (.iconst 1, 0, 0, .int 1), (.if_icmp .ne 26, 90, 0, .null)]
set_option maxRecDepth 100000 in
theorem cb_31_47 : mChk 31 47 bk_31_47 67 = true := by decide +kernel
def bk_31_67 : List mO := [(.aload_n 0, 0, 0, .null), (.aload_n 0, 0, 0, .null), (.getfield 21, 2, 3, .null), (.aload_n 0, 0, 0, .null), (.getfield 24, 2, 4, .null), (.aload_n 0, 0, 0, .null), (.getfield 15, 2, 1, .null), (.aload_n 0, 0, 0, .null), (.getfield 18, 2, 2, .null), (.invokevirtual 79, 33, 4, .ref 2), (.goto 23, 110, 0, .null)]
set_option maxRecDepth 100000 in
theorem cb_31_67 : mChk 31 67 bk_31_67 90 = true := by decide +kernel
def bk_31_90 : List mO := [(.aload_n 0, 0, 0, .null), (.aload_n 0, 0, 0, .null), (.getfield 15, 2, 1, .null), (.aload_n 0, 0, 0, .null), (.getfield 18, 2, 2, .null), (.aload_n 0, 0, 0, .null), (.getfield 21, 2, 3, .null), (.aload_n 0, 0, 0, .null), (.getfield 24, 2, 4, .null), (.invokevirtual 79, 33, 4, .ref 2)]
set_option maxRecDepth 100000 in
theorem cb_31_90 : mChk 31 90 bk_31_90 110 = true := by decide +kernel
def bk_31_110 : List mO := [(.iinc 2 (-1), 2, 0, .int (-1)), (.goto (-70), 43, 0, .null)]
set_option maxRecDepth 100000 in
theorem cb_31_110 : mChk 31 110 bk_31_110 116 = true := by decide +kernel
def bk_31_116 : List mO := [(.aload_n 0, 0, 0, .null), (.aload_n 0, 0, 0, .null), (.getfield 18, 2, 2, .null), (.invokevirtual 83, 34, 1, .ref 2), (.aload_n 0, 0, 0, .null), (.getfield 15, 2, 1, .null), (.aload_n 0, 0, 0, .null), (.getfield 15, 2, 1, .null), (.aload_n 0, 0, 0, .null), (.getfield 18, 2, 2, .null), (.invokestatic 87, 39, 3, .null), (.aload_n 0, 0, 0, .null), (.aload_n 0, 0, 0, .null), (.getfield 15, 2, 1, .null), (.invokevirtual 91, 42, 1, .ref 2), (.return_, 0, 0, .null)]
set_option maxRecDepth 100000 in
theorem cb_31_116 : mChk 31 116 bk_31_116 148 = true := by decide +kernel
-- method 32: KeySealer$Curve.keyByte(LKeySealer$Row;I)I, locals 3, room (1, 21)
def bk_32_0 : List mO := [(.aload_n 0, 0, 0, .null), (.iload_n 1, 1, 0, .null), (.invokevirtual 94, 66, 1, .ref 6), (.istore_n 2, 2, 0, .null), (.iload_n 1, 1, 0, .null), (.ifCond .ne 9, 16, 0, .null)]
set_option maxRecDepth 100000 in
theorem cb_32_0 : mChk 32 0 bk_32_0 10 = true := by decide +kernel
def bk_32_10 : List mO := [(.iload_n 2, 2, 0, .null), (.sipush 248, 0, 0, .int 248), (.iand, 0, 0, .null), (.ireturn, 0, 0, .int 0)]
set_option maxRecDepth 100000 in
theorem cb_32_10 : mChk 32 10 bk_32_10 16 = true := by decide +kernel
def bk_32_16 : List mO := [(.iload_n 1, 1, 0, .null), (.bipush 31, 0, 0, .int 31), (.if_icmp .ne 13, 32, 0, .null)]
set_option maxRecDepth 100000 in
theorem cb_32_16 : mChk 32 16 bk_32_16 22 = true := by decide +kernel
def bk_32_22 : List mO := [(.iload_n 2, 2, 0, .null), (.bipush 127, 0, 0, .int 127), (.iand, 0, 0, .null), (.bipush 64, 0, 0, .int 64), (.ior, 0, 0, .null), (.goto 4, 33, 0, .null)]
set_option maxRecDepth 100000 in
theorem cb_32_22 : mChk 32 22 bk_32_22 32 = true := by decide +kernel
def bk_32_32 : List mO := [(.iload_n 2, 2, 0, .null)]
set_option maxRecDepth 100000 in
theorem cb_32_32 : mChk 32 32 bk_32_32 33 = true := by decide +kernel
def bk_32_33 : List mO := [(.ireturn, 0, 0, .int 0)]
set_option maxRecDepth 100000 in
theorem cb_32_33 : mChk 32 33 bk_32_33 34 = true := by decide +kernel
-- method 33: KeySealer$Curve.step([J[J[J[J)V, locals 6, room (2, 117)
def bk_33_0 : List mO := [(.aload_n 0, 0, 0, .null), (.getfield 27, 2, 5, .null), (.aload_n 1, 1, 0, .null), (.aload_n 2, 2, 0, .null), (.invokestatic 98, 37, 3, .null), (.aload_n 0, 0, 0, .null), (.getfield 30, 2, 6, .null), (.aload_n 1, 1, 0, .null), (.aload_n 2, 2, 0, .null), (.invokestatic 101, 38, 3, .null), (.aload_n 0, 0, 0, .null), (.getfield 33, 2, 7, .null), (.aload_n 3, 3, 0, .null), (.aload 4, 4, 0, .null), (.invokestatic 98, 37, 3, .null), (.aload_n 0, 0, 0, .null), (.getfield 36, 2, 8, .null), (.aload_n 3, 3, 0, .null), (.aload 4, 4, 0, .null), (.invokestatic 101, 38, 3, .null), (.aload_n 0, 0, 0, .null), (.getfield 36, 2, 8, .null), (.aload_n 0, 0, 0, .null), (.getfield 36, 2, 8, .null), (.aload_n 0, 0, 0, .null), (.getfield 27, 2, 5, .null), (.invokestatic 87, 39, 3, .null), (.aload_n 0, 0, 0, .null), (.getfield 33, 2, 7, .null), (.aload_n 0, 0, 0, .null), (.getfield 33, 2, 7, .null), (.aload_n 0, 0, 0, .null), (.getfield 30, 2, 6, .null), (.invokestatic 87, 39, 3, .null), (.aload_n 0, 0, 0, .null), (.getfield 27, 2, 5, .null), (.aload_n 0, 0, 0, .null), (.getfield 27, 2, 5, .null), (.aload_n 0, 0, 0, .null), (.getfield 27, 2, 5, .null), (.invokestatic 87, 39, 3, .null), (.aload_n 0, 0, 0, .null), (.getfield 30, 2, 6, .null), (.aload_n 0, 0, 0, .null), (.getfield 30, 2, 6, .null), (.aload_n 0, 0, 0, .null), (.getfield 30, 2, 6, .null), (.invokestatic 87, 39, 3, .null), (.aload_n 0, 0, 0, .null), (.getfield 39, 2, 9, .null), (.aload_n 0, 0, 0, .null), (.getfield 27, 2, 5, .null), (.aload_n 0, 0, 0, .null), (.getfield 30, 2, 6, .null), (.invokestatic 101, 38, 3, .null), (.aload_n 3, 3, 0, .null), (.aload_n 0, 0, 0, .null), (.getfield 36, 2, 8, .null), (.aload_n 0, 0, 0, .null), (.getfield 33, 2, 7, .null), (.invokestatic 98, 37, 3, .null), (.aload_n 3, 3, 0, .null), (.aload_n 3, 3, 0, .null), (.aload_n 3, 3, 0, .null), (.invokestatic 87, 39, 3, .null), (.aload 4, 4, 0, .null), (.aload_n 0, 0, 0, .null), (.getfield 36, 2, 8, .null), (.aload_n 0, 0, 0, .null), (.getfield 33, 2, 7, .null), (.invokestatic 101, 38, 3, .null), (.aload 4, 4, 0, .null), (.aload 4, 4, 0, .null), (.aload 4, 4, 0, .null), (.invokestatic 87, 39, 3, .null), (.aload 4, 4, 0, .null), (.aload 4, 4, 0, .null), (.aload_n 0, 0, 0, .null), (.getfield 11, 2, 0, .null), (.invokestatic 87, 39, 3, .null), (.aload_n 1, 1, 0, .null), (.aload_n 0, 0, 0, .null), (.getfield 27, 2, 5, .null), (.aload_n 0, 0, 0, .null), (.getfield 30, 2, 6, .null), (.invokestatic 87, 39, 3, .null), (.iconst 0, 0, 0, .int 0), (.istore 5, 5, 0, .null)]
set_option maxRecDepth 100000 in
theorem cb_33_0 : mChk 33 0 bk_33_0 179 = true := by decide +kernel
def bk_33_179 : List mO := [(.iload 5, 5, 0, .null), (.bipush 10, 0, 0, .int 10), (.if_icmp .ge 24, 207, 0, .null)]
set_option maxRecDepth 100000 in
theorem cb_33_179 : mChk 33 179 bk_33_179 186 = true := by decide +kernel
def bk_33_186 : List mO := [(.aload_n 2, 2, 0, .null), (.iload 5, 5, 0, .null), (.ldc2_w 104, 0, 0, .long 121665), (.aload_n 0, 0, 0, .null), (.getfield 39, 2, 9, .null), (.iload 5, 5, 0, .null), (.laload, 0, 0, .null), (.lmul, 0, 0, .null), (.lastore, 0, 0, .null), (.iinc 5 1, 5, 0, .int 1), (.goto (-25), 179, 0, .null)]
set_option maxRecDepth 100000 in
theorem cb_33_186 : mChk 33 186 bk_33_186 207 = true := by decide +kernel
def bk_33_207 : List mO := [(.aload_n 2, 2, 0, .null), (.invokestatic 106, 40, 1, .null), (.aload_n 2, 2, 0, .null), (.aload_n 2, 2, 0, .null), (.aload_n 0, 0, 0, .null), (.getfield 27, 2, 5, .null), (.invokestatic 98, 37, 3, .null), (.aload_n 2, 2, 0, .null), (.aload_n 2, 2, 0, .null), (.aload_n 0, 0, 0, .null), (.getfield 39, 2, 9, .null), (.invokestatic 87, 39, 3, .null), (.return_, 0, 0, .null)]
set_option maxRecDepth 100000 in
theorem cb_33_207 : mChk 33 207 bk_33_207 230 = true := by decide +kernel
-- method 34: KeySealer$Curve.invert([J)V, locals 2, room (3, 142)
def bk_34_0 : List mO := [(.aload_n 0, 0, 0, .null), (.aload_n 0, 0, 0, .null), (.getfield 30, 2, 6, .null), (.aload_n 1, 1, 0, .null), (.iconst 3, 0, 0, .int 3), (.aload_n 1, 1, 0, .null), (.invokevirtual 109, 35, 4, .ref 2), (.aload_n 0, 0, 0, .null), (.aload_n 0, 0, 0, .null), (.getfield 27, 2, 5, .null), (.aload_n 1, 1, 0, .null), (.iconst 1, 0, 0, .int 1), (.aload_n 0, 0, 0, .null), (.getfield 30, 2, 6, .null), (.invokevirtual 109, 35, 4, .ref 2), (.aload_n 0, 0, 0, .null), (.aload_n 0, 0, 0, .null), (.getfield 30, 2, 6, .null), (.aload_n 0, 0, 0, .null), (.getfield 27, 2, 5, .null), (.iconst 1, 0, 0, .int 1), (.aload_n 0, 0, 0, .null), (.getfield 30, 2, 6, .null), (.invokevirtual 109, 35, 4, .ref 2), (.aload_n 0, 0, 0, .null), (.aload_n 0, 0, 0, .null), (.getfield 33, 2, 7, .null), (.aload_n 0, 0, 0, .null), (.getfield 30, 2, 6, .null), (.iconst 5, 0, 0, .int 5), (.aload_n 0, 0, 0, .null), (.getfield 30, 2, 6, .null), (.invokevirtual 109, 35, 4, .ref 2), (.aload_n 0, 0, 0, .null), (.aload_n 0, 0, 0, .null), (.getfield 36, 2, 8, .null), (.aload_n 0, 0, 0, .null), (.getfield 33, 2, 7, .null), (.bipush 10, 0, 0, .int 10), (.aload_n 0, 0, 0, .null), (.getfield 33, 2, 7, .null), (.invokevirtual 109, 35, 4, .ref 2), (.aload_n 0, 0, 0, .null), (.aload_n 0, 0, 0, .null), (.getfield 36, 2, 8, .null), (.aload_n 0, 0, 0, .null), (.getfield 36, 2, 8, .null), (.bipush 20, 0, 0, .int 20), (.aload_n 0, 0, 0, .null), (.getfield 36, 2, 8, .null), (.invokevirtual 109, 35, 4, .ref 2), (.aload_n 0, 0, 0, .null), (.aload_n 0, 0, 0, .null), (.getfield 33, 2, 7, .null), (.aload_n 0, 0, 0, .null), (.getfield 36, 2, 8, .null), (.bipush 10, 0, 0, .int 10), (.aload_n 0, 0, 0, .null), (.getfield 33, 2, 7, .null), (.invokevirtual 109, 35, 4, .ref 2), (.aload_n 0, 0, 0, .null), (.aload_n 0, 0, 0, .null), (.getfield 36, 2, 8, .null), (.aload_n 0, 0, 0, .null), (.getfield 33, 2, 7, .null), (.bipush 50, 0, 0, .int 50), (.aload_n 0, 0, 0, .null), (.getfield 33, 2, 7, .null), (.invokevirtual 109, 35, 4, .ref 2), (.aload_n 0, 0, 0, .null), (.aload_n 0, 0, 0, .null), (.getfield 36, 2, 8, .null), (.aload_n 0, 0, 0, .null), (.getfield 36, 2, 8, .null), (.bipush 100, 0, 0, .int 100), (.aload_n 0, 0, 0, .null), (.getfield 36, 2, 8, .null), (.invokevirtual 109, 35, 4, .ref 2), (.aload_n 0, 0, 0, .null), (.aload_n 0, 0, 0, .null), (.getfield 33, 2, 7, .null), (.aload_n 0, 0, 0, .null), (.getfield 36, 2, 8, .null), (.bipush 50, 0, 0, .int 50), (.aload_n 0, 0, 0, .null), (.getfield 33, 2, 7, .null), (.invokevirtual 109, 35, 4, .ref 2), (.aload_n 0, 0, 0, .null), (.aload_n 1, 1, 0, .null), (.aload_n 0, 0, 0, .null), (.getfield 33, 2, 7, .null), (.iconst 5, 0, 0, .int 5), (.aload_n 0, 0, 0, .null), (.getfield 27, 2, 5, .null), (.invokevirtual 109, 35, 4, .ref 2), (.return_, 0, 0, .null)]
set_option maxRecDepth 100000 in
theorem cb_34_0 : mChk 34 0 bk_34_0 182 = true := by decide +kernel
-- method 35: KeySealer$Curve.raise([J[JI[J)V, locals 6, room (2, 117)
def bk_35_0 : List mO := [(.aload_n 2, 2, 0, .null), (.iconst 0, 0, 0, .int 0), (.aload_n 0, 0, 0, .null), (.getfield 39, 2, 9, .null), (.iconst 0, 0, 0, .int 0), (.bipush 10, 0, 0, .int 10), (.invokestatic 69, 9001, 5, .null), (.iconst 0, 0, 0, .int 0), (.istore 5, 5, 0, .null)]
set_option maxRecDepth 100000 in
theorem cb_35_0 : mChk 35 0 bk_35_0 15 = true := by decide +kernel
def bk_35_15 : List mO := [(.iload 5, 5, 0, .null), (.iload_n 3, 3, 0, .null), (.if_icmp .ge 24, 42, 0, .null)]
set_option maxRecDepth 100000 in
theorem cb_35_15 : mChk 35 15 bk_35_15 21 = true := by decide +kernel
def bk_35_21 : List mO := [(.aload_n 0, 0, 0, .null), (.getfield 39, 2, 9, .null), (.aload_n 0, 0, 0, .null), (.getfield 39, 2, 9, .null), (.aload_n 0, 0, 0, .null), (.getfield 39, 2, 9, .null), (.invokestatic 87, 39, 3, .null), (.iinc 5 1, 5, 0, .int 1), (.goto (-24), 15, 0, .null)]
set_option maxRecDepth 100000 in
theorem cb_35_21 : mChk 35 21 bk_35_21 42 = true := by decide +kernel
def bk_35_42 : List mO := [(.aload_n 1, 1, 0, .null), (.aload_n 0, 0, 0, .null), (.getfield 39, 2, 9, .null), (.aload 4, 4, 0, .null), (.invokestatic 87, 39, 3, .null), (.return_, 0, 0, .null)]
set_option maxRecDepth 100000 in
theorem cb_35_42 : mChk 35 42 bk_35_42 53 = true := by decide +kernel
-- method 36: KeySealer$Curve.setSmall([JI)V, locals 3, room (0, 0)
def bk_36_0 : List mO := [(.iconst 0, 0, 0, .int 0), (.istore_n 2, 2, 0, .null)]
set_option maxRecDepth 100000 in
theorem cb_36_0 : mChk 36 0 bk_36_0 2 = true := by decide +kernel
def bk_36_2 : List mO := [(.iload_n 2, 2, 0, .null), (.bipush 10, 0, 0, .int 10), (.if_icmp .ge 13, 18, 0, .null)]
set_option maxRecDepth 100000 in
theorem cb_36_2 : mChk 36 2 bk_36_2 8 = true := by decide +kernel
def bk_36_8 : List mO := [(.aload_n 0, 0, 0, .null), (.iload_n 2, 2, 0, .null), (.lconst 0, 0, 0, .long 0), (.lastore, 0, 0, .null), (.iinc 2 1, 2, 0, .int 1), (.goto (-13), 2, 0, .null)]
set_option maxRecDepth 100000 in
theorem cb_36_8 : mChk 36 8 bk_36_8 18 = true := by decide +kernel
def bk_36_18 : List mO := [(.aload_n 0, 0, 0, .null), (.iconst 0, 0, 0, .int 0), (.iload_n 1, 1, 0, .null), (.i2l, 0, 0, .null), (.lastore, 0, 0, .null), (.return_, 0, 0, .null)]
set_option maxRecDepth 100000 in
theorem cb_36_18 : mChk 36 18 bk_36_18 24 = true := by decide +kernel
-- method 37: KeySealer$Curve.plus([J[J[J)V, locals 4, room (0, 0)
def bk_37_0 : List mO := [(.iconst 0, 0, 0, .int 0), (.istore_n 3, 3, 0, .null)]
set_option maxRecDepth 100000 in
theorem cb_37_0 : mChk 37 0 bk_37_0 2 = true := by decide +kernel
def bk_37_2 : List mO := [(.iload_n 3, 3, 0, .null), (.bipush 10, 0, 0, .int 10), (.if_icmp .ge 19, 24, 0, .null)]
set_option maxRecDepth 100000 in
theorem cb_37_2 : mChk 37 2 bk_37_2 8 = true := by decide +kernel
def bk_37_8 : List mO := [(.aload_n 0, 0, 0, .null), (.iload_n 3, 3, 0, .null), (.aload_n 1, 1, 0, .null), (.iload_n 3, 3, 0, .null), (.laload, 0, 0, .null), (.aload_n 2, 2, 0, .null), (.iload_n 3, 3, 0, .null), (.laload, 0, 0, .null), (.ladd, 0, 0, .null), (.lastore, 0, 0, .null), (.iinc 3 1, 3, 0, .int 1), (.goto (-19), 2, 0, .null)]
set_option maxRecDepth 100000 in
theorem cb_37_8 : mChk 37 8 bk_37_8 24 = true := by decide +kernel
def bk_37_24 : List mO := [(.return_, 0, 0, .null)]
set_option maxRecDepth 100000 in
theorem cb_37_24 : mChk 37 24 bk_37_24 25 = true := by decide +kernel
-- method 38: KeySealer$Curve.minus([J[J[J)V, locals 4, room (0, 0)
def bk_38_0 : List mO := [(.iconst 0, 0, 0, .int 0), (.istore_n 3, 3, 0, .null)]
set_option maxRecDepth 100000 in
theorem cb_38_0 : mChk 38 0 bk_38_0 2 = true := by decide +kernel
def bk_38_2 : List mO := [(.iload_n 3, 3, 0, .null), (.bipush 10, 0, 0, .int 10), (.if_icmp .ge 19, 24, 0, .null)]
set_option maxRecDepth 100000 in
theorem cb_38_2 : mChk 38 2 bk_38_2 8 = true := by decide +kernel
def bk_38_8 : List mO := [(.aload_n 0, 0, 0, .null), (.iload_n 3, 3, 0, .null), (.aload_n 1, 1, 0, .null), (.iload_n 3, 3, 0, .null), (.laload, 0, 0, .null), (.aload_n 2, 2, 0, .null), (.iload_n 3, 3, 0, .null), (.laload, 0, 0, .null), (.lsub, 0, 0, .null), (.lastore, 0, 0, .null), (.iinc 3 1, 3, 0, .int 1), (.goto (-19), 2, 0, .null)]
set_option maxRecDepth 100000 in
theorem cb_38_8 : mChk 38 8 bk_38_8 24 = true := by decide +kernel
def bk_38_24 : List mO := [(.return_, 0, 0, .null)]
set_option maxRecDepth 100000 in
theorem cb_38_24 : mChk 38 24 bk_38_24 25 = true := by decide +kernel
-- method 39: KeySealer$Curve.times([J[J[J)V, locals 71, room (1, 27)
def bk_39_0 : List mO := [(.aload_n 1, 1, 0, .null), (.iconst 0, 0, 0, .int 0), (.laload, 0, 0, .null), (.lstore_n 3, 3, 0, .null), (.aload_n 1, 1, 0, .null), (.iconst 1, 0, 0, .int 1), (.laload, 0, 0, .null), (.lstore 5, 5, 0, .null), (.aload_n 1, 1, 0, .null), (.iconst 2, 0, 0, .int 2), (.laload, 0, 0, .null), (.lstore 7, 7, 0, .null), (.aload_n 1, 1, 0, .null), (.iconst 3, 0, 0, .int 3), (.laload, 0, 0, .null), (.lstore 9, 9, 0, .null), (.aload_n 1, 1, 0, .null), (.iconst 4, 0, 0, .int 4), (.laload, 0, 0, .null), (.lstore 11, 11, 0, .null), (.aload_n 1, 1, 0, .null), (.iconst 5, 0, 0, .int 5), (.laload, 0, 0, .null), (.lstore 13, 13, 0, .null), (.aload_n 1, 1, 0, .null), (.bipush 6, 0, 0, .int 6), (.laload, 0, 0, .null), (.lstore 15, 15, 0, .null), (.aload_n 1, 1, 0, .null), (.bipush 7, 0, 0, .int 7), (.laload, 0, 0, .null), (.lstore 17, 17, 0, .null), (.aload_n 1, 1, 0, .null), (.bipush 8, 0, 0, .int 8), (.laload, 0, 0, .null), (.lstore 19, 19, 0, .null), (.aload_n 1, 1, 0, .null), (.bipush 9, 0, 0, .int 9), (.laload, 0, 0, .null), (.lstore 21, 21, 0, .null), (.aload_n 2, 2, 0, .null), (.iconst 0, 0, 0, .int 0), (.laload, 0, 0, .null), (.lstore 23, 23, 0, .null), (.aload_n 2, 2, 0, .null), (.iconst 1, 0, 0, .int 1), (.laload, 0, 0, .null), (.lstore 25, 25, 0, .null), (.aload_n 2, 2, 0, .null), (.iconst 2, 0, 0, .int 2), (.laload, 0, 0, .null), (.lstore 27, 27, 0, .null), (.aload_n 2, 2, 0, .null), (.iconst 3, 0, 0, .int 3), (.laload, 0, 0, .null), (.lstore 29, 29, 0, .null), (.aload_n 2, 2, 0, .null), (.iconst 4, 0, 0, .int 4), (.laload, 0, 0, .null), (.lstore 31, 31, 0, .null), (.aload_n 2, 2, 0, .null), (.iconst 5, 0, 0, .int 5), (.laload, 0, 0, .null), (.lstore 33, 33, 0, .null), (.aload_n 2, 2, 0, .null), (.bipush 6, 0, 0, .int 6), (.laload, 0, 0, .null), (.lstore 35, 35, 0, .null), (.aload_n 2, 2, 0, .null), (.bipush 7, 0, 0, .int 7), (.laload, 0, 0, .null), (.lstore 37, 37, 0, .null), (.aload_n 2, 2, 0, .null), (.bipush 8, 0, 0, .int 8), (.laload, 0, 0, .null), (.lstore 39, 39, 0, .null), (.aload_n 2, 2, 0, .null), (.bipush 9, 0, 0, .int 9), (.laload, 0, 0, .null), (.lstore 41, 41, 0, .null), (.ldc2_w 113, 0, 0, .long 19), (.lload 25, 25, 0, .null), (.lmul, 0, 0, .null), (.lstore 43, 43, 0, .null), (.ldc2_w 113, 0, 0, .long 19), (.lload 27, 27, 0, .null), (.lmul, 0, 0, .null), (.lstore 45, 45, 0, .null), (.ldc2_w 113, 0, 0, .long 19), (.lload 29, 29, 0, .null), (.lmul, 0, 0, .null), (.lstore 47, 47, 0, .null), (.ldc2_w 113, 0, 0, .long 19), (.lload 31, 31, 0, .null), (.lmul, 0, 0, .null), (.lstore 49, 49, 0, .null), (.ldc2_w 113, 0, 0, .long 19), (.lload 33, 33, 0, .null), (.lmul, 0, 0, .null), (.lstore 51, 51, 0, .null), (.ldc2_w 113, 0, 0, .long 19), (.lload 35, 35, 0, .null), (.lmul, 0, 0, .null), (.lstore 53, 53, 0, .null), (.ldc2_w 113, 0, 0, .long 19), (.lload 37, 37, 0, .null), (.lmul, 0, 0, .null), (.lstore 55, 55, 0, .null), (.ldc2_w 113, 0, 0, .long 19), (.lload 39, 39, 0, .null), (.lmul, 0, 0, .null), (.lstore 57, 57, 0, .null), (.ldc2_w 113, 0, 0, .long 19), (.lload 41, 41, 0, .null), (.lmul, 0, 0, .null), (.lstore 59, 59, 0, .null), (.ldc2_w 115, 0, 0, .long 2), (.lload 5, 5, 0, .null), (.lmul, 0, 0, .null), (.lstore 61, 61, 0, .null), (.ldc2_w 115, 0, 0, .long 2), (.lload 9, 9, 0, .null), (.lmul, 0, 0, .null), (.lstore 63, 63, 0, .null), (.ldc2_w 115, 0, 0, .long 2), (.lload 13, 13, 0, .null), (.lmul, 0, 0, .null), (.lstore 65, 65, 0, .null), (.ldc2_w 115, 0, 0, .long 2), (.lload 17, 17, 0, .null), (.lmul, 0, 0, .null), (.lstore 67, 67, 0, .null), (.ldc2_w 115, 0, 0, .long 2), (.lload 21, 21, 0, .null), (.lmul, 0, 0, .null), (.lstore 69, 69, 0, .null), (.aload_n 0, 0, 0, .null), (.iconst 0, 0, 0, .int 0), (.lload_n 3, 3, 0, .null), (.lload 23, 23, 0, .null), (.lmul, 0, 0, .null), (.lload 61, 61, 0, .null), (.lload 59, 59, 0, .null), (.lmul, 0, 0, .null), (.ladd, 0, 0, .null), (.lload 7, 7, 0, .null), (.lload 57, 57, 0, .null), (.lmul, 0, 0, .null), (.ladd, 0, 0, .null), (.lload 63, 63, 0, .null), (.lload 55, 55, 0, .null), (.lmul, 0, 0, .null), (.ladd, 0, 0, .null), (.lload 11, 11, 0, .null), (.lload 53, 53, 0, .null), (.lmul, 0, 0, .null), (.ladd, 0, 0, .null), (.lload 65, 65, 0, .null), (.lload 51, 51, 0, .null), (.lmul, 0, 0, .null), (.ladd, 0, 0, .null), (.lload 15, 15, 0, .null), (.lload 49, 49, 0, .null), (.lmul, 0, 0, .null), (.ladd, 0, 0, .null), (.lload 67, 67, 0, .null), (.lload 47, 47, 0, .null), (.lmul, 0, 0, .null), (.ladd, 0, 0, .null), (.lload 19, 19, 0, .null), (.lload 45, 45, 0, .null), (.lmul, 0, 0, .null), (.ladd, 0, 0, .null), (.lload 69, 69, 0, .null), (.lload 43, 43, 0, .null), (.lmul, 0, 0, .null), (.ladd, 0, 0, .null), (.lastore, 0, 0, .null), (.aload_n 0, 0, 0, .null), (.iconst 1, 0, 0, .int 1), (.lload_n 3, 3, 0, .null), (.lload 25, 25, 0, .null), (.lmul, 0, 0, .null), (.lload 5, 5, 0, .null), (.lload 23, 23, 0, .null), (.lmul, 0, 0, .null), (.ladd, 0, 0, .null), (.lload 7, 7, 0, .null), (.lload 59, 59, 0, .null), (.lmul, 0, 0, .null), (.ladd, 0, 0, .null), (.lload 9, 9, 0, .null), (.lload 57, 57, 0, .null), (.lmul, 0, 0, .null), (.ladd, 0, 0, .null), (.lload 11, 11, 0, .null), (.lload 55, 55, 0, .null), (.lmul, 0, 0, .null), (.ladd, 0, 0, .null), (.lload 13, 13, 0, .null), (.lload 53, 53, 0, .null), (.lmul, 0, 0, .null), (.ladd, 0, 0, .null), (.lload 15, 15, 0, .null), (.lload 51, 51, 0, .null), (.lmul, 0, 0, .null), (.ladd, 0, 0, .null), (.lload 17, 17, 0, .null), (.lload 49, 49, 0, .null), (.lmul, 0, 0, .null), (.ladd, 0, 0, .null), (.lload 19, 19, 0, .null), (.lload 47, 47, 0, .null), (.lmul, 0, 0, .null), (.ladd, 0, 0, .null), (.lload 21, 21, 0, .null), (.lload 45, 45, 0, .null), (.lmul, 0, 0, .null), (.ladd, 0, 0, .null), (.lastore, 0, 0, .null), (.aload_n 0, 0, 0, .null), (.iconst 2, 0, 0, .int 2), (.lload_n 3, 3, 0, .null), (.lload 27, 27, 0, .null), (.lmul, 0, 0, .null), (.lload 61, 61, 0, .null), (.lload 25, 25, 0, .null), (.lmul, 0, 0, .null), (.ladd, 0, 0, .null), (.lload 7, 7, 0, .null), (.lload 23, 23, 0, .null), (.lmul, 0, 0, .null), (.ladd, 0, 0, .null), (.lload 63, 63, 0, .null), (.lload 59, 59, 0, .null), (.lmul, 0, 0, .null), (.ladd, 0, 0, .null), (.lload 11, 11, 0, .null), (.lload 57, 57, 0, .null), (.lmul, 0, 0, .null), (.ladd, 0, 0, .null), (.lload 65, 65, 0, .null), (.lload 55, 55, 0, .null), (.lmul, 0, 0, .null), (.ladd, 0, 0, .null), (.lload 15, 15, 0, .null), (.lload 53, 53, 0, .null), (.lmul, 0, 0, .null), (.ladd, 0, 0, .null), (.lload 67, 67, 0, .null), (.lload 51, 51, 0, .null), (.lmul, 0, 0, .null), (.ladd, 0, 0, .null), (.lload 19, 19, 0, .null), (.lload 49, 49, 0, .null), (.lmul, 0, 0, .null), (.ladd, 0, 0, .null), (.lload 69, 69, 0, .null), (.lload 47, 47, 0, .null), (.lmul, 0, 0, .null), (.ladd, 0, 0, .null), (.lastore, 0, 0, .null), (.aload_n 0, 0, 0, .null), (.iconst 3, 0, 0, .int 3), (.lload_n 3, 3, 0, .null), (.lload 29, 29, 0, .null), (.lmul, 0, 0, .null), (.lload 5, 5, 0, .null), (.lload 27, 27, 0, .null), (.lmul, 0, 0, .null), (.ladd, 0, 0, .null), (.lload 7, 7, 0, .null), (.lload 25, 25, 0, .null), (.lmul, 0, 0, .null), (.ladd, 0, 0, .null), (.lload 9, 9, 0, .null), (.lload 23, 23, 0, .null), (.lmul, 0, 0, .null), (.ladd, 0, 0, .null), (.lload 11, 11, 0, .null), (.lload 59, 59, 0, .null), (.lmul, 0, 0, .null), (.ladd, 0, 0, .null), (.lload 13, 13, 0, .null), (.lload 57, 57, 0, .null), (.lmul, 0, 0, .null), (.ladd, 0, 0, .null), (.lload 15, 15, 0, .null), (.lload 55, 55, 0, .null), (.lmul, 0, 0, .null), (.ladd, 0, 0, .null), (.lload 17, 17, 0, .null), (.lload 53, 53, 0, .null), (.lmul, 0, 0, .null), (.ladd, 0, 0, .null), (.lload 19, 19, 0, .null), (.lload 51, 51, 0, .null), (.lmul, 0, 0, .null), (.ladd, 0, 0, .null), (.lload 21, 21, 0, .null), (.lload 49, 49, 0, .null), (.lmul, 0, 0, .null), (.ladd, 0, 0, .null), (.lastore, 0, 0, .null), (.aload_n 0, 0, 0, .null), (.iconst 4, 0, 0, .int 4), (.lload_n 3, 3, 0, .null), (.lload 31, 31, 0, .null), (.lmul, 0, 0, .null), (.lload 61, 61, 0, .null), (.lload 29, 29, 0, .null), (.lmul, 0, 0, .null), (.ladd, 0, 0, .null), (.lload 7, 7, 0, .null), (.lload 27, 27, 0, .null), (.lmul, 0, 0, .null), (.ladd, 0, 0, .null), (.lload 63, 63, 0, .null), (.lload 25, 25, 0, .null), (.lmul, 0, 0, .null), (.ladd, 0, 0, .null), (.lload 11, 11, 0, .null), (.lload 23, 23, 0, .null), (.lmul, 0, 0, .null), (.ladd, 0, 0, .null), (.lload 65, 65, 0, .null), (.lload 59, 59, 0, .null), (.lmul, 0, 0, .null), (.ladd, 0, 0, .null), (.lload 15, 15, 0, .null), (.lload 57, 57, 0, .null), (.lmul, 0, 0, .null), (.ladd, 0, 0, .null), (.lload 67, 67, 0, .null), (.lload 55, 55, 0, .null), (.lmul, 0, 0, .null), (.ladd, 0, 0, .null), (.lload 19, 19, 0, .null), (.lload 53, 53, 0, .null), (.lmul, 0, 0, .null), (.ladd, 0, 0, .null), (.lload 69, 69, 0, .null), (.lload 51, 51, 0, .null), (.lmul, 0, 0, .null), (.ladd, 0, 0, .null), (.lastore, 0, 0, .null), (.aload_n 0, 0, 0, .null), (.iconst 5, 0, 0, .int 5), (.lload_n 3, 3, 0, .null), (.lload 33, 33, 0, .null), (.lmul, 0, 0, .null), (.lload 5, 5, 0, .null), (.lload 31, 31, 0, .null), (.lmul, 0, 0, .null), (.ladd, 0, 0, .null), (.lload 7, 7, 0, .null), (.lload 29, 29, 0, .null), (.lmul, 0, 0, .null), (.ladd, 0, 0, .null), (.lload 9, 9, 0, .null), (.lload 27, 27, 0, .null), (.lmul, 0, 0, .null), (.ladd, 0, 0, .null), (.lload 11, 11, 0, .null), (.lload 25, 25, 0, .null), (.lmul, 0, 0, .null), (.ladd, 0, 0, .null), (.lload 13, 13, 0, .null), (.lload 23, 23, 0, .null), (.lmul, 0, 0, .null), (.ladd, 0, 0, .null), (.lload 15, 15, 0, .null), (.lload 59, 59, 0, .null), (.lmul, 0, 0, .null), (.ladd, 0, 0, .null), (.lload 17, 17, 0, .null), (.lload 57, 57, 0, .null), (.lmul, 0, 0, .null), (.ladd, 0, 0, .null), (.lload 19, 19, 0, .null), (.lload 55, 55, 0, .null), (.lmul, 0, 0, .null), (.ladd, 0, 0, .null), (.lload 21, 21, 0, .null), (.lload 53, 53, 0, .null), (.lmul, 0, 0, .null), (.ladd, 0, 0, .null), (.lastore, 0, 0, .null), (.aload_n 0, 0, 0, .null), (.bipush 6, 0, 0, .int 6), (.lload_n 3, 3, 0, .null), (.lload 35, 35, 0, .null), (.lmul, 0, 0, .null), (.lload 61, 61, 0, .null), (.lload 33, 33, 0, .null), (.lmul, 0, 0, .null), (.ladd, 0, 0, .null), (.lload 7, 7, 0, .null), (.lload 31, 31, 0, .null), (.lmul, 0, 0, .null), (.ladd, 0, 0, .null), (.lload 63, 63, 0, .null), (.lload 29, 29, 0, .null), (.lmul, 0, 0, .null), (.ladd, 0, 0, .null), (.lload 11, 11, 0, .null), (.lload 27, 27, 0, .null), (.lmul, 0, 0, .null), (.ladd, 0, 0, .null), (.lload 65, 65, 0, .null), (.lload 25, 25, 0, .null), (.lmul, 0, 0, .null), (.ladd, 0, 0, .null), (.lload 15, 15, 0, .null), (.lload 23, 23, 0, .null), (.lmul, 0, 0, .null), (.ladd, 0, 0, .null), (.lload 67, 67, 0, .null), (.lload 59, 59, 0, .null), (.lmul, 0, 0, .null), (.ladd, 0, 0, .null), (.lload 19, 19, 0, .null), (.lload 57, 57, 0, .null), (.lmul, 0, 0, .null), (.ladd, 0, 0, .null), (.lload 69, 69, 0, .null), (.lload 55, 55, 0, .null), (.lmul, 0, 0, .null), (.ladd, 0, 0, .null), (.lastore, 0, 0, .null), (.aload_n 0, 0, 0, .null), (.bipush 7, 0, 0, .int 7), (.lload_n 3, 3, 0, .null), (.lload 37, 37, 0, .null), (.lmul, 0, 0, .null), (.lload 5, 5, 0, .null), (.lload 35, 35, 0, .null), (.lmul, 0, 0, .null), (.ladd, 0, 0, .null), (.lload 7, 7, 0, .null), (.lload 33, 33, 0, .null), (.lmul, 0, 0, .null), (.ladd, 0, 0, .null), (.lload 9, 9, 0, .null), (.lload 31, 31, 0, .null), (.lmul, 0, 0, .null), (.ladd, 0, 0, .null), (.lload 11, 11, 0, .null), (.lload 29, 29, 0, .null), (.lmul, 0, 0, .null), (.ladd, 0, 0, .null), (.lload 13, 13, 0, .null), (.lload 27, 27, 0, .null), (.lmul, 0, 0, .null), (.ladd, 0, 0, .null), (.lload 15, 15, 0, .null), (.lload 25, 25, 0, .null), (.lmul, 0, 0, .null), (.ladd, 0, 0, .null), (.lload 17, 17, 0, .null), (.lload 23, 23, 0, .null), (.lmul, 0, 0, .null), (.ladd, 0, 0, .null), (.lload 19, 19, 0, .null), (.lload 59, 59, 0, .null), (.lmul, 0, 0, .null), (.ladd, 0, 0, .null), (.lload 21, 21, 0, .null), (.lload 57, 57, 0, .null), (.lmul, 0, 0, .null), (.ladd, 0, 0, .null), (.lastore, 0, 0, .null), (.aload_n 0, 0, 0, .null), (.bipush 8, 0, 0, .int 8), (.lload_n 3, 3, 0, .null), (.lload 39, 39, 0, .null), (.lmul, 0, 0, .null), (.lload 61, 61, 0, .null), (.lload 37, 37, 0, .null), (.lmul, 0, 0, .null), (.ladd, 0, 0, .null), (.lload 7, 7, 0, .null), (.lload 35, 35, 0, .null), (.lmul, 0, 0, .null), (.ladd, 0, 0, .null), (.lload 63, 63, 0, .null), (.lload 33, 33, 0, .null), (.lmul, 0, 0, .null), (.ladd, 0, 0, .null), (.lload 11, 11, 0, .null), (.lload 31, 31, 0, .null), (.lmul, 0, 0, .null), (.ladd, 0, 0, .null), (.lload 65, 65, 0, .null), (.lload 29, 29, 0, .null), (.lmul, 0, 0, .null), (.ladd, 0, 0, .null), (.lload 15, 15, 0, .null), (.lload 27, 27, 0, .null), (.lmul, 0, 0, .null), (.ladd, 0, 0, .null), (.lload 67, 67, 0, .null), (.lload 25, 25, 0, .null), (.lmul, 0, 0, .null), (.ladd, 0, 0, .null), (.lload 19, 19, 0, .null), (.lload 23, 23, 0, .null), (.lmul, 0, 0, .null), (.ladd, 0, 0, .null), (.lload 69, 69, 0, .null), (.lload 59, 59, 0, .null), (.lmul, 0, 0, .null), (.ladd, 0, 0, .null), (.lastore, 0, 0, .null), (.aload_n 0, 0, 0, .null), (.bipush 9, 0, 0, .int 9), (.lload_n 3, 3, 0, .null), (.lload 41, 41, 0, .null), (.lmul, 0, 0, .null), (.lload 5, 5, 0, .null), (.lload 39, 39, 0, .null), (.lmul, 0, 0, .null), (.ladd, 0, 0, .null), (.lload 7, 7, 0, .null), (.lload 37, 37, 0, .null), (.lmul, 0, 0, .null), (.ladd, 0, 0, .null), (.lload 9, 9, 0, .null), (.lload 35, 35, 0, .null), (.lmul, 0, 0, .null), (.ladd, 0, 0, .null), (.lload 11, 11, 0, .null), (.lload 33, 33, 0, .null), (.lmul, 0, 0, .null), (.ladd, 0, 0, .null), (.lload 13, 13, 0, .null), (.lload 31, 31, 0, .null), (.lmul, 0, 0, .null), (.ladd, 0, 0, .null), (.lload 15, 15, 0, .null), (.lload 29, 29, 0, .null), (.lmul, 0, 0, .null), (.ladd, 0, 0, .null), (.lload 17, 17, 0, .null), (.lload 27, 27, 0, .null), (.lmul, 0, 0, .null), (.ladd, 0, 0, .null), (.lload 19, 19, 0, .null), (.lload 25, 25, 0, .null), (.lmul, 0, 0, .null), (.ladd, 0, 0, .null), (.lload 21, 21, 0, .null), (.lload 23, 23, 0, .null), (.lmul, 0, 0, .null), (.ladd, 0, 0, .null), (.lastore, 0, 0, .null), (.aload_n 0, 0, 0, .null), (.invokestatic 106, 40, 1, .null), (.return_, 0, 0, .null)]
set_option maxRecDepth 100000 in
theorem cb_39_0 : mChk 39 0 bk_39_0 838 = true := by decide +kernel
-- method 40: KeySealer$Curve.carry([J)V, locals 8, room (0, 0)
def bk_40_0 : List mO := [(.lconst 0, 0, 0, .long 0), (.lstore_n 1, 1, 0, .null), (.iconst 0, 0, 0, .int 0), (.istore_n 3, 3, 0, .null)]
set_option maxRecDepth 100000 in
theorem cb_40_0 : mChk 40 0 bk_40_0 4 = true := by decide +kernel
def bk_40_4 : List mO := [(.iload_n 3, 3, 0, .null), (.iconst 1, 0, 0, .int 1), (.iadd, 0, 0, .null), (.bipush 10, 0, 0, .int 10), (.if_icmp .ge 67, 76, 0, .null)]
set_option maxRecDepth 100000 in
theorem cb_40_4 : mChk 40 4 bk_40_4 12 = true := by decide +kernel
def bk_40_12 : List mO := [(.aload_n 0, 0, 0, .null), (.iload_n 3, 3, 0, .null), (.laload, 0, 0, .null), (.lload_n 1, 1, 0, .null), (.ladd, 0, 0, .null), (.lstore 4, 4, 0, .null), (.lload 4, 4, 0, .null), (.ldc2_w 117, 0, 0, .long 33554432), (.ladd, 0, 0, .null), (.bipush 26, 0, 0, .int 26), (.lshr, 0, 0, .null), (.lstore_n 1, 1, 0, .null), (.aload_n 0, 0, 0, .null), (.iload_n 3, 3, 0, .null), (.lload 4, 4, 0, .null), (.lload_n 1, 1, 0, .null), (.bipush 26, 0, 0, .int 26), (.lshl, 0, 0, .null), (.lsub, 0, 0, .null), (.lastore, 0, 0, .null), (.aload_n 0, 0, 0, .null), (.iload_n 3, 3, 0, .null), (.iconst 1, 0, 0, .int 1), (.iadd, 0, 0, .null), (.laload, 0, 0, .null), (.lload_n 1, 1, 0, .null), (.ladd, 0, 0, .null), (.lstore 6, 6, 0, .null), (.lload 6, 6, 0, .null), (.ldc2_w 119, 0, 0, .long 16777216), (.ladd, 0, 0, .null), (.bipush 25, 0, 0, .int 25), (.lshr, 0, 0, .null), (.lstore_n 1, 1, 0, .null), (.aload_n 0, 0, 0, .null), (.iload_n 3, 3, 0, .null), (.iconst 1, 0, 0, .int 1), (.iadd, 0, 0, .null), (.lload 6, 6, 0, .null), (.lload_n 1, 1, 0, .null), (.bipush 25, 0, 0, .int 25), (.lshl, 0, 0, .null), (.lsub, 0, 0, .null), (.lastore, 0, 0, .null), (.iinc 3 2, 3, 0, .int 2), (.goto (-69), 4, 0, .null)]
set_option maxRecDepth 100000 in
theorem cb_40_12 : mChk 40 12 bk_40_12 76 = true := by decide +kernel
def bk_40_76 : List mO := [(.aload_n 0, 0, 0, .null), (.iconst 0, 0, 0, .int 0), (.laload, 0, 0, .null), (.ldc2_w 113, 0, 0, .long 19), (.lload_n 1, 1, 0, .null), (.lmul, 0, 0, .null), (.ladd, 0, 0, .null), (.lstore_n 3, 3, 0, .null), (.lload_n 3, 3, 0, .null), (.ldc2_w 117, 0, 0, .long 33554432), (.ladd, 0, 0, .null), (.bipush 26, 0, 0, .int 26), (.lshr, 0, 0, .null), (.lstore_n 1, 1, 0, .null), (.aload_n 0, 0, 0, .null), (.iconst 0, 0, 0, .int 0), (.lload_n 3, 3, 0, .null), (.lload_n 1, 1, 0, .null), (.bipush 26, 0, 0, .int 26), (.lshl, 0, 0, .null), (.lsub, 0, 0, .null), (.lastore, 0, 0, .null), (.aload_n 0, 0, 0, .null), (.iconst 1, 0, 0, .int 1), (.dup2, 0, 0, .null), (.laload, 0, 0, .null), (.lload_n 1, 1, 0, .null), (.ladd, 0, 0, .null), (.lastore, 0, 0, .null), (.return_, 0, 0, .null)]
set_option maxRecDepth 100000 in
theorem cb_40_76 : mChk 40 76 bk_40_76 112 = true := by decide +kernel
-- method 41: KeySealer$Curve.readLimbs(LKeySealer$Row;)V, locals 8, room (1, 27)
def bk_41_0 : List mO := [(.lconst 0, 0, 0, .long 0), (.lstore_n 2, 2, 0, .null), (.iconst 0, 0, 0, .int 0), (.istore 4, 4, 0, .null), (.iconst 0, 0, 0, .int 0), (.istore 5, 5, 0, .null), (.iconst 0, 0, 0, .int 0), (.istore 6, 6, 0, .null)]
set_option maxRecDepth 100000 in
theorem cb_41_0 : mChk 41 0 bk_41_0 11 = true := by decide +kernel
def bk_41_11 : List mO := [(.iload 6, 6, 0, .null), (.bipush 10, 0, 0, .int 10), (.if_icmp .ge 74, 89, 0, .null)]
set_option maxRecDepth 100000 in
theorem cb_41_11 : mChk 41 11 bk_41_11 18 = true := by decide +kernel
def bk_41_18 : List mO := [(.bipush 26, 0, 0, .int 26), (.iload 6, 6, 0, .null), (.iconst 1, 0, 0, .int 1), (.iand, 0, 0, .null), (.isub, 0, 0, .null), (.istore 7, 7, 0, .null)]
set_option maxRecDepth 100000 in
theorem cb_41_18 : mChk 41 18 bk_41_18 27 = true := by decide +kernel
def bk_41_27 : List mO := [(.iload 4, 4, 0, .null), (.iload 7, 7, 0, .null), (.if_icmp .ge 25, 56, 0, .null)]
set_option maxRecDepth 100000 in
theorem cb_41_27 : mChk 41 27 bk_41_27 34 = true := by decide +kernel
def bk_41_34 : List mO := [(.lload_n 2, 2, 0, .null), (.aload_n 1, 1, 0, .null), (.iload 5, 5, 0, .null), (.invokevirtual 94, 66, 1, .ref 6), (.i2l, 0, 0, .null), (.iload 4, 4, 0, .null), (.lshl, 0, 0, .null), (.lor, 0, 0, .null), (.lstore_n 2, 2, 0, .null), (.iinc 5 1, 5, 0, .int 1), (.iinc 4 8, 4, 0, .int 8), (.goto (-26), 27, 0, .null)]
set_option maxRecDepth 100000 in
theorem cb_41_34 : mChk 41 34 bk_41_34 56 = true := by decide +kernel
def bk_41_56 : List mO := [(.aload_n 0, 0, 0, .null), (.getfield 11, 2, 0, .null), (.iload 6, 6, 0, .null), (.lload_n 2, 2, 0, .null), (.lconst 1, 0, 0, .long 1), (.iload 7, 7, 0, .null), (.lshl, 0, 0, .null), (.lconst 1, 0, 0, .long 1), (.lsub, 0, 0, .null), (.land, 0, 0, .null), (.lastore, 0, 0, .null), (.lload_n 2, 2, 0, .null), (.iload 7, 7, 0, .null), (.lushr, 0, 0, .null), (.lstore_n 2, 2, 0, .null), (.iload 4, 4, 0, .null), (.iload 7, 7, 0, .null), (.isub, 0, 0, .null), (.istore 4, 4, 0, .null), (.iinc 6 1, 6, 0, .int 1), (.goto (-75), 11, 0, .null)]
set_option maxRecDepth 100000 in
theorem cb_41_56 : mChk 41 56 bk_41_56 89 = true := by decide +kernel
def bk_41_89 : List mO := [(.aload_n 0, 0, 0, .null), (.getfield 11, 2, 0, .null), (.invokestatic 106, 40, 1, .null), (.return_, 0, 0, .null)]
set_option maxRecDepth 100000 in
theorem cb_41_89 : mChk 41 89 bk_41_89 97 = true := by decide +kernel

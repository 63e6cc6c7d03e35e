/-! PART 34.00: blocks of code and their checks, printed by program (wip/whole/mk13.py) -/
-- method 16: KeySealer$Cipher.<init>(I)V, locals 2, room (2, 42)
def bk_16_0 : List mO := [(.aload_n 0, 0, 0, .null), (.invokespecial 3, 9000, 0, .null), (.aload_n 0, 0, 0, .null), (.bipush 16, 0, 0, .int 16), (.newarray .int, 0, 0, .null), (.putfield 9, 50, 1, .ref 0), (.aload_n 0, 0, 0, .null), (.new 15, 6, 2, .null), (.dup, 0, 0, .null), (.bipush 16, 0, 0, .int 16), (.invokespecial 17, 62, 1, .int 0), (.putfield 20, 50, 2, .ref 0), (.aload_n 0, 0, 0, .null), (.iload_n 1, 1, 0, .null), (.iconst 1, 0, 0, .int 1), (.invokestatic 24, 9002, 2, .null), (.newarray .int, 0, 0, .null), (.putfield 30, 50, 0, .ref 0), (.return_, 0, 0, .null)]
set_option maxRecDepth 100000 in
theorem cb_16_0 : mChk 16 0 bk_16_0 37 = true := by decide +kernel
-- method 17: KeySealer$Cipher.protect(LKeySealer$Row;LKeySealer$Row;LKeySealer$Row;)V, locals 4, room (6, 137)
def bk_17_0 : List mO := [(.aload_n 3, 3, 0, .null), (.invokevirtual 33, 63, 0, .ref 6), (.aload_n 0, 0, 0, .null), (.aload_n 2, 2, 0, .null), (.aload_n 2, 2, 0, .null), (.getfield 36, 6, 1, .null), (.aload_n 3, 3, 0, .null), (.invokevirtual 40, 19, 3, .long 19), (.aload_n 0, 0, 0, .null), (.aload_n 1, 1, 0, .null), (.aload_n 3, 3, 0, .null), (.aload_n 2, 2, 0, .null), (.getfield 36, 6, 1, .null), (.invokevirtual 44, 20, 3, .long 20), (.aload_n 3, 3, 0, .null), (.aload_n 0, 0, 0, .null), (.getfield 20, 50, 2, .null), (.invokevirtual 48, 72, 1, .ref 6), (.return_, 0, 0, .null)]
set_option maxRecDepth 100000 in
theorem cb_17_0 : mChk 17 0 bk_17_0 33 = true := by decide +kernel
-- method 18: KeySealer$Cipher.reveal(LKeySealer$Row;LKeySealer$Row;LKeySealer$Row;)Z, locals 6, room (6, 137)
def bk_18_0 : List mO := [(.aload_n 2, 2, 0, .null), (.getfield 36, 6, 1, .null), (.bipush 16, 0, 0, .int 16), (.isub, 0, 0, .null), (.istore 4, 4, 0, .null), (.iload 4, 4, 0, .null), (.ifCond .ge 5, 16, 0, .null)]
set_option maxRecDepth 100000 in
theorem cb_18_0 : mChk 18 0 bk_18_0 14 = true := by decide +kernel
def bk_18_14 : List mO := [(.iconst 0, 0, 0, .int 0), (.ireturn, 0, 0, .int 1)]
set_option maxRecDepth 100000 in
theorem cb_18_14 : mChk 18 14 bk_18_14 16 = true := by decide +kernel
def bk_18_16 : List mO := [(.aload_n 0, 0, 0, .null), (.aload_n 1, 1, 0, .null), (.aload_n 2, 2, 0, .null), (.iload 4, 4, 0, .null), (.invokevirtual 44, 20, 3, .long 20), (.iconst 0, 0, 0, .int 0), (.istore 5, 5, 0, .null)]
set_option maxRecDepth 100000 in
theorem cb_18_16 : mChk 18 16 bk_18_16 27 = true := by decide +kernel
def bk_18_27 : List mO := [(.iload 5, 5, 0, .null), (.bipush 16, 0, 0, .int 16), (.if_icmp .ge 32, 63, 0, .null)]
set_option maxRecDepth 100000 in
theorem cb_18_27 : mChk 18 27 bk_18_27 34 = true := by decide +kernel
def bk_18_34 : List mO := [(.aload_n 0, 0, 0, .null), (.getfield 20, 50, 2, .null), (.iload 5, 5, 0, .null), (.invokevirtual 52, 66, 1, .ref 6), (.aload_n 2, 2, 0, .null), (.iload 4, 4, 0, .null), (.iload 5, 5, 0, .null), (.iadd, 0, 0, .null), (.invokevirtual 52, 66, 1, .ref 6), (.if_icmp .eq 5, 57, 0, .null)]
set_option maxRecDepth 100000 in
theorem cb_18_34 : mChk 18 34 bk_18_34 55 = true := by decide +kernel
def bk_18_55 : List mO := [(.iconst 0, 0, 0, .int 0), (.ireturn, 0, 0, .int 1)]
set_option maxRecDepth 100000 in
theorem cb_18_55 : mChk 18 55 bk_18_55 57 = true := by decide +kernel
def bk_18_57 : List mO := [(.iinc 5 1, 5, 0, .int 1), (.goto (-33), 27, 0, .null)]
set_option maxRecDepth 100000 in
theorem cb_18_57 : mChk 18 57 bk_18_57 63 = true := by decide +kernel
def bk_18_63 : List mO := [(.aload_n 3, 3, 0, .null), (.invokevirtual 33, 63, 0, .ref 6), (.aload_n 0, 0, 0, .null), (.aload_n 2, 2, 0, .null), (.iload 4, 4, 0, .null), (.aload_n 3, 3, 0, .null), (.invokevirtual 40, 19, 3, .long 19), (.iconst 1, 0, 0, .int 1), (.ireturn, 0, 0, .int 1)]
set_option maxRecDepth 100000 in
theorem cb_18_63 : mChk 18 63 bk_18_63 77 = true := by decide +kernel
-- method 19: KeySealer$Cipher.scramble(LKeySealer$Row;ILKeySealer$Row;)V, locals 7, room (5, 111)
def bk_19_0 : List mO := [(.iconst 0, 0, 0, .int 0), (.istore 4, 4, 0, .null), (.aload_n 0, 0, 0, .null), (.getfield 30, 50, 0, .null), (.arraylength, 0, 0, .null), (.istore 5, 5, 0, .null), (.iconst 0, 0, 0, .int 0), (.istore 6, 6, 0, .null)]
set_option maxRecDepth 100000 in
theorem cb_19_0 : mChk 19 0 bk_19_0 13 = true := by decide +kernel
def bk_19_13 : List mO := [(.iload 6, 6, 0, .null), (.iload_n 2, 2, 0, .null), (.if_icmp .ge 52, 68, 0, .null)]
set_option maxRecDepth 100000 in
theorem cb_19_13 : mChk 19 13 bk_19_13 19 = true := by decide +kernel
def bk_19_19 : List mO := [(.iload 5, 5, 0, .null), (.aload_n 0, 0, 0, .null), (.getfield 30, 50, 0, .null), (.arraylength, 0, 0, .null), (.if_icmp .lt 15, 41, 0, .null)]
set_option maxRecDepth 100000 in
theorem cb_19_19 : mChk 19 19 bk_19_19 29 = true := by decide +kernel
def bk_19_29 : List mO := [(.aload_n 0, 0, 0, .null), (.iload 4, 4, 0, .null), (.invokevirtual 56, 2, 1, .long 77), (.iinc 4 1, 4, 0, .int 1), (.iconst 0, 0, 0, .int 0), (.istore 5, 5, 0, .null)]
set_option maxRecDepth 100000 in
theorem cb_19_29 : mChk 19 29 bk_19_29 41 = true := by decide +kernel
def bk_19_41 : List mO := [(.aload_n 3, 3, 0, .null), (.aload_n 1, 1, 0, .null), (.iload 6, 6, 0, .null), (.invokevirtual 52, 66, 1, .ref 6), (.aload_n 0, 0, 0, .null), (.getfield 30, 50, 0, .null), (.iload 5, 5, 0, .null), (.iaload, 0, 0, .null), (.ixor, 0, 0, .null), (.invokevirtual 59, 68, 1, .ref 6), (.iinc 5 1, 5, 0, .int 1), (.iinc 6 1, 6, 0, .int 1), (.goto (-52), 13, 0, .null)]
set_option maxRecDepth 100000 in
theorem cb_19_41 : mChk 19 41 bk_19_41 68 = true := by decide +kernel
def bk_19_68 : List mO := [(.return_, 0, 0, .null)]
set_option maxRecDepth 100000 in
theorem cb_19_68 : mChk 19 68 bk_19_68 69 = true := by decide +kernel
-- method 20: KeySealer$Cipher.makeTag(LKeySealer$Row;LKeySealer$Row;I)V, locals 4, room (5, 110)
def bk_20_0 : List mO := [(.aload_n 0, 0, 0, .null), (.aload_n 1, 1, 0, .null), (.aload_n 1, 1, 0, .null), (.getfield 36, 6, 1, .null), (.invokevirtual 62, 21, 2, .long 21), (.aload_n 0, 0, 0, .null), (.aload_n 2, 2, 0, .null), (.iload_n 3, 3, 0, .null), (.invokevirtual 62, 21, 2, .long 21), (.aload_n 0, 0, 0, .null), (.aload_n 1, 1, 0, .null), (.getfield 36, 6, 1, .null), (.iload_n 3, 3, 0, .null), (.invokevirtual 66, 4, 2, .long 79), (.aload_n 0, 0, 0, .null), (.invokevirtual 70, 5, 0, .long 80), (.return_, 0, 0, .null)]
set_option maxRecDepth 100000 in
theorem cb_20_0 : mChk 20 0 bk_20_0 29 = true := by decide +kernel
-- method 21: KeySealer$Cipher.absorbRow(LKeySealer$Row;I)V, locals 5, room (3, 74)
def bk_21_0 : List mO := [(.iconst 0, 0, 0, .int 0), (.istore_n 3, 3, 0, .null)]
set_option maxRecDepth 100000 in
theorem cb_21_0 : mChk 21 0 bk_21_0 2 = true := by decide +kernel
def bk_21_2 : List mO := [(.iload_n 3, 3, 0, .null), (.iload_n 2, 2, 0, .null), (.if_icmp .ge 56, 60, 0, .null)]
set_option maxRecDepth 100000 in
theorem cb_21_2 : mChk 21 2 bk_21_2 7 = true := by decide +kernel
def bk_21_7 : List mO := [(.iconst 0, 0, 0, .int 0), (.istore 4, 4, 0, .null)]
set_option maxRecDepth 100000 in
theorem cb_21_7 : mChk 21 7 bk_21_7 10 = true := by decide +kernel
def bk_21_10 : List mO := [(.iload 4, 4, 0, .null), (.bipush 16, 0, 0, .int 16), (.if_icmp .ge 36, 50, 0, .null)]
set_option maxRecDepth 100000 in
theorem cb_21_10 : mChk 21 10 bk_21_10 17 = true := by decide +kernel
def bk_21_17 : List mO := [(.aload_n 0, 0, 0, .null), (.getfield 9, 50, 1, .null), (.iload 4, 4, 0, .null), (.iload_n 3, 3, 0, .null), (.iload 4, 4, 0, .null), (.iadd, 0, 0, .null), (.iload_n 2, 2, 0, .null), (.if_icmp .ge 14, 42, 0, .null)]
set_option maxRecDepth 100000 in
theorem cb_21_17 : mChk 21 17 bk_21_17 31 = true := by decide +kernel
def bk_21_31 : List mO := [(.aload_n 1, 1, 0, .null), (.iload_n 3, 3, 0, .null), (.iload 4, 4, 0, .null), (.iadd, 0, 0, .null), (.invokevirtual 52, 66, 1, .ref 6), (.goto 4, 43, 0, .null)]
set_option maxRecDepth 100000 in
theorem cb_21_31 : mChk 21 31 bk_21_31 42 = true := by decide +kernel
def bk_21_42 : List mO := [(.iconst 0, 0, 0, .int 0)]
set_option maxRecDepth 100000 in
theorem cb_21_42 : mChk 21 42 bk_21_42 43 = true := by decide +kernel
def bk_21_43 : List mO := [(.iastore, 0, 0, .null), (.iinc 4 1, 4, 0, .int 1), (.goto (-37), 10, 0, .null)]
set_option maxRecDepth 100000 in
theorem cb_21_43 : mChk 21 43 bk_21_43 50 = true := by decide +kernel
def bk_21_50 : List mO := [(.aload_n 0, 0, 0, .null), (.invokevirtual 73, 3, 0, .long 78), (.iinc 3 16, 3, 0, .int 16), (.goto (-55), 2, 0, .null)]
set_option maxRecDepth 100000 in
theorem cb_21_50 : mChk 21 50 bk_21_50 60 = true := by decide +kernel
def bk_21_60 : List mO := [(.return_, 0, 0, .null)]
set_option maxRecDepth 100000 in
theorem cb_21_60 : mChk 21 60 bk_21_60 61 = true := by decide +kernel
-- method 0: KeySealer$BlockCipher.<init>()V, locals 1, room (3, 63)
def bk_0_0 : List mO := [(.aload_n 0, 0, 0, .null), (.bipush 16, 0, 0, .int 16), (.invokespecial 3, 16, 1, .int 0), (.aload_n 0, 0, 0, .null), (.sipush 256, 0, 0, .int 256), (.newarray .int, 0, 0, .null), (.putfield 9, 0, 3, .ref 0), (.aload_n 0, 0, 0, .null), (.bipush 60, 0, 0, .int 60), (.newarray .int, 0, 0, .null), (.putfield 15, 0, 4, .ref 0), (.aload_n 0, 0, 0, .null), (.bipush 16, 0, 0, .int 16), (.newarray .int, 0, 0, .null), (.putfield 18, 0, 5, .ref 0), (.aload_n 0, 0, 0, .null), (.new 21, 6, 2, .null), (.dup, 0, 0, .null), (.bipush 12, 0, 0, .int 12), (.invokespecial 23, 62, 1, .int 0), (.putfield 24, 0, 6, .ref 0), (.aload_n 0, 0, 0, .null), (.bipush 10, 0, 0, .int 10), (.putfield 28, 0, 7, .int 0), (.aload_n 0, 0, 0, .null), (.lconst 0, 0, 0, .long 0), (.putfield 32, 0, 8, .long 0), (.aload_n 0, 0, 0, .null), (.lconst 0, 0, 0, .long 0), (.putfield 36, 0, 9, .long 0), (.aload_n 0, 0, 0, .null), (.lconst 0, 0, 0, .long 0), (.putfield 39, 0, 10, .long 0), (.aload_n 0, 0, 0, .null), (.lconst 0, 0, 0, .long 0), (.putfield 42, 0, 11, .long 0), (.aload_n 0, 0, 0, .null), (.invokevirtual 45, 8, 0, .ref 0), (.return_, 0, 0, .null)]
set_option maxRecDepth 100000 in
theorem cb_0_0 : mChk 0 0 bk_0_0 75 = true := by decide +kernel
-- method 1: KeySealer$BlockCipher.begin(LKeySealer$Row;LKeySealer$Row;)V, locals 4, room (3, 71)
def bk_1_0 : List mO := [(.aload_n 0, 0, 0, .null), (.aload_n 1, 1, 0, .null), (.invokevirtual 49, 9, 1, .ref 0), (.aload_n 0, 0, 0, .null), (.getfield 24, 0, 6, .null), (.aload_n 2, 2, 0, .null), (.invokevirtual 53, 73, 1, .ref 6), (.iconst 0, 0, 0, .int 0), (.istore_n 3, 3, 0, .null)]
set_option maxRecDepth 100000 in
theorem cb_1_0 : mChk 1 0 bk_1_0 15 = true := by decide +kernel
def bk_1_15 : List mO := [(.iload_n 3, 3, 0, .null), (.bipush 16, 0, 0, .int 16), (.if_icmp .ge 16, 34, 0, .null)]
set_option maxRecDepth 100000 in
theorem cb_1_15 : mChk 1 15 bk_1_15 21 = true := by decide +kernel
def bk_1_21 : List mO := [(.aload_n 0, 0, 0, .null), (.getfield 56, 0, 0, .null), (.iload_n 3, 3, 0, .null), (.iconst 0, 0, 0, .int 0), (.iastore, 0, 0, .null), (.iinc 3 1, 3, 0, .int 1), (.goto (-16), 15, 0, .null)]
set_option maxRecDepth 100000 in
theorem cb_1_21 : mChk 1 21 bk_1_21 34 = true := by decide +kernel
def bk_1_34 : List mO := [(.aload_n 0, 0, 0, .null), (.invokevirtual 59, 12, 0, .ref 0), (.aload_n 0, 0, 0, .null), (.aload_n 0, 0, 0, .null), (.getfield 56, 0, 0, .null), (.iconst 0, 0, 0, .int 0), (.invokestatic 62, 6, 2, .null), (.putfield 32, 0, 8, .long 0), (.aload_n 0, 0, 0, .null), (.aload_n 0, 0, 0, .null), (.getfield 56, 0, 0, .null), (.bipush 8, 0, 0, .int 8), (.invokestatic 62, 6, 2, .null), (.putfield 36, 0, 9, .long 0), (.aload_n 0, 0, 0, .null), (.lconst 0, 0, 0, .long 0), (.putfield 39, 0, 10, .long 0), (.aload_n 0, 0, 0, .null), (.lconst 0, 0, 0, .long 0), (.putfield 42, 0, 11, .long 0), (.return_, 0, 0, .null)]
set_option maxRecDepth 100000 in
theorem cb_1_34 : mChk 1 34 bk_1_34 74 = true := by decide +kernel
-- method 2: KeySealer$BlockCipher.fillStream(I)V, locals 2, room (4, 90)
def bk_2_0 : List mO := [(.aload_n 0, 0, 0, .null), (.iload_n 1, 1, 0, .null), (.iconst 2, 0, 0, .int 2), (.iadd, 0, 0, .null), (.invokevirtual 66, 11, 1, .ref 0), (.return_, 0, 0, .null)]
set_option maxRecDepth 100000 in
theorem cb_2_0 : mChk 2 0 bk_2_0 8 = true := by decide +kernel
-- method 3: KeySealer$BlockCipher.absorb()V, locals 1, room (1, 39)
def bk_3_0 : List mO := [(.aload_n 0, 0, 0, .null), (.aload_n 0, 0, 0, .null), (.getfield 69, 0, 1, .null), (.iconst 0, 0, 0, .int 0), (.invokestatic 62, 6, 2, .null), (.aload_n 0, 0, 0, .null), (.getfield 69, 0, 1, .null), (.bipush 8, 0, 0, .int 8), (.invokestatic 62, 6, 2, .null), (.invokevirtual 72, 15, 2, .ref 0), (.return_, 0, 0, .null)]
set_option maxRecDepth 100000 in
theorem cb_3_0 : mChk 3 0 bk_3_0 22 = true := by decide +kernel
-- method 4: KeySealer$BlockCipher.absorbLengths(II)V, locals 3, room (1, 39)
def bk_4_0 : List mO := [(.aload_n 0, 0, 0, .null), (.ldc2_w 76, 0, 0, .long 8), (.iload_n 1, 1, 0, .null), (.i2l, 0, 0, .null), (.lmul, 0, 0, .null), (.ldc2_w 76, 0, 0, .long 8), (.iload_n 2, 2, 0, .null), (.i2l, 0, 0, .null), (.lmul, 0, 0, .null), (.invokevirtual 72, 15, 2, .ref 0), (.return_, 0, 0, .null)]
set_option maxRecDepth 100000 in
theorem cb_4_0 : mChk 4 0 bk_4_0 17 = true := by decide +kernel
-- method 5: KeySealer$BlockCipher.writeTag()V, locals 1, room (4, 90)
def bk_5_0 : List mO := [(.aload_n 0, 0, 0, .null), (.iconst 1, 0, 0, .int 1), (.invokevirtual 66, 11, 1, .ref 0), (.aload_n 0, 0, 0, .null), (.getfield 78, 0, 2, .null), (.invokevirtual 81, 63, 0, .ref 6), (.aload_n 0, 0, 0, .null), (.getfield 78, 0, 2, .null), (.aload_n 0, 0, 0, .null), (.getfield 56, 0, 0, .null), (.iconst 0, 0, 0, .int 0), (.invokestatic 62, 6, 2, .null), (.aload_n 0, 0, 0, .null), (.getfield 39, 0, 10, .null), (.lxor, 0, 0, .null), (.bipush 8, 0, 0, .int 8), (.invokevirtual 84, 69, 2, .ref 6), (.aload_n 0, 0, 0, .null), (.getfield 78, 0, 2, .null), (.aload_n 0, 0, 0, .null), (.getfield 56, 0, 0, .null), (.bipush 8, 0, 0, .int 8), (.invokestatic 62, 6, 2, .null), (.aload_n 0, 0, 0, .null), (.getfield 42, 0, 11, .null), (.lxor, 0, 0, .null), (.bipush 8, 0, 0, .int 8), (.invokevirtual 84, 69, 2, .ref 6), (.return_, 0, 0, .null)]
set_option maxRecDepth 100000 in
theorem cb_5_0 : mChk 5 0 bk_5_0 58 = true := by decide +kernel
-- method 6: KeySealer$BlockCipher.longOf([II)J, locals 5, room (0, 0)
def bk_6_0 : List mO := [(.lconst 0, 0, 0, .long 0), (.lstore_n 2, 2, 0, .null), (.iload_n 1, 1, 0, .null), (.istore 4, 4, 0, .null)]
set_option maxRecDepth 100000 in
theorem cb_6_0 : mChk 6 0 bk_6_0 5 = true := by decide +kernel
def bk_6_5 : List mO := [(.iload 4, 4, 0, .null), (.iload_n 1, 1, 0, .null), (.bipush 8, 0, 0, .int 8), (.iadd, 0, 0, .null), (.if_icmp .ge 27, 38, 0, .null)]
set_option maxRecDepth 100000 in
theorem cb_6_5 : mChk 6 5 bk_6_5 14 = true := by decide +kernel
def bk_6_14 : List mO := [(.iload 4, 4, 0, .null), (.aload_n 0, 0, 0, .null), (.arraylength, 0, 0, .null), (.if_icmp .ge 20, 38, 0, .null)]
set_option maxRecDepth 100000 in
theorem cb_6_14 : mChk 6 14 bk_6_14 21 = true := by decide +kernel
def bk_6_21 : List mO := [(.lload_n 2, 2, 0, .null), (.bipush 8, 0, 0, .int 8), (.lshl, 0, 0, .null), (.aload_n 0, 0, 0, .null), (.iload 4, 4, 0, .null), (.iaload, 0, 0, .null), (.i2l, 0, 0, .null), (.lor, 0, 0, .null), (.lstore_n 2, 2, 0, .null), (.iinc 4 1, 4, 0, .int 1), (.goto (-30), 5, 0, .null)]
set_option maxRecDepth 100000 in
theorem cb_6_21 : mChk 6 21 bk_6_21 38 = true := by decide +kernel
def bk_6_38 : List mO := [(.lload_n 2, 2, 0, .null), (.lreturn, 0, 0, .null)]
set_option maxRecDepth 100000 in
theorem cb_6_38 : mChk 6 38 bk_6_38 40 = true := by decide +kernel
-- method 7: KeySealer$BlockCipher.twice(I)I, locals 1, room (0, 0)
def bk_7_0 : List mO := [(.iload_n 0, 0, 0, .null), (.sipush 128, 0, 0, .int 128), (.if_icmp .ge 9, 13, 0, .null)]
set_option maxRecDepth 100000 in
theorem cb_7_0 : mChk 7 0 bk_7_0 7 = true := by decide +kernel
def bk_7_7 : List mO := [(.iload_n 0, 0, 0, .null), (.iconst 1, 0, 0, .int 1), (.ishl, 0, 0, .null), (.goto 10, 20, 0, .null)]
set_option maxRecDepth 100000 in
theorem cb_7_7 : mChk 7 7 bk_7_7 13 = true := by decide +kernel
def bk_7_13 : List mO := [(.iload_n 0, 0, 0, .null), (.iconst 1, 0, 0, .int 1), (.ishl, 0, 0, .null), (.sipush 283, 0, 0, .int 283), (.ixor, 0, 0, .null)]
set_option maxRecDepth 100000 in
theorem cb_7_13 : mChk 7 13 bk_7_13 20 = true := by decide +kernel
def bk_7_20 : List mO := [(.ireturn, 0, 0, .int 0)]
set_option maxRecDepth 100000 in
theorem cb_7_20 : mChk 7 20 bk_7_20 21 = true := by decide +kernel
-- method 8: KeySealer$BlockCipher.fillSub()V, locals 6, room (1, 20)
def bk_8_0 : List mO := [(.sipush 256, 0, 0, .int 256), (.newarray .int, 0, 0, .null), (.astore_n 1, 1, 0, .null), (.aload_n 1, 1, 0, .null), (.iconst 0, 0, 0, .int 0), (.iconst 1, 0, 0, .int 1), (.iastore, 0, 0, .null), (.iconst 1, 0, 0, .int 1), (.istore_n 2, 2, 0, .null)]
set_option maxRecDepth 100000 in
theorem cb_8_0 : mChk 8 0 bk_8_0 12 = true := by decide +kernel
def bk_8_12 : List mO := [(.iload_n 2, 2, 0, .null), (.sipush 256, 0, 0, .int 256), (.if_icmp .ge 26, 42, 0, .null)]
set_option maxRecDepth 100000 in
theorem cb_8_12 : mChk 8 12 bk_8_12 19 = true := by decide +kernel
def bk_8_19 : List mO := [(.aload_n 1, 1, 0, .null), (.iload_n 2, 2, 0, .null), (.aload_n 1, 1, 0, .null), (.iload_n 2, 2, 0, .null), (.iconst 1, 0, 0, .int 1), (.isub, 0, 0, .null), (.iaload, 0, 0, .null), (.aload_n 1, 1, 0, .null), (.iload_n 2, 2, 0, .null), (.iconst 1, 0, 0, .int 1), (.isub, 0, 0, .null), (.iaload, 0, 0, .null), (.invokestatic 88, 7, 1, .null), (.ixor, 0, 0, .null), (.iastore, 0, 0, .null), (.iinc 2 1, 2, 0, .int 1), (.goto (-27), 12, 0, .null)]
set_option maxRecDepth 100000 in
theorem cb_8_19 : mChk 8 19 bk_8_19 42 = true := by decide +kernel
def bk_8_42 : List mO := [(.aload_n 0, 0, 0, .null), (.getfield 9, 0, 3, .null), (.iconst 0, 0, 0, .int 0), (.bipush 99, 0, 0, .int 99), (.iastore, 0, 0, .null), (.iconst 0, 0, 0, .int 0), (.istore_n 2, 2, 0, .null)]
set_option maxRecDepth 100000 in
theorem cb_8_42 : mChk 8 42 bk_8_42 52 = true := by decide +kernel
def bk_8_52 : List mO := [(.iload_n 2, 2, 0, .null), (.sipush 255, 0, 0, .int 255), (.if_icmp .ge 71, 127, 0, .null)]
set_option maxRecDepth 100000 in
theorem cb_8_52 : mChk 8 52 bk_8_52 59 = true := by decide +kernel
def bk_8_59 : List mO := [(.aload_n 1, 1, 0, .null), (.sipush 255, 0, 0, .int 255), (.iload_n 2, 2, 0, .null), (.isub, 0, 0, .null), (.iaload, 0, 0, .null), (.istore_n 3, 3, 0, .null), (.iload_n 3, 3, 0, .null), (.iload_n 3, 3, 0, .null), (.bipush 8, 0, 0, .int 8), (.ishl, 0, 0, .null), (.ior, 0, 0, .null), (.istore 4, 4, 0, .null), (.iload_n 3, 3, 0, .null), (.iload 4, 4, 0, .null), (.bipush 7, 0, 0, .int 7), (.ishr, 0, 0, .null), (.ixor, 0, 0, .null), (.iload 4, 4, 0, .null), (.bipush 6, 0, 0, .int 6), (.ishr, 0, 0, .null), (.ixor, 0, 0, .null), (.iload 4, 4, 0, .null), (.iconst 5, 0, 0, .int 5), (.ishr, 0, 0, .null), (.ixor, 0, 0, .null), (.iload 4, 4, 0, .null), (.iconst 4, 0, 0, .int 4), (.ishr, 0, 0, .null), (.ixor, 0, 0, .null), (.istore 5, 5, 0, .null), (.aload_n 0, 0, 0, .null), (.getfield 9, 0, 3, .null), (.aload_n 1, 1, 0, .null), (.iload_n 2, 2, 0, .null), (.iaload, 0, 0, .null), (.sipush 255, 0, 0, .int 255), (.iand, 0, 0, .null), (.iload 5, 5, 0, .null), (.sipush 255, 0, 0, .int 255), (.iand, 0, 0, .null), (.bipush 99, 0, 0, .int 99), (.ixor, 0, 0, .null), (.iastore, 0, 0, .null), (.iinc 2 1, 2, 0, .int 1), (.goto (-72), 52, 0, .null)]
set_option maxRecDepth 100000 in
theorem cb_8_59 : mChk 8 59 bk_8_59 127 = true := by decide +kernel
def bk_8_127 : List mO := [(.return_, 0, 0, .null)]
set_option maxRecDepth 100000 in
theorem cb_8_127 : mChk 8 127 bk_8_127 128 = true := by decide +kernel
-- method 9: KeySealer$BlockCipher.stretchKey(LKeySealer$Row;)V, locals 6, room (1, 21)
def bk_9_0 : List mO := [(.aload_n 1, 1, 0, .null), (.getfield 92, 6, 1, .null), (.bipush 32, 0, 0, .int 32), (.if_icmp .ne 8, 14, 0, .null)]
set_option maxRecDepth 100000 in
theorem cb_9_0 : mChk 9 0 bk_9_0 9 = true := by decide +kernel
def bk_9_9 : List mO := [(.bipush 8, 0, 0, .int 8), (.goto 4, 15, 0, .null)]
set_option maxRecDepth 100000 in
theorem cb_9_9 : mChk 9 9 bk_9_9 14 = true := by decide +kernel
def bk_9_14 : List mO := [(.iconst 4, 0, 0, .int 4)]
set_option maxRecDepth 100000 in
theorem cb_9_14 : mChk 9 14 bk_9_14 15 = true := by decide +kernel
def bk_9_15 : List mO := [(.istore_n 2, 2, 0, .null), (.aload_n 0, 0, 0, .null), (.iload_n 2, 2, 0, .null), (.bipush 6, 0, 0, .int 6), (.iadd, 0, 0, .null), (.putfield 28, 0, 7, .int 0), (.iconst 0, 0, 0, .int 0), (.istore_n 3, 3, 0, .null)]
set_option maxRecDepth 100000 in
theorem cb_9_15 : mChk 9 15 bk_9_15 26 = true := by decide +kernel
def bk_9_26 : List mO := [(.iload_n 3, 3, 0, .null), (.iload_n 2, 2, 0, .null), (.if_icmp .ge 61, 89, 0, .null)]
set_option maxRecDepth 100000 in
theorem cb_9_26 : mChk 9 26 bk_9_26 31 = true := by decide +kernel
def bk_9_31 : List mO := [(.aload_n 0, 0, 0, .null), (.getfield 15, 0, 4, .null), (.iload_n 3, 3, 0, .null), (.aload_n 1, 1, 0, .null), (.iconst 4, 0, 0, .int 4), (.iload_n 3, 3, 0, .null), (.imul, 0, 0, .null), (.invokevirtual 95, 66, 1, .ref 6), (.bipush 24, 0, 0, .int 24), (.ishl, 0, 0, .null), (.aload_n 1, 1, 0, .null), (.iconst 4, 0, 0, .int 4), (.iload_n 3, 3, 0, .null), (.imul, 0, 0, .null), (.iconst 1, 0, 0, .int 1), (.iadd, 0, 0, .null), (.invokevirtual 95, 66, 1, .ref 6), (.bipush 16, 0, 0, .int 16), (.ishl, 0, 0, .null), (.ior, 0, 0, .null), (.aload_n 1, 1, 0, .null), (.iconst 4, 0, 0, .int 4), (.iload_n 3, 3, 0, .null), (.imul, 0, 0, .null), (.iconst 2, 0, 0, .int 2), (.iadd, 0, 0, .null), (.invokevirtual 95, 66, 1, .ref 6), (.bipush 8, 0, 0, .int 8), (.ishl, 0, 0, .null), (.ior, 0, 0, .null), (.aload_n 1, 1, 0, .null), (.iconst 4, 0, 0, .int 4), (.iload_n 3, 3, 0, .null), (.imul, 0, 0, .null), (.iconst 3, 0, 0, .int 3), (.iadd, 0, 0, .null), (.invokevirtual 95, 66, 1, .ref 6), (.ior, 0, 0, .null), (.iastore, 0, 0, .null), (.iinc 3 1, 3, 0, .int 1), (.goto (-60), 26, 0, .null)]
set_option maxRecDepth 100000 in
theorem cb_9_31 : mChk 9 31 bk_9_31 89 = true := by decide +kernel
def bk_9_89 : List mO := [(.iconst 1, 0, 0, .int 1), (.istore_n 3, 3, 0, .null), (.iload_n 2, 2, 0, .null), (.istore 4, 4, 0, .null)]
set_option maxRecDepth 100000 in
theorem cb_9_89 : mChk 9 89 bk_9_89 94 = true := by decide +kernel
def bk_9_94 : List mO := [(.iload 4, 4, 0, .null), (.iconst 4, 0, 0, .int 4), (.aload_n 0, 0, 0, .null), (.getfield 28, 0, 7, .null), (.imul, 0, 0, .null), (.iconst 4, 0, 0, .int 4), (.iadd, 0, 0, .null), (.if_icmp .ge 101, 205, 0, .null)]
set_option maxRecDepth 100000 in
theorem cb_9_94 : mChk 9 94 bk_9_94 107 = true := by decide +kernel
def bk_9_107 : List mO := [(.aload_n 0, 0, 0, .null), (.getfield 15, 0, 4, .null), (.iload 4, 4, 0, .null), (.iconst 1, 0, 0, .int 1), (.isub, 0, 0, .null), (.iaload, 0, 0, .null), (.istore 5, 5, 0, .null), (.iload 4, 4, 0, .null), (.iload_n 2, 2, 0, .null), (.iconst 1, 0, 0, .int 1), (.isub, 0, 0, .null), (.iand, 0, 0, .null), (.ifCond .ne 33, 157, 0, .null)]
set_option maxRecDepth 100000 in
theorem cb_9_107 : mChk 9 107 bk_9_107 127 = true := by decide +kernel
def bk_9_127 : List mO := [(.aload_n 0, 0, 0, .null), (.iload 5, 5, 0, .null), (.bipush 8, 0, 0, .int 8), (.ishl, 0, 0, .null), (.iload 5, 5, 0, .null), (.bipush 24, 0, 0, .int 24), (.iushr, 0, 0, .null), (.ior, 0, 0, .null), (.invokevirtual 98, 10, 1, .ref 0), (.iload_n 3, 3, 0, .null), (.bipush 24, 0, 0, .int 24), (.ishl, 0, 0, .null), (.ixor, 0, 0, .null), (.istore 5, 5, 0, .null), (.iload_n 3, 3, 0, .null), (.invokestatic 88, 7, 1, .null), (.istore_n 3, 3, 0, .null), (.goto 26, 180, 0, .null)]
set_option maxRecDepth 100000 in
theorem cb_9_127 : mChk 9 127 bk_9_127 157 = true := by decide +kernel
def bk_9_157 : List mO := [(.iload_n 2, 2, 0, .null), (.bipush 8, 0, 0, .int 8), (.if_icmp .ne 20, 180, 0, .null)]
set_option maxRecDepth 100000 in
theorem cb_9_157 : mChk 9 157 bk_9_157 163 = true := by decide +kernel
def bk_9_163 : List mO := [(.iload 4, 4, 0, .null), (.bipush 7, 0, 0, .int 7), (.iand, 0, 0, .null), (.iconst 4, 0, 0, .int 4), (.if_icmp .ne 11, 180, 0, .null)]
set_option maxRecDepth 100000 in
theorem cb_9_163 : mChk 9 163 bk_9_163 172 = true := by decide +kernel
def bk_9_172 : List mO := [(.aload_n 0, 0, 0, .null), (.iload 5, 5, 0, .null), (.invokevirtual 98, 10, 1, .ref 0), (.istore 5, 5, 0, .null)]
set_option maxRecDepth 100000 in
theorem cb_9_172 : mChk 9 172 bk_9_172 180 = true := by decide +kernel
def bk_9_180 : List mO := [(.aload_n 0, 0, 0, .null), (.getfield 15, 0, 4, .null), (.iload 4, 4, 0, .null), (.aload_n 0, 0, 0, .null), (.getfield 15, 0, 4, .null), (.iload 4, 4, 0, .null), (.iload_n 2, 2, 0, .null), (.isub, 0, 0, .null), (.iaload, 0, 0, .null), (.iload 5, 5, 0, .null), (.ixor, 0, 0, .null), (.iastore, 0, 0, .null), (.iinc 4 1, 4, 0, .int 1), (.goto (-108), 94, 0, .null)]
set_option maxRecDepth 100000 in
theorem cb_9_180 : mChk 9 180 bk_9_180 205 = true := by decide +kernel
def bk_9_205 : List mO := [(.return_, 0, 0, .null)]
set_option maxRecDepth 100000 in
theorem cb_9_205 : mChk 9 205 bk_9_205 206 = true := by decide +kernel
-- method 10: KeySealer$BlockCipher.subWord(I)I, locals 2, room (0, 0)
def bk_10_0 : List mO := [(.aload_n 0, 0, 0, .null), (.getfield 9, 0, 3, .null), (.iload_n 1, 1, 0, .null), (.bipush 24, 0, 0, .int 24), (.iushr, 0, 0, .null), (.iaload, 0, 0, .null), (.bipush 24, 0, 0, .int 24), (.ishl, 0, 0, .null), (.aload_n 0, 0, 0, .null), (.getfield 9, 0, 3, .null), (.iload_n 1, 1, 0, .null), (.bipush 16, 0, 0, .int 16), (.ishr, 0, 0, .null), (.sipush 255, 0, 0, .int 255), (.iand, 0, 0, .null), (.iaload, 0, 0, .null), (.bipush 16, 0, 0, .int 16), (.ishl, 0, 0, .null), (.ior, 0, 0, .null), (.aload_n 0, 0, 0, .null), (.getfield 9, 0, 3, .null), (.iload_n 1, 1, 0, .null), (.bipush 8, 0, 0, .int 8), (.ishr, 0, 0, .null), (.sipush 255, 0, 0, .int 255), (.iand, 0, 0, .null), (.iaload, 0, 0, .null), (.bipush 8, 0, 0, .int 8), (.ishl, 0, 0, .null), (.ior, 0, 0, .null), (.aload_n 0, 0, 0, .null), (.getfield 9, 0, 3, .null), (.iload_n 1, 1, 0, .null), (.sipush 255, 0, 0, .int 255), (.iand, 0, 0, .null), (.iaload, 0, 0, .null), (.ior, 0, 0, .null), (.ireturn, 0, 0, .int 0)]
set_option maxRecDepth 100000 in
theorem cb_10_0 : mChk 10 0 bk_10_0 58 = true := by decide +kernel
-- method 11: KeySealer$BlockCipher.fillBlock(I)V, locals 3, room (3, 68)
def bk_11_0 : List mO := [(.iconst 0, 0, 0, .int 0), (.istore_n 2, 2, 0, .null)]
set_option maxRecDepth 100000 in
theorem cb_11_0 : mChk 11 0 bk_11_0 2 = true := by decide +kernel
def bk_11_2 : List mO := [(.iload_n 2, 2, 0, .null), (.bipush 12, 0, 0, .int 12), (.if_icmp .ge 23, 28, 0, .null)]
set_option maxRecDepth 100000 in
theorem cb_11_2 : mChk 11 2 bk_11_2 8 = true := by decide +kernel
def bk_11_8 : List mO := [(.aload_n 0, 0, 0, .null), (.getfield 56, 0, 0, .null), (.iload_n 2, 2, 0, .null), (.aload_n 0, 0, 0, .null), (.getfield 24, 0, 6, .null), (.iload_n 2, 2, 0, .null), (.invokevirtual 95, 66, 1, .ref 6), (.iastore, 0, 0, .null), (.iinc 2 1, 2, 0, .int 1), (.goto (-23), 2, 0, .null)]
set_option maxRecDepth 100000 in
theorem cb_11_8 : mChk 11 8 bk_11_8 28 = true := by decide +kernel
def bk_11_28 : List mO := [(.iconst 0, 0, 0, .int 0), (.istore_n 2, 2, 0, .null)]
set_option maxRecDepth 100000 in
theorem cb_11_28 : mChk 11 28 bk_11_28 30 = true := by decide +kernel
def bk_11_30 : List mO := [(.iload_n 2, 2, 0, .null), (.iconst 4, 0, 0, .int 4), (.if_icmp .ge 31, 63, 0, .null)]
set_option maxRecDepth 100000 in
theorem cb_11_30 : mChk 11 30 bk_11_30 35 = true := by decide +kernel
def bk_11_35 : List mO := [(.aload_n 0, 0, 0, .null), (.getfield 56, 0, 0, .null), (.bipush 12, 0, 0, .int 12), (.iload_n 2, 2, 0, .null), (.iadd, 0, 0, .null), (.iload_n 1, 1, 0, .null), (.bipush 24, 0, 0, .int 24), (.bipush 8, 0, 0, .int 8), (.iload_n 2, 2, 0, .null), (.imul, 0, 0, .null), (.isub, 0, 0, .null), (.iushr, 0, 0, .null), (.sipush 255, 0, 0, .int 255), (.iand, 0, 0, .null), (.iastore, 0, 0, .null), (.iinc 2 1, 2, 0, .int 1), (.goto (-30), 30, 0, .null)]
set_option maxRecDepth 100000 in
theorem cb_11_35 : mChk 11 35 bk_11_35 63 = true := by decide +kernel
def bk_11_63 : List mO := [(.aload_n 0, 0, 0, .null), (.invokevirtual 59, 12, 0, .ref 0), (.return_, 0, 0, .null)]
set_option maxRecDepth 100000 in
theorem cb_11_63 : mChk 11 63 bk_11_63 68 = true := by decide +kernel
-- method 12: KeySealer$BlockCipher.encipher()V, locals 3, room (2, 46)
def bk_12_0 : List mO := [(.aload_n 0, 0, 0, .null), (.iconst 0, 0, 0, .int 0), (.invokevirtual 101, 13, 1, .ref 0), (.iconst 1, 0, 0, .int 1), (.istore_n 1, 1, 0, .null)]
set_option maxRecDepth 100000 in
theorem cb_12_0 : mChk 12 0 bk_12_0 7 = true := by decide +kernel
def bk_12_7 : List mO := [(.iload_n 1, 1, 0, .null), (.aload_n 0, 0, 0, .null), (.getfield 28, 0, 7, .null), (.if_icmp .gt 88, 100, 0, .null)]
set_option maxRecDepth 100000 in
theorem cb_12_7 : mChk 12 7 bk_12_7 15 = true := by decide +kernel
def bk_12_15 : List mO := [(.iconst 0, 0, 0, .int 0), (.istore_n 2, 2, 0, .null)]
set_option maxRecDepth 100000 in
theorem cb_12_15 : mChk 12 15 bk_12_15 17 = true := by decide +kernel
def bk_12_17 : List mO := [(.iload_n 2, 2, 0, .null), (.bipush 16, 0, 0, .int 16), (.if_icmp .ge 39, 59, 0, .null)]
set_option maxRecDepth 100000 in
theorem cb_12_17 : mChk 12 17 bk_12_17 23 = true := by decide +kernel
def bk_12_23 : List mO := [(.aload_n 0, 0, 0, .null), (.getfield 18, 0, 5, .null), (.iload_n 2, 2, 0, .null), (.aload_n 0, 0, 0, .null), (.getfield 9, 0, 3, .null), (.aload_n 0, 0, 0, .null), (.getfield 56, 0, 0, .null), (.iload_n 2, 2, 0, .null), (.iconst 4, 0, 0, .int 4), (.iload_n 2, 2, 0, .null), (.iconst 3, 0, 0, .int 3), (.iand, 0, 0, .null), (.imul, 0, 0, .null), (.iadd, 0, 0, .null), (.bipush 15, 0, 0, .int 15), (.iand, 0, 0, .null), (.iaload, 0, 0, .null), (.sipush 255, 0, 0, .int 255), (.iand, 0, 0, .null), (.iaload, 0, 0, .null), (.iastore, 0, 0, .null), (.iinc 2 1, 2, 0, .int 1), (.goto (-39), 17, 0, .null)]
set_option maxRecDepth 100000 in
theorem cb_12_23 : mChk 12 23 bk_12_23 59 = true := by decide +kernel
def bk_12_59 : List mO := [(.iload_n 1, 1, 0, .null), (.aload_n 0, 0, 0, .null), (.getfield 28, 0, 7, .null), (.if_icmp .ge 10, 74, 0, .null)]
set_option maxRecDepth 100000 in
theorem cb_12_59 : mChk 12 59 bk_12_59 67 = true := by decide +kernel
def bk_12_67 : List mO := [(.aload_n 0, 0, 0, .null), (.invokevirtual 104, 14, 0, .ref 0), (.goto 18, 89, 0, .null)]
set_option maxRecDepth 100000 in
theorem cb_12_67 : mChk 12 67 bk_12_67 74 = true := by decide +kernel
def bk_12_74 : List mO := [(.aload_n 0, 0, 0, .null), (.getfield 18, 0, 5, .null), (.iconst 0, 0, 0, .int 0), (.aload_n 0, 0, 0, .null), (.getfield 56, 0, 0, .null), (.iconst 0, 0, 0, .int 0), (.bipush 16, 0, 0, .int 16), (.invokestatic 107, 9001, 5, .null)]
set_option maxRecDepth 100000 in
theorem cb_12_74 : mChk 12 74 bk_12_74 89 = true := by decide +kernel
def bk_12_89 : List mO := [(.aload_n 0, 0, 0, .null), (.iload_n 1, 1, 0, .null), (.invokevirtual 101, 13, 1, .ref 0), (.iinc 1 1, 1, 0, .int 1), (.goto (-90), 7, 0, .null)]
set_option maxRecDepth 100000 in
theorem cb_12_89 : mChk 12 89 bk_12_89 100 = true := by decide +kernel
def bk_12_100 : List mO := [(.return_, 0, 0, .null)]
set_option maxRecDepth 100000 in
theorem cb_12_100 : mChk 12 100 bk_12_100 101 = true := by decide +kernel
-- method 13: KeySealer$BlockCipher.mixKey(I)V, locals 3, room (0, 0)
def bk_13_0 : List mO := [(.iconst 0, 0, 0, .int 0), (.istore_n 2, 2, 0, .null)]
set_option maxRecDepth 100000 in
theorem cb_13_0 : mChk 13 0 bk_13_0 2 = true := by decide +kernel
def bk_13_2 : List mO := [(.iload_n 2, 2, 0, .null), (.bipush 16, 0, 0, .int 16), (.if_icmp .ge 44, 49, 0, .null)]
set_option maxRecDepth 100000 in
theorem cb_13_2 : mChk 13 2 bk_13_2 8 = true := by decide +kernel
def bk_13_8 : List mO := [(.aload_n 0, 0, 0, .null), (.getfield 56, 0, 0, .null), (.iload_n 2, 2, 0, .null), (.dup2, 0, 0, .null), (.iaload, 0, 0, .null), (.aload_n 0, 0, 0, .null), (.getfield 15, 0, 4, .null), (.iconst 4, 0, 0, .int 4), (.iload_n 1, 1, 0, .null), (.imul, 0, 0, .null), (.iload_n 2, 2, 0, .null), (.iconst 2, 0, 0, .int 2), (.ishr, 0, 0, .null), (.iadd, 0, 0, .null), (.iaload, 0, 0, .null), (.bipush 24, 0, 0, .int 24), (.bipush 8, 0, 0, .int 8), (.iload_n 2, 2, 0, .null), (.iconst 3, 0, 0, .int 3), (.iand, 0, 0, .null), (.imul, 0, 0, .null), (.isub, 0, 0, .null), (.iushr, 0, 0, .null), (.sipush 255, 0, 0, .int 255), (.iand, 0, 0, .null), (.ixor, 0, 0, .null), (.iastore, 0, 0, .null), (.iinc 2 1, 2, 0, .int 1), (.goto (-44), 2, 0, .null)]
set_option maxRecDepth 100000 in
theorem cb_13_8 : mChk 13 8 bk_13_8 49 = true := by decide +kernel
def bk_13_49 : List mO := [(.return_, 0, 0, .null)]
set_option maxRecDepth 100000 in
theorem cb_13_49 : mChk 13 49 bk_13_49 50 = true := by decide +kernel
-- method 14: KeySealer$BlockCipher.mixColumns()V, locals 7, room (1, 20)
def bk_14_0 : List mO := [(.iconst 0, 0, 0, .int 0), (.istore_n 1, 1, 0, .null)]
set_option maxRecDepth 100000 in
theorem cb_14_0 : mChk 14 0 bk_14_0 2 = true := by decide +kernel
def bk_14_2 : List mO := [(.iload_n 1, 1, 0, .null), (.bipush 16, 0, 0, .int 16), (.if_icmp .ge 136, 141, 0, .null)]
set_option maxRecDepth 100000 in
theorem cb_14_2 : mChk 14 2 bk_14_2 8 = true := by decide +kernel
def bk_14_8 : List mO := [(.aload_n 0, 0, 0, .null), (.getfield 18, 0, 5, .null), (.iload_n 1, 1, 0, .null), (.iaload, 0, 0, .null), (.istore_n 2, 2, 0, .null), (.aload_n 0, 0, 0, .null), (.getfield 18, 0, 5, .null), (.iload_n 1, 1, 0, .null), (.iconst 1, 0, 0, .int 1), (.iadd, 0, 0, .null), (.iaload, 0, 0, .null), (.istore_n 3, 3, 0, .null), (.aload_n 0, 0, 0, .null), (.getfield 18, 0, 5, .null), (.iload_n 1, 1, 0, .null), (.iconst 2, 0, 0, .int 2), (.iadd, 0, 0, .null), (.iaload, 0, 0, .null), (.istore 4, 4, 0, .null), (.aload_n 0, 0, 0, .null), (.getfield 18, 0, 5, .null), (.iload_n 1, 1, 0, .null), (.iconst 3, 0, 0, .int 3), (.iadd, 0, 0, .null), (.iaload, 0, 0, .null), (.istore 5, 5, 0, .null), (.iload_n 2, 2, 0, .null), (.iload_n 3, 3, 0, .null), (.ixor, 0, 0, .null), (.iload 4, 4, 0, .null), (.ixor, 0, 0, .null), (.iload 5, 5, 0, .null), (.ixor, 0, 0, .null), (.istore 6, 6, 0, .null), (.aload_n 0, 0, 0, .null), (.getfield 56, 0, 0, .null), (.iload_n 1, 1, 0, .null), (.iload_n 2, 2, 0, .null), (.iload 6, 6, 0, .null), (.ixor, 0, 0, .null), (.iload_n 2, 2, 0, .null), (.iload_n 3, 3, 0, .null), (.ixor, 0, 0, .null), (.invokestatic 88, 7, 1, .null), (.ixor, 0, 0, .null), (.iastore, 0, 0, .null), (.aload_n 0, 0, 0, .null), (.getfield 56, 0, 0, .null), (.iload_n 1, 1, 0, .null), (.iconst 1, 0, 0, .int 1), (.iadd, 0, 0, .null), (.iload_n 3, 3, 0, .null), (.iload 6, 6, 0, .null), (.ixor, 0, 0, .null), (.iload_n 3, 3, 0, .null), (.iload 4, 4, 0, .null), (.ixor, 0, 0, .null), (.invokestatic 88, 7, 1, .null), (.ixor, 0, 0, .null), (.iastore, 0, 0, .null), (.aload_n 0, 0, 0, .null), (.getfield 56, 0, 0, .null), (.iload_n 1, 1, 0, .null), (.iconst 2, 0, 0, .int 2), (.iadd, 0, 0, .null), (.iload 4, 4, 0, .null), (.iload 6, 6, 0, .null), (.ixor, 0, 0, .null), (.iload 4, 4, 0, .null), (.iload 5, 5, 0, .null), (.ixor, 0, 0, .null), (.invokestatic 88, 7, 1, .null), (.ixor, 0, 0, .null), (.iastore, 0, 0, .null), (.aload_n 0, 0, 0, .null), (.getfield 56, 0, 0, .null), (.iload_n 1, 1, 0, .null), (.iconst 3, 0, 0, .int 3), (.iadd, 0, 0, .null), (.iload 5, 5, 0, .null), (.iload 6, 6, 0, .null), (.ixor, 0, 0, .null), (.iload 5, 5, 0, .null), (.iload_n 2, 2, 0, .null), (.ixor, 0, 0, .null), (.invokestatic 88, 7, 1, .null), (.ixor, 0, 0, .null), (.iastore, 0, 0, .null), (.iinc 1 4, 1, 0, .int 4), (.goto (-136), 2, 0, .null)]
set_option maxRecDepth 100000 in
theorem cb_14_8 : mChk 14 8 bk_14_8 141 = true := by decide +kernel
def bk_14_141 : List mO := [(.return_, 0, 0, .null)]
set_option maxRecDepth 100000 in
theorem cb_14_141 : mChk 14 141 bk_14_141 142 = true := by decide +kernel
-- method 15: KeySealer$BlockCipher.multiply(JJ)V, locals 20, room (0, 0)
def bk_15_0 : List mO := [(.aload_n 0, 0, 0, .null), (.getfield 39, 0, 10, .null), (.lload_n 1, 1, 0, .null), (.lxor, 0, 0, .null), (.lstore 5, 5, 0, .null), (.aload_n 0, 0, 0, .null), (.getfield 42, 0, 11, .null), (.lload_n 3, 3, 0, .null), (.lxor, 0, 0, .null), (.lstore 7, 7, 0, .null), (.aload_n 0, 0, 0, .null), (.getfield 32, 0, 8, .null), (.lstore 9, 9, 0, .null), (.aload_n 0, 0, 0, .null), (.getfield 36, 0, 9, .null), (.lstore 11, 11, 0, .null), (.lconst 0, 0, 0, .long 0), (.lstore 13, 13, 0, .null), (.lconst 0, 0, 0, .long 0), (.lstore 15, 15, 0, .null), (.iconst 0, 0, 0, .int 0), (.istore 17, 17, 0, .null)]
set_option maxRecDepth 100000 in
theorem cb_15_0 : mChk 15 0 bk_15_0 37 = true := by decide +kernel
def bk_15_37 : List mO := [(.iload 17, 17, 0, .null), (.sipush 128, 0, 0, .int 128), (.if_icmp .ge 87, 129, 0, .null)]
set_option maxRecDepth 100000 in
theorem cb_15_37 : mChk 15 37 bk_15_37 45 = true := by decide +kernel
def bk_15_45 : List mO := [(.lload 5, 5, 0, .null), (.lconst 0, 0, 0, .long 0), (.lcmp, 0, 0, .null), (.ifCond .ge 17, 66, 0, .null)]
set_option maxRecDepth 100000 in
theorem cb_15_45 : mChk 15 45 bk_15_45 52 = true := by decide +kernel
def bk_15_52 : List mO := [(.lload 13, 13, 0, .null), (.lload 9, 9, 0, .null), (.lxor, 0, 0, .null), (.lstore 13, 13, 0, .null), (.lload 15, 15, 0, .null), (.lload 11, 11, 0, .null), (.lxor, 0, 0, .null), (.lstore 15, 15, 0, .null)]
set_option maxRecDepth 100000 in
theorem cb_15_52 : mChk 15 52 bk_15_52 66 = true := by decide +kernel
def bk_15_66 : List mO := [(.lload 5, 5, 0, .null), (.iconst 1, 0, 0, .int 1), (.lshl, 0, 0, .null), (.lload 7, 7, 0, .null), (.bipush 63, 0, 0, .int 63), (.lushr, 0, 0, .null), (.lor, 0, 0, .null), (.lstore 5, 5, 0, .null), (.lload 7, 7, 0, .null), (.iconst 1, 0, 0, .int 1), (.lshl, 0, 0, .null), (.lstore 7, 7, 0, .null), (.lload 11, 11, 0, .null), (.lconst 1, 0, 0, .long 1), (.land, 0, 0, .null), (.lstore 18, 18, 0, .null), (.lload 11, 11, 0, .null), (.iconst 1, 0, 0, .int 1), (.lushr, 0, 0, .null), (.lload 9, 9, 0, .null), (.bipush 63, 0, 0, .int 63), (.lshl, 0, 0, .null), (.lor, 0, 0, .null), (.lstore 11, 11, 0, .null), (.lload 9, 9, 0, .null), (.iconst 1, 0, 0, .int 1), (.lushr, 0, 0, .null), (.lstore 9, 9, 0, .null), (.lload 18, 18, 0, .null), (.lconst 1, 0, 0, .long 1), (.lcmp, 0, 0, .null), (.ifCond .ne 11, 123, 0, .null)]
set_option maxRecDepth 100000 in
theorem cb_15_66 : mChk 15 66 bk_15_66 115 = true := by decide +kernel
def bk_15_115 : List mO := [(.lload 9, 9, 0, .null), (.ldc2_w 113, 0, 0, .long (-2233785415175766016)), (.lxor, 0, 0, .null), (.lstore 9, 9, 0, .null)]
set_option maxRecDepth 100000 in
theorem cb_15_115 : mChk 15 115 bk_15_115 123 = true := by decide +kernel
def bk_15_123 : List mO := [(.iinc 17 1, 17, 0, .int 1), (.goto (-89), 37, 0, .null)]
set_option maxRecDepth 100000 in
theorem cb_15_123 : mChk 15 123 bk_15_123 129 = true := by decide +kernel
def bk_15_129 : List mO := [(.aload_n 0, 0, 0, .null), (.lload 13, 13, 0, .null), (.putfield 39, 0, 10, .long 0), (.aload_n 0, 0, 0, .null), (.lload 15, 15, 0, .null), (.putfield 42, 0, 11, .long 0), (.return_, 0, 0, .null)]
set_option maxRecDepth 100000 in
theorem cb_15_129 : mChk 15 129 bk_15_129 142 = true := by decide +kernel
-- method 75: KeySealer$StreamCipher.<init>()V, locals 1, room (3, 63)
def bk_75_0 : List mO := [(.aload_n 0, 0, 0, .null), (.bipush 64, 0, 0, .int 64), (.invokespecial 1, 16, 1, .int 0), (.aload_n 0, 0, 0, .null), (.bipush 16, 0, 0, .int 16), (.newarray .int, 0, 0, .null), (.putfield 7, 7, 3, .ref 0), (.aload_n 0, 0, 0, .null), (.bipush 16, 0, 0, .int 16), (.newarray .int, 0, 0, .null), (.putfield 13, 7, 4, .ref 0), (.aload_n 0, 0, 0, .null), (.bipush 16, 0, 0, .int 16), (.newarray .int, 0, 0, .null), (.putfield 16, 7, 5, .ref 0), (.aload_n 0, 0, 0, .null), (.iconst 5, 0, 0, .int 5), (.newarray .long, 0, 0, .null), (.putfield 19, 7, 6, .ref 0), (.aload_n 0, 0, 0, .null), (.iconst 5, 0, 0, .int 5), (.newarray .long, 0, 0, .null), (.putfield 23, 7, 7, .ref 0), (.aload_n 0, 0, 0, .null), (.iconst 5, 0, 0, .int 5), (.newarray .long, 0, 0, .null), (.putfield 26, 7, 8, .ref 0), (.return_, 0, 0, .null)]
set_option maxRecDepth 100000 in
theorem cb_75_0 : mChk 75 0 bk_75_0 52 = true := by decide +kernel
-- method 76: KeySealer$StreamCipher.begin(LKeySealer$Row;LKeySealer$Row;)V, locals 4, room (2, 52)
def bk_76_0 : List mO := [(.aload_n 0, 0, 0, .null), (.getfield 7, 7, 3, .null), (.iconst 0, 0, 0, .int 0), (.ldc 29, 0, 0, .int 1634760805), (.iastore, 0, 0, .null), (.aload_n 0, 0, 0, .null), (.getfield 7, 7, 3, .null), (.iconst 1, 0, 0, .int 1), (.ldc 30, 0, 0, .int 857760878), (.iastore, 0, 0, .null), (.aload_n 0, 0, 0, .null), (.getfield 7, 7, 3, .null), (.iconst 2, 0, 0, .int 2), (.ldc 31, 0, 0, .int 2036477234), (.iastore, 0, 0, .null), (.aload_n 0, 0, 0, .null), (.getfield 7, 7, 3, .null), (.iconst 3, 0, 0, .int 3), (.ldc 32, 0, 0, .int 1797285236), (.iastore, 0, 0, .null), (.iconst 0, 0, 0, .int 0), (.istore_n 3, 3, 0, .null)]
set_option maxRecDepth 100000 in
theorem cb_76_0 : mChk 76 0 bk_76_0 34 = true := by decide +kernel
def bk_76_34 : List mO := [(.iload_n 3, 3, 0, .null), (.bipush 8, 0, 0, .int 8), (.if_icmp .ge 24, 61, 0, .null)]
set_option maxRecDepth 100000 in
theorem cb_76_34 : mChk 76 34 bk_76_34 40 = true := by decide +kernel
def bk_76_40 : List mO := [(.aload_n 0, 0, 0, .null), (.getfield 7, 7, 3, .null), (.iconst 4, 0, 0, .int 4), (.iload_n 3, 3, 0, .null), (.iadd, 0, 0, .null), (.aload_n 1, 1, 0, .null), (.iconst 4, 0, 0, .int 4), (.iload_n 3, 3, 0, .null), (.imul, 0, 0, .null), (.invokestatic 33, 81, 2, .null), (.iastore, 0, 0, .null), (.iinc 3 1, 3, 0, .int 1), (.goto (-24), 34, 0, .null)]
set_option maxRecDepth 100000 in
theorem cb_76_40 : mChk 76 40 bk_76_40 61 = true := by decide +kernel
def bk_76_61 : List mO := [(.iconst 0, 0, 0, .int 0), (.istore_n 3, 3, 0, .null)]
set_option maxRecDepth 100000 in
theorem cb_76_61 : mChk 76 61 bk_76_61 63 = true := by decide +kernel
def bk_76_63 : List mO := [(.iload_n 3, 3, 0, .null), (.iconst 3, 0, 0, .int 3), (.if_icmp .ge 25, 90, 0, .null)]
set_option maxRecDepth 100000 in
theorem cb_76_63 : mChk 76 63 bk_76_63 68 = true := by decide +kernel
def bk_76_68 : List mO := [(.aload_n 0, 0, 0, .null), (.getfield 7, 7, 3, .null), (.bipush 13, 0, 0, .int 13), (.iload_n 3, 3, 0, .null), (.iadd, 0, 0, .null), (.aload_n 2, 2, 0, .null), (.iconst 4, 0, 0, .int 4), (.iload_n 3, 3, 0, .null), (.imul, 0, 0, .null), (.invokestatic 33, 81, 2, .null), (.iastore, 0, 0, .null), (.iinc 3 1, 3, 0, .int 1), (.goto (-24), 63, 0, .null)]
set_option maxRecDepth 100000 in
theorem cb_76_68 : mChk 76 68 bk_76_68 90 = true := by decide +kernel
def bk_76_90 : List mO := [(.aload_n 0, 0, 0, .null), (.iconst 0, 0, 0, .int 0), (.invokevirtual 37, 83, 1, .ref 7), (.aload_n 0, 0, 0, .null), (.getfield 40, 7, 0, .null), (.bipush 16, 0, 0, .int 16), (.aload_n 0, 0, 0, .null), (.getfield 16, 7, 5, .null), (.iconst 0, 0, 0, .int 0), (.bipush 16, 0, 0, .int 16), (.invokestatic 43, 9001, 5, .null), (.aload_n 0, 0, 0, .null), (.getfield 40, 7, 0, .null), (.iconst 0, 0, 0, .int 0), (.invokestatic 49, 82, 2, .null), (.ldc2_w 53, 0, 0, .long 1152921487695413247), (.land, 0, 0, .null), (.aload_n 0, 0, 0, .null), (.getfield 40, 7, 0, .null), (.bipush 8, 0, 0, .int 8), (.invokestatic 49, 82, 2, .null), (.ldc2_w 55, 0, 0, .long 1152921487695413244), (.land, 0, 0, .null), (.aload_n 0, 0, 0, .null), (.getfield 19, 7, 6, .null), (.invokestatic 57, 85, 3, .null), (.iconst 0, 0, 0, .int 0), (.istore_n 3, 3, 0, .null)]
set_option maxRecDepth 100000 in
theorem cb_76_90 : mChk 76 90 bk_76_90 145 = true := by decide +kernel
def bk_76_145 : List mO := [(.iload_n 3, 3, 0, .null), (.iconst 5, 0, 0, .int 5), (.if_icmp .ge 16, 163, 0, .null)]
set_option maxRecDepth 100000 in
theorem cb_76_145 : mChk 76 145 bk_76_145 150 = true := by decide +kernel
def bk_76_150 : List mO := [(.aload_n 0, 0, 0, .null), (.getfield 23, 7, 7, .null), (.iload_n 3, 3, 0, .null), (.lconst 0, 0, 0, .long 0), (.lastore, 0, 0, .null), (.iinc 3 1, 3, 0, .int 1), (.goto (-15), 145, 0, .null)]
set_option maxRecDepth 100000 in
theorem cb_76_150 : mChk 76 150 bk_76_150 163 = true := by decide +kernel
def bk_76_163 : List mO := [(.return_, 0, 0, .null)]
set_option maxRecDepth 100000 in
theorem cb_76_163 : mChk 76 163 bk_76_163 164 = true := by decide +kernel
-- method 77: KeySealer$StreamCipher.fillStream(I)V, locals 2, room (2, 52)
def bk_77_0 : List mO := [(.aload_n 0, 0, 0, .null), (.iload_n 1, 1, 0, .null), (.iconst 1, 0, 0, .int 1), (.iadd, 0, 0, .null), (.invokevirtual 37, 83, 1, .ref 7), (.return_, 0, 0, .null)]
set_option maxRecDepth 100000 in
theorem cb_77_0 : mChk 77 0 bk_77_0 8 = true := by decide +kernel
-- method 78: KeySealer$StreamCipher.absorb()V, locals 1, room (2, 54)
def bk_78_0 : List mO := [(.aload_n 0, 0, 0, .null), (.aload_n 0, 0, 0, .null), (.getfield 61, 7, 1, .null), (.iconst 0, 0, 0, .int 0), (.invokestatic 49, 82, 2, .null), (.aload_n 0, 0, 0, .null), (.getfield 61, 7, 1, .null), (.bipush 8, 0, 0, .int 8), (.invokestatic 49, 82, 2, .null), (.invokevirtual 64, 86, 2, .ref 7), (.return_, 0, 0, .null)]
set_option maxRecDepth 100000 in
theorem cb_78_0 : mChk 78 0 bk_78_0 22 = true := by decide +kernel
-- method 79: KeySealer$StreamCipher.absorbLengths(II)V, locals 3, room (2, 54)
def bk_79_0 : List mO := [(.aload_n 0, 0, 0, .null), (.iload_n 1, 1, 0, .null), (.i2l, 0, 0, .null), (.iload_n 2, 2, 0, .null), (.i2l, 0, 0, .null), (.invokevirtual 64, 86, 2, .ref 7), (.return_, 0, 0, .null)]
set_option maxRecDepth 100000 in
theorem cb_79_0 : mChk 79 0 bk_79_0 9 = true := by decide +kernel
-- method 80: KeySealer$StreamCipher.writeTag()V, locals 9, room (2, 51)
def bk_80_0 : List mO := [(.aload_n 0, 0, 0, .null), (.getfield 23, 7, 7, .null), (.invokestatic 68, 87, 1, .null), (.aload_n 0, 0, 0, .null), (.invokevirtual 72, 88, 0, .ref 7), (.aload_n 0, 0, 0, .null), (.getfield 23, 7, 7, .null), (.iconst 0, 0, 0, .int 0), (.laload, 0, 0, .null), (.aload_n 0, 0, 0, .null), (.getfield 23, 7, 7, .null), (.iconst 1, 0, 0, .int 1), (.laload, 0, 0, .null), (.bipush 26, 0, 0, .int 26), (.lshl, 0, 0, .null), (.lor, 0, 0, .null), (.aload_n 0, 0, 0, .null), (.getfield 23, 7, 7, .null), (.iconst 2, 0, 0, .int 2), (.laload, 0, 0, .null), (.bipush 52, 0, 0, .int 52), (.lshl, 0, 0, .null), (.lor, 0, 0, .null), (.lstore_n 1, 1, 0, .null), (.aload_n 0, 0, 0, .null), (.getfield 23, 7, 7, .null), (.iconst 2, 0, 0, .int 2), (.laload, 0, 0, .null), (.bipush 12, 0, 0, .int 12), (.lushr, 0, 0, .null), (.aload_n 0, 0, 0, .null), (.getfield 23, 7, 7, .null), (.iconst 3, 0, 0, .int 3), (.laload, 0, 0, .null), (.bipush 14, 0, 0, .int 14), (.lshl, 0, 0, .null), (.lor, 0, 0, .null), (.aload_n 0, 0, 0, .null), (.getfield 23, 7, 7, .null), (.iconst 4, 0, 0, .int 4), (.laload, 0, 0, .null), (.bipush 40, 0, 0, .int 40), (.lshl, 0, 0, .null), (.lor, 0, 0, .null), (.lstore_n 3, 3, 0, .null), (.aload_n 0, 0, 0, .null), (.getfield 76, 7, 2, .null), (.invokevirtual 80, 63, 0, .ref 6), (.iconst 0, 0, 0, .int 0), (.istore 5, 5, 0, .null), (.iconst 0, 0, 0, .int 0), (.istore 6, 6, 0, .null)]
set_option maxRecDepth 100000 in
theorem cb_80_0 : mChk 80 0 bk_80_0 81 = true := by decide +kernel
def bk_80_81 : List mO := [(.iload 6, 6, 0, .null), (.bipush 16, 0, 0, .int 16), (.if_icmp .ge 68, 153, 0, .null)]
set_option maxRecDepth 100000 in
theorem cb_80_81 : mChk 80 81 bk_80_81 88 = true := by decide +kernel
def bk_80_88 : List mO := [(.iload 6, 6, 0, .null), (.bipush 8, 0, 0, .int 8), (.if_icmp .ge 7, 99, 0, .null)]
set_option maxRecDepth 100000 in
theorem cb_80_88 : mChk 80 88 bk_80_88 95 = true := by decide +kernel
def bk_80_95 : List mO := [(.lload_n 1, 1, 0, .null), (.goto 4, 100, 0, .null)]
set_option maxRecDepth 100000 in
theorem cb_80_95 : mChk 80 95 bk_80_95 99 = true := by decide +kernel
def bk_80_99 : List mO := [(.lload_n 3, 3, 0, .null)]
set_option maxRecDepth 100000 in
theorem cb_80_99 : mChk 80 99 bk_80_99 100 = true := by decide +kernel
def bk_80_100 : List mO := [(.lstore 7, 7, 0, .null), (.iload 5, 5, 0, .null), (.lload 7, 7, 0, .null), (.bipush 8, 0, 0, .int 8), (.iload 6, 6, 0, .null), (.bipush 7, 0, 0, .int 7), (.iand, 0, 0, .null), (.imul, 0, 0, .null), (.lushr, 0, 0, .null), (.ldc2_w 85, 0, 0, .long 255), (.land, 0, 0, .null), (.l2i, 0, 0, .null), (.aload_n 0, 0, 0, .null), (.getfield 16, 7, 5, .null), (.iload 6, 6, 0, .null), (.iaload, 0, 0, .null), (.iadd, 0, 0, .null), (.iadd, 0, 0, .null), (.istore 5, 5, 0, .null), (.aload_n 0, 0, 0, .null), (.getfield 76, 7, 2, .null), (.iload 5, 5, 0, .null), (.invokevirtual 87, 68, 1, .ref 6), (.iload 5, 5, 0, .null), (.bipush 8, 0, 0, .int 8), (.iushr, 0, 0, .null), (.istore 5, 5, 0, .null), (.iinc 6 1, 6, 0, .int 1), (.goto (-69), 81, 0, .null)]
set_option maxRecDepth 100000 in
theorem cb_80_100 : mChk 80 100 bk_80_100 153 = true := by decide +kernel
def bk_80_153 : List mO := [(.return_, 0, 0, .null)]
set_option maxRecDepth 100000 in
theorem cb_80_153 : mChk 80 153 bk_80_153 154 = true := by decide +kernel
-- method 81: KeySealer$StreamCipher.wordOf(LKeySealer$Row;I)I, locals 2, room (1, 21)
def bk_81_0 : List mO := [(.aload_n 0, 0, 0, .null), (.iload_n 1, 1, 0, .null), (.invokevirtual 90, 66, 1, .ref 6), (.aload_n 0, 0, 0, .null), (.iload_n 1, 1, 0, .null), (.iconst 1, 0, 0, .int 1), (.iadd, 0, 0, .null), (.invokevirtual 90, 66, 1, .ref 6), (.bipush 8, 0, 0, .int 8), (.ishl, 0, 0, .null), (.ior, 0, 0, .null), (.aload_n 0, 0, 0, .null), (.iload_n 1, 1, 0, .null), (.iconst 2, 0, 0, .int 2), (.iadd, 0, 0, .null), (.invokevirtual 90, 66, 1, .ref 6), (.bipush 16, 0, 0, .int 16), (.ishl, 0, 0, .null), (.ior, 0, 0, .null), (.aload_n 0, 0, 0, .null), (.iload_n 1, 1, 0, .null), (.iconst 3, 0, 0, .int 3), (.iadd, 0, 0, .null), (.invokevirtual 90, 66, 1, .ref 6), (.bipush 24, 0, 0, .int 24), (.ishl, 0, 0, .null), (.ior, 0, 0, .null), (.ireturn, 0, 0, .int 0)]
set_option maxRecDepth 100000 in
theorem cb_81_0 : mChk 81 0 bk_81_0 39 = true := by decide +kernel
-- method 82: KeySealer$StreamCipher.longOf([II)J, locals 5, room (1, 21)
def bk_82_0 : List mO := [(.lconst 0, 0, 0, .long 0), (.lstore_n 2, 2, 0, .null), (.iload_n 1, 1, 0, .null), (.bipush 7, 0, 0, .int 7), (.iadd, 0, 0, .null), (.aload_n 0, 0, 0, .null), (.arraylength, 0, 0, .null), (.iconst 1, 0, 0, .int 1), (.isub, 0, 0, .null), (.invokestatic 94, 9003, 2, .null), (.istore 4, 4, 0, .null)]
set_option maxRecDepth 100000 in
theorem cb_82_0 : mChk 82 0 bk_82_0 15 = true := by decide +kernel
def bk_82_15 : List mO := [(.iload 4, 4, 0, .null), (.iload_n 1, 1, 0, .null), (.if_icmp .lt 20, 38, 0, .null)]
set_option maxRecDepth 100000 in
theorem cb_82_15 : mChk 82 15 bk_82_15 21 = true := by decide +kernel
def bk_82_21 : List mO := [(.lload_n 2, 2, 0, .null), (.bipush 8, 0, 0, .int 8), (.lshl, 0, 0, .null), (.aload_n 0, 0, 0, .null), (.iload 4, 4, 0, .null), (.iaload, 0, 0, .null), (.i2l, 0, 0, .null), (.lor, 0, 0, .null), (.lstore_n 2, 2, 0, .null), (.iinc 4 (-1), 4, 0, .int (-1)), (.goto (-20), 15, 0, .null)]
set_option maxRecDepth 100000 in
theorem cb_82_21 : mChk 82 21 bk_82_21 38 = true := by decide +kernel
def bk_82_38 : List mO := [(.lload_n 2, 2, 0, .null), (.lreturn, 0, 0, .null)]
set_option maxRecDepth 100000 in
theorem cb_82_38 : mChk 82 38 bk_82_38 40 = true := by decide +kernel

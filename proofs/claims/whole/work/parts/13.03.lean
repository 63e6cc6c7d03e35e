/-! PART 13.03: blocks of code and their checks, printed by program (wip/whole/mk13.py) -/
-- method 83: KeySealer$StreamCipher.fillBlock(I)V, locals 5, room (1, 28)
def bk_83_0 : List mO := [(.aload_n 0, 0, 0, .null), (.getfield 7, 7, 3, .null), (.bipush 12, 0, 0, .int 12), (.iload_n 1, 1, 0, .null), (.iastore, 0, 0, .null), (.aload_n 0, 0, 0, .null), (.getfield 7, 7, 3, .null), (.iconst 0, 0, 0, .int 0), (.aload_n 0, 0, 0, .null), (.getfield 13, 7, 4, .null), (.iconst 0, 0, 0, .int 0), (.bipush 16, 0, 0, .int 16), (.invokestatic 43, 9001, 5, .null), (.iconst 0, 0, 0, .int 0), (.istore_n 2, 2, 0, .null)]
set_option maxRecDepth 100000 in
theorem cb_83_0 : mChk 83 0 bk_83_0 25 = true := by decide +kernel
def bk_83_25 : List mO := [(.iload_n 2, 2, 0, .null), (.bipush 10, 0, 0, .int 10), (.if_icmp .ge 79, 107, 0, .null)]
set_option maxRecDepth 100000 in
theorem cb_83_25 : mChk 83 25 bk_83_25 31 = true := by decide +kernel
def bk_83_31 : List mO := [(.iconst 0, 0, 0, .int 0), (.istore_n 3, 3, 0, .null)]
set_option maxRecDepth 100000 in
theorem cb_83_31 : mChk 83 31 bk_83_31 33 = true := by decide +kernel
def bk_83_33 : List mO := [(.iload_n 3, 3, 0, .null), (.iconst 4, 0, 0, .int 4), (.if_icmp .ge 25, 60, 0, .null)]
set_option maxRecDepth 100000 in
theorem cb_83_33 : mChk 83 33 bk_83_33 38 = true := by decide +kernel
def bk_83_38 : List mO := [(.aload_n 0, 0, 0, .null), (.iload_n 3, 3, 0, .null), (.iconst 4, 0, 0, .int 4), (.iload_n 3, 3, 0, .null), (.iadd, 0, 0, .null), (.bipush 8, 0, 0, .int 8), (.iload_n 3, 3, 0, .null), (.iadd, 0, 0, .null), (.bipush 12, 0, 0, .int 12), (.iload_n 3, 3, 0, .null), (.iadd, 0, 0, .null), (.invokevirtual 100, 84, 4, .ref 7), (.iinc 3 1, 3, 0, .int 1), (.goto (-24), 33, 0, .null)]
set_option maxRecDepth 100000 in
theorem cb_83_38 : mChk 83 38 bk_83_38 60 = true := by decide +kernel
def bk_83_60 : List mO := [(.iconst 0, 0, 0, .int 0), (.istore_n 3, 3, 0, .null)]
set_option maxRecDepth 100000 in
theorem cb_83_60 : mChk 83 60 bk_83_60 62 = true := by decide +kernel
def bk_83_62 : List mO := [(.iload_n 3, 3, 0, .null), (.iconst 4, 0, 0, .int 4), (.if_icmp .ge 37, 101, 0, .null)]
set_option maxRecDepth 100000 in
theorem cb_83_62 : mChk 83 62 bk_83_62 67 = true := by decide +kernel
def bk_83_67 : List mO := [(.aload_n 0, 0, 0, .null), (.iload_n 3, 3, 0, .null), (.iconst 4, 0, 0, .int 4), (.iload_n 3, 3, 0, .null), (.iconst 1, 0, 0, .int 1), (.iadd, 0, 0, .null), (.iconst 3, 0, 0, .int 3), (.iand, 0, 0, .null), (.iadd, 0, 0, .null), (.bipush 8, 0, 0, .int 8), (.iload_n 3, 3, 0, .null), (.iconst 2, 0, 0, .int 2), (.iadd, 0, 0, .null), (.iconst 3, 0, 0, .int 3), (.iand, 0, 0, .null), (.iadd, 0, 0, .null), (.bipush 12, 0, 0, .int 12), (.iload_n 3, 3, 0, .null), (.iconst 3, 0, 0, .int 3), (.iadd, 0, 0, .null), (.iconst 3, 0, 0, .int 3), (.iand, 0, 0, .null), (.iadd, 0, 0, .null), (.invokevirtual 100, 84, 4, .ref 7), (.iinc 3 1, 3, 0, .int 1), (.goto (-36), 62, 0, .null)]
set_option maxRecDepth 100000 in
theorem cb_83_67 : mChk 83 67 bk_83_67 101 = true := by decide +kernel
def bk_83_101 : List mO := [(.iinc 2 1, 2, 0, .int 1), (.goto (-79), 25, 0, .null)]
set_option maxRecDepth 100000 in
theorem cb_83_101 : mChk 83 101 bk_83_101 107 = true := by decide +kernel
def bk_83_107 : List mO := [(.iconst 0, 0, 0, .int 0), (.istore_n 2, 2, 0, .null)]
set_option maxRecDepth 100000 in
theorem cb_83_107 : mChk 83 107 bk_83_107 109 = true := by decide +kernel
def bk_83_109 : List mO := [(.iload_n 2, 2, 0, .null), (.bipush 16, 0, 0, .int 16), (.if_icmp .ge 60, 172, 0, .null)]
set_option maxRecDepth 100000 in
theorem cb_83_109 : mChk 83 109 bk_83_109 115 = true := by decide +kernel
def bk_83_115 : List mO := [(.aload_n 0, 0, 0, .null), (.getfield 13, 7, 4, .null), (.iload_n 2, 2, 0, .null), (.iaload, 0, 0, .null), (.aload_n 0, 0, 0, .null), (.getfield 7, 7, 3, .null), (.iload_n 2, 2, 0, .null), (.iaload, 0, 0, .null), (.iadd, 0, 0, .null), (.istore_n 3, 3, 0, .null), (.iconst 0, 0, 0, .int 0), (.istore 4, 4, 0, .null)]
set_option maxRecDepth 100000 in
theorem cb_83_115 : mChk 83 115 bk_83_115 132 = true := by decide +kernel
def bk_83_132 : List mO := [(.iload 4, 4, 0, .null), (.iconst 4, 0, 0, .int 4), (.if_icmp .ge 31, 166, 0, .null)]
set_option maxRecDepth 100000 in
theorem cb_83_132 : mChk 83 132 bk_83_132 138 = true := by decide +kernel
def bk_83_138 : List mO := [(.aload_n 0, 0, 0, .null), (.getfield 40, 7, 0, .null), (.iconst 4, 0, 0, .int 4), (.iload_n 2, 2, 0, .null), (.imul, 0, 0, .null), (.iload 4, 4, 0, .null), (.iadd, 0, 0, .null), (.iload_n 3, 3, 0, .null), (.bipush 8, 0, 0, .int 8), (.iload 4, 4, 0, .null), (.imul, 0, 0, .null), (.iushr, 0, 0, .null), (.sipush 255, 0, 0, .int 255), (.iand, 0, 0, .null), (.iastore, 0, 0, .null), (.iinc 4 1, 4, 0, .int 1), (.goto (-31), 132, 0, .null)]
set_option maxRecDepth 100000 in
theorem cb_83_138 : mChk 83 138 bk_83_138 166 = true := by decide +kernel
def bk_83_166 : List mO := [(.iinc 2 1, 2, 0, .int 1), (.goto (-60), 109, 0, .null)]
set_option maxRecDepth 100000 in
theorem cb_83_166 : mChk 83 166 bk_83_166 172 = true := by decide +kernel
def bk_83_172 : List mO := [(.return_, 0, 0, .null)]
set_option maxRecDepth 100000 in
theorem cb_83_172 : mChk 83 172 bk_83_172 173 = true := by decide +kernel
-- method 84: KeySealer$StreamCipher.quarter(IIII)V, locals 9, room (0, 0)
def bk_84_0 : List mO := [(.aload_n 0, 0, 0, .null), (.getfield 13, 7, 4, .null), (.iload_n 1, 1, 0, .null), (.iaload, 0, 0, .null), (.istore 5, 5, 0, .null), (.aload_n 0, 0, 0, .null), (.getfield 13, 7, 4, .null), (.iload_n 2, 2, 0, .null), (.iaload, 0, 0, .null), (.istore 6, 6, 0, .null), (.aload_n 0, 0, 0, .null), (.getfield 13, 7, 4, .null), (.iload_n 3, 3, 0, .null), (.iaload, 0, 0, .null), (.istore 7, 7, 0, .null), (.aload_n 0, 0, 0, .null), (.getfield 13, 7, 4, .null), (.iload 4, 4, 0, .null), (.iaload, 0, 0, .null), (.istore 8, 8, 0, .null), (.iload 5, 5, 0, .null), (.iload 6, 6, 0, .null), (.iadd, 0, 0, .null), (.istore 5, 5, 0, .null), (.iload 8, 8, 0, .null), (.iload 5, 5, 0, .null), (.ixor, 0, 0, .null), (.istore 8, 8, 0, .null), (.iload 8, 8, 0, .null), (.bipush 16, 0, 0, .int 16), (.ishl, 0, 0, .null), (.iload 8, 8, 0, .null), (.bipush 16, 0, 0, .int 16), (.iushr, 0, 0, .null), (.ior, 0, 0, .null), (.istore 8, 8, 0, .null), (.iload 7, 7, 0, .null), (.iload 8, 8, 0, .null), (.iadd, 0, 0, .null), (.istore 7, 7, 0, .null), (.iload 6, 6, 0, .null), (.iload 7, 7, 0, .null), (.ixor, 0, 0, .null), (.istore 6, 6, 0, .null), (.iload 6, 6, 0, .null), (.bipush 12, 0, 0, .int 12), (.ishl, 0, 0, .null), (.iload 6, 6, 0, .null), (.bipush 20, 0, 0, .int 20), (.iushr, 0, 0, .null), (.ior, 0, 0, .null), (.istore 6, 6, 0, .null), (.iload 5, 5, 0, .null), (.iload 6, 6, 0, .null), (.iadd, 0, 0, .null), (.istore 5, 5, 0, .null), (.iload 8, 8, 0, .null), (.iload 5, 5, 0, .null), (.ixor, 0, 0, .null), (.istore 8, 8, 0, .null), (.iload 8, 8, 0, .null), (.bipush 8, 0, 0, .int 8), (.ishl, 0, 0, .null), (.iload 8, 8, 0, .null), (.bipush 24, 0, 0, .int 24), (.iushr, 0, 0, .null), (.ior, 0, 0, .null), (.istore 8, 8, 0, .null), (.iload 7, 7, 0, .null), (.iload 8, 8, 0, .null), (.iadd, 0, 0, .null), (.istore 7, 7, 0, .null), (.iload 6, 6, 0, .null), (.iload 7, 7, 0, .null), (.ixor, 0, 0, .null), (.istore 6, 6, 0, .null), (.iload 6, 6, 0, .null), (.bipush 7, 0, 0, .int 7), (.ishl, 0, 0, .null), (.iload 6, 6, 0, .null), (.bipush 25, 0, 0, .int 25), (.iushr, 0, 0, .null), (.ior, 0, 0, .null), (.istore 6, 6, 0, .null), (.aload_n 0, 0, 0, .null), (.getfield 13, 7, 4, .null), (.iload_n 1, 1, 0, .null), (.iload 5, 5, 0, .null), (.iastore, 0, 0, .null), (.aload_n 0, 0, 0, .null), (.getfield 13, 7, 4, .null), (.iload_n 2, 2, 0, .null), (.iload 6, 6, 0, .null), (.iastore, 0, 0, .null), (.aload_n 0, 0, 0, .null), (.getfield 13, 7, 4, .null), (.iload_n 3, 3, 0, .null), (.iload 7, 7, 0, .null), (.iastore, 0, 0, .null), (.aload_n 0, 0, 0, .null), (.getfield 13, 7, 4, .null), (.iload 4, 4, 0, .null), (.iload 8, 8, 0, .null), (.iastore, 0, 0, .null), (.return_, 0, 0, .null)]
set_option maxRecDepth 100000 in
theorem cb_84_0 : mChk 84 0 bk_84_0 175 = true := by decide +kernel
-- method 85: KeySealer$StreamCipher.split(JJ[J)V, locals 5, room (0, 0)
def bk_85_0 : List mO := [(.aload 4, 4, 0, .null), (.iconst 0, 0, 0, .int 0), (.lload_n 0, 0, 0, .null), (.ldc2_w 104, 0, 0, .long 67108863), (.land, 0, 0, .null), (.lastore, 0, 0, .null), (.aload 4, 4, 0, .null), (.iconst 1, 0, 0, .int 1), (.lload_n 0, 0, 0, .null), (.bipush 26, 0, 0, .int 26), (.lushr, 0, 0, .null), (.ldc2_w 104, 0, 0, .long 67108863), (.land, 0, 0, .null), (.lastore, 0, 0, .null), (.aload 4, 4, 0, .null), (.iconst 2, 0, 0, .int 2), (.lload_n 0, 0, 0, .null), (.bipush 52, 0, 0, .int 52), (.lushr, 0, 0, .null), (.lload_n 2, 2, 0, .null), (.bipush 12, 0, 0, .int 12), (.lshl, 0, 0, .null), (.lor, 0, 0, .null), (.ldc2_w 104, 0, 0, .long 67108863), (.land, 0, 0, .null), (.lastore, 0, 0, .null), (.aload 4, 4, 0, .null), (.iconst 3, 0, 0, .int 3), (.lload_n 2, 2, 0, .null), (.bipush 14, 0, 0, .int 14), (.lushr, 0, 0, .null), (.ldc2_w 104, 0, 0, .long 67108863), (.land, 0, 0, .null), (.lastore, 0, 0, .null), (.aload 4, 4, 0, .null), (.iconst 4, 0, 0, .int 4), (.lload_n 2, 2, 0, .null), (.bipush 40, 0, 0, .int 40), (.lushr, 0, 0, .null), (.lastore, 0, 0, .null), (.return_, 0, 0, .null)]
set_option maxRecDepth 100000 in
theorem cb_85_0 : mChk 85 0 bk_85_0 59 = true := by decide +kernel
-- method 86: KeySealer$StreamCipher.multiply(JJ)V, locals 9, room (1, 26)
def bk_86_0 : List mO := [(.lload_n 1, 1, 0, .null), (.lload_n 3, 3, 0, .null), (.aload_n 0, 0, 0, .null), (.getfield 26, 7, 8, .null), (.invokestatic 57, 85, 3, .null), (.iconst 0, 0, 0, .int 0), (.istore 5, 5, 0, .null)]
set_option maxRecDepth 100000 in
theorem cb_86_0 : mChk 86 0 bk_86_0 12 = true := by decide +kernel
def bk_86_12 : List mO := [(.iload 5, 5, 0, .null), (.iconst 5, 0, 0, .int 5), (.if_icmp .ge 26, 41, 0, .null)]
set_option maxRecDepth 100000 in
theorem cb_86_12 : mChk 86 12 bk_86_12 18 = true := by decide +kernel
def bk_86_18 : List mO := [(.aload_n 0, 0, 0, .null), (.getfield 23, 7, 7, .null), (.iload 5, 5, 0, .null), (.dup2, 0, 0, .null), (.laload, 0, 0, .null), (.aload_n 0, 0, 0, .null), (.getfield 26, 7, 8, .null), (.iload 5, 5, 0, .null), (.laload, 0, 0, .null), (.ladd, 0, 0, .null), (.lastore, 0, 0, .null), (.iinc 5 1, 5, 0, .int 1), (.goto (-26), 12, 0, .null)]
set_option maxRecDepth 100000 in
theorem cb_86_18 : mChk 86 18 bk_86_18 41 = true := by decide +kernel
def bk_86_41 : List mO := [(.aload_n 0, 0, 0, .null), (.getfield 23, 7, 7, .null), (.iconst 4, 0, 0, .int 4), (.dup2, 0, 0, .null), (.laload, 0, 0, .null), (.ldc2_w 106, 0, 0, .long 16777216), (.ladd, 0, 0, .null), (.lastore, 0, 0, .null), (.iconst 0, 0, 0, .int 0), (.istore 5, 5, 0, .null)]
set_option maxRecDepth 100000 in
theorem cb_86_41 : mChk 86 41 bk_86_41 56 = true := by decide +kernel
def bk_86_56 : List mO := [(.iload 5, 5, 0, .null), (.iconst 5, 0, 0, .int 5), (.if_icmp .ge 93, 152, 0, .null)]
set_option maxRecDepth 100000 in
theorem cb_86_56 : mChk 86 56 bk_86_56 62 = true := by decide +kernel
def bk_86_62 : List mO := [(.lconst 0, 0, 0, .long 0), (.lstore 6, 6, 0, .null), (.iconst 0, 0, 0, .int 0), (.istore 8, 8, 0, .null)]
set_option maxRecDepth 100000 in
theorem cb_86_62 : mChk 86 62 bk_86_62 68 = true := by decide +kernel
def bk_86_68 : List mO := [(.iload 8, 8, 0, .null), (.iconst 5, 0, 0, .int 5), (.if_icmp .ge 66, 137, 0, .null)]
set_option maxRecDepth 100000 in
theorem cb_86_68 : mChk 86 68 bk_86_68 74 = true := by decide +kernel
def bk_86_74 : List mO := [(.lload 6, 6, 0, .null), (.iload 8, 8, 0, .null), (.iload 5, 5, 0, .null), (.if_icmp .gt 24, 104, 0, .null)]
set_option maxRecDepth 100000 in
theorem cb_86_74 : mChk 86 74 bk_86_74 83 = true := by decide +kernel
def bk_86_83 : List mO := [(.aload_n 0, 0, 0, .null), (.getfield 23, 7, 7, .null), (.iload 8, 8, 0, .null), (.laload, 0, 0, .null), (.aload_n 0, 0, 0, .null), (.getfield 19, 7, 6, .null), (.iload 5, 5, 0, .null), (.iload 8, 8, 0, .null), (.isub, 0, 0, .null), (.laload, 0, 0, .null), (.lmul, 0, 0, .null), (.goto 27, 128, 0, .null)]
set_option maxRecDepth 100000 in
theorem cb_86_83 : mChk 86 83 bk_86_83 104 = true := by decide +kernel
def bk_86_104 : List mO := [(.aload_n 0, 0, 0, .null), (.getfield 23, 7, 7, .null), (.iload 8, 8, 0, .null), (.laload, 0, 0, .null), (.ldc2_w 108, 0, 0, .long 5), (.lmul, 0, 0, .null), (.aload_n 0, 0, 0, .null), (.getfield 19, 7, 6, .null), (.iconst 5, 0, 0, .int 5), (.iload 5, 5, 0, .null), (.iadd, 0, 0, .null), (.iload 8, 8, 0, .null), (.isub, 0, 0, .null), (.laload, 0, 0, .null), (.lmul, 0, 0, .null)]
set_option maxRecDepth 100000 in
theorem cb_86_104 : mChk 86 104 bk_86_104 128 = true := by decide +kernel
def bk_86_128 : List mO := [(.ladd, 0, 0, .null), (.lstore 6, 6, 0, .null), (.iinc 8 1, 8, 0, .int 1), (.goto (-66), 68, 0, .null)]
set_option maxRecDepth 100000 in
theorem cb_86_128 : mChk 86 128 bk_86_128 137 = true := by decide +kernel
def bk_86_137 : List mO := [(.aload_n 0, 0, 0, .null), (.getfield 26, 7, 8, .null), (.iload 5, 5, 0, .null), (.lload 6, 6, 0, .null), (.lastore, 0, 0, .null), (.iinc 5 1, 5, 0, .int 1), (.goto (-93), 56, 0, .null)]
set_option maxRecDepth 100000 in
theorem cb_86_137 : mChk 86 137 bk_86_137 152 = true := by decide +kernel
def bk_86_152 : List mO := [(.aload_n 0, 0, 0, .null), (.getfield 26, 7, 8, .null), (.invokestatic 68, 87, 1, .null), (.aload_n 0, 0, 0, .null), (.getfield 26, 7, 8, .null), (.iconst 0, 0, 0, .int 0), (.aload_n 0, 0, 0, .null), (.getfield 23, 7, 7, .null), (.iconst 0, 0, 0, .int 0), (.iconst 5, 0, 0, .int 5), (.invokestatic 43, 9001, 5, .null), (.return_, 0, 0, .null)]
set_option maxRecDepth 100000 in
theorem cb_86_152 : mChk 86 152 bk_86_152 174 = true := by decide +kernel
-- method 87: KeySealer$StreamCipher.carry([J)V, locals 6, room (0, 0)
def bk_87_0 : List mO := [(.lconst 0, 0, 0, .long 0), (.lstore_n 1, 1, 0, .null), (.iconst 0, 0, 0, .int 0), (.istore_n 3, 3, 0, .null)]
set_option maxRecDepth 100000 in
theorem cb_87_0 : mChk 87 0 bk_87_0 4 = true := by decide +kernel
def bk_87_4 : List mO := [(.iload_n 3, 3, 0, .null), (.iconst 5, 0, 0, .int 5), (.if_icmp .ge 31, 37, 0, .null)]
set_option maxRecDepth 100000 in
theorem cb_87_4 : mChk 87 4 bk_87_4 9 = true := by decide +kernel
def bk_87_9 : List mO := [(.aload_n 0, 0, 0, .null), (.iload_n 3, 3, 0, .null), (.laload, 0, 0, .null), (.lload_n 1, 1, 0, .null), (.ladd, 0, 0, .null), (.lstore 4, 4, 0, .null), (.lload 4, 4, 0, .null), (.bipush 26, 0, 0, .int 26), (.lushr, 0, 0, .null), (.lstore_n 1, 1, 0, .null), (.aload_n 0, 0, 0, .null), (.iload_n 3, 3, 0, .null), (.lload 4, 4, 0, .null), (.ldc2_w 104, 0, 0, .long 67108863), (.land, 0, 0, .null), (.lastore, 0, 0, .null), (.iinc 3 1, 3, 0, .int 1), (.goto (-30), 4, 0, .null)]
set_option maxRecDepth 100000 in
theorem cb_87_9 : mChk 87 9 bk_87_9 37 = true := by decide +kernel
def bk_87_37 : List mO := [(.aload_n 0, 0, 0, .null), (.iconst 0, 0, 0, .int 0), (.laload, 0, 0, .null), (.ldc2_w 108, 0, 0, .long 5), (.lload_n 1, 1, 0, .null), (.lmul, 0, 0, .null), (.ladd, 0, 0, .null), (.lstore_n 3, 3, 0, .null), (.aload_n 0, 0, 0, .null), (.iconst 0, 0, 0, .int 0), (.lload_n 3, 3, 0, .null), (.ldc2_w 104, 0, 0, .long 67108863), (.land, 0, 0, .null), (.lastore, 0, 0, .null), (.aload_n 0, 0, 0, .null), (.iconst 1, 0, 0, .int 1), (.dup2, 0, 0, .null), (.laload, 0, 0, .null), (.lload_n 3, 3, 0, .null), (.bipush 26, 0, 0, .int 26), (.lushr, 0, 0, .null), (.ladd, 0, 0, .null), (.lastore, 0, 0, .null), (.return_, 0, 0, .null)]
set_option maxRecDepth 100000 in
theorem cb_87_37 : mChk 87 37 bk_87_37 66 = true := by decide +kernel
-- method 88: KeySealer$StreamCipher.reduce()V, locals 6, room (1, 26)
def bk_88_0 : List mO := [(.ldc2_w 108, 0, 0, .long 5), (.lstore_n 1, 1, 0, .null), (.iconst 0, 0, 0, .int 0), (.istore_n 3, 3, 0, .null)]
set_option maxRecDepth 100000 in
theorem cb_88_0 : mChk 88 0 bk_88_0 6 = true := by decide +kernel
def bk_88_6 : List mO := [(.iload_n 3, 3, 0, .null), (.iconst 5, 0, 0, .int 5), (.if_icmp .ge 37, 45, 0, .null)]
set_option maxRecDepth 100000 in
theorem cb_88_6 : mChk 88 6 bk_88_6 11 = true := by decide +kernel
def bk_88_11 : List mO := [(.aload_n 0, 0, 0, .null), (.getfield 23, 7, 7, .null), (.iload_n 3, 3, 0, .null), (.laload, 0, 0, .null), (.lload_n 1, 1, 0, .null), (.ladd, 0, 0, .null), (.lstore 4, 4, 0, .null), (.lload 4, 4, 0, .null), (.bipush 26, 0, 0, .int 26), (.lushr, 0, 0, .null), (.lstore_n 1, 1, 0, .null), (.aload_n 0, 0, 0, .null), (.getfield 26, 7, 8, .null), (.iload_n 3, 3, 0, .null), (.lload 4, 4, 0, .null), (.ldc2_w 104, 0, 0, .long 67108863), (.land, 0, 0, .null), (.lastore, 0, 0, .null), (.iinc 3 1, 3, 0, .int 1), (.goto (-36), 6, 0, .null)]
set_option maxRecDepth 100000 in
theorem cb_88_11 : mChk 88 11 bk_88_11 45 = true := by decide +kernel
def bk_88_45 : List mO := [(.lload_n 1, 1, 0, .null), (.lconst 0, 0, 0, .long 0), (.lcmp, 0, 0, .null), (.ifCond .le 17, 65, 0, .null)]
set_option maxRecDepth 100000 in
theorem cb_88_45 : mChk 88 45 bk_88_45 51 = true := by decide +kernel
def bk_88_51 : List mO := [(.aload_n 0, 0, 0, .null), (.getfield 26, 7, 8, .null), (.iconst 0, 0, 0, .int 0), (.aload_n 0, 0, 0, .null), (.getfield 23, 7, 7, .null), (.iconst 0, 0, 0, .int 0), (.iconst 5, 0, 0, .int 5), (.invokestatic 43, 9001, 5, .null)]
set_option maxRecDepth 100000 in
theorem cb_88_51 : mChk 88 51 bk_88_51 65 = true := by decide +kernel
def bk_88_65 : List mO := [(.return_, 0, 0, .null)]
set_option maxRecDepth 100000 in
theorem cb_88_65 : mChk 88 65 bk_88_65 66 = true := by decide +kernel
-- method 89: KeySealer.<init>()V, locals 2, room (4, 83)
def bk_89_0 : List mO := [(.aload_n 0, 0, 0, .null), (.invokespecial 1, 9000, 0, .null), (.aload_n 0, 0, 0, .null), (.bipush 16, 0, 0, .int 16), (.anewarray 9, 6, 0, .null), (.putfield 11, 8, 0, .ref 0), (.aload_n 0, 0, 0, .null), (.iconst 4, 0, 0, .int 4), (.anewarray 15, 1, 0, .null), (.putfield 17, 8, 1, .ref 0), (.aload_n 0, 0, 0, .null), (.iconst 5, 0, 0, .int 5), (.newarray .int, 0, 0, .null), (.putfield 21, 8, 2, .ref 0), (.aload_n 0, 0, 0, .null), (.new 25, 5, 4, .null), (.dup, 0, 0, .null), (.invokespecial 27, 56, 0, .int 1), (.putfield 28, 8, 3, .ref 0), (.aload_n 0, 0, 0, .null), (.new 32, 2, 11, .null), (.dup, 0, 0, .null), (.invokespecial 34, 28, 0, .int 1), (.putfield 35, 8, 4, .ref 0), (.aload_n 0, 0, 0, .null), (.new 39, 0, 12, .null), (.dup, 0, 0, .null), (.invokespecial 41, 0, 0, .int 0), (.putfield 42, 8, 5, .ref 0), (.aload_n 0, 0, 0, .null), (.new 46, 7, 9, .null), (.dup, 0, 0, .null), (.invokespecial 48, 75, 0, .int 0), (.putfield 49, 8, 6, .ref 0), (.aload_n 0, 0, 0, .null), (.new 9, 6, 2, .null), (.dup, 0, 0, .null), (.iconst 0, 0, 0, .int 0), (.invokespecial 53, 62, 1, .int 0), (.putfield 56, 8, 7, .ref 0), (.aload_n 0, 0, 0, .null), (.new 9, 6, 2, .null), (.dup, 0, 0, .null), (.sipush 300, 0, 0, .int 300), (.invokespecial 53, 62, 1, .int 0), (.putfield 60, 8, 8, .ref 0), (.aload_n 0, 0, 0, .null), (.new 9, 6, 2, .null), (.dup, 0, 0, .null), (.bipush 12, 0, 0, .int 12), (.invokespecial 53, 62, 1, .int 0), (.putfield 63, 8, 9, .ref 0), (.aload_n 0, 0, 0, .null), (.new 9, 6, 2, .null), (.dup, 0, 0, .null), (.bipush 64, 0, 0, .int 64), (.invokespecial 53, 62, 1, .int 0), (.putfield 66, 8, 10, .ref 0), (.aload_n 0, 0, 0, .null), (.new 9, 6, 2, .null), (.dup, 0, 0, .null), (.bipush 96, 0, 0, .int 96), (.invokespecial 53, 62, 1, .int 0), (.putfield 69, 8, 11, .ref 0), (.aload_n 0, 0, 0, .null), (.new 9, 6, 2, .null), (.dup, 0, 0, .null), (.bipush 64, 0, 0, .int 64), (.invokespecial 53, 62, 1, .int 0), (.putfield 72, 8, 12, .ref 0), (.aload_n 0, 0, 0, .null), (.new 9, 6, 2, .null), (.dup, 0, 0, .null), (.bipush 32, 0, 0, .int 32), (.invokespecial 53, 62, 1, .int 0), (.putfield 75, 8, 13, .ref 0), (.aload_n 0, 0, 0, .null), (.new 9, 6, 2, .null), (.dup, 0, 0, .null), (.sipush 129, 0, 0, .int 129), (.invokespecial 53, 62, 1, .int 0), (.putfield 78, 8, 14, .ref 0), (.iconst 0, 0, 0, .int 0), (.istore_n 1, 1, 0, .null)]
set_option maxRecDepth 100000 in
theorem cb_89_0 : mChk 89 0 bk_89_0 179 = true := by decide +kernel
def bk_89_179 : List mO := [(.iload_n 1, 1, 0, .null), (.bipush 16, 0, 0, .int 16), (.if_icmp .ge 25, 207, 0, .null)]
set_option maxRecDepth 100000 in
theorem cb_89_179 : mChk 89 179 bk_89_179 185 = true := by decide +kernel
def bk_89_185 : List mO := [(.aload_n 0, 0, 0, .null), (.getfield 11, 8, 0, .null), (.iload_n 1, 1, 0, .null), (.new 9, 6, 2, .null), (.dup, 0, 0, .null), (.sipush 300, 0, 0, .int 300), (.invokespecial 53, 62, 1, .int 0), (.aastore, 0, 0, .null), (.iinc 1 1, 1, 0, .int 1), (.goto (-25), 179, 0, .null)]
set_option maxRecDepth 100000 in
theorem cb_89_185 : mChk 89 185 bk_89_185 207 = true := by decide +kernel
def bk_89_207 : List mO := [(.iconst 0, 0, 0, .int 0), (.istore_n 1, 1, 0, .null)]
set_option maxRecDepth 100000 in
theorem cb_89_207 : mChk 89 207 bk_89_207 209 = true := by decide +kernel
def bk_89_209 : List mO := [(.iload_n 1, 1, 0, .null), (.iconst 4, 0, 0, .int 4), (.if_icmp .ge 22, 233, 0, .null)]
set_option maxRecDepth 100000 in
theorem cb_89_209 : mChk 89 209 bk_89_209 214 = true := by decide +kernel
def bk_89_214 : List mO := [(.aload_n 0, 0, 0, .null), (.getfield 17, 8, 1, .null), (.iload_n 1, 1, 0, .null), (.new 15, 1, 10, .null), (.dup, 0, 0, .null), (.invokespecial 81, 22, 0, .int 1), (.aastore, 0, 0, .null), (.iinc 1 1, 1, 0, .int 1), (.goto (-21), 209, 0, .null)]
set_option maxRecDepth 100000 in
theorem cb_89_214 : mChk 89 214 bk_89_214 233 = true := by decide +kernel
def bk_89_233 : List mO := [(.iconst 0, 0, 0, .int 0), (.istore_n 1, 1, 0, .null)]
set_option maxRecDepth 100000 in
theorem cb_89_233 : mChk 89 233 bk_89_233 235 = true := by decide +kernel
def bk_89_235 : List mO := [(.iload_n 1, 1, 0, .null), (.iconst 5, 0, 0, .int 5), (.if_icmp .ge 16, 253, 0, .null)]
set_option maxRecDepth 100000 in
theorem cb_89_235 : mChk 89 235 bk_89_235 240 = true := by decide +kernel
def bk_89_240 : List mO := [(.aload_n 0, 0, 0, .null), (.getfield 21, 8, 2, .null), (.iload_n 1, 1, 0, .null), (.iconst (-1), 0, 0, .int (-1)), (.iastore, 0, 0, .null), (.iinc 1 1, 1, 0, .int 1), (.goto (-15), 235, 0, .null)]
set_option maxRecDepth 100000 in
theorem cb_89_240 : mChk 89 240 bk_89_240 253 = true := by decide +kernel
def bk_89_253 : List mO := [(.return_, 0, 0, .null)]
set_option maxRecDepth 100000 in
theorem cb_89_253 : mChk 89 253 bk_89_253 254 = true := by decide +kernel
-- method 90: KeySealer.add(IIJ)I, locals 6, room (2, 45)
def bk_90_0 : List mO := [(.iload_n 1, 1, 0, .null), (.invokestatic 82, 114, 1, .null), (.ifCond .eq 14, 18, 0, .null)]
set_option maxRecDepth 100000 in
theorem cb_90_0 : mChk 90 0 bk_90_0 7 = true := by decide +kernel
def bk_90_7 : List mO := [(.iload_n 2, 2, 0, .null), (.iconst 1, 0, 0, .int 1), (.if_icmp .lt 9, 18, 0, .null)]
set_option maxRecDepth 100000 in
theorem cb_90_7 : mChk 90 7 bk_90_7 12 = true := by decide +kernel
def bk_90_12 : List mO := [(.iload_n 2, 2, 0, .null), (.bipush 8, 0, 0, .int 8), (.if_icmp .le 6, 21, 0, .null)]
set_option maxRecDepth 100000 in
theorem cb_90_12 : mChk 90 12 bk_90_12 18 = true := by decide +kernel
def bk_90_18 : List mO := [(.bipush (-2), 0, 0, .int (-2)), (.ireturn, 0, 0, .int 0)]
set_option maxRecDepth 100000 in
theorem cb_90_18 : mChk 90 18 bk_90_18 21 = true := by decide +kernel
def bk_90_21 : List mO := [(.aload_n 0, 0, 0, .null), (.getfield 11, 8, 0, .null), (.iload_n 1, 1, 0, .null), (.aaload, 0, 0, .null), (.astore 5, 5, 0, .null), (.aload 5, 5, 0, .null), (.iload_n 2, 2, 0, .null), (.invokevirtual 86, 64, 1, .ref 6), (.ifCond .ne 6, 41, 0, .null)]
set_option maxRecDepth 100000 in
theorem cb_90_21 : mChk 90 21 bk_90_21 38 = true := by decide +kernel
def bk_90_38 : List mO := [(.bipush (-3), 0, 0, .int (-3)), (.ireturn, 0, 0, .int 0)]
set_option maxRecDepth 100000 in
theorem cb_90_38 : mChk 90 38 bk_90_38 41 = true := by decide +kernel
def bk_90_41 : List mO := [(.aload 5, 5, 0, .null), (.lload_n 3, 3, 0, .null), (.iload_n 2, 2, 0, .null), (.invokevirtual 89, 69, 2, .ref 6), (.aload 5, 5, 0, .null), (.getfield 93, 6, 1, .null), (.ireturn, 0, 0, .int 0)]
set_option maxRecDepth 100000 in
theorem cb_90_41 : mChk 90 41 bk_90_41 54 = true := by decide +kernel
-- method 91: KeySealer.clear(I)I, locals 3, room (1, 20)
def bk_91_0 : List mO := [(.iload_n 1, 1, 0, .null), (.invokestatic 82, 114, 1, .null), (.ifCond .ne 6, 10, 0, .null)]
set_option maxRecDepth 100000 in
theorem cb_91_0 : mChk 91 0 bk_91_0 7 = true := by decide +kernel
def bk_91_7 : List mO := [(.bipush (-2), 0, 0, .int (-2)), (.ireturn, 0, 0, .int 0)]
set_option maxRecDepth 100000 in
theorem cb_91_7 : mChk 91 7 bk_91_7 10 = true := by decide +kernel
def bk_91_10 : List mO := [(.aload_n 0, 0, 0, .null), (.getfield 11, 8, 0, .null), (.iload_n 1, 1, 0, .null), (.aaload, 0, 0, .null), (.getfield 93, 6, 1, .null), (.istore_n 2, 2, 0, .null), (.aload_n 0, 0, 0, .null), (.getfield 11, 8, 0, .null), (.iload_n 1, 1, 0, .null), (.aaload, 0, 0, .null), (.invokevirtual 97, 63, 0, .ref 6), (.iload_n 2, 2, 0, .null), (.ireturn, 0, 0, .int 0)]
set_option maxRecDepth 100000 in
theorem cb_91_10 : mChk 91 10 bk_91_10 31 = true := by decide +kernel
-- method 92: KeySealer.copy(IIII)I, locals 5, room (4, 92)
def bk_92_0 : List mO := [(.iload_n 1, 1, 0, .null), (.invokestatic 82, 114, 1, .null), (.ifCond .eq 25, 29, 0, .null)]
set_option maxRecDepth 100000 in
theorem cb_92_0 : mChk 92 0 bk_92_0 7 = true := by decide +kernel
def bk_92_7 : List mO := [(.iload_n 2, 2, 0, .null), (.invokestatic 82, 114, 1, .null), (.ifCond .eq 18, 29, 0, .null)]
set_option maxRecDepth 100000 in
theorem cb_92_7 : mChk 92 7 bk_92_7 14 = true := by decide +kernel
def bk_92_14 : List mO := [(.aload_n 0, 0, 0, .null), (.getfield 11, 8, 0, .null), (.iload_n 2, 2, 0, .null), (.aaload, 0, 0, .null), (.iload_n 3, 3, 0, .null), (.iload 4, 4, 0, .null), (.invokevirtual 100, 65, 2, .ref 6), (.ifCond .ne 6, 32, 0, .null)]
set_option maxRecDepth 100000 in
theorem cb_92_14 : mChk 92 14 bk_92_14 29 = true := by decide +kernel
def bk_92_29 : List mO := [(.bipush (-2), 0, 0, .int (-2)), (.ireturn, 0, 0, .int 0)]
set_option maxRecDepth 100000 in
theorem cb_92_29 : mChk 92 29 bk_92_29 32 = true := by decide +kernel
def bk_92_32 : List mO := [(.aload_n 0, 0, 0, .null), (.getfield 60, 8, 8, .null), (.invokevirtual 97, 63, 0, .ref 6), (.aload_n 0, 0, 0, .null), (.getfield 60, 8, 8, .null), (.aload_n 0, 0, 0, .null), (.getfield 11, 8, 0, .null), (.iload_n 2, 2, 0, .null), (.aaload, 0, 0, .null), (.iload_n 3, 3, 0, .null), (.iload 4, 4, 0, .null), (.invokevirtual 104, 71, 3, .ref 6), (.aload_n 0, 0, 0, .null), (.iload_n 1, 1, 0, .null), (.invokevirtual 108, 130, 1, .ref 8), (.ireturn, 0, 0, .int 0)]
set_option maxRecDepth 100000 in
theorem cb_92_32 : mChk 92 32 bk_92_32 61 = true := by decide +kernel
-- method 93: KeySealer.join(II)I, locals 3, room (3, 71)
def bk_93_0 : List mO := [(.iload_n 1, 1, 0, .null), (.invokestatic 82, 114, 1, .null), (.ifCond .eq 10, 14, 0, .null)]
set_option maxRecDepth 100000 in
theorem cb_93_0 : mChk 93 0 bk_93_0 7 = true := by decide +kernel
def bk_93_7 : List mO := [(.iload_n 2, 2, 0, .null), (.invokestatic 82, 114, 1, .null), (.ifCond .ne 6, 17, 0, .null)]
set_option maxRecDepth 100000 in
theorem cb_93_7 : mChk 93 7 bk_93_7 14 = true := by decide +kernel
def bk_93_14 : List mO := [(.bipush (-2), 0, 0, .int (-2)), (.ireturn, 0, 0, .int 0)]
set_option maxRecDepth 100000 in
theorem cb_93_14 : mChk 93 14 bk_93_14 17 = true := by decide +kernel
def bk_93_17 : List mO := [(.aload_n 0, 0, 0, .null), (.getfield 11, 8, 0, .null), (.iload_n 1, 1, 0, .null), (.aaload, 0, 0, .null), (.aload_n 0, 0, 0, .null), (.getfield 11, 8, 0, .null), (.iload_n 2, 2, 0, .null), (.aaload, 0, 0, .null), (.getfield 93, 6, 1, .null), (.invokevirtual 86, 64, 1, .ref 6), (.ifCond .ne 6, 41, 0, .null)]
set_option maxRecDepth 100000 in
theorem cb_93_17 : mChk 93 17 bk_93_17 38 = true := by decide +kernel
def bk_93_38 : List mO := [(.bipush (-3), 0, 0, .int (-3)), (.ireturn, 0, 0, .int 0)]
set_option maxRecDepth 100000 in
theorem cb_93_38 : mChk 93 38 bk_93_38 41 = true := by decide +kernel
def bk_93_41 : List mO := [(.aload_n 0, 0, 0, .null), (.getfield 11, 8, 0, .null), (.iload_n 1, 1, 0, .null), (.aaload, 0, 0, .null), (.aload_n 0, 0, 0, .null), (.getfield 11, 8, 0, .null), (.iload_n 2, 2, 0, .null), (.aaload, 0, 0, .null), (.invokevirtual 112, 72, 1, .ref 6), (.aload_n 0, 0, 0, .null), (.getfield 11, 8, 0, .null), (.iload_n 1, 1, 0, .null), (.aaload, 0, 0, .null), (.getfield 93, 6, 1, .null), (.ireturn, 0, 0, .int 0)]
set_option maxRecDepth 100000 in
theorem cb_93_41 : mChk 93 41 bk_93_41 66 = true := by decide +kernel
-- method 94: KeySealer.turn(III)I, locals 4, room (2, 43)
def bk_94_0 : List mO := [(.iload_n 1, 1, 0, .null), (.invokestatic 82, 114, 1, .null), (.ifCond .eq 27, 31, 0, .null)]
set_option maxRecDepth 100000 in
theorem cb_94_0 : mChk 94 0 bk_94_0 7 = true := by decide +kernel
def bk_94_7 : List mO := [(.aload_n 0, 0, 0, .null), (.getfield 11, 8, 0, .null), (.iload_n 1, 1, 0, .null), (.aaload, 0, 0, .null), (.iload_n 2, 2, 0, .null), (.iconst 1, 0, 0, .int 1), (.invokevirtual 100, 65, 2, .ref 6), (.ifCond .eq 13, 31, 0, .null)]
set_option maxRecDepth 100000 in
theorem cb_94_7 : mChk 94 7 bk_94_7 21 = true := by decide +kernel
def bk_94_21 : List mO := [(.iload_n 3, 3, 0, .null), (.ifCond .lt 9, 31, 0, .null)]
set_option maxRecDepth 100000 in
theorem cb_94_21 : mChk 94 21 bk_94_21 25 = true := by decide +kernel
def bk_94_25 : List mO := [(.iload_n 3, 3, 0, .null), (.bipush 7, 0, 0, .int 7), (.if_icmp .le 6, 34, 0, .null)]
set_option maxRecDepth 100000 in
theorem cb_94_25 : mChk 94 25 bk_94_25 31 = true := by decide +kernel
def bk_94_31 : List mO := [(.bipush (-2), 0, 0, .int (-2)), (.ireturn, 0, 0, .int 0)]
set_option maxRecDepth 100000 in
theorem cb_94_31 : mChk 94 31 bk_94_31 34 = true := by decide +kernel
def bk_94_34 : List mO := [(.aload_n 0, 0, 0, .null), (.getfield 11, 8, 0, .null), (.iload_n 1, 1, 0, .null), (.aaload, 0, 0, .null), (.iload_n 2, 2, 0, .null), (.iload_n 3, 3, 0, .null), (.invokevirtual 116, 67, 2, .ref 6), (.ireturn, 0, 0, .int 0)]
set_option maxRecDepth 100000 in
theorem cb_94_34 : mChk 94 34 bk_94_34 46 = true := by decide +kernel
-- method 95: KeySealer.size(I)I, locals 2, room (1, 20)
def bk_95_0 : List mO := [(.iload_n 1, 1, 0, .null), (.invokestatic 82, 114, 1, .null), (.ifCond .eq 15, 19, 0, .null)]
set_option maxRecDepth 100000 in
theorem cb_95_0 : mChk 95 0 bk_95_0 7 = true := by decide +kernel
def bk_95_7 : List mO := [(.aload_n 0, 0, 0, .null), (.getfield 11, 8, 0, .null), (.iload_n 1, 1, 0, .null), (.aaload, 0, 0, .null), (.getfield 93, 6, 1, .null), (.goto 5, 21, 0, .null)]
set_option maxRecDepth 100000 in
theorem cb_95_7 : mChk 95 7 bk_95_7 19 = true := by decide +kernel
def bk_95_19 : List mO := [(.bipush (-2), 0, 0, .int (-2))]
set_option maxRecDepth 100000 in
theorem cb_95_19 : mChk 95 19 bk_95_19 21 = true := by decide +kernel
def bk_95_21 : List mO := [(.ireturn, 0, 0, .int 0)]
set_option maxRecDepth 100000 in
theorem cb_95_21 : mChk 95 21 bk_95_21 22 = true := by decide +kernel
-- method 96: KeySealer.at(II)I, locals 3, room (1, 22)
def bk_96_0 : List mO := [(.iload_n 1, 1, 0, .null), (.invokestatic 82, 114, 1, .null), (.ifCond .ne 6, 10, 0, .null)]
set_option maxRecDepth 100000 in
theorem cb_96_0 : mChk 96 0 bk_96_0 7 = true := by decide +kernel
def bk_96_7 : List mO := [(.bipush (-2), 0, 0, .int (-2)), (.ireturn, 0, 0, .int 0)]
set_option maxRecDepth 100000 in
theorem cb_96_7 : mChk 96 7 bk_96_7 10 = true := by decide +kernel
def bk_96_10 : List mO := [(.aload_n 0, 0, 0, .null), (.getfield 11, 8, 0, .null), (.iload_n 1, 1, 0, .null), (.aaload, 0, 0, .null), (.iload_n 2, 2, 0, .null), (.iconst 1, 0, 0, .int 1), (.invokevirtual 100, 65, 2, .ref 6), (.ifCond .eq 16, 37, 0, .null)]
set_option maxRecDepth 100000 in
theorem cb_96_10 : mChk 96 10 bk_96_10 24 = true := by decide +kernel
def bk_96_24 : List mO := [(.aload_n 0, 0, 0, .null), (.getfield 11, 8, 0, .null), (.iload_n 1, 1, 0, .null), (.aaload, 0, 0, .null), (.iload_n 2, 2, 0, .null), (.invokevirtual 120, 66, 1, .ref 6), (.goto 4, 38, 0, .null)]
set_option maxRecDepth 100000 in
theorem cb_96_24 : mChk 96 24 bk_96_24 37 = true := by decide +kernel
def bk_96_37 : List mO := [(.iconst (-1), 0, 0, .int (-1))]
set_option maxRecDepth 100000 in
theorem cb_96_37 : mChk 96 37 bk_96_37 38 = true := by decide +kernel
def bk_96_38 : List mO := [(.ireturn, 0, 0, .int 0)]
set_option maxRecDepth 100000 in
theorem cb_96_38 : mChk 96 38 bk_96_38 39 = true := by decide +kernel
-- method 97: KeySealer.hash(III)I, locals 4, room (4, 101)
def bk_97_0 : List mO := [(.iload_n 2, 2, 0, .null), (.invokestatic 82, 114, 1, .null), (.ifCond .eq 17, 21, 0, .null)]
set_option maxRecDepth 100000 in
theorem cb_97_0 : mChk 97 0 bk_97_0 7 = true := by decide +kernel
def bk_97_7 : List mO := [(.iload_n 3, 3, 0, .null), (.invokestatic 82, 114, 1, .null), (.ifCond .eq 10, 21, 0, .null)]
set_option maxRecDepth 100000 in
theorem cb_97_7 : mChk 97 7 bk_97_7 14 = true := by decide +kernel
def bk_97_14 : List mO := [(.iload_n 1, 1, 0, .null), (.invokestatic 123, 116, 1, .null), (.ifCond .ne 6, 24, 0, .null)]
set_option maxRecDepth 100000 in
theorem cb_97_14 : mChk 97 14 bk_97_14 21 = true := by decide +kernel
def bk_97_21 : List mO := [(.bipush (-2), 0, 0, .int (-2)), (.ireturn, 0, 0, .int 0)]
set_option maxRecDepth 100000 in
theorem cb_97_21 : mChk 97 21 bk_97_21 24 = true := by decide +kernel
def bk_97_24 : List mO := [(.aload_n 0, 0, 0, .null), (.getfield 28, 8, 3, .null), (.getfield 126, 5, 0, .null), (.getfield 130, 4, 0, .null), (.iload_n 1, 1, 0, .null), (.invokevirtual 136, 44, 1, .ref 3), (.aload_n 0, 0, 0, .null), (.getfield 28, 8, 3, .null), (.getfield 126, 5, 0, .null), (.getfield 130, 4, 0, .null), (.aload_n 0, 0, 0, .null), (.getfield 11, 8, 0, .null), (.iload_n 3, 3, 0, .null), (.aaload, 0, 0, .null), (.invokevirtual 141, 47, 1, .ref 3), (.aload_n 0, 0, 0, .null), (.getfield 28, 8, 3, .null), (.getfield 126, 5, 0, .null), (.getfield 130, 4, 0, .null), (.aload_n 0, 0, 0, .null), (.getfield 60, 8, 8, .null), (.invokevirtual 144, 48, 1, .ref 3), (.aload_n 0, 0, 0, .null), (.iload_n 2, 2, 0, .null), (.invokevirtual 108, 130, 1, .ref 8), (.ireturn, 0, 0, .int 0)]
set_option maxRecDepth 100000 in
theorem cb_97_24 : mChk 97 24 bk_97_24 80 = true := by decide +kernel
-- method 98: KeySealer.mac(IIII)I, locals 5, room (4, 123)
def bk_98_0 : List mO := [(.iload_n 2, 2, 0, .null), (.invokestatic 82, 114, 1, .null), (.ifCond .eq 25, 29, 0, .null)]
set_option maxRecDepth 100000 in
theorem cb_98_0 : mChk 98 0 bk_98_0 7 = true := by decide +kernel
def bk_98_7 : List mO := [(.iload_n 3, 3, 0, .null), (.invokestatic 82, 114, 1, .null), (.ifCond .eq 18, 29, 0, .null)]
set_option maxRecDepth 100000 in
theorem cb_98_7 : mChk 98 7 bk_98_7 14 = true := by decide +kernel
def bk_98_14 : List mO := [(.iload 4, 4, 0, .null), (.invokestatic 82, 114, 1, .null), (.ifCond .eq 10, 29, 0, .null)]
set_option maxRecDepth 100000 in
theorem cb_98_14 : mChk 98 14 bk_98_14 22 = true := by decide +kernel
def bk_98_22 : List mO := [(.iload_n 1, 1, 0, .null), (.invokestatic 123, 116, 1, .null), (.ifCond .ne 6, 32, 0, .null)]
set_option maxRecDepth 100000 in
theorem cb_98_22 : mChk 98 22 bk_98_22 29 = true := by decide +kernel
def bk_98_29 : List mO := [(.bipush (-2), 0, 0, .int (-2)), (.ireturn, 0, 0, .int 0)]
set_option maxRecDepth 100000 in
theorem cb_98_29 : mChk 98 29 bk_98_29 32 = true := by decide +kernel
def bk_98_32 : List mO := [(.aload_n 0, 0, 0, .null), (.getfield 28, 8, 3, .null), (.getfield 126, 5, 0, .null), (.iload_n 1, 1, 0, .null), (.aload_n 0, 0, 0, .null), (.getfield 11, 8, 0, .null), (.iload_n 3, 3, 0, .null), (.aaload, 0, 0, .null), (.invokevirtual 147, 52, 2, .ref 4), (.aload_n 0, 0, 0, .null), (.getfield 28, 8, 3, .null), (.getfield 126, 5, 0, .null), (.getfield 130, 4, 0, .null), (.aload_n 0, 0, 0, .null), (.getfield 11, 8, 0, .null), (.iload 4, 4, 0, .null), (.aaload, 0, 0, .null), (.invokevirtual 141, 47, 1, .ref 3), (.aload_n 0, 0, 0, .null), (.getfield 28, 8, 3, .null), (.getfield 126, 5, 0, .null), (.aload_n 0, 0, 0, .null), (.getfield 60, 8, 8, .null), (.invokevirtual 150, 53, 1, .ref 4), (.aload_n 0, 0, 0, .null), (.iload_n 2, 2, 0, .null), (.invokevirtual 108, 130, 1, .ref 8), (.ireturn, 0, 0, .int 0)]
set_option maxRecDepth 100000 in
theorem cb_98_32 : mChk 98 32 bk_98_32 89 = true := by decide +kernel
-- method 99: KeySealer.expand(IIIII)I, locals 6, room (5, 149)
def bk_99_0 : List mO := [(.iload_n 2, 2, 0, .null), (.invokestatic 82, 114, 1, .null), (.ifCond .eq 33, 37, 0, .null)]
set_option maxRecDepth 100000 in
theorem cb_99_0 : mChk 99 0 bk_99_0 7 = true := by decide +kernel
def bk_99_7 : List mO := [(.iload_n 3, 3, 0, .null), (.invokestatic 82, 114, 1, .null), (.ifCond .eq 26, 37, 0, .null)]
set_option maxRecDepth 100000 in
theorem cb_99_7 : mChk 99 7 bk_99_7 14 = true := by decide +kernel
def bk_99_14 : List mO := [(.iload 4, 4, 0, .null), (.invokestatic 82, 114, 1, .null), (.ifCond .eq 18, 37, 0, .null)]
set_option maxRecDepth 100000 in
theorem cb_99_14 : mChk 99 14 bk_99_14 22 = true := by decide +kernel
def bk_99_22 : List mO := [(.iload_n 1, 1, 0, .null), (.invokestatic 123, 116, 1, .null), (.ifCond .eq 11, 37, 0, .null)]
set_option maxRecDepth 100000 in
theorem cb_99_22 : mChk 99 22 bk_99_22 29 = true := by decide +kernel
def bk_99_29 : List mO := [(.iload 5, 5, 0, .null), (.invokestatic 151, 117, 1, .null), (.ifCond .ne 6, 40, 0, .null)]
set_option maxRecDepth 100000 in
theorem cb_99_29 : mChk 99 29 bk_99_29 37 = true := by decide +kernel
def bk_99_37 : List mO := [(.bipush (-2), 0, 0, .int (-2)), (.ireturn, 0, 0, .int 0)]
set_option maxRecDepth 100000 in
theorem cb_99_37 : mChk 99 37 bk_99_37 40 = true := by decide +kernel
def bk_99_40 : List mO := [(.aload_n 0, 0, 0, .null), (.getfield 28, 8, 3, .null), (.getfield 126, 5, 0, .null), (.iload_n 1, 1, 0, .null), (.aload_n 0, 0, 0, .null), (.getfield 11, 8, 0, .null), (.iload_n 3, 3, 0, .null), (.aaload, 0, 0, .null), (.aload_n 0, 0, 0, .null), (.getfield 11, 8, 0, .null), (.iload 4, 4, 0, .null), (.aaload, 0, 0, .null), (.iload 5, 5, 0, .null), (.aload_n 0, 0, 0, .null), (.getfield 60, 8, 8, .null), (.invokevirtual 154, 54, 5, .ref 4), (.aload_n 0, 0, 0, .null), (.iload_n 2, 2, 0, .null), (.invokevirtual 108, 130, 1, .ref 8), (.ireturn, 0, 0, .int 0)]
set_option maxRecDepth 100000 in
theorem cb_99_40 : mChk 99 40 bk_99_40 76 = true := by decide +kernel
-- method 100: KeySealer.agree(III)I, locals 4, room (6, 209)
def bk_100_0 : List mO := [(.iload_n 1, 1, 0, .null), (.invokestatic 82, 114, 1, .null), (.ifCond .eq 19, 23, 0, .null)]
set_option maxRecDepth 100000 in
theorem cb_100_0 : mChk 100 0 bk_100_0 7 = true := by decide +kernel
def bk_100_7 : List mO := [(.aload_n 0, 0, 0, .null), (.iload_n 2, 2, 0, .null), (.invokevirtual 158, 124, 1, .ref 8), (.ifCond .eq 11, 23, 0, .null)]
set_option maxRecDepth 100000 in
theorem cb_100_7 : mChk 100 7 bk_100_7 15 = true := by decide +kernel
def bk_100_15 : List mO := [(.aload_n 0, 0, 0, .null), (.iload_n 3, 3, 0, .null), (.invokevirtual 158, 124, 1, .ref 8), (.ifCond .ne 6, 26, 0, .null)]
set_option maxRecDepth 100000 in
theorem cb_100_15 : mChk 100 15 bk_100_15 23 = true := by decide +kernel
def bk_100_23 : List mO := [(.bipush (-2), 0, 0, .int (-2)), (.ireturn, 0, 0, .int 0)]
set_option maxRecDepth 100000 in
theorem cb_100_23 : mChk 100 23 bk_100_23 26 = true := by decide +kernel
def bk_100_26 : List mO := [(.aload_n 0, 0, 0, .null), (.getfield 60, 8, 8, .null), (.invokevirtual 97, 63, 0, .ref 6), (.aload_n 0, 0, 0, .null), (.getfield 35, 8, 4, .null), (.aload_n 0, 0, 0, .null), (.getfield 11, 8, 0, .null), (.iload_n 2, 2, 0, .null), (.aaload, 0, 0, .null), (.aload_n 0, 0, 0, .null), (.getfield 11, 8, 0, .null), (.iload_n 3, 3, 0, .null), (.aaload, 0, 0, .null), (.aload_n 0, 0, 0, .null), (.getfield 60, 8, 8, .null), (.invokevirtual 161, 29, 3, .ref 2), (.ifCond .eq 11, 67, 0, .null)]
set_option maxRecDepth 100000 in
theorem cb_100_26 : mChk 100 26 bk_100_26 59 = true := by decide +kernel
def bk_100_59 : List mO := [(.aload_n 0, 0, 0, .null), (.iload_n 1, 1, 0, .null), (.invokevirtual 108, 130, 1, .ref 8), (.goto 5, 69, 0, .null)]
set_option maxRecDepth 100000 in
theorem cb_100_59 : mChk 100 59 bk_100_59 67 = true := by decide +kernel
def bk_100_67 : List mO := [(.bipush (-11), 0, 0, .int (-11))]
set_option maxRecDepth 100000 in
theorem cb_100_67 : mChk 100 67 bk_100_67 69 = true := by decide +kernel
def bk_100_69 : List mO := [(.ireturn, 0, 0, .int 0)]
set_option maxRecDepth 100000 in
theorem cb_100_69 : mChk 100 69 bk_100_69 70 = true := by decide +kernel
-- method 101: KeySealer.open(II)I, locals 3, room (6, 208)
def bk_101_0 : List mO := [(.iload_n 1, 1, 0, .null), (.invokestatic 82, 114, 1, .null), (.ifCond .eq 11, 15, 0, .null)]
set_option maxRecDepth 100000 in
theorem cb_101_0 : mChk 101 0 bk_101_0 7 = true := by decide +kernel
def bk_101_7 : List mO := [(.aload_n 0, 0, 0, .null), (.iload_n 2, 2, 0, .null), (.invokevirtual 158, 124, 1, .ref 8), (.ifCond .ne 6, 18, 0, .null)]
set_option maxRecDepth 100000 in
theorem cb_101_7 : mChk 101 7 bk_101_7 15 = true := by decide +kernel
def bk_101_15 : List mO := [(.bipush (-2), 0, 0, .int (-2)), (.ireturn, 0, 0, .int 0)]
set_option maxRecDepth 100000 in
theorem cb_101_15 : mChk 101 15 bk_101_15 18 = true := by decide +kernel
def bk_101_18 : List mO := [(.aload_n 0, 0, 0, .null), (.getfield 60, 8, 8, .null), (.invokevirtual 97, 63, 0, .ref 6), (.aload_n 0, 0, 0, .null), (.getfield 35, 8, 4, .null), (.aload_n 0, 0, 0, .null), (.getfield 11, 8, 0, .null), (.iload_n 2, 2, 0, .null), (.aaload, 0, 0, .null), (.aload_n 0, 0, 0, .null), (.getfield 60, 8, 8, .null), (.invokevirtual 165, 30, 2, .ref 2), (.aload_n 0, 0, 0, .null), (.iload_n 1, 1, 0, .null), (.invokevirtual 108, 130, 1, .ref 8), (.ireturn, 0, 0, .int 0)]
set_option maxRecDepth 100000 in
theorem cb_101_18 : mChk 101 18 bk_101_18 48 = true := by decide +kernel
-- method 102: KeySealer.pair(III)I, locals 4, room (6, 208)
def bk_102_0 : List mO := [(.iload_n 1, 1, 0, .null), (.invokestatic 82, 114, 1, .null), (.ifCond .eq 17, 21, 0, .null)]
set_option maxRecDepth 100000 in
theorem cb_102_0 : mChk 102 0 bk_102_0 7 = true := by decide +kernel
def bk_102_7 : List mO := [(.iload_n 2, 2, 0, .null), (.invokestatic 82, 114, 1, .null), (.ifCond .eq 10, 21, 0, .null)]
set_option maxRecDepth 100000 in
theorem cb_102_7 : mChk 102 7 bk_102_7 14 = true := by decide +kernel
def bk_102_14 : List mO := [(.iload_n 3, 3, 0, .null), (.invokestatic 82, 114, 1, .null), (.ifCond .ne 6, 24, 0, .null)]
set_option maxRecDepth 100000 in
theorem cb_102_14 : mChk 102 14 bk_102_14 21 = true := by decide +kernel
def bk_102_21 : List mO := [(.bipush (-2), 0, 0, .int (-2)), (.ireturn, 0, 0, .int 0)]
set_option maxRecDepth 100000 in
theorem cb_102_21 : mChk 102 21 bk_102_21 24 = true := by decide +kernel
def bk_102_24 : List mO := [(.aload_n 0, 0, 0, .null), (.getfield 28, 8, 3, .null), (.invokevirtual 169, 57, 0, .ref 5), (.aload_n 0, 0, 0, .null), (.getfield 28, 8, 3, .null), (.aload_n 0, 0, 0, .null), (.getfield 56, 8, 7, .null), (.ldc 172, 0, 0, .ref 2000001), (.aload_n 0, 0, 0, .null), (.getfield 11, 8, 0, .null), (.iload_n 3, 3, 0, .null), (.aaload, 0, 0, .null), (.aload_n 0, 0, 0, .null), (.getfield 72, 8, 12, .null), (.invokevirtual 174, 59, 4, .ref 5), (.aload_n 0, 0, 0, .null), (.getfield 28, 8, 3, .null), (.aload_n 0, 0, 0, .null), (.getfield 72, 8, 12, .null), (.ldc 178, 0, 0, .ref 2000003), (.aload_n 0, 0, 0, .null), (.getfield 56, 8, 7, .null), (.bipush 32, 0, 0, .int 32), (.aload_n 0, 0, 0, .null), (.getfield 75, 8, 13, .null), (.invokevirtual 180, 60, 5, .ref 5), (.aload_n 0, 0, 0, .null), (.getfield 60, 8, 8, .null), (.invokevirtual 97, 63, 0, .ref 6), (.aload_n 0, 0, 0, .null), (.getfield 35, 8, 4, .null), (.aload_n 0, 0, 0, .null), (.getfield 75, 8, 13, .null), (.aload_n 0, 0, 0, .null), (.getfield 60, 8, 8, .null), (.invokevirtual 165, 30, 2, .ref 2), (.aload_n 0, 0, 0, .null), (.getfield 11, 8, 0, .null), (.iload_n 1, 1, 0, .null), (.aaload, 0, 0, .null), (.aload_n 0, 0, 0, .null), (.getfield 75, 8, 13, .null), (.invokevirtual 183, 73, 1, .ref 6), (.aload_n 0, 0, 0, .null), (.iload_n 2, 2, 0, .null), (.invokevirtual 108, 130, 1, .ref 8), (.ireturn, 0, 0, .int 0)]
set_option maxRecDepth 100000 in
theorem cb_102_24 : mChk 102 24 bk_102_24 118 = true := by decide +kernel
-- method 103: KeySealer.lock(IIIIII)I, locals 8, room (7, 160)
def bk_103_0 : List mO := [(.aload_n 0, 0, 0, .null), (.iload_n 1, 1, 0, .null), (.iload_n 3, 3, 0, .null), (.iload 4, 4, 0, .null), (.invokevirtual 186, 125, 3, .ref 8), (.ifCond .eq 26, 34, 0, .null)]
set_option maxRecDepth 100000 in
theorem cb_103_0 : mChk 103 0 bk_103_0 11 = true := by decide +kernel
def bk_103_11 : List mO := [(.iload_n 2, 2, 0, .null), (.invokestatic 82, 114, 1, .null), (.ifCond .eq 19, 34, 0, .null)]
set_option maxRecDepth 100000 in
theorem cb_103_11 : mChk 103 11 bk_103_11 18 = true := by decide +kernel
def bk_103_18 : List mO := [(.iload 5, 5, 0, .null), (.invokestatic 82, 114, 1, .null), (.ifCond .eq 11, 34, 0, .null)]
set_option maxRecDepth 100000 in
theorem cb_103_18 : mChk 103 18 bk_103_18 26 = true := by decide +kernel
def bk_103_26 : List mO := [(.iload 6, 6, 0, .null), (.invokestatic 82, 114, 1, .null), (.ifCond .ne 6, 37, 0, .null)]
set_option maxRecDepth 100000 in
theorem cb_103_26 : mChk 103 26 bk_103_26 34 = true := by decide +kernel
def bk_103_34 : List mO := [(.bipush (-2), 0, 0, .int (-2)), (.ireturn, 0, 0, .int 0)]
set_option maxRecDepth 100000 in
theorem cb_103_34 : mChk 103 34 bk_103_34 37 = true := by decide +kernel
def bk_103_37 : List mO := [(.aload_n 0, 0, 0, .null), (.iload 6, 6, 0, .null), (.invokevirtual 190, 126, 1, .ref 8), (.ifCond .ne 6, 49, 0, .null)]
set_option maxRecDepth 100000 in
theorem cb_103_37 : mChk 103 37 bk_103_37 46 = true := by decide +kernel
def bk_103_46 : List mO := [(.bipush (-3), 0, 0, .int (-3)), (.ireturn, 0, 0, .int 0)]
set_option maxRecDepth 100000 in
theorem cb_103_46 : mChk 103 46 bk_103_46 49 = true := by decide +kernel
def bk_103_49 : List mO := [(.aload_n 0, 0, 0, .null), (.iload_n 1, 1, 0, .null), (.invokevirtual 193, 131, 1, .ref 8), (.astore 7, 7, 0, .null), (.aload 7, 7, 0, .null), (.aload_n 0, 0, 0, .null), (.getfield 11, 8, 0, .null), (.iload_n 3, 3, 0, .null), (.aaload, 0, 0, .null), (.aload_n 0, 0, 0, .null), (.getfield 11, 8, 0, .null), (.iload 4, 4, 0, .null), (.aaload, 0, 0, .null), (.invokevirtual 197, 1, 2, .long 76), (.aload 7, 7, 0, .null), (.aload_n 0, 0, 0, .null), (.getfield 11, 8, 0, .null), (.iload 5, 5, 0, .null), (.aaload, 0, 0, .null), (.aload_n 0, 0, 0, .null), (.getfield 11, 8, 0, .null), (.iload 6, 6, 0, .null), (.aaload, 0, 0, .null), (.aload_n 0, 0, 0, .null), (.getfield 60, 8, 8, .null), (.invokevirtual 201, 17, 3, .long 17), (.aload_n 0, 0, 0, .null), (.iload_n 2, 2, 0, .null), (.invokevirtual 108, 130, 1, .ref 8), (.ireturn, 0, 0, .int 0)]
set_option maxRecDepth 100000 in
theorem cb_103_49 : mChk 103 49 bk_103_49 103 = true := by decide +kernel
-- method 104: KeySealer.unlock(IIIIII)I, locals 8, room (7, 162)
def bk_104_0 : List mO := [(.aload_n 0, 0, 0, .null), (.iload_n 1, 1, 0, .null), (.iload_n 3, 3, 0, .null), (.iload 4, 4, 0, .null), (.invokevirtual 186, 125, 3, .ref 8), (.ifCond .eq 26, 34, 0, .null)]
set_option maxRecDepth 100000 in
theorem cb_104_0 : mChk 104 0 bk_104_0 11 = true := by decide +kernel
def bk_104_11 : List mO := [(.iload_n 2, 2, 0, .null), (.invokestatic 82, 114, 1, .null), (.ifCond .eq 19, 34, 0, .null)]
set_option maxRecDepth 100000 in
theorem cb_104_11 : mChk 104 11 bk_104_11 18 = true := by decide +kernel
def bk_104_18 : List mO := [(.iload 5, 5, 0, .null), (.invokestatic 82, 114, 1, .null), (.ifCond .eq 11, 34, 0, .null)]
set_option maxRecDepth 100000 in
theorem cb_104_18 : mChk 104 18 bk_104_18 26 = true := by decide +kernel
def bk_104_26 : List mO := [(.iload 6, 6, 0, .null), (.invokestatic 82, 114, 1, .null), (.ifCond .ne 6, 37, 0, .null)]
set_option maxRecDepth 100000 in
theorem cb_104_26 : mChk 104 26 bk_104_26 34 = true := by decide +kernel
def bk_104_34 : List mO := [(.bipush (-2), 0, 0, .int (-2)), (.ireturn, 0, 0, .int 0)]
set_option maxRecDepth 100000 in
theorem cb_104_34 : mChk 104 34 bk_104_34 37 = true := by decide +kernel
def bk_104_37 : List mO := [(.aload_n 0, 0, 0, .null), (.iload_n 1, 1, 0, .null), (.invokevirtual 193, 131, 1, .ref 8), (.astore 7, 7, 0, .null), (.aload 7, 7, 0, .null), (.aload_n 0, 0, 0, .null), (.getfield 11, 8, 0, .null), (.iload_n 3, 3, 0, .null), (.aaload, 0, 0, .null), (.aload_n 0, 0, 0, .null), (.getfield 11, 8, 0, .null), (.iload 4, 4, 0, .null), (.aaload, 0, 0, .null), (.invokevirtual 197, 1, 2, .long 76), (.aload 7, 7, 0, .null), (.aload_n 0, 0, 0, .null), (.getfield 11, 8, 0, .null), (.iload 5, 5, 0, .null), (.aaload, 0, 0, .null), (.aload_n 0, 0, 0, .null), (.getfield 11, 8, 0, .null), (.iload 6, 6, 0, .null), (.aaload, 0, 0, .null), (.aload_n 0, 0, 0, .null), (.getfield 60, 8, 8, .null), (.invokevirtual 205, 18, 3, .long 18), (.ifCond .eq 11, 96, 0, .null)]
set_option maxRecDepth 100000 in
theorem cb_104_37 : mChk 104 37 bk_104_37 88 = true := by decide +kernel
def bk_104_88 : List mO := [(.aload_n 0, 0, 0, .null), (.iload_n 2, 2, 0, .null), (.invokevirtual 108, 130, 1, .ref 8), (.goto 5, 98, 0, .null)]
set_option maxRecDepth 100000 in
theorem cb_104_88 : mChk 104 88 bk_104_88 96 = true := by decide +kernel
def bk_104_96 : List mO := [(.bipush (-14), 0, 0, .int (-14))]
set_option maxRecDepth 100000 in
theorem cb_104_96 : mChk 104 96 bk_104_96 98 = true := by decide +kernel
def bk_104_98 : List mO := [(.ireturn, 0, 0, .int 0)]
set_option maxRecDepth 100000 in
theorem cb_104_98 : mChk 104 98 bk_104_98 99 = true := by decide +kernel
-- method 105: KeySealer.use(II)I, locals 3, room (1, 20)
def bk_105_0 : List mO := [(.iload_n 1, 1, 0, .null), (.ifCond .lt 20, 21, 0, .null)]
set_option maxRecDepth 100000 in
theorem cb_105_0 : mChk 105 0 bk_105_0 4 = true := by decide +kernel
def bk_105_4 : List mO := [(.iload_n 1, 1, 0, .null), (.iconst 5, 0, 0, .int 5), (.if_icmp .ge 15, 21, 0, .null)]
set_option maxRecDepth 100000 in
theorem cb_105_4 : mChk 105 4 bk_105_4 9 = true := by decide +kernel
def bk_105_9 : List mO := [(.iload_n 2, 2, 0, .null), (.iconst (-1), 0, 0, .int (-1)), (.if_icmp .eq 13, 24, 0, .null)]
set_option maxRecDepth 100000 in
theorem cb_105_9 : mChk 105 9 bk_105_9 14 = true := by decide +kernel
def bk_105_14 : List mO := [(.iload_n 2, 2, 0, .null), (.invokestatic 82, 114, 1, .null), (.ifCond .ne 6, 24, 0, .null)]
set_option maxRecDepth 100000 in
theorem cb_105_14 : mChk 105 14 bk_105_14 21 = true := by decide +kernel
def bk_105_21 : List mO := [(.bipush (-2), 0, 0, .int (-2)), (.ireturn, 0, 0, .int 0)]
set_option maxRecDepth 100000 in
theorem cb_105_21 : mChk 105 21 bk_105_21 24 = true := by decide +kernel
def bk_105_24 : List mO := [(.aload_n 0, 0, 0, .null), (.getfield 21, 8, 2, .null), (.iload_n 1, 1, 0, .null), (.iload_n 2, 2, 0, .null), (.iastore, 0, 0, .null), (.iconst 0, 0, 0, .int 0), (.ireturn, 0, 0, .int 0)]
set_option maxRecDepth 100000 in
theorem cb_105_24 : mChk 105 24 bk_105_24 33 = true := by decide +kernel
-- method 106: KeySealer.sender(IIIIIII)I, locals 8, room (7, 233)
def bk_106_0 : List mO := [(.iload_n 1, 1, 0, .null), (.invokestatic 208, 115, 1, .null), (.ifCond .eq 48, 52, 0, .null)]
set_option maxRecDepth 100000 in
theorem cb_106_0 : mChk 106 0 bk_106_0 7 = true := by decide +kernel
def bk_106_7 : List mO := [(.iload_n 2, 2, 0, .null), (.iload_n 3, 3, 0, .null), (.iload 4, 4, 0, .null), (.invokestatic 211, 120, 3, .null), (.ifCond .eq 38, 52, 0, .null)]
set_option maxRecDepth 100000 in
theorem cb_106_7 : mChk 106 7 bk_106_7 17 = true := by decide +kernel
def bk_106_17 : List mO := [(.iload 5, 5, 0, .null), (.invokestatic 82, 114, 1, .null), (.ifCond .eq 30, 52, 0, .null)]
set_option maxRecDepth 100000 in
theorem cb_106_17 : mChk 106 17 bk_106_17 25 = true := by decide +kernel
def bk_106_25 : List mO := [(.aload_n 0, 0, 0, .null), (.iload 6, 6, 0, .null), (.invokevirtual 158, 124, 1, .ref 8), (.ifCond .eq 21, 52, 0, .null)]
set_option maxRecDepth 100000 in
theorem cb_106_25 : mChk 106 25 bk_106_25 34 = true := by decide +kernel
def bk_106_34 : List mO := [(.aload_n 0, 0, 0, .null), (.iload 7, 7, 0, .null), (.invokevirtual 158, 124, 1, .ref 8), (.ifCond .eq 12, 52, 0, .null)]
set_option maxRecDepth 100000 in
theorem cb_106_34 : mChk 106 34 bk_106_34 43 = true := by decide +kernel
def bk_106_43 : List mO := [(.aload_n 0, 0, 0, .null), (.iload_n 2, 2, 0, .null), (.iconst 3, 0, 0, .int 3), (.invokevirtual 214, 127, 2, .ref 8), (.ifCond .ne 6, 55, 0, .null)]
set_option maxRecDepth 100000 in
theorem cb_106_43 : mChk 106 43 bk_106_43 52 = true := by decide +kernel
def bk_106_52 : List mO := [(.bipush (-2), 0, 0, .int (-2)), (.ireturn, 0, 0, .int 0)]
set_option maxRecDepth 100000 in
theorem cb_106_52 : mChk 106 52 bk_106_52 55 = true := by decide +kernel
def bk_106_55 : List mO := [(.aload_n 0, 0, 0, .null), (.iload_n 2, 2, 0, .null), (.invokevirtual 217, 128, 1, .ref 8), (.ifCond .ne 6, 66, 0, .null)]
set_option maxRecDepth 100000 in
theorem cb_106_55 : mChk 106 55 bk_106_55 63 = true := by decide +kernel
def bk_106_63 : List mO := [(.bipush (-12), 0, 0, .int (-12)), (.ireturn, 0, 0, .int 0)]
set_option maxRecDepth 100000 in
theorem cb_106_63 : mChk 106 63 bk_106_63 66 = true := by decide +kernel
def bk_106_66 : List mO := [(.aload_n 0, 0, 0, .null), (.iload_n 2, 2, 0, .null), (.invokestatic 220, 119, 1, .null), (.aload_n 0, 0, 0, .null), (.getfield 11, 8, 0, .null), (.iload 6, 6, 0, .null), (.aaload, 0, 0, .null), (.aload_n 0, 0, 0, .null), (.getfield 11, 8, 0, .null), (.iload 7, 7, 0, .null), (.aaload, 0, 0, .null), (.invokevirtual 223, 133, 3, .ref 8), (.ifCond .ne 6, 94, 0, .null)]
set_option maxRecDepth 100000 in
theorem cb_106_66 : mChk 106 66 bk_106_66 91 = true := by decide +kernel
def bk_106_91 : List mO := [(.bipush (-11), 0, 0, .int (-11)), (.ireturn, 0, 0, .int 0)]
set_option maxRecDepth 100000 in
theorem cb_106_91 : mChk 106 91 bk_106_91 94 = true := by decide +kernel
def bk_106_94 : List mO := [(.aload_n 0, 0, 0, .null), (.getfield 17, 8, 1, .null), (.iload_n 1, 1, 0, .null), (.aaload, 0, 0, .null), (.iconst 1, 0, 0, .int 1), (.iload_n 2, 2, 0, .null), (.iload_n 3, 3, 0, .null), (.iload 4, 4, 0, .null), (.invokevirtual 227, 23, 4, .ref 1), (.aload_n 0, 0, 0, .null), (.aload_n 0, 0, 0, .null), (.getfield 17, 8, 1, .null), (.iload_n 1, 1, 0, .null), (.aaload, 0, 0, .null), (.invokevirtual 230, 135, 1, .ref 8), (.aload_n 0, 0, 0, .null), (.getfield 60, 8, 8, .null), (.invokevirtual 97, 63, 0, .ref 6), (.aload_n 0, 0, 0, .null), (.getfield 60, 8, 8, .null), (.aload_n 0, 0, 0, .null), (.getfield 69, 8, 11, .null), (.iconst 0, 0, 0, .int 0), (.bipush 32, 0, 0, .int 32), (.invokevirtual 104, 71, 3, .ref 6), (.aload_n 0, 0, 0, .null), (.iload 5, 5, 0, .null), (.invokevirtual 108, 130, 1, .ref 8), (.ireturn, 0, 0, .int 0)]
set_option maxRecDepth 100000 in
theorem cb_106_94 : mChk 106 94 bk_106_94 146 = true := by decide +kernel
-- method 107: KeySealer.receiver(IIIIII)I, locals 7, room (7, 233)
def bk_107_0 : List mO := [(.iload_n 1, 1, 0, .null), (.invokestatic 208, 115, 1, .null), (.ifCond .eq 40, 44, 0, .null)]
set_option maxRecDepth 100000 in
theorem cb_107_0 : mChk 107 0 bk_107_0 7 = true := by decide +kernel
def bk_107_7 : List mO := [(.iload_n 2, 2, 0, .null), (.iload_n 3, 3, 0, .null), (.iload 4, 4, 0, .null), (.invokestatic 211, 120, 3, .null), (.ifCond .eq 30, 44, 0, .null)]
set_option maxRecDepth 100000 in
theorem cb_107_7 : mChk 107 7 bk_107_7 17 = true := by decide +kernel
def bk_107_17 : List mO := [(.aload_n 0, 0, 0, .null), (.iload 5, 5, 0, .null), (.invokevirtual 158, 124, 1, .ref 8), (.ifCond .eq 21, 44, 0, .null)]
set_option maxRecDepth 100000 in
theorem cb_107_17 : mChk 107 17 bk_107_17 26 = true := by decide +kernel
def bk_107_26 : List mO := [(.aload_n 0, 0, 0, .null), (.iload 6, 6, 0, .null), (.invokevirtual 158, 124, 1, .ref 8), (.ifCond .eq 12, 44, 0, .null)]
set_option maxRecDepth 100000 in
theorem cb_107_26 : mChk 107 26 bk_107_26 35 = true := by decide +kernel
def bk_107_35 : List mO := [(.aload_n 0, 0, 0, .null), (.iload_n 2, 2, 0, .null), (.iconst 4, 0, 0, .int 4), (.invokevirtual 214, 127, 2, .ref 8), (.ifCond .ne 6, 47, 0, .null)]
set_option maxRecDepth 100000 in
theorem cb_107_35 : mChk 107 35 bk_107_35 44 = true := by decide +kernel
def bk_107_44 : List mO := [(.bipush (-2), 0, 0, .int (-2)), (.ireturn, 0, 0, .int 0)]
set_option maxRecDepth 100000 in
theorem cb_107_44 : mChk 107 44 bk_107_44 47 = true := by decide +kernel
def bk_107_47 : List mO := [(.aload_n 0, 0, 0, .null), (.iload_n 2, 2, 0, .null), (.invokevirtual 217, 128, 1, .ref 8), (.ifCond .ne 6, 58, 0, .null)]
set_option maxRecDepth 100000 in
theorem cb_107_47 : mChk 107 47 bk_107_47 55 = true := by decide +kernel
def bk_107_55 : List mO := [(.bipush (-12), 0, 0, .int (-12)), (.ireturn, 0, 0, .int 0)]
set_option maxRecDepth 100000 in
theorem cb_107_55 : mChk 107 55 bk_107_55 58 = true := by decide +kernel
def bk_107_58 : List mO := [(.aload_n 0, 0, 0, .null), (.iload_n 2, 2, 0, .null), (.invokestatic 220, 119, 1, .null), (.aload_n 0, 0, 0, .null), (.getfield 11, 8, 0, .null), (.iload 5, 5, 0, .null), (.aaload, 0, 0, .null), (.aload_n 0, 0, 0, .null), (.getfield 11, 8, 0, .null), (.iload 6, 6, 0, .null), (.aaload, 0, 0, .null), (.invokevirtual 234, 134, 3, .ref 8), (.ifCond .ne 6, 86, 0, .null)]
set_option maxRecDepth 100000 in
theorem cb_107_58 : mChk 107 58 bk_107_58 83 = true := by decide +kernel
def bk_107_83 : List mO := [(.bipush (-11), 0, 0, .int (-11)), (.ireturn, 0, 0, .int 0)]
set_option maxRecDepth 100000 in
theorem cb_107_83 : mChk 107 83 bk_107_83 86 = true := by decide +kernel
def bk_107_86 : List mO := [(.aload_n 0, 0, 0, .null), (.getfield 17, 8, 1, .null), (.iload_n 1, 1, 0, .null), (.aaload, 0, 0, .null), (.iconst 2, 0, 0, .int 2), (.iload_n 2, 2, 0, .null), (.iload_n 3, 3, 0, .null), (.iload 4, 4, 0, .null), (.invokevirtual 227, 23, 4, .ref 1), (.aload_n 0, 0, 0, .null), (.aload_n 0, 0, 0, .null), (.getfield 17, 8, 1, .null), (.iload_n 1, 1, 0, .null), (.aaload, 0, 0, .null), (.invokevirtual 230, 135, 1, .ref 8), (.iconst 0, 0, 0, .int 0), (.ireturn, 0, 0, .int 0)]
set_option maxRecDepth 100000 in
theorem cb_107_86 : mChk 107 86 bk_107_86 112 = true := by decide +kernel
-- method 108: KeySealer.seal(IIII)I, locals 7, room (7, 160)
def bk_108_0 : List mO := [(.aload_n 0, 0, 0, .null), (.iload_n 1, 1, 0, .null), (.iconst 1, 0, 0, .int 1), (.invokevirtual 237, 123, 2, .ref 8), (.ifCond .eq 25, 31, 0, .null)]
set_option maxRecDepth 100000 in
theorem cb_108_0 : mChk 108 0 bk_108_0 9 = true := by decide +kernel
def bk_108_9 : List mO := [(.iload_n 2, 2, 0, .null), (.invokestatic 82, 114, 1, .null), (.ifCond .eq 18, 31, 0, .null)]
set_option maxRecDepth 100000 in
theorem cb_108_9 : mChk 108 9 bk_108_9 16 = true := by decide +kernel
def bk_108_16 : List mO := [(.iload_n 3, 3, 0, .null), (.invokestatic 82, 114, 1, .null), (.ifCond .eq 11, 31, 0, .null)]
set_option maxRecDepth 100000 in
theorem cb_108_16 : mChk 108 16 bk_108_16 23 = true := by decide +kernel
def bk_108_23 : List mO := [(.iload 4, 4, 0, .null), (.invokestatic 82, 114, 1, .null), (.ifCond .ne 6, 34, 0, .null)]
set_option maxRecDepth 100000 in
theorem cb_108_23 : mChk 108 23 bk_108_23 31 = true := by decide +kernel
def bk_108_31 : List mO := [(.bipush (-2), 0, 0, .int (-2)), (.ireturn, 0, 0, .int 0)]
set_option maxRecDepth 100000 in
theorem cb_108_31 : mChk 108 31 bk_108_31 34 = true := by decide +kernel
def bk_108_34 : List mO := [(.aload_n 0, 0, 0, .null), (.getfield 17, 8, 1, .null), (.iload_n 1, 1, 0, .null), (.aaload, 0, 0, .null), (.astore 5, 5, 0, .null), (.aload 5, 5, 0, .null), (.invokevirtual 240, 25, 0, .ref 1), (.ifCond .eq 6, 53, 0, .null)]
set_option maxRecDepth 100000 in
theorem cb_108_34 : mChk 108 34 bk_108_34 50 = true := by decide +kernel
def bk_108_50 : List mO := [(.bipush (-13), 0, 0, .int (-13)), (.ireturn, 0, 0, .int 0)]
set_option maxRecDepth 100000 in
theorem cb_108_50 : mChk 108 50 bk_108_50 53 = true := by decide +kernel
def bk_108_53 : List mO := [(.aload_n 0, 0, 0, .null), (.iload 4, 4, 0, .null), (.invokevirtual 190, 126, 1, .ref 8), (.ifCond .ne 6, 65, 0, .null)]
set_option maxRecDepth 100000 in
theorem cb_108_53 : mChk 108 53 bk_108_53 62 = true := by decide +kernel
def bk_108_62 : List mO := [(.bipush (-3), 0, 0, .int (-3)), (.ireturn, 0, 0, .int 0)]
set_option maxRecDepth 100000 in
theorem cb_108_62 : mChk 108 62 bk_108_62 65 = true := by decide +kernel
def bk_108_65 : List mO := [(.aload_n 0, 0, 0, .null), (.aload 5, 5, 0, .null), (.invokevirtual 244, 132, 1, .ref 8), (.astore 6, 6, 0, .null), (.aload 6, 6, 0, .null), (.aload_n 0, 0, 0, .null), (.getfield 11, 8, 0, .null), (.iload_n 3, 3, 0, .null), (.aaload, 0, 0, .null), (.aload_n 0, 0, 0, .null), (.getfield 11, 8, 0, .null), (.iload 4, 4, 0, .null), (.aaload, 0, 0, .null), (.aload_n 0, 0, 0, .null), (.getfield 60, 8, 8, .null), (.invokevirtual 201, 17, 3, .long 17), (.aload 5, 5, 0, .null), (.invokevirtual 248, 26, 0, .ref 1), (.aload_n 0, 0, 0, .null), (.iload_n 2, 2, 0, .null), (.invokevirtual 108, 130, 1, .ref 8), (.ireturn, 0, 0, .int 0)]
set_option maxRecDepth 100000 in
theorem cb_108_65 : mChk 108 65 bk_108_65 106 = true := by decide +kernel

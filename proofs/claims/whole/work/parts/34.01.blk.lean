/-! PART 34.01: blocks of code and their checks, printed by program (wip/whole/mk13.py) -/
-- method 83: KeySealer$StreamCipher.fillBlock(I)V, locals 5, room (1, 28)
def bk_83_0 : List mO := [(.aload_n 0, 0, 0, .null), (.getfield 7, 7, 3, .null), (.bipush 12, 0, 0, .int 12), (.iload_n 1, 1, 0, .null), (.iastore, 0, 0, .null), (.aload_n 0, 0, 0, .null), (.getfield 7, 7, 3, .null), (.iconst 0, 0, 0, .int 0), (.aload_n 0, 0, 0, .null), (.getfield 13, 7, 4, .null), (.iconst 0, 0, 0, .int 0), (.bipush 16, 0, 0, .int 16), (.invokestatic 43, 9001, 5, .null), (.iconst 0, 0, 0, .int 0), (.istore_n 2, 2, 0, .null)]
set_option maxRecDepth 100000 in
theorem cb_83_0 : mChk 83 0 bk_83_0 25 = true := by decide +kernel
def bk_83_25 : List mO := [(.iload_n 2, 2, 0, .null), (.bipush 10, 0, 0, .int 10), (.if_icmp .ge 79, 107, 0, .null)]
set_option maxRecDepth 100000 in
theorem cb_83_25 : mChk 83 25 bk_83_25 31 = true := by decide +kernel
def bk_83_31 : List mO := [(.iconst 0, 0, 0, .int 0), (.istore_n 3, 3, 0, .null)]
set_option maxRecDepth 100000 in
theorem cb_83_31 : mChk 83 31 bk_83_31 33 = true := by decide +kernel
def bk_83_33 : List mO := [(.iload_n 3, 3, 0, .null), (.iconst 4, 0, 0, .int 4), (.if_icmp .ge 25, 60, 0, .null)]
set_option maxRecDepth 100000 in
theorem cb_83_33 : mChk 83 33 bk_83_33 38 = true := by decide +kernel
def bk_83_38 : List mO := [(.aload_n 0, 0, 0, .null), (.iload_n 3, 3, 0, .null), (.iconst 4, 0, 0, .int 4), (.iload_n 3, 3, 0, .null), (.iadd, 0, 0, .null), (.bipush 8, 0, 0, .int 8), (.iload_n 3, 3, 0, .null), (.iadd, 0, 0, .null), (.bipush 12, 0, 0, .int 12), (.iload_n 3, 3, 0, .null), (.iadd, 0, 0, .null), (.invokevirtual 100, 84, 4, .ref 7), (.iinc 3 1, 3, 0, .int 1), (.goto (-24), 33, 0, .null)]
set_option maxRecDepth 100000 in
theorem cb_83_38 : mChk 83 38 bk_83_38 60 = true := by decide +kernel
def bk_83_60 : List mO := [(.iconst 0, 0, 0, .int 0), (.istore_n 3, 3, 0, .null)]
set_option maxRecDepth 100000 in
theorem cb_83_60 : mChk 83 60 bk_83_60 62 = true := by decide +kernel
def bk_83_62 : List mO := [(.iload_n 3, 3, 0, .null), (.iconst 4, 0, 0, .int 4), (.if_icmp .ge 37, 101, 0, .null)]
set_option maxRecDepth 100000 in
theorem cb_83_62 : mChk 83 62 bk_83_62 67 = true := by decide +kernel
def bk_83_67 : List mO := [(.aload_n 0, 0, 0, .null), (.iload_n 3, 3, 0, .null), (.iconst 4, 0, 0, .int 4), (.iload_n 3, 3, 0, .null), (.iconst 1, 0, 0, .int 1), (.iadd, 0, 0, .null), (.iconst 3, 0, 0, .int 3), (.iand, 0, 0, .null), (.iadd, 0, 0, .null), (.bipush 8, 0, 0, .int 8), (.iload_n 3, 3, 0, .null), (.iconst 2, 0, 0, .int 2), (.iadd, 0, 0, .null), (.iconst 3, 0, 0, .int 3), (.iand, 0, 0, .null), (.iadd, 0, 0, .null), (.bipush 12, 0, 0, .int 12), (.iload_n 3, 3, 0, .null), (.iconst 3, 0, 0, .int 3), (.iadd, 0, 0, .null), (.iconst 3, 0, 0, .int 3), (.iand, 0, 0, .null), (.iadd, 0, 0, .null), (.invokevirtual 100, 84, 4, .ref 7), (.iinc 3 1, 3, 0, .int 1), (.goto (-36), 62, 0, .null)]
set_option maxRecDepth 100000 in
theorem cb_83_67 : mChk 83 67 bk_83_67 101 = true := by decide +kernel
def bk_83_101 : List mO := [(.iinc 2 1, 2, 0, .int 1), (.goto (-79), 25, 0, .null)]
set_option maxRecDepth 100000 in
theorem cb_83_101 : mChk 83 101 bk_83_101 107 = true := by decide +kernel
def bk_83_107 : List mO := [(.iconst 0, 0, 0, .int 0), (.istore_n 2, 2, 0, .null)]
set_option maxRecDepth 100000 in
theorem cb_83_107 : mChk 83 107 bk_83_107 109 = true := by decide +kernel
def bk_83_109 : List mO := [(.iload_n 2, 2, 0, .null), (.bipush 16, 0, 0, .int 16), (.if_icmp .ge 60, 172, 0, .null)]
set_option maxRecDepth 100000 in
theorem cb_83_109 : mChk 83 109 bk_83_109 115 = true := by decide +kernel
def bk_83_115 : List mO := [(.aload_n 0, 0, 0, .null), (.getfield 13, 7, 4, .null), (.iload_n 2, 2, 0, .null), (.iaload, 0, 0, .null), (.aload_n 0, 0, 0, .null), (.getfield 7, 7, 3, .null), (.iload_n 2, 2, 0, .null), (.iaload, 0, 0, .null), (.iadd, 0, 0, .null), (.istore_n 3, 3, 0, .null), (.iconst 0, 0, 0, .int 0), (.istore 4, 4, 0, .null)]
set_option maxRecDepth 100000 in
theorem cb_83_115 : mChk 83 115 bk_83_115 132 = true := by decide +kernel
def bk_83_132 : List mO := [(.iload 4, 4, 0, .null), (.iconst 4, 0, 0, .int 4), (.if_icmp .ge 31, 166, 0, .null)]
set_option maxRecDepth 100000 in
theorem cb_83_132 : mChk 83 132 bk_83_132 138 = true := by decide +kernel
def bk_83_138 : List mO := [(.aload_n 0, 0, 0, .null), (.getfield 40, 7, 0, .null), (.iconst 4, 0, 0, .int 4), (.iload_n 2, 2, 0, .null), (.imul, 0, 0, .null), (.iload 4, 4, 0, .null), (.iadd, 0, 0, .null), (.iload_n 3, 3, 0, .null), (.bipush 8, 0, 0, .int 8), (.iload 4, 4, 0, .null), (.imul, 0, 0, .null), (.iushr, 0, 0, .null), (.sipush 255, 0, 0, .int 255), (.iand, 0, 0, .null), (.iastore, 0, 0, .null), (.iinc 4 1, 4, 0, .int 1), (.goto (-31), 132, 0, .null)]
set_option maxRecDepth 100000 in
theorem cb_83_138 : mChk 83 138 bk_83_138 166 = true := by decide +kernel
def bk_83_166 : List mO := [(.iinc 2 1, 2, 0, .int 1), (.goto (-60), 109, 0, .null)]
set_option maxRecDepth 100000 in
theorem cb_83_166 : mChk 83 166 bk_83_166 172 = true := by decide +kernel
def bk_83_172 : List mO := [(.return_, 0, 0, .null)]
set_option maxRecDepth 100000 in
theorem cb_83_172 : mChk 83 172 bk_83_172 173 = true := by decide +kernel
-- method 84: KeySealer$StreamCipher.quarter(IIII)V, locals 9, room (0, 0)
def bk_84_0 : List mO := [(.aload_n 0, 0, 0, .null), (.getfield 13, 7, 4, .null), (.iload_n 1, 1, 0, .null), (.iaload, 0, 0, .null), (.istore 5, 5, 0, .null), (.aload_n 0, 0, 0, .null), (.getfield 13, 7, 4, .null), (.iload_n 2, 2, 0, .null), (.iaload, 0, 0, .null), (.istore 6, 6, 0, .null), (.aload_n 0, 0, 0, .null), (.getfield 13, 7, 4, .null), (.iload_n 3, 3, 0, .null), (.iaload, 0, 0, .null), (.istore 7, 7, 0, .null), (.aload_n 0, 0, 0, .null), (.getfield 13, 7, 4, .null), (.iload 4, 4, 0, .null), (.iaload, 0, 0, .null), (.istore 8, 8, 0, .null), (.iload 5, 5, 0, .null), (.iload 6, 6, 0, .null), (.iadd, 0, 0, .null), (.istore 5, 5, 0, .null), (.iload 8, 8, 0, .null), (.iload 5, 5, 0, .null), (.ixor, 0, 0, .null), (.istore 8, 8, 0, .null), (.iload 8, 8, 0, .null), (.bipush 16, 0, 0, .int 16), (.ishl, 0, 0, .null), (.iload 8, 8, 0, .null), (.bipush 16, 0, 0, .int 16), (.iushr, 0, 0, .null), (.ior, 0, 0, .null), (.istore 8, 8, 0, .null), (.iload 7, 7, 0, .null), (.iload 8, 8, 0, .null), (.iadd, 0, 0, .null), (.istore 7, 7, 0, .null), (.iload 6, 6, 0, .null), (.iload 7, 7, 0, .null), (.ixor, 0, 0, .null), (.istore 6, 6, 0, .null), (.iload 6, 6, 0, .null), (.bipush 12, 0, 0, .int 12), (.ishl, 0, 0, .null), (.iload 6, 6, 0, .null), (.bipush 20, 0, 0, .int 20), (.iushr, 0, 0, .null), (.ior, 0, 0, .null), (.istore 6, 6, 0, .null), (.iload 5, 5, 0, .null), (.iload 6, 6, 0, .null), (.iadd, 0, 0, .null), (.istore 5, 5, 0, .null), (.iload 8, 8, 0, .null), (.iload 5, 5, 0, .null), (.ixor, 0, 0, .null), (.istore 8, 8, 0, .null), (.iload 8, 8, 0, .null), (.bipush 8, 0, 0, .int 8), (.ishl, 0, 0, .null), (.iload 8, 8, 0, .null), (.bipush 24, 0, 0, .int 24), (.iushr, 0, 0, .null), (.ior, 0, 0, .null), (.istore 8, 8, 0, .null), (.iload 7, 7, 0, .null), (.iload 8, 8, 0, .null), (.iadd, 0, 0, .null), (.istore 7, 7, 0, .null), (.iload 6, 6, 0, .null), (.iload 7, 7, 0, .null), (.ixor, 0, 0, .null), (.istore 6, 6, 0, .null), (.iload 6, 6, 0, .null), (.bipush 7, 0, 0, .int 7), (.ishl, 0, 0, .null), (.iload 6, 6, 0, .null), (.bipush 25, 0, 0, .int 25), (.iushr, 0, 0, .null), (.ior, 0, 0, .null), (.istore 6, 6, 0, .null), (.aload_n 0, 0, 0, .null), (.getfield 13, 7, 4, .null), (.iload_n 1, 1, 0, .null), (.iload 5, 5, 0, .null), (.iastore, 0, 0, .null), (.aload_n 0, 0, 0, .null), (.getfield 13, 7, 4, .null), (.iload_n 2, 2, 0, .null), (.iload 6, 6, 0, .null), (.iastore, 0, 0, .null), (.aload_n 0, 0, 0, .null), (.getfield 13, 7, 4, .null), (.iload_n 3, 3, 0, .null), (.iload 7, 7, 0, .null), (.iastore, 0, 0, .null), (.aload_n 0, 0, 0, .null), (.getfield 13, 7, 4, .null), (.iload 4, 4, 0, .null), (.iload 8, 8, 0, .null), (.iastore, 0, 0, .null), (.return_, 0, 0, .null)]
set_option maxRecDepth 100000 in
theorem cb_84_0 : mChk 84 0 bk_84_0 175 = true := by decide +kernel
-- method 85: KeySealer$StreamCipher.split(JJ[J)V, locals 5, room (0, 0)
def bk_85_0 : List mO := [(.aload 4, 4, 0, .null), (.iconst 0, 0, 0, .int 0), (.lload_n 0, 0, 0, .null), (.ldc2_w 104, 0, 0, .long 67108863), (.land, 0, 0, .null), (.lastore, 0, 0, .null), (.aload 4, 4, 0, .null), (.iconst 1, 0, 0, .int 1), (.lload_n 0, 0, 0, .null), (.bipush 26, 0, 0, .int 26), (.lushr, 0, 0, .null), (.ldc2_w 104, 0, 0, .long 67108863), (.land, 0, 0, .null), (.lastore, 0, 0, .null), (.aload 4, 4, 0, .null), (.iconst 2, 0, 0, .int 2), (.lload_n 0, 0, 0, .null), (.bipush 52, 0, 0, .int 52), (.lushr, 0, 0, .null), (.lload_n 2, 2, 0, .null), (.bipush 12, 0, 0, .int 12), (.lshl, 0, 0, .null), (.lor, 0, 0, .null), (.ldc2_w 104, 0, 0, .long 67108863), (.land, 0, 0, .null), (.lastore, 0, 0, .null), (.aload 4, 4, 0, .null), (.iconst 3, 0, 0, .int 3), (.lload_n 2, 2, 0, .null), (.bipush 14, 0, 0, .int 14), (.lushr, 0, 0, .null), (.ldc2_w 104, 0, 0, .long 67108863), (.land, 0, 0, .null), (.lastore, 0, 0, .null), (.aload 4, 4, 0, .null), (.iconst 4, 0, 0, .int 4), (.lload_n 2, 2, 0, .null), (.bipush 40, 0, 0, .int 40), (.lushr, 0, 0, .null), (.lastore, 0, 0, .null), (.return_, 0, 0, .null)]
set_option maxRecDepth 100000 in
theorem cb_85_0 : mChk 85 0 bk_85_0 59 = true := by decide +kernel
-- method 86: KeySealer$StreamCipher.multiply(JJ)V, locals 9, room (1, 26)
def bk_86_0 : List mO := [(.lload_n 1, 1, 0, .null), (.lload_n 3, 3, 0, .null), (.aload_n 0, 0, 0, .null), (.getfield 26, 7, 8, .null), (.invokestatic 57, 85, 3, .null), (.iconst 0, 0, 0, .int 0), (.istore 5, 5, 0, .null)]
set_option maxRecDepth 100000 in
theorem cb_86_0 : mChk 86 0 bk_86_0 12 = true := by decide +kernel
def bk_86_12 : List mO := [(.iload 5, 5, 0, .null), (.iconst 5, 0, 0, .int 5), (.if_icmp .ge 26, 41, 0, .null)]
set_option maxRecDepth 100000 in
theorem cb_86_12 : mChk 86 12 bk_86_12 18 = true := by decide +kernel
def bk_86_18 : List mO := [(.aload_n 0, 0, 0, .null), (.getfield 23, 7, 7, .null), (.iload 5, 5, 0, .null), (.dup2, 0, 0, .null), (.laload, 0, 0, .null), (.aload_n 0, 0, 0, .null), (.getfield 26, 7, 8, .null), (.iload 5, 5, 0, .null), (.laload, 0, 0, .null), (.ladd, 0, 0, .null), (.lastore, 0, 0, .null), (.iinc 5 1, 5, 0, .int 1), (.goto (-26), 12, 0, .null)]
set_option maxRecDepth 100000 in
theorem cb_86_18 : mChk 86 18 bk_86_18 41 = true := by decide +kernel
def bk_86_41 : List mO := [(.aload_n 0, 0, 0, .null), (.getfield 23, 7, 7, .null), (.iconst 4, 0, 0, .int 4), (.dup2, 0, 0, .null), (.laload, 0, 0, .null), (.ldc2_w 106, 0, 0, .long 16777216), (.ladd, 0, 0, .null), (.lastore, 0, 0, .null), (.iconst 0, 0, 0, .int 0), (.istore 5, 5, 0, .null)]
set_option maxRecDepth 100000 in
theorem cb_86_41 : mChk 86 41 bk_86_41 56 = true := by decide +kernel
def bk_86_56 : List mO := [(.iload 5, 5, 0, .null), (.iconst 5, 0, 0, .int 5), (.if_icmp .ge 93, 152, 0, .null)]
set_option maxRecDepth 100000 in
theorem cb_86_56 : mChk 86 56 bk_86_56 62 = true := by decide +kernel
def bk_86_62 : List mO := [(.lconst 0, 0, 0, .long 0), (.lstore 6, 6, 0, .null), (.iconst 0, 0, 0, .int 0), (.istore 8, 8, 0, .null)]
set_option maxRecDepth 100000 in
theorem cb_86_62 : mChk 86 62 bk_86_62 68 = true := by decide +kernel
def bk_86_68 : List mO := [(.iload 8, 8, 0, .null), (.iconst 5, 0, 0, .int 5), (.if_icmp .ge 66, 137, 0, .null)]
set_option maxRecDepth 100000 in
theorem cb_86_68 : mChk 86 68 bk_86_68 74 = true := by decide +kernel
def bk_86_74 : List mO := [(.lload 6, 6, 0, .null), (.iload 8, 8, 0, .null), (.iload 5, 5, 0, .null), (.if_icmp .gt 24, 104, 0, .null)]
set_option maxRecDepth 100000 in
theorem cb_86_74 : mChk 86 74 bk_86_74 83 = true := by decide +kernel
def bk_86_83 : List mO := [(.aload_n 0, 0, 0, .null), (.getfield 23, 7, 7, .null), (.iload 8, 8, 0, .null), (.laload, 0, 0, .null), (.aload_n 0, 0, 0, .null), (.getfield 19, 7, 6, .null), (.iload 5, 5, 0, .null), (.iload 8, 8, 0, .null), (.isub, 0, 0, .null), (.laload, 0, 0, .null), (.lmul, 0, 0, .null), (.goto 27, 128, 0, .null)]
set_option maxRecDepth 100000 in
theorem cb_86_83 : mChk 86 83 bk_86_83 104 = true := by decide +kernel
def bk_86_104 : List mO := [(.aload_n 0, 0, 0, .null), (.getfield 23, 7, 7, .null), (.iload 8, 8, 0, .null), (.laload, 0, 0, .null), (.ldc2_w 108, 0, 0, .long 5), (.lmul, 0, 0, .null), (.aload_n 0, 0, 0, .null), (.getfield 19, 7, 6, .null), (.iconst 5, 0, 0, .int 5), (.iload 5, 5, 0, .null), (.iadd, 0, 0, .null), (.iload 8, 8, 0, .null), (.isub, 0, 0, .null), (.laload, 0, 0, .null), (.lmul, 0, 0, .null)]
set_option maxRecDepth 100000 in
theorem cb_86_104 : mChk 86 104 bk_86_104 128 = true := by decide +kernel
def bk_86_128 : List mO := [(.ladd, 0, 0, .null), (.lstore 6, 6, 0, .null), (.iinc 8 1, 8, 0, .int 1), (.goto (-66), 68, 0, .null)]
set_option maxRecDepth 100000 in
theorem cb_86_128 : mChk 86 128 bk_86_128 137 = true := by decide +kernel
def bk_86_137 : List mO := [(.aload_n 0, 0, 0, .null), (.getfield 26, 7, 8, .null), (.iload 5, 5, 0, .null), (.lload 6, 6, 0, .null), (.lastore, 0, 0, .null), (.iinc 5 1, 5, 0, .int 1), (.goto (-93), 56, 0, .null)]
set_option maxRecDepth 100000 in
theorem cb_86_137 : mChk 86 137 bk_86_137 152 = true := by decide +kernel
def bk_86_152 : List mO := [(.aload_n 0, 0, 0, .null), (.getfield 26, 7, 8, .null), (.invokestatic 68, 87, 1, .null), (.aload_n 0, 0, 0, .null), (.getfield 26, 7, 8, .null), (.iconst 0, 0, 0, .int 0), (.aload_n 0, 0, 0, .null), (.getfield 23, 7, 7, .null), (.iconst 0, 0, 0, .int 0), (.iconst 5, 0, 0, .int 5), (.invokestatic 43, 9001, 5, .null), (.return_, 0, 0, .null)]
set_option maxRecDepth 100000 in
theorem cb_86_152 : mChk 86 152 bk_86_152 174 = true := by decide +kernel
-- method 87: KeySealer$StreamCipher.carry([J)V, locals 6, room (0, 0)
def bk_87_0 : List mO := [(.lconst 0, 0, 0, .long 0), (.lstore_n 1, 1, 0, .null), (.iconst 0, 0, 0, .int 0), (.istore_n 3, 3, 0, .null)]
set_option maxRecDepth 100000 in
theorem cb_87_0 : mChk 87 0 bk_87_0 4 = true := by decide +kernel
def bk_87_4 : List mO := [(.iload_n 3, 3, 0, .null), (.iconst 5, 0, 0, .int 5), (.if_icmp .ge 31, 37, 0, .null)]
set_option maxRecDepth 100000 in
theorem cb_87_4 : mChk 87 4 bk_87_4 9 = true := by decide +kernel
def bk_87_9 : List mO := [(.aload_n 0, 0, 0, .null), (.iload_n 3, 3, 0, .null), (.laload, 0, 0, .null), (.lload_n 1, 1, 0, .null), (.ladd, 0, 0, .null), (.lstore 4, 4, 0, .null), (.lload 4, 4, 0, .null), (.bipush 26, 0, 0, .int 26), (.lushr, 0, 0, .null), (.lstore_n 1, 1, 0, .null), (.aload_n 0, 0, 0, .null), (.iload_n 3, 3, 0, .null), (.lload 4, 4, 0, .null), (.ldc2_w 104, 0, 0, .long 67108863), (.land, 0, 0, .null), (.lastore, 0, 0, .null), (.iinc 3 1, 3, 0, .int 1), (.goto (-30), 4, 0, .null)]
set_option maxRecDepth 100000 in
theorem cb_87_9 : mChk 87 9 bk_87_9 37 = true := by decide +kernel
def bk_87_37 : List mO := [(.aload_n 0, 0, 0, .null), (.iconst 0, 0, 0, .int 0), (.laload, 0, 0, .null), (.ldc2_w 108, 0, 0, .long 5), (.lload_n 1, 1, 0, .null), (.lmul, 0, 0, .null), (.ladd, 0, 0, .null), (.lstore_n 3, 3, 0, .null), (.aload_n 0, 0, 0, .null), (.iconst 0, 0, 0, .int 0), (.lload_n 3, 3, 0, .null), (.ldc2_w 104, 0, 0, .long 67108863), (.land, 0, 0, .null), (.lastore, 0, 0, .null), (.aload_n 0, 0, 0, .null), (.iconst 1, 0, 0, .int 1), (.dup2, 0, 0, .null), (.laload, 0, 0, .null), (.lload_n 3, 3, 0, .null), (.bipush 26, 0, 0, .int 26), (.lushr, 0, 0, .null), (.ladd, 0, 0, .null), (.lastore, 0, 0, .null), (.return_, 0, 0, .null)]
set_option maxRecDepth 100000 in
theorem cb_87_37 : mChk 87 37 bk_87_37 66 = true := by decide +kernel
-- method 88: KeySealer$StreamCipher.reduce()V, locals 6, room (1, 26)
def bk_88_0 : List mO := [(.ldc2_w 108, 0, 0, .long 5), (.lstore_n 1, 1, 0, .null), (.iconst 0, 0, 0, .int 0), (.istore_n 3, 3, 0, .null)]
set_option maxRecDepth 100000 in
theorem cb_88_0 : mChk 88 0 bk_88_0 6 = true := by decide +kernel
def bk_88_6 : List mO := [(.iload_n 3, 3, 0, .null), (.iconst 5, 0, 0, .int 5), (.if_icmp .ge 37, 45, 0, .null)]
set_option maxRecDepth 100000 in
theorem cb_88_6 : mChk 88 6 bk_88_6 11 = true := by decide +kernel
def bk_88_11 : List mO := [(.aload_n 0, 0, 0, .null), (.getfield 23, 7, 7, .null), (.iload_n 3, 3, 0, .null), (.laload, 0, 0, .null), (.lload_n 1, 1, 0, .null), (.ladd, 0, 0, .null), (.lstore 4, 4, 0, .null), (.lload 4, 4, 0, .null), (.bipush 26, 0, 0, .int 26), (.lushr, 0, 0, .null), (.lstore_n 1, 1, 0, .null), (.aload_n 0, 0, 0, .null), (.getfield 26, 7, 8, .null), (.iload_n 3, 3, 0, .null), (.lload 4, 4, 0, .null), (.ldc2_w 104, 0, 0, .long 67108863), (.land, 0, 0, .null), (.lastore, 0, 0, .null), (.iinc 3 1, 3, 0, .int 1), (.goto (-36), 6, 0, .null)]
set_option maxRecDepth 100000 in
theorem cb_88_11 : mChk 88 11 bk_88_11 45 = true := by decide +kernel
def bk_88_45 : List mO := [(.lload_n 1, 1, 0, .null), (.lconst 0, 0, 0, .long 0), (.lcmp, 0, 0, .null), (.ifCond .le 17, 65, 0, .null)]
set_option maxRecDepth 100000 in
theorem cb_88_45 : mChk 88 45 bk_88_45 51 = true := by decide +kernel
def bk_88_51 : List mO := [(.aload_n 0, 0, 0, .null), (.getfield 26, 7, 8, .null), (.iconst 0, 0, 0, .int 0), (.aload_n 0, 0, 0, .null), (.getfield 23, 7, 7, .null), (.iconst 0, 0, 0, .int 0), (.iconst 5, 0, 0, .int 5), (.invokestatic 43, 9001, 5, .null)]
set_option maxRecDepth 100000 in
theorem cb_88_51 : mChk 88 51 bk_88_51 65 = true := by decide +kernel
def bk_88_65 : List mO := [(.return_, 0, 0, .null)]
set_option maxRecDepth 100000 in
theorem cb_88_65 : mChk 88 65 bk_88_65 66 = true := by decide +kernel

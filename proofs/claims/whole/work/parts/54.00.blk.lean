/-! PART 54.00: blocks of code and their checks, printed by program (wip/whole/mk13.py) -/
-- method 136: KeySealerModel.<init>()V, locals 1, room (2, 49)
def bk_136_0 : List mO := [(.aload_n 0, 0, 0, .null), (.invokespecial 1, 9000, 0, .null), (.aload_n 0, 0, 0, .null), (.sipush 4800, 0, 0, .int 4800), (.newarray .int, 0, 0, .null), (.putfield 7, 9, 0, .ref 0), (.aload_n 0, 0, 0, .null), (.bipush 16, 0, 0, .int 16), (.newarray .int, 0, 0, .null), (.putfield 13, 9, 1, .ref 0), (.aload_n 0, 0, 0, .null), (.sipush 400, 0, 0, .int 400), (.newarray .int, 0, 0, .null), (.putfield 16, 9, 2, .ref 0), (.aload_n 0, 0, 0, .null), (.sipush 3000, 0, 0, .int 3000), (.newarray .int, 0, 0, .null), (.putfield 19, 9, 3, .ref 0), (.aload_n 0, 0, 0, .null), (.bipush 80, 0, 0, .int 80), (.newarray .long, 0, 0, .null), (.putfield 22, 9, 5, .ref 0), (.aload_n 0, 0, 0, .null), (.bipush 8, 0, 0, .int 8), (.newarray .long, 0, 0, .null), (.putfield 26, 9, 6, .ref 0), (.aload_n 0, 0, 0, .null), (.bipush 64, 0, 0, .int 64), (.newarray .int, 0, 0, .null), (.putfield 29, 9, 7, .ref 0), (.aload_n 0, 0, 0, .null), (.sipush 128, 0, 0, .int 128), (.newarray .int, 0, 0, .null), (.putfield 32, 9, 8, .ref 0), (.aload_n 0, 0, 0, .null), (.sipush 2000, 0, 0, .int 2000), (.newarray .int, 0, 0, .null), (.putfield 35, 9, 10, .ref 0), (.aload_n 0, 0, 0, .null), (.sipush 1000, 0, 0, .int 1000), (.newarray .int, 0, 0, .null), (.putfield 38, 9, 12, .ref 0), (.aload_n 0, 0, 0, .null), (.bipush 16, 0, 0, .int 16), (.newarray .long, 0, 0, .null), (.putfield 41, 9, 14, .ref 0), (.aload_n 0, 0, 0, .null), (.bipush 16, 0, 0, .int 16), (.newarray .long, 0, 0, .null), (.putfield 44, 9, 15, .ref 0), (.aload_n 0, 0, 0, .null), (.bipush 16, 0, 0, .int 16), (.newarray .long, 0, 0, .null), (.putfield 47, 9, 16, .ref 0), (.aload_n 0, 0, 0, .null), (.bipush 16, 0, 0, .int 16), (.newarray .long, 0, 0, .null), (.putfield 50, 9, 17, .ref 0), (.aload_n 0, 0, 0, .null), (.bipush 16, 0, 0, .int 16), (.newarray .long, 0, 0, .null), (.putfield 53, 9, 18, .ref 0), (.aload_n 0, 0, 0, .null), (.bipush 16, 0, 0, .int 16), (.newarray .long, 0, 0, .null), (.putfield 56, 9, 19, .ref 0), (.aload_n 0, 0, 0, .null), (.bipush 16, 0, 0, .int 16), (.newarray .long, 0, 0, .null), (.putfield 59, 9, 20, .ref 0), (.aload_n 0, 0, 0, .null), (.bipush 16, 0, 0, .int 16), (.newarray .long, 0, 0, .null), (.putfield 62, 9, 21, .ref 0), (.aload_n 0, 0, 0, .null), (.bipush 16, 0, 0, .int 16), (.newarray .long, 0, 0, .null), (.putfield 65, 9, 22, .ref 0), (.aload_n 0, 0, 0, .null), (.bipush 16, 0, 0, .int 16), (.newarray .long, 0, 0, .null), (.putfield 68, 9, 23, .ref 0), (.aload_n 0, 0, 0, .null), (.bipush 16, 0, 0, .int 16), (.newarray .long, 0, 0, .null), (.putfield 71, 9, 24, .ref 0), (.aload_n 0, 0, 0, .null), (.bipush 31, 0, 0, .int 31), (.newarray .long, 0, 0, .null), (.putfield 74, 9, 25, .ref 0), (.aload_n 0, 0, 0, .null), (.bipush 16, 0, 0, .int 16), (.newarray .long, 0, 0, .null), (.dup, 0, 0, .null), (.iconst 0, 0, 0, .int 0), (.ldc2_w 77, 0, 0, .long 121665), (.lastore, 0, 0, .null), (.dup, 0, 0, .null), (.iconst 1, 0, 0, .int 1), (.lconst 0, 0, 0, .long 0), (.lastore, 0, 0, .null), (.dup, 0, 0, .null), (.iconst 2, 0, 0, .int 2), (.lconst 0, 0, 0, .long 0), (.lastore, 0, 0, .null), (.dup, 0, 0, .null), (.iconst 3, 0, 0, .int 3), (.lconst 0, 0, 0, .long 0), (.lastore, 0, 0, .null), (.dup, 0, 0, .null), (.iconst 4, 0, 0, .int 4), (.lconst 0, 0, 0, .long 0), (.lastore, 0, 0, .null), (.dup, 0, 0, .null), (.iconst 5, 0, 0, .int 5), (.lconst 0, 0, 0, .long 0), (.lastore, 0, 0, .null), (.dup, 0, 0, .null), (.bipush 6, 0, 0, .int 6), (.lconst 0, 0, 0, .long 0), (.lastore, 0, 0, .null), (.dup, 0, 0, .null), (.bipush 7, 0, 0, .int 7), (.lconst 0, 0, 0, .long 0), (.lastore, 0, 0, .null), (.dup, 0, 0, .null), (.bipush 8, 0, 0, .int 8), (.lconst 0, 0, 0, .long 0), (.lastore, 0, 0, .null), (.dup, 0, 0, .null), (.bipush 9, 0, 0, .int 9), (.lconst 0, 0, 0, .long 0), (.lastore, 0, 0, .null), (.dup, 0, 0, .null), (.bipush 10, 0, 0, .int 10), (.lconst 0, 0, 0, .long 0), (.lastore, 0, 0, .null), (.dup, 0, 0, .null), (.bipush 11, 0, 0, .int 11), (.lconst 0, 0, 0, .long 0), (.lastore, 0, 0, .null), (.dup, 0, 0, .null), (.bipush 12, 0, 0, .int 12), (.lconst 0, 0, 0, .long 0), (.lastore, 0, 0, .null), (.dup, 0, 0, .null), (.bipush 13, 0, 0, .int 13), (.lconst 0, 0, 0, .long 0), (.lastore, 0, 0, .null), (.dup, 0, 0, .null), (.bipush 14, 0, 0, .int 14), (.lconst 0, 0, 0, .long 0), (.lastore, 0, 0, .null), (.dup, 0, 0, .null), (.bipush 15, 0, 0, .int 15), (.lconst 0, 0, 0, .long 0), (.lastore, 0, 0, .null), (.putfield 79, 9, 26, .ref 0), (.aload_n 0, 0, 0, .null), (.bipush 32, 0, 0, .int 32), (.newarray .int, 0, 0, .null), (.putfield 82, 9, 27, .ref 0), (.aload_n 0, 0, 0, .null), (.bipush 32, 0, 0, .int 32), (.newarray .int, 0, 0, .null), (.putfield 85, 9, 28, .ref 0), (.aload_n 0, 0, 0, .null), (.bipush 32, 0, 0, .int 32), (.newarray .int, 0, 0, .null), (.putfield 88, 9, 29, .ref 0), (.aload_n 0, 0, 0, .null), (.sipush 256, 0, 0, .int 256), (.newarray .int, 0, 0, .null), (.putfield 91, 9, 30, .ref 0), (.aload_n 0, 0, 0, .null), (.sipush 240, 0, 0, .int 240), (.newarray .int, 0, 0, .null), (.putfield 94, 9, 31, .ref 0), (.aload_n 0, 0, 0, .null), (.bipush 16, 0, 0, .int 16), (.newarray .int, 0, 0, .null), (.putfield 97, 9, 33, .ref 0), (.aload_n 0, 0, 0, .null), (.bipush 16, 0, 0, .int 16), (.newarray .int, 0, 0, .null), (.putfield 100, 9, 34, .ref 0), (.aload_n 0, 0, 0, .null), (.bipush 32, 0, 0, .int 32), (.newarray .int, 0, 0, .null), (.putfield 103, 9, 35, .ref 0), (.aload_n 0, 0, 0, .null), (.bipush 12, 0, 0, .int 12), (.newarray .int, 0, 0, .null), (.putfield 106, 9, 36, .ref 0), (.aload_n 0, 0, 0, .null), (.sipush 300, 0, 0, .int 300), (.newarray .int, 0, 0, .null), (.putfield 109, 9, 37, .ref 0), (.aload_n 0, 0, 0, .null), (.sipush 400, 0, 0, .int 400), (.newarray .int, 0, 0, .null), (.putfield 112, 9, 39, .ref 0), (.aload_n 0, 0, 0, .null), (.bipush 16, 0, 0, .int 16), (.newarray .int, 0, 0, .null), (.putfield 115, 9, 41, .ref 0), (.aload_n 0, 0, 0, .null), (.bipush 16, 0, 0, .int 16), (.newarray .int, 0, 0, .null), (.putfield 118, 9, 46, .ref 0), (.aload_n 0, 0, 0, .null), (.bipush 16, 0, 0, .int 16), (.newarray .int, 0, 0, .null), (.putfield 121, 9, 47, .ref 0), (.aload_n 0, 0, 0, .null), (.bipush 64, 0, 0, .int 64), (.newarray .int, 0, 0, .null), (.putfield 124, 9, 48, .ref 0), (.aload_n 0, 0, 0, .null), (.iconst 5, 0, 0, .int 5), (.newarray .long, 0, 0, .null), (.putfield 127, 9, 49, .ref 0), (.aload_n 0, 0, 0, .null), (.iconst 5, 0, 0, .int 5), (.newarray .long, 0, 0, .null), (.putfield 130, 9, 50, .ref 0), (.aload_n 0, 0, 0, .null), (.iconst 5, 0, 0, .int 5), (.newarray .long, 0, 0, .null), (.putfield 133, 9, 51, .ref 0), (.aload_n 0, 0, 0, .null), (.bipush 16, 0, 0, .int 16), (.newarray .int, 0, 0, .null), (.putfield 136, 9, 52, .ref 0), (.aload_n 0, 0, 0, .null), (.bipush 10, 0, 0, .int 10), (.newarray .int, 0, 0, .null), (.putfield 139, 9, 53, .ref 0), (.aload_n 0, 0, 0, .null), (.iconst 5, 0, 0, .int 5), (.newarray .int, 0, 0, .null), (.dup, 0, 0, .null), (.iconst 0, 0, 0, .int 0), (.iconst (-1), 0, 0, .int (-1)), (.iastore, 0, 0, .null), (.dup, 0, 0, .null), (.iconst 1, 0, 0, .int 1), (.iconst (-1), 0, 0, .int (-1)), (.iastore, 0, 0, .null), (.dup, 0, 0, .null), (.iconst 2, 0, 0, .int 2), (.iconst (-1), 0, 0, .int (-1)), (.iastore, 0, 0, .null), (.dup, 0, 0, .null), (.iconst 3, 0, 0, .int 3), (.iconst (-1), 0, 0, .int (-1)), (.iastore, 0, 0, .null), (.dup, 0, 0, .null), (.iconst 4, 0, 0, .int 4), (.iconst (-1), 0, 0, .int (-1)), (.iastore, 0, 0, .null), (.putfield 142, 9, 55, .ref 0), (.aload_n 0, 0, 0, .null), (.bipush 64, 0, 0, .int 64), (.newarray .int, 0, 0, .null), (.putfield 145, 9, 56, .ref 0), (.aload_n 0, 0, 0, .null), (.bipush 96, 0, 0, .int 96), (.newarray .int, 0, 0, .null), (.putfield 148, 9, 58, .ref 0), (.aload_n 0, 0, 0, .null), (.bipush 32, 0, 0, .int 32), (.newarray .int, 0, 0, .null), (.putfield 151, 9, 60, .ref 0), (.aload_n 0, 0, 0, .null), (.iconst 4, 0, 0, .int 4), (.newarray .int, 0, 0, .null), (.putfield 154, 9, 61, .ref 0), (.aload_n 0, 0, 0, .null), (.iconst 4, 0, 0, .int 4), (.newarray .int, 0, 0, .null), (.putfield 157, 9, 62, .ref 0), (.aload_n 0, 0, 0, .null), (.iconst 4, 0, 0, .int 4), (.newarray .int, 0, 0, .null), (.putfield 160, 9, 63, .ref 0), (.aload_n 0, 0, 0, .null), (.iconst 4, 0, 0, .int 4), (.newarray .int, 0, 0, .null), (.putfield 163, 9, 64, .ref 0), (.aload_n 0, 0, 0, .null), (.bipush 12, 0, 0, .int 12), (.newarray .long, 0, 0, .null), (.putfield 166, 9, 65, .ref 0), (.aload_n 0, 0, 0, .null), (.sipush 128, 0, 0, .int 128), (.newarray .int, 0, 0, .null), (.putfield 169, 9, 66, .ref 0), (.aload_n 0, 0, 0, .null), (.bipush 48, 0, 0, .int 48), (.newarray .int, 0, 0, .null), (.putfield 172, 9, 67, .ref 0), (.aload_n 0, 0, 0, .null), (.sipush 256, 0, 0, .int 256), (.newarray .int, 0, 0, .null), (.putfield 175, 9, 68, .ref 0), (.aload_n 0, 0, 0, .null), (.sipush 129, 0, 0, .int 129), (.newarray .int, 0, 0, .null), (.putfield 178, 9, 69, .ref 0), (.aload_n 0, 0, 0, .null), (.invokevirtual 181, 184, 0, .ref 9), (.return_, 0, 0, .null)]
set_option maxRecDepth 100000 in
theorem cb_136_0 : mChk 136 0 bk_136_0 558 = true := by decide +kernel
-- method 137: KeySealerModel.isReg(I)Z, locals 1, room (0, 0)
def bk_137_0 : List mO := [(.iload_n 0, 0, 0, .null), (.ifCond .lt 13, 14, 0, .null)]
set_option maxRecDepth 100000 in
theorem cb_137_0 : mChk 137 0 bk_137_0 4 = true := by decide +kernel
def bk_137_4 : List mO := [(.iload_n 0, 0, 0, .null), (.bipush 16, 0, 0, .int 16), (.if_icmp .ge 7, 14, 0, .null)]
set_option maxRecDepth 100000 in
theorem cb_137_4 : mChk 137 4 bk_137_4 10 = true := by decide +kernel
def bk_137_10 : List mO := [(.iconst 1, 0, 0, .int 1), (.goto 4, 15, 0, .null)]
set_option maxRecDepth 100000 in
theorem cb_137_10 : mChk 137 10 bk_137_10 14 = true := by decide +kernel
def bk_137_14 : List mO := [(.iconst 0, 0, 0, .int 0)]
set_option maxRecDepth 100000 in
theorem cb_137_14 : mChk 137 14 bk_137_14 15 = true := by decide +kernel
def bk_137_15 : List mO := [(.ireturn, 0, 0, .int 1)]
set_option maxRecDepth 100000 in
theorem cb_137_15 : mChk 137 15 bk_137_15 16 = true := by decide +kernel
-- method 138: KeySealerModel.areRegs(III)Z, locals 3, room (1, 20)
def bk_138_0 : List mO := [(.iload_n 0, 0, 0, .null), (.invokestatic 184, 137, 1, .null), (.ifCond .eq 21, 25, 0, .null)]
set_option maxRecDepth 100000 in
theorem cb_138_0 : mChk 138 0 bk_138_0 7 = true := by decide +kernel
def bk_138_7 : List mO := [(.iload_n 1, 1, 0, .null), (.invokestatic 184, 137, 1, .null), (.ifCond .eq 14, 25, 0, .null)]
set_option maxRecDepth 100000 in
theorem cb_138_7 : mChk 138 7 bk_138_7 14 = true := by decide +kernel
def bk_138_14 : List mO := [(.iload_n 2, 2, 0, .null), (.invokestatic 184, 137, 1, .null), (.ifCond .eq 7, 25, 0, .null)]
set_option maxRecDepth 100000 in
theorem cb_138_14 : mChk 138 14 bk_138_14 21 = true := by decide +kernel
def bk_138_21 : List mO := [(.iconst 1, 0, 0, .int 1), (.goto 4, 26, 0, .null)]
set_option maxRecDepth 100000 in
theorem cb_138_21 : mChk 138 21 bk_138_21 25 = true := by decide +kernel
def bk_138_25 : List mO := [(.iconst 0, 0, 0, .int 0)]
set_option maxRecDepth 100000 in
theorem cb_138_25 : mChk 138 25 bk_138_25 26 = true := by decide +kernel
def bk_138_26 : List mO := [(.ireturn, 0, 0, .int 1)]
set_option maxRecDepth 100000 in
theorem cb_138_26 : mChk 138 26 bk_138_26 27 = true := by decide +kernel
-- method 139: KeySealerModel.add(IIJ)I, locals 6, room (1, 20)
def bk_139_0 : List mO := [(.iload_n 1, 1, 0, .null), (.invokestatic 184, 137, 1, .null), (.ifCond .eq 14, 18, 0, .null)]
set_option maxRecDepth 100000 in
theorem cb_139_0 : mChk 139 0 bk_139_0 7 = true := by decide +kernel
def bk_139_7 : List mO := [(.iload_n 2, 2, 0, .null), (.iconst 1, 0, 0, .int 1), (.if_icmp .lt 9, 18, 0, .null)]
set_option maxRecDepth 100000 in
theorem cb_139_7 : mChk 139 7 bk_139_7 12 = true := by decide +kernel
def bk_139_12 : List mO := [(.iload_n 2, 2, 0, .null), (.bipush 8, 0, 0, .int 8), (.if_icmp .le 6, 21, 0, .null)]
set_option maxRecDepth 100000 in
theorem cb_139_12 : mChk 139 12 bk_139_12 18 = true := by decide +kernel
def bk_139_18 : List mO := [(.bipush (-2), 0, 0, .int (-2)), (.ireturn, 0, 0, .int 0)]
set_option maxRecDepth 100000 in
theorem cb_139_18 : mChk 139 18 bk_139_18 21 = true := by decide +kernel
def bk_139_21 : List mO := [(.aload_n 0, 0, 0, .null), (.getfield 13, 9, 1, .null), (.iload_n 1, 1, 0, .null), (.iaload, 0, 0, .null), (.iload_n 2, 2, 0, .null), (.iadd, 0, 0, .null), (.sipush 300, 0, 0, .int 300), (.if_icmp .le 6, 38, 0, .null)]
set_option maxRecDepth 100000 in
theorem cb_139_21 : mChk 139 21 bk_139_21 35 = true := by decide +kernel
def bk_139_35 : List mO := [(.bipush (-3), 0, 0, .int (-3)), (.ireturn, 0, 0, .int 0)]
set_option maxRecDepth 100000 in
theorem cb_139_35 : mChk 139 35 bk_139_35 38 = true := by decide +kernel
def bk_139_38 : List mO := [(.iload_n 2, 2, 0, .null), (.iconst 1, 0, 0, .int 1), (.isub, 0, 0, .null), (.istore 5, 5, 0, .null)]
set_option maxRecDepth 100000 in
theorem cb_139_38 : mChk 139 38 bk_139_38 43 = true := by decide +kernel
def bk_139_43 : List mO := [(.iload 5, 5, 0, .null), (.ifCond .lt 48, 93, 0, .null)]
set_option maxRecDepth 100000 in
theorem cb_139_43 : mChk 139 43 bk_139_43 48 = true := by decide +kernel
def bk_139_48 : List mO := [(.aload_n 0, 0, 0, .null), (.getfield 7, 9, 0, .null), (.sipush 300, 0, 0, .int 300), (.iload_n 1, 1, 0, .null), (.imul, 0, 0, .null), (.aload_n 0, 0, 0, .null), (.getfield 13, 9, 1, .null), (.iload_n 1, 1, 0, .null), (.iaload, 0, 0, .null), (.iadd, 0, 0, .null), (.lload_n 3, 3, 0, .null), (.bipush 8, 0, 0, .int 8), (.iload 5, 5, 0, .null), (.imul, 0, 0, .null), (.lshr, 0, 0, .null), (.ldc2_w 188, 0, 0, .long 255), (.land, 0, 0, .null), (.l2i, 0, 0, .null), (.iastore, 0, 0, .null), (.aload_n 0, 0, 0, .null), (.getfield 13, 9, 1, .null), (.iload_n 1, 1, 0, .null), (.dup2, 0, 0, .null), (.iaload, 0, 0, .null), (.iconst 1, 0, 0, .int 1), (.iadd, 0, 0, .null), (.iastore, 0, 0, .null), (.iinc 5 (-1), 5, 0, .int (-1)), (.goto (-47), 43, 0, .null)]
set_option maxRecDepth 100000 in
theorem cb_139_48 : mChk 139 48 bk_139_48 93 = true := by decide +kernel
def bk_139_93 : List mO := [(.aload_n 0, 0, 0, .null), (.getfield 13, 9, 1, .null), (.iload_n 1, 1, 0, .null), (.iaload, 0, 0, .null), (.ireturn, 0, 0, .int 0)]
set_option maxRecDepth 100000 in
theorem cb_139_93 : mChk 139 93 bk_139_93 100 = true := by decide +kernel
-- method 140: KeySealerModel.clear(I)I, locals 3, room (1, 20)
def bk_140_0 : List mO := [(.iload_n 1, 1, 0, .null), (.invokestatic 184, 137, 1, .null), (.ifCond .ne 6, 10, 0, .null)]
set_option maxRecDepth 100000 in
theorem cb_140_0 : mChk 140 0 bk_140_0 7 = true := by decide +kernel
def bk_140_7 : List mO := [(.bipush (-2), 0, 0, .int (-2)), (.ireturn, 0, 0, .int 0)]
set_option maxRecDepth 100000 in
theorem cb_140_7 : mChk 140 7 bk_140_7 10 = true := by decide +kernel
def bk_140_10 : List mO := [(.aload_n 0, 0, 0, .null), (.getfield 13, 9, 1, .null), (.iload_n 1, 1, 0, .null), (.iaload, 0, 0, .null), (.istore_n 2, 2, 0, .null), (.aload_n 0, 0, 0, .null), (.getfield 13, 9, 1, .null), (.iload_n 1, 1, 0, .null), (.iconst 0, 0, 0, .int 0), (.iastore, 0, 0, .null), (.iload_n 2, 2, 0, .null), (.ireturn, 0, 0, .int 0)]
set_option maxRecDepth 100000 in
theorem cb_140_10 : mChk 140 10 bk_140_10 26 = true := by decide +kernel
-- method 141: KeySealerModel.copy(IIII)I, locals 6, room (1, 23)
def bk_141_0 : List mO := [(.iload_n 1, 1, 0, .null), (.invokestatic 184, 137, 1, .null), (.ifCond .eq 42, 46, 0, .null)]
set_option maxRecDepth 100000 in
theorem cb_141_0 : mChk 141 0 bk_141_0 7 = true := by decide +kernel
def bk_141_7 : List mO := [(.iload_n 2, 2, 0, .null), (.invokestatic 184, 137, 1, .null), (.ifCond .eq 35, 46, 0, .null)]
set_option maxRecDepth 100000 in
theorem cb_141_7 : mChk 141 7 bk_141_7 14 = true := by decide +kernel
def bk_141_14 : List mO := [(.iload_n 3, 3, 0, .null), (.ifCond .lt 31, 46, 0, .null)]
set_option maxRecDepth 100000 in
theorem cb_141_14 : mChk 141 14 bk_141_14 18 = true := by decide +kernel
def bk_141_18 : List mO := [(.iload 4, 4, 0, .null), (.ifCond .lt 26, 46, 0, .null)]
set_option maxRecDepth 100000 in
theorem cb_141_18 : mChk 141 18 bk_141_18 23 = true := by decide +kernel
def bk_141_23 : List mO := [(.iload_n 3, 3, 0, .null), (.aload_n 0, 0, 0, .null), (.getfield 13, 9, 1, .null), (.iload_n 2, 2, 0, .null), (.iaload, 0, 0, .null), (.if_icmp .gt 16, 46, 0, .null)]
set_option maxRecDepth 100000 in
theorem cb_141_23 : mChk 141 23 bk_141_23 33 = true := by decide +kernel
def bk_141_33 : List mO := [(.iload 4, 4, 0, .null), (.aload_n 0, 0, 0, .null), (.getfield 13, 9, 1, .null), (.iload_n 2, 2, 0, .null), (.iaload, 0, 0, .null), (.iload_n 3, 3, 0, .null), (.isub, 0, 0, .null), (.if_icmp .le 6, 49, 0, .null)]
set_option maxRecDepth 100000 in
theorem cb_141_33 : mChk 141 33 bk_141_33 46 = true := by decide +kernel
def bk_141_46 : List mO := [(.bipush (-2), 0, 0, .int (-2)), (.ireturn, 0, 0, .int 0)]
set_option maxRecDepth 100000 in
theorem cb_141_46 : mChk 141 46 bk_141_46 49 = true := by decide +kernel
def bk_141_49 : List mO := [(.iconst 0, 0, 0, .int 0), (.istore 5, 5, 0, .null)]
set_option maxRecDepth 100000 in
theorem cb_141_49 : mChk 141 49 bk_141_49 52 = true := by decide +kernel
def bk_141_52 : List mO := [(.iload 5, 5, 0, .null), (.iload 4, 4, 0, .null), (.if_icmp .ge 31, 87, 0, .null)]
set_option maxRecDepth 100000 in
theorem cb_141_52 : mChk 141 52 bk_141_52 59 = true := by decide +kernel
def bk_141_59 : List mO := [(.aload_n 0, 0, 0, .null), (.getfield 16, 9, 2, .null), (.iload 5, 5, 0, .null), (.aload_n 0, 0, 0, .null), (.getfield 7, 9, 0, .null), (.sipush 300, 0, 0, .int 300), (.iload_n 2, 2, 0, .null), (.imul, 0, 0, .null), (.iload_n 3, 3, 0, .null), (.iadd, 0, 0, .null), (.iload 5, 5, 0, .null), (.iadd, 0, 0, .null), (.iaload, 0, 0, .null), (.iastore, 0, 0, .null), (.iinc 5 1, 5, 0, .int 1), (.goto (-32), 52, 0, .null)]
set_option maxRecDepth 100000 in
theorem cb_141_59 : mChk 141 59 bk_141_59 87 = true := by decide +kernel
def bk_141_87 : List mO := [(.aload_n 0, 0, 0, .null), (.iload_n 1, 1, 0, .null), (.iload 4, 4, 0, .null), (.invokevirtual 190, 146, 2, .ref 9), (.iload 4, 4, 0, .null), (.ireturn, 0, 0, .int 0)]
set_option maxRecDepth 100000 in
theorem cb_141_87 : mChk 141 87 bk_141_87 97 = true := by decide +kernel
-- method 142: KeySealerModel.join(II)I, locals 5, room (1, 20)
def bk_142_0 : List mO := [(.iload_n 1, 1, 0, .null), (.invokestatic 184, 137, 1, .null), (.ifCond .eq 10, 14, 0, .null)]
set_option maxRecDepth 100000 in
theorem cb_142_0 : mChk 142 0 bk_142_0 7 = true := by decide +kernel
def bk_142_7 : List mO := [(.iload_n 2, 2, 0, .null), (.invokestatic 184, 137, 1, .null), (.ifCond .ne 6, 17, 0, .null)]
set_option maxRecDepth 100000 in
theorem cb_142_7 : mChk 142 7 bk_142_7 14 = true := by decide +kernel
def bk_142_14 : List mO := [(.bipush (-2), 0, 0, .int (-2)), (.ireturn, 0, 0, .int 0)]
set_option maxRecDepth 100000 in
theorem cb_142_14 : mChk 142 14 bk_142_14 17 = true := by decide +kernel
def bk_142_17 : List mO := [(.aload_n 0, 0, 0, .null), (.getfield 13, 9, 1, .null), (.iload_n 2, 2, 0, .null), (.iaload, 0, 0, .null), (.istore_n 3, 3, 0, .null), (.aload_n 0, 0, 0, .null), (.getfield 13, 9, 1, .null), (.iload_n 1, 1, 0, .null), (.iaload, 0, 0, .null), (.iload_n 3, 3, 0, .null), (.iadd, 0, 0, .null), (.sipush 300, 0, 0, .int 300), (.if_icmp .le 6, 41, 0, .null)]
set_option maxRecDepth 100000 in
theorem cb_142_17 : mChk 142 17 bk_142_17 38 = true := by decide +kernel
def bk_142_38 : List mO := [(.bipush (-3), 0, 0, .int (-3)), (.ireturn, 0, 0, .int 0)]
set_option maxRecDepth 100000 in
theorem cb_142_38 : mChk 142 38 bk_142_38 41 = true := by decide +kernel
def bk_142_41 : List mO := [(.iconst 0, 0, 0, .int 0), (.istore 4, 4, 0, .null)]
set_option maxRecDepth 100000 in
theorem cb_142_41 : mChk 142 41 bk_142_41 44 = true := by decide +kernel
def bk_142_44 : List mO := [(.iload 4, 4, 0, .null), (.iload_n 3, 3, 0, .null), (.if_icmp .ge 49, 96, 0, .null)]
set_option maxRecDepth 100000 in
theorem cb_142_44 : mChk 142 44 bk_142_44 50 = true := by decide +kernel
def bk_142_50 : List mO := [(.aload_n 0, 0, 0, .null), (.getfield 7, 9, 0, .null), (.sipush 300, 0, 0, .int 300), (.iload_n 1, 1, 0, .null), (.imul, 0, 0, .null), (.aload_n 0, 0, 0, .null), (.getfield 13, 9, 1, .null), (.iload_n 1, 1, 0, .null), (.iaload, 0, 0, .null), (.iadd, 0, 0, .null), (.aload_n 0, 0, 0, .null), (.getfield 7, 9, 0, .null), (.sipush 300, 0, 0, .int 300), (.iload_n 2, 2, 0, .null), (.imul, 0, 0, .null), (.iload 4, 4, 0, .null), (.iadd, 0, 0, .null), (.iaload, 0, 0, .null), (.iastore, 0, 0, .null), (.aload_n 0, 0, 0, .null), (.getfield 13, 9, 1, .null), (.iload_n 1, 1, 0, .null), (.dup2, 0, 0, .null), (.iaload, 0, 0, .null), (.iconst 1, 0, 0, .int 1), (.iadd, 0, 0, .null), (.iastore, 0, 0, .null), (.iinc 4 1, 4, 0, .int 1), (.goto (-49), 44, 0, .null)]
set_option maxRecDepth 100000 in
theorem cb_142_50 : mChk 142 50 bk_142_50 96 = true := by decide +kernel
def bk_142_96 : List mO := [(.aload_n 0, 0, 0, .null), (.getfield 13, 9, 1, .null), (.iload_n 1, 1, 0, .null), (.iaload, 0, 0, .null), (.ireturn, 0, 0, .int 0)]
set_option maxRecDepth 100000 in
theorem cb_142_96 : mChk 142 96 bk_142_96 103 = true := by decide +kernel
-- method 143: KeySealerModel.turn(III)I, locals 4, room (1, 20)
def bk_143_0 : List mO := [(.iload_n 1, 1, 0, .null), (.invokestatic 184, 137, 1, .null), (.ifCond .eq 27, 31, 0, .null)]
set_option maxRecDepth 100000 in
theorem cb_143_0 : mChk 143 0 bk_143_0 7 = true := by decide +kernel
def bk_143_7 : List mO := [(.iload_n 2, 2, 0, .null), (.ifCond .lt 23, 31, 0, .null)]
set_option maxRecDepth 100000 in
theorem cb_143_7 : mChk 143 7 bk_143_7 11 = true := by decide +kernel
def bk_143_11 : List mO := [(.iload_n 2, 2, 0, .null), (.aload_n 0, 0, 0, .null), (.getfield 13, 9, 1, .null), (.iload_n 1, 1, 0, .null), (.iaload, 0, 0, .null), (.if_icmp .ge 13, 31, 0, .null)]
set_option maxRecDepth 100000 in
theorem cb_143_11 : mChk 143 11 bk_143_11 21 = true := by decide +kernel
def bk_143_21 : List mO := [(.iload_n 3, 3, 0, .null), (.ifCond .lt 9, 31, 0, .null)]
set_option maxRecDepth 100000 in
theorem cb_143_21 : mChk 143 21 bk_143_21 25 = true := by decide +kernel
def bk_143_25 : List mO := [(.iload_n 3, 3, 0, .null), (.bipush 7, 0, 0, .int 7), (.if_icmp .le 6, 34, 0, .null)]
set_option maxRecDepth 100000 in
theorem cb_143_25 : mChk 143 25 bk_143_25 31 = true := by decide +kernel
def bk_143_31 : List mO := [(.bipush (-2), 0, 0, .int (-2)), (.ireturn, 0, 0, .int 0)]
set_option maxRecDepth 100000 in
theorem cb_143_31 : mChk 143 31 bk_143_31 34 = true := by decide +kernel
def bk_143_34 : List mO := [(.aload_n 0, 0, 0, .null), (.getfield 7, 9, 0, .null), (.sipush 300, 0, 0, .int 300), (.iload_n 1, 1, 0, .null), (.imul, 0, 0, .null), (.iload_n 2, 2, 0, .null), (.iadd, 0, 0, .null), (.dup2, 0, 0, .null), (.iaload, 0, 0, .null), (.iconst 1, 0, 0, .int 1), (.iload_n 3, 3, 0, .null), (.ishl, 0, 0, .null), (.ixor, 0, 0, .null), (.iastore, 0, 0, .null), (.aload_n 0, 0, 0, .null), (.getfield 7, 9, 0, .null), (.sipush 300, 0, 0, .int 300), (.iload_n 1, 1, 0, .null), (.imul, 0, 0, .null), (.iload_n 2, 2, 0, .null), (.iadd, 0, 0, .null), (.iaload, 0, 0, .null), (.ireturn, 0, 0, .int 0)]
set_option maxRecDepth 100000 in
theorem cb_143_34 : mChk 143 34 bk_143_34 65 = true := by decide +kernel
-- method 144: KeySealerModel.size(I)I, locals 2, room (1, 20)
def bk_144_0 : List mO := [(.iload_n 1, 1, 0, .null), (.invokestatic 184, 137, 1, .null), (.ifCond .eq 12, 16, 0, .null)]
set_option maxRecDepth 100000 in
theorem cb_144_0 : mChk 144 0 bk_144_0 7 = true := by decide +kernel
def bk_144_7 : List mO := [(.aload_n 0, 0, 0, .null), (.getfield 13, 9, 1, .null), (.iload_n 1, 1, 0, .null), (.iaload, 0, 0, .null), (.goto 5, 18, 0, .null)]
set_option maxRecDepth 100000 in
theorem cb_144_7 : mChk 144 7 bk_144_7 16 = true := by decide +kernel
def bk_144_16 : List mO := [(.bipush (-2), 0, 0, .int (-2))]
set_option maxRecDepth 100000 in
theorem cb_144_16 : mChk 144 16 bk_144_16 18 = true := by decide +kernel
def bk_144_18 : List mO := [(.ireturn, 0, 0, .int 0)]
set_option maxRecDepth 100000 in
theorem cb_144_18 : mChk 144 18 bk_144_18 19 = true := by decide +kernel
-- method 145: KeySealerModel.at(II)I, locals 3, room (1, 20)
def bk_145_0 : List mO := [(.iload_n 1, 1, 0, .null), (.invokestatic 184, 137, 1, .null), (.ifCond .ne 8, 12, 0, .null)]
set_option maxRecDepth 100000 in
theorem cb_145_0 : mChk 145 0 bk_145_0 7 = true := by decide +kernel
def bk_145_7 : List mO := [(.bipush (-2), 0, 0, .int (-2)), (.goto 33, 42, 0, .null)]
set_option maxRecDepth 100000 in
theorem cb_145_7 : mChk 145 7 bk_145_7 12 = true := by decide +kernel
def bk_145_12 : List mO := [(.iload_n 2, 2, 0, .null), (.ifCond .lt 13, 26, 0, .null)]
set_option maxRecDepth 100000 in
theorem cb_145_12 : mChk 145 12 bk_145_12 16 = true := by decide +kernel
def bk_145_16 : List mO := [(.iload_n 2, 2, 0, .null), (.aload_n 0, 0, 0, .null), (.getfield 13, 9, 1, .null), (.iload_n 1, 1, 0, .null), (.iaload, 0, 0, .null), (.if_icmp .lt 7, 30, 0, .null)]
set_option maxRecDepth 100000 in
theorem cb_145_16 : mChk 145 16 bk_145_16 26 = true := by decide +kernel
def bk_145_26 : List mO := [(.iconst (-1), 0, 0, .int (-1)), (.goto 15, 42, 0, .null)]
set_option maxRecDepth 100000 in
theorem cb_145_26 : mChk 145 26 bk_145_26 30 = true := by decide +kernel
def bk_145_30 : List mO := [(.aload_n 0, 0, 0, .null), (.getfield 7, 9, 0, .null), (.sipush 300, 0, 0, .int 300), (.iload_n 1, 1, 0, .null), (.imul, 0, 0, .null), (.iload_n 2, 2, 0, .null), (.iadd, 0, 0, .null), (.iaload, 0, 0, .null)]
set_option maxRecDepth 100000 in
theorem cb_145_30 : mChk 145 30 bk_145_30 42 = true := by decide +kernel
def bk_145_42 : List mO := [(.ireturn, 0, 0, .int 0)]
set_option maxRecDepth 100000 in
theorem cb_145_42 : mChk 145 42 bk_145_42 43 = true := by decide +kernel
-- method 146: KeySealerModel.give(II)V, locals 4, room (0, 0)
def bk_146_0 : List mO := [(.iconst 0, 0, 0, .int 0), (.istore_n 3, 3, 0, .null)]
set_option maxRecDepth 100000 in
theorem cb_146_0 : mChk 146 0 bk_146_0 2 = true := by decide +kernel
def bk_146_2 : List mO := [(.iload_n 3, 3, 0, .null), (.iload_n 2, 2, 0, .null), (.if_icmp .ge 27, 31, 0, .null)]
set_option maxRecDepth 100000 in
theorem cb_146_2 : mChk 146 2 bk_146_2 7 = true := by decide +kernel
def bk_146_7 : List mO := [(.aload_n 0, 0, 0, .null), (.getfield 7, 9, 0, .null), (.sipush 300, 0, 0, .int 300), (.iload_n 1, 1, 0, .null), (.imul, 0, 0, .null), (.iload_n 3, 3, 0, .null), (.iadd, 0, 0, .null), (.aload_n 0, 0, 0, .null), (.getfield 16, 9, 2, .null), (.iload_n 3, 3, 0, .null), (.iaload, 0, 0, .null), (.iastore, 0, 0, .null), (.iinc 3 1, 3, 0, .int 1), (.goto (-26), 2, 0, .null)]
set_option maxRecDepth 100000 in
theorem cb_146_7 : mChk 146 7 bk_146_7 31 = true := by decide +kernel
def bk_146_31 : List mO := [(.aload_n 0, 0, 0, .null), (.getfield 13, 9, 1, .null), (.iload_n 1, 1, 0, .null), (.iload_n 2, 2, 0, .null), (.iastore, 0, 0, .null), (.return_, 0, 0, .null)]
set_option maxRecDepth 100000 in
theorem cb_146_31 : mChk 146 31 bk_146_31 39 = true := by decide +kernel
-- method 147: KeySealerModel.hashSize(I)I, locals 1, room (0, 0)
def bk_147_0 : List mO := [(.iload_n 0, 0, 0, .null), (.iconst 1, 0, 0, .int 1), (.if_icmp .ne 8, 10, 0, .null)]
set_option maxRecDepth 100000 in
theorem cb_147_0 : mChk 147 0 bk_147_0 5 = true := by decide +kernel
def bk_147_5 : List mO := [(.bipush 32, 0, 0, .int 32), (.goto 5, 12, 0, .null)]
set_option maxRecDepth 100000 in
theorem cb_147_5 : mChk 147 5 bk_147_5 10 = true := by decide +kernel
def bk_147_10 : List mO := [(.bipush 64, 0, 0, .int 64)]
set_option maxRecDepth 100000 in
theorem cb_147_10 : mChk 147 10 bk_147_10 12 = true := by decide +kernel
def bk_147_12 : List mO := [(.ireturn, 0, 0, .int 0)]
set_option maxRecDepth 100000 in
theorem cb_147_12 : mChk 147 12 bk_147_12 13 = true := by decide +kernel
-- method 148: KeySealerModel.turned(JIZ)J, locals 4, room (0, 0)
def bk_148_0 : List mO := [(.iload_n 3, 3, 0, .null), (.ifCond .eq 20, 21, 0, .null)]
set_option maxRecDepth 100000 in
theorem cb_148_0 : mChk 148 0 bk_148_0 4 = true := by decide +kernel
def bk_148_4 : List mO := [(.lload_n 0, 0, 0, .null), (.iload_n 2, 2, 0, .null), (.lushr, 0, 0, .null), (.lload_n 0, 0, 0, .null), (.bipush 32, 0, 0, .int 32), (.iload_n 2, 2, 0, .null), (.isub, 0, 0, .null), (.lshl, 0, 0, .null), (.lor, 0, 0, .null), (.ldc2_w 194, 0, 0, .long 4294967295), (.land, 0, 0, .null), (.goto 13, 31, 0, .null)]
set_option maxRecDepth 100000 in
theorem cb_148_4 : mChk 148 4 bk_148_4 21 = true := by decide +kernel
def bk_148_21 : List mO := [(.lload_n 0, 0, 0, .null), (.iload_n 2, 2, 0, .null), (.lushr, 0, 0, .null), (.lload_n 0, 0, 0, .null), (.bipush 64, 0, 0, .int 64), (.iload_n 2, 2, 0, .null), (.isub, 0, 0, .null), (.lshl, 0, 0, .null), (.lor, 0, 0, .null)]
set_option maxRecDepth 100000 in
theorem cb_148_21 : mChk 148 21 bk_148_21 31 = true := by decide +kernel
def bk_148_31 : List mO := [(.lreturn, 0, 0, .null)]
set_option maxRecDepth 100000 in
theorem cb_148_31 : mChk 148 31 bk_148_31 32 = true := by decide +kernel
-- method 149: KeySealerModel.three(JIIIZ)J, locals 6, room (1, 23)
def bk_149_0 : List mO := [(.lload_n 0, 0, 0, .null), (.iload_n 2, 2, 0, .null), (.iload 5, 5, 0, .null), (.invokestatic 196, 148, 3, .null), (.lload_n 0, 0, 0, .null), (.iload_n 3, 3, 0, .null), (.iload 5, 5, 0, .null), (.invokestatic 196, 148, 3, .null), (.lxor, 0, 0, .null), (.lload_n 0, 0, 0, .null), (.iload 4, 4, 0, .null), (.iload 5, 5, 0, .null), (.invokestatic 196, 148, 3, .null), (.lxor, 0, 0, .null), (.lreturn, 0, 0, .null)]
set_option maxRecDepth 100000 in
theorem cb_149_0 : mChk 149 0 bk_149_0 25 = true := by decide +kernel
-- method 150: KeySealerModel.mixed(JIIIZ)J, locals 6, room (1, 23)
def bk_150_0 : List mO := [(.lload_n 0, 0, 0, .null), (.iload_n 2, 2, 0, .null), (.iload 5, 5, 0, .null), (.invokestatic 196, 148, 3, .null), (.lload_n 0, 0, 0, .null), (.iload_n 3, 3, 0, .null), (.iload 5, 5, 0, .null), (.invokestatic 196, 148, 3, .null), (.lxor, 0, 0, .null), (.lload_n 0, 0, 0, .null), (.iload 4, 4, 0, .null), (.lushr, 0, 0, .null), (.lxor, 0, 0, .null), (.lreturn, 0, 0, .null)]
set_option maxRecDepth 100000 in
theorem cb_150_0 : mChk 150 0 bk_150_0 21 = true := by decide +kernel
-- method 151: KeySealerModel.digest(I)V, locals 9, room (3, 97)
def bk_151_0 : List mO := [(.iload_n 1, 1, 0, .null), (.iconst 1, 0, 0, .int 1), (.if_icmp .ne 7, 9, 0, .null)]
set_option maxRecDepth 100000 in
theorem cb_151_0 : mChk 151 0 bk_151_0 5 = true := by decide +kernel
def bk_151_5 : List mO := [(.iconst 1, 0, 0, .int 1), (.goto 4, 10, 0, .null)]
set_option maxRecDepth 100000 in
theorem cb_151_5 : mChk 151 5 bk_151_5 9 = true := by decide +kernel
def bk_151_9 : List mO := [(.iconst 0, 0, 0, .int 0)]
set_option maxRecDepth 100000 in
theorem cb_151_9 : mChk 151 9 bk_151_9 10 = true := by decide +kernel
def bk_151_10 : List mO := [(.istore_n 2, 2, 0, .null), (.iload_n 2, 2, 0, .null), (.ifCond .eq 7, 19, 0, .null)]
set_option maxRecDepth 100000 in
theorem cb_151_10 : mChk 151 10 bk_151_10 15 = true := by decide +kernel
def bk_151_15 : List mO := [(.iconst 4, 0, 0, .int 4), (.goto 5, 21, 0, .null)]
set_option maxRecDepth 100000 in
theorem cb_151_15 : mChk 151 15 bk_151_15 19 = true := by decide +kernel
def bk_151_19 : List mO := [(.bipush 8, 0, 0, .int 8)]
set_option maxRecDepth 100000 in
theorem cb_151_19 : mChk 151 19 bk_151_19 21 = true := by decide +kernel
def bk_151_21 : List mO := [(.istore_n 3, 3, 0, .null), (.bipush 16, 0, 0, .int 16), (.iload_n 3, 3, 0, .null), (.imul, 0, 0, .null), (.istore 4, 4, 0, .null), (.aload_n 0, 0, 0, .null), (.getfield 200, 9, 4, .null), (.istore 5, 5, 0, .null), (.aload_n 0, 0, 0, .null), (.getfield 19, 9, 3, .null), (.aload_n 0, 0, 0, .null), (.getfield 200, 9, 4, .null), (.sipush 128, 0, 0, .int 128), (.iastore, 0, 0, .null), (.aload_n 0, 0, 0, .null), (.dup, 0, 0, .null), (.getfield 200, 9, 4, .null), (.iconst 1, 0, 0, .int 1), (.iadd, 0, 0, .null), (.putfield 200, 9, 4, .int 0)]
set_option maxRecDepth 100000 in
theorem cb_151_21 : mChk 151 21 bk_151_21 56 = true := by decide +kernel
def bk_151_56 : List mO := [(.aload_n 0, 0, 0, .null), (.getfield 200, 9, 4, .null), (.iload 4, 4, 0, .null), (.irem, 0, 0, .null), (.iload 4, 4, 0, .null), (.iconst 2, 0, 0, .int 2), (.iload_n 3, 3, 0, .null), (.imul, 0, 0, .null), (.isub, 0, 0, .null), (.if_icmp .eq 26, 95, 0, .null)]
set_option maxRecDepth 100000 in
theorem cb_151_56 : mChk 151 56 bk_151_56 72 = true := by decide +kernel
def bk_151_72 : List mO := [(.aload_n 0, 0, 0, .null), (.getfield 19, 9, 3, .null), (.aload_n 0, 0, 0, .null), (.getfield 200, 9, 4, .null), (.iconst 0, 0, 0, .int 0), (.iastore, 0, 0, .null), (.aload_n 0, 0, 0, .null), (.dup, 0, 0, .null), (.getfield 200, 9, 4, .null), (.iconst 1, 0, 0, .int 1), (.iadd, 0, 0, .null), (.putfield 200, 9, 4, .int 0), (.goto (-36), 56, 0, .null)]
set_option maxRecDepth 100000 in
theorem cb_151_72 : mChk 151 72 bk_151_72 95 = true := by decide +kernel
def bk_151_95 : List mO := [(.iconst 2, 0, 0, .int 2), (.iload_n 3, 3, 0, .null), (.imul, 0, 0, .null), (.iconst 1, 0, 0, .int 1), (.isub, 0, 0, .null), (.istore 6, 6, 0, .null)]
set_option maxRecDepth 100000 in
theorem cb_151_95 : mChk 151 95 bk_151_95 102 = true := by decide +kernel
def bk_151_102 : List mO := [(.iload 6, 6, 0, .null), (.ifCond .lt 53, 157, 0, .null)]
set_option maxRecDepth 100000 in
theorem cb_151_102 : mChk 151 102 bk_151_102 107 = true := by decide +kernel
def bk_151_107 : List mO := [(.aload_n 0, 0, 0, .null), (.getfield 19, 9, 3, .null), (.aload_n 0, 0, 0, .null), (.getfield 200, 9, 4, .null), (.iload 6, 6, 0, .null), (.iconst 4, 0, 0, .int 4), (.if_icmp .ge 21, 139, 0, .null)]
set_option maxRecDepth 100000 in
theorem cb_151_107 : mChk 151 107 bk_151_107 121 = true := by decide +kernel
def bk_151_121 : List mO := [(.bipush 8, 0, 0, .int 8), (.iload 5, 5, 0, .null), (.imul, 0, 0, .null), (.bipush 8, 0, 0, .int 8), (.iload 6, 6, 0, .null), (.imul, 0, 0, .null), (.ishr, 0, 0, .null), (.sipush 255, 0, 0, .int 255), (.iand, 0, 0, .null), (.goto 4, 140, 0, .null)]
set_option maxRecDepth 100000 in
theorem cb_151_121 : mChk 151 121 bk_151_121 139 = true := by decide +kernel
def bk_151_139 : List mO := [(.iconst 0, 0, 0, .int 0)]
set_option maxRecDepth 100000 in
theorem cb_151_139 : mChk 151 139 bk_151_139 140 = true := by decide +kernel
def bk_151_140 : List mO := [(.iastore, 0, 0, .null), (.aload_n 0, 0, 0, .null), (.dup, 0, 0, .null), (.getfield 200, 9, 4, .null), (.iconst 1, 0, 0, .int 1), (.iadd, 0, 0, .null), (.putfield 200, 9, 4, .int 0), (.iinc 6 (-1), 6, 0, .int (-1)), (.goto (-52), 102, 0, .null)]
set_option maxRecDepth 100000 in
theorem cb_151_140 : mChk 151 140 bk_151_140 157 = true := by decide +kernel
def bk_151_157 : List mO := [(.iconst 0, 0, 0, .int 0), (.istore 6, 6, 0, .null)]
set_option maxRecDepth 100000 in
theorem cb_151_157 : mChk 151 157 bk_151_157 160 = true := by decide +kernel
def bk_151_160 : List mO := [(.iload 6, 6, 0, .null), (.bipush 8, 0, 0, .int 8), (.if_icmp .ge 38, 202, 0, .null)]
set_option maxRecDepth 100000 in
theorem cb_151_160 : mChk 151 160 bk_151_160 167 = true := by decide +kernel
def bk_151_167 : List mO := [(.aload_n 0, 0, 0, .null), (.getfield 26, 9, 6, .null), (.iload 6, 6, 0, .null), (.iload_n 2, 2, 0, .null), (.ifCond .eq 15, 189, 0, .null)]
set_option maxRecDepth 100000 in
theorem cb_151_167 : mChk 151 167 bk_151_167 177 = true := by decide +kernel
def bk_151_177 : List mO := [(.getstatic 204, 0, 0, .ref 1000004), (.iload 6, 6, 0, .null), (.laload, 0, 0, .null), (.bipush 32, 0, 0, .int 32), (.lushr, 0, 0, .null), (.goto 9, 195, 0, .null)]
set_option maxRecDepth 100000 in
theorem cb_151_177 : mChk 151 177 bk_151_177 189 = true := by decide +kernel
def bk_151_189 : List mO := [(.getstatic 204, 0, 0, .ref 1000004), (.iload 6, 6, 0, .null), (.laload, 0, 0, .null)]
set_option maxRecDepth 100000 in
theorem cb_151_189 : mChk 151 189 bk_151_189 195 = true := by decide +kernel
def bk_151_195 : List mO := [(.lastore, 0, 0, .null), (.iinc 6 1, 6, 0, .int 1), (.goto (-39), 160, 0, .null)]
set_option maxRecDepth 100000 in
theorem cb_151_195 : mChk 151 195 bk_151_195 202 = true := by decide +kernel
def bk_151_202 : List mO := [(.iconst 0, 0, 0, .int 0), (.istore 6, 6, 0, .null)]
set_option maxRecDepth 100000 in
theorem cb_151_202 : mChk 151 202 bk_151_202 205 = true := by decide +kernel
def bk_151_205 : List mO := [(.iload 6, 6, 0, .null), (.aload_n 0, 0, 0, .null), (.getfield 200, 9, 4, .null), (.if_icmp .ge 91, 302, 0, .null)]
set_option maxRecDepth 100000 in
theorem cb_151_205 : mChk 151 205 bk_151_205 214 = true := by decide +kernel
def bk_151_214 : List mO := [(.iconst 0, 0, 0, .int 0), (.istore 7, 7, 0, .null)]
set_option maxRecDepth 100000 in
theorem cb_151_214 : mChk 151 214 bk_151_214 217 = true := by decide +kernel
def bk_151_217 : List mO := [(.iload 7, 7, 0, .null), (.bipush 16, 0, 0, .int 16), (.if_icmp .ge 66, 287, 0, .null)]
set_option maxRecDepth 100000 in
theorem cb_151_217 : mChk 151 217 bk_151_217 224 = true := by decide +kernel
def bk_151_224 : List mO := [(.aload_n 0, 0, 0, .null), (.getfield 22, 9, 5, .null), (.iload 7, 7, 0, .null), (.lconst 0, 0, 0, .long 0), (.lastore, 0, 0, .null), (.iconst 0, 0, 0, .int 0), (.istore 8, 8, 0, .null)]
set_option maxRecDepth 100000 in
theorem cb_151_224 : mChk 151 224 bk_151_224 235 = true := by decide +kernel
def bk_151_235 : List mO := [(.iload 8, 8, 0, .null), (.iload_n 3, 3, 0, .null), (.if_icmp .ge 43, 281, 0, .null)]
set_option maxRecDepth 100000 in
theorem cb_151_235 : mChk 151 235 bk_151_235 241 = true := by decide +kernel
def bk_151_241 : List mO := [(.aload_n 0, 0, 0, .null), (.getfield 22, 9, 5, .null), (.iload 7, 7, 0, .null), (.aload_n 0, 0, 0, .null), (.getfield 22, 9, 5, .null), (.iload 7, 7, 0, .null), (.laload, 0, 0, .null), (.bipush 8, 0, 0, .int 8), (.lshl, 0, 0, .null), (.aload_n 0, 0, 0, .null), (.getfield 19, 9, 3, .null), (.iload 6, 6, 0, .null), (.iload_n 3, 3, 0, .null), (.iload 7, 7, 0, .null), (.imul, 0, 0, .null), (.iadd, 0, 0, .null), (.iload 8, 8, 0, .null), (.iadd, 0, 0, .null), (.iaload, 0, 0, .null), (.i2l, 0, 0, .null), (.lor, 0, 0, .null), (.lastore, 0, 0, .null), (.iinc 8 1, 8, 0, .int 1), (.goto (-43), 235, 0, .null)]
set_option maxRecDepth 100000 in
theorem cb_151_241 : mChk 151 241 bk_151_241 281 = true := by decide +kernel
def bk_151_281 : List mO := [(.iinc 7 1, 7, 0, .int 1), (.goto (-67), 217, 0, .null)]
set_option maxRecDepth 100000 in
theorem cb_151_281 : mChk 151 281 bk_151_281 287 = true := by decide +kernel
def bk_151_287 : List mO := [(.aload_n 0, 0, 0, .null), (.iload_n 2, 2, 0, .null), (.invokevirtual 207, 152, 1, .ref 9), (.iload 6, 6, 0, .null), (.iload 4, 4, 0, .null), (.iadd, 0, 0, .null), (.istore 6, 6, 0, .null), (.goto (-94), 205, 0, .null)]
set_option maxRecDepth 100000 in
theorem cb_151_287 : mChk 151 287 bk_151_287 302 = true := by decide +kernel
def bk_151_302 : List mO := [(.iconst 0, 0, 0, .int 0), (.istore 6, 6, 0, .null)]
set_option maxRecDepth 100000 in
theorem cb_151_302 : mChk 151 302 bk_151_302 305 = true := by decide +kernel
def bk_151_305 : List mO := [(.iload 6, 6, 0, .null), (.bipush 8, 0, 0, .int 8), (.iload_n 3, 3, 0, .null), (.imul, 0, 0, .null), (.if_icmp .ge 42, 353, 0, .null)]
set_option maxRecDepth 100000 in
theorem cb_151_305 : mChk 151 305 bk_151_305 314 = true := by decide +kernel
def bk_151_314 : List mO := [(.aload_n 0, 0, 0, .null), (.getfield 29, 9, 7, .null), (.iload 6, 6, 0, .null), (.aload_n 0, 0, 0, .null), (.getfield 26, 9, 6, .null), (.iload 6, 6, 0, .null), (.iload_n 3, 3, 0, .null), (.idiv, 0, 0, .null), (.laload, 0, 0, .null), (.bipush 8, 0, 0, .int 8), (.iload_n 3, 3, 0, .null), (.iconst 1, 0, 0, .int 1), (.isub, 0, 0, .null), (.iload 6, 6, 0, .null), (.iload_n 3, 3, 0, .null), (.irem, 0, 0, .null), (.isub, 0, 0, .null), (.imul, 0, 0, .null), (.lushr, 0, 0, .null), (.ldc2_w 188, 0, 0, .long 255), (.land, 0, 0, .null), (.l2i, 0, 0, .null), (.iastore, 0, 0, .null), (.iinc 6 1, 6, 0, .int 1), (.goto (-45), 305, 0, .null)]
set_option maxRecDepth 100000 in
theorem cb_151_314 : mChk 151 314 bk_151_314 353 = true := by decide +kernel
def bk_151_353 : List mO := [(.return_, 0, 0, .null)]
set_option maxRecDepth 100000 in
theorem cb_151_353 : mChk 151 353 bk_151_353 354 = true := by decide +kernel
-- method 152: KeySealerModel.doBlock(Z)V, locals 30, room (2, 48)
def bk_152_0 : List mO := [(.iload_n 1, 1, 0, .null), (.ifCond .eq 8, 9, 0, .null)]
set_option maxRecDepth 100000 in
theorem cb_152_0 : mChk 152 0 bk_152_0 4 = true := by decide +kernel
def bk_152_4 : List mO := [(.bipush 64, 0, 0, .int 64), (.goto 5, 11, 0, .null)]
set_option maxRecDepth 100000 in
theorem cb_152_4 : mChk 152 4 bk_152_4 9 = true := by decide +kernel
def bk_152_9 : List mO := [(.bipush 80, 0, 0, .int 80)]
set_option maxRecDepth 100000 in
theorem cb_152_9 : mChk 152 9 bk_152_9 11 = true := by decide +kernel
def bk_152_11 : List mO := [(.istore_n 2, 2, 0, .null), (.iload_n 1, 1, 0, .null), (.ifCond .eq 9, 22, 0, .null)]
set_option maxRecDepth 100000 in
theorem cb_152_11 : mChk 152 11 bk_152_11 16 = true := by decide +kernel
def bk_152_16 : List mO := [(.ldc2_w 194, 0, 0, .long 4294967295), (.goto 6, 25, 0, .null)]
set_option maxRecDepth 100000 in
theorem cb_152_16 : mChk 152 16 bk_152_16 22 = true := by decide +kernel
def bk_152_22 : List mO := [(.ldc2_w 211, 0, 0, .long (-1))]
set_option maxRecDepth 100000 in
theorem cb_152_22 : mChk 152 22 bk_152_22 25 = true := by decide +kernel
def bk_152_25 : List mO := [(.lstore_n 3, 3, 0, .null), (.bipush 16, 0, 0, .int 16), (.istore 5, 5, 0, .null)]
set_option maxRecDepth 100000 in
theorem cb_152_25 : mChk 152 25 bk_152_25 30 = true := by decide +kernel
def bk_152_30 : List mO := [(.iload 5, 5, 0, .null), (.iload_n 2, 2, 0, .null), (.if_icmp .ge 139, 172, 0, .null)]
set_option maxRecDepth 100000 in
theorem cb_152_30 : mChk 152 30 bk_152_30 36 = true := by decide +kernel
def bk_152_36 : List mO := [(.iload_n 1, 1, 0, .null), (.ifCond .eq 25, 62, 0, .null)]
set_option maxRecDepth 100000 in
theorem cb_152_36 : mChk 152 36 bk_152_36 40 = true := by decide +kernel
def bk_152_40 : List mO := [(.aload_n 0, 0, 0, .null), (.getfield 22, 9, 5, .null), (.iload 5, 5, 0, .null), (.bipush 15, 0, 0, .int 15), (.isub, 0, 0, .null), (.laload, 0, 0, .null), (.bipush 7, 0, 0, .int 7), (.bipush 18, 0, 0, .int 18), (.iconst 3, 0, 0, .int 3), (.iconst 1, 0, 0, .int 1), (.invokestatic 213, 150, 5, .null), (.goto 22, 81, 0, .null)]
set_option maxRecDepth 100000 in
theorem cb_152_40 : mChk 152 40 bk_152_40 62 = true := by decide +kernel
def bk_152_62 : List mO := [(.aload_n 0, 0, 0, .null), (.getfield 22, 9, 5, .null), (.iload 5, 5, 0, .null), (.bipush 15, 0, 0, .int 15), (.isub, 0, 0, .null), (.laload, 0, 0, .null), (.iconst 1, 0, 0, .int 1), (.bipush 8, 0, 0, .int 8), (.bipush 7, 0, 0, .int 7), (.iconst 0, 0, 0, .int 0), (.invokestatic 213, 150, 5, .null)]
set_option maxRecDepth 100000 in
theorem cb_152_62 : mChk 152 62 bk_152_62 81 = true := by decide +kernel
def bk_152_81 : List mO := [(.lstore 6, 6, 0, .null), (.iload_n 1, 1, 0, .null), (.ifCond .eq 25, 109, 0, .null)]
set_option maxRecDepth 100000 in
theorem cb_152_81 : mChk 152 81 bk_152_81 87 = true := by decide +kernel
def bk_152_87 : List mO := [(.aload_n 0, 0, 0, .null), (.getfield 22, 9, 5, .null), (.iload 5, 5, 0, .null), (.iconst 2, 0, 0, .int 2), (.isub, 0, 0, .null), (.laload, 0, 0, .null), (.bipush 17, 0, 0, .int 17), (.bipush 19, 0, 0, .int 19), (.bipush 10, 0, 0, .int 10), (.iconst 1, 0, 0, .int 1), (.invokestatic 213, 150, 5, .null), (.goto 22, 128, 0, .null)]
set_option maxRecDepth 100000 in
theorem cb_152_87 : mChk 152 87 bk_152_87 109 = true := by decide +kernel
def bk_152_109 : List mO := [(.aload_n 0, 0, 0, .null), (.getfield 22, 9, 5, .null), (.iload 5, 5, 0, .null), (.iconst 2, 0, 0, .int 2), (.isub, 0, 0, .null), (.laload, 0, 0, .null), (.bipush 19, 0, 0, .int 19), (.bipush 61, 0, 0, .int 61), (.bipush 6, 0, 0, .int 6), (.iconst 0, 0, 0, .int 0), (.invokestatic 213, 150, 5, .null)]
set_option maxRecDepth 100000 in
theorem cb_152_109 : mChk 152 109 bk_152_109 128 = true := by decide +kernel
def bk_152_128 : List mO := [(.lstore 8, 8, 0, .null), (.aload_n 0, 0, 0, .null), (.getfield 22, 9, 5, .null), (.iload 5, 5, 0, .null), (.lload 8, 8, 0, .null), (.aload_n 0, 0, 0, .null), (.getfield 22, 9, 5, .null), (.iload 5, 5, 0, .null), (.bipush 7, 0, 0, .int 7), (.isub, 0, 0, .null), (.laload, 0, 0, .null), (.ladd, 0, 0, .null), (.lload 6, 6, 0, .null), (.ladd, 0, 0, .null), (.aload_n 0, 0, 0, .null), (.getfield 22, 9, 5, .null), (.iload 5, 5, 0, .null), (.bipush 16, 0, 0, .int 16), (.isub, 0, 0, .null), (.laload, 0, 0, .null), (.ladd, 0, 0, .null), (.lload_n 3, 3, 0, .null), (.land, 0, 0, .null), (.lastore, 0, 0, .null), (.iinc 5 1, 5, 0, .int 1), (.goto (-139), 30, 0, .null)]
set_option maxRecDepth 100000 in
theorem cb_152_128 : mChk 152 128 bk_152_128 172 = true := by decide +kernel
def bk_152_172 : List mO := [(.aload_n 0, 0, 0, .null), (.getfield 26, 9, 6, .null), (.iconst 0, 0, 0, .int 0), (.laload, 0, 0, .null), (.lstore 5, 5, 0, .null), (.aload_n 0, 0, 0, .null), (.getfield 26, 9, 6, .null), (.iconst 1, 0, 0, .int 1), (.laload, 0, 0, .null), (.lstore 7, 7, 0, .null), (.aload_n 0, 0, 0, .null), (.getfield 26, 9, 6, .null), (.iconst 2, 0, 0, .int 2), (.laload, 0, 0, .null), (.lstore 9, 9, 0, .null), (.aload_n 0, 0, 0, .null), (.getfield 26, 9, 6, .null), (.iconst 3, 0, 0, .int 3), (.laload, 0, 0, .null), (.lstore 11, 11, 0, .null), (.aload_n 0, 0, 0, .null), (.getfield 26, 9, 6, .null), (.iconst 4, 0, 0, .int 4), (.laload, 0, 0, .null), (.lstore 13, 13, 0, .null), (.aload_n 0, 0, 0, .null), (.getfield 26, 9, 6, .null), (.iconst 5, 0, 0, .int 5), (.laload, 0, 0, .null), (.lstore 15, 15, 0, .null), (.aload_n 0, 0, 0, .null), (.getfield 26, 9, 6, .null), (.bipush 6, 0, 0, .int 6), (.laload, 0, 0, .null), (.lstore 17, 17, 0, .null), (.aload_n 0, 0, 0, .null), (.getfield 26, 9, 6, .null), (.bipush 7, 0, 0, .int 7), (.laload, 0, 0, .null), (.lstore 19, 19, 0, .null), (.iconst 0, 0, 0, .int 0), (.istore 21, 21, 0, .null)]
set_option maxRecDepth 100000 in
theorem cb_152_172 : mChk 152 172 bk_152_172 241 = true := by decide +kernel
def bk_152_241 : List mO := [(.iload 21, 21, 0, .null), (.iload_n 2, 2, 0, .null), (.if_icmp .ge 192, 436, 0, .null)]
set_option maxRecDepth 100000 in
theorem cb_152_241 : mChk 152 241 bk_152_241 247 = true := by decide +kernel
def bk_152_247 : List mO := [(.iload_n 1, 1, 0, .null), (.ifCond .eq 18, 266, 0, .null)]
set_option maxRecDepth 100000 in
theorem cb_152_247 : mChk 152 247 bk_152_247 251 = true := by decide +kernel
def bk_152_251 : List mO := [(.lload 13, 13, 0, .null), (.bipush 6, 0, 0, .int 6), (.bipush 11, 0, 0, .int 11), (.bipush 25, 0, 0, .int 25), (.iconst 1, 0, 0, .int 1), (.invokestatic 217, 149, 5, .null), (.goto 15, 278, 0, .null)]
set_option maxRecDepth 100000 in
theorem cb_152_251 : mChk 152 251 bk_152_251 266 = true := by decide +kernel
def bk_152_266 : List mO := [(.lload 13, 13, 0, .null), (.bipush 14, 0, 0, .int 14), (.bipush 18, 0, 0, .int 18), (.bipush 41, 0, 0, .int 41), (.iconst 0, 0, 0, .int 0), (.invokestatic 217, 149, 5, .null)]
set_option maxRecDepth 100000 in
theorem cb_152_266 : mChk 152 266 bk_152_266 278 = true := by decide +kernel
def bk_152_278 : List mO := [(.lstore 22, 22, 0, .null), (.lload 19, 19, 0, .null), (.lload 22, 22, 0, .null), (.ladd, 0, 0, .null), (.lload 13, 13, 0, .null), (.lload 15, 15, 0, .null), (.land, 0, 0, .null), (.lload 13, 13, 0, .null), (.ldc2_w 211, 0, 0, .long (-1)), (.lxor, 0, 0, .null), (.lload 17, 17, 0, .null), (.land, 0, 0, .null), (.lxor, 0, 0, .null), (.ladd, 0, 0, .null), (.iload_n 1, 1, 0, .null), (.ifCond .eq 15, 317, 0, .null)]
set_option maxRecDepth 100000 in
theorem cb_152_278 : mChk 152 278 bk_152_278 305 = true := by decide +kernel
def bk_152_305 : List mO := [(.getstatic 220, 0, 0, .ref 1000005), (.iload 21, 21, 0, .null), (.laload, 0, 0, .null), (.bipush 32, 0, 0, .int 32), (.lushr, 0, 0, .null), (.goto 9, 323, 0, .null)]
set_option maxRecDepth 100000 in
theorem cb_152_305 : mChk 152 305 bk_152_305 317 = true := by decide +kernel
def bk_152_317 : List mO := [(.getstatic 220, 0, 0, .ref 1000005), (.iload 21, 21, 0, .null), (.laload, 0, 0, .null)]
set_option maxRecDepth 100000 in
theorem cb_152_317 : mChk 152 317 bk_152_317 323 = true := by decide +kernel
def bk_152_323 : List mO := [(.ladd, 0, 0, .null), (.aload_n 0, 0, 0, .null), (.getfield 22, 9, 5, .null), (.iload 21, 21, 0, .null), (.laload, 0, 0, .null), (.ladd, 0, 0, .null), (.lstore 24, 24, 0, .null), (.iload_n 1, 1, 0, .null), (.ifCond .eq 17, 352, 0, .null)]
set_option maxRecDepth 100000 in
theorem cb_152_323 : mChk 152 323 bk_152_323 338 = true := by decide +kernel
def bk_152_338 : List mO := [(.lload 5, 5, 0, .null), (.iconst 2, 0, 0, .int 2), (.bipush 13, 0, 0, .int 13), (.bipush 22, 0, 0, .int 22), (.iconst 1, 0, 0, .int 1), (.invokestatic 217, 149, 5, .null), (.goto 15, 364, 0, .null)]
set_option maxRecDepth 100000 in
theorem cb_152_338 : mChk 152 338 bk_152_338 352 = true := by decide +kernel
def bk_152_352 : List mO := [(.lload 5, 5, 0, .null), (.bipush 28, 0, 0, .int 28), (.bipush 34, 0, 0, .int 34), (.bipush 39, 0, 0, .int 39), (.iconst 0, 0, 0, .int 0), (.invokestatic 217, 149, 5, .null)]
set_option maxRecDepth 100000 in
theorem cb_152_352 : mChk 152 352 bk_152_352 364 = true := by decide +kernel
def bk_152_364 : List mO := [(.lstore 26, 26, 0, .null), (.lload 26, 26, 0, .null), (.lload 5, 5, 0, .null), (.lload 7, 7, 0, .null), (.land, 0, 0, .null), (.lload 5, 5, 0, .null), (.lload 9, 9, 0, .null), (.land, 0, 0, .null), (.lxor, 0, 0, .null), (.lload 7, 7, 0, .null), (.lload 9, 9, 0, .null), (.land, 0, 0, .null), (.lxor, 0, 0, .null), (.ladd, 0, 0, .null), (.lstore 28, 28, 0, .null), (.lload 17, 17, 0, .null), (.lstore 19, 19, 0, .null), (.lload 15, 15, 0, .null), (.lstore 17, 17, 0, .null), (.lload 13, 13, 0, .null), (.lstore 15, 15, 0, .null), (.lload 11, 11, 0, .null), (.lload 24, 24, 0, .null), (.ladd, 0, 0, .null), (.lload_n 3, 3, 0, .null), (.land, 0, 0, .null), (.lstore 13, 13, 0, .null), (.lload 9, 9, 0, .null), (.lstore 11, 11, 0, .null), (.lload 7, 7, 0, .null), (.lstore 9, 9, 0, .null), (.lload 5, 5, 0, .null), (.lstore 7, 7, 0, .null), (.lload 24, 24, 0, .null), (.lload 28, 28, 0, .null), (.ladd, 0, 0, .null), (.lload_n 3, 3, 0, .null), (.land, 0, 0, .null), (.lstore 5, 5, 0, .null), (.iinc 21 1, 21, 0, .int 1), (.goto (-192), 241, 0, .null)]
set_option maxRecDepth 100000 in
theorem cb_152_364 : mChk 152 364 bk_152_364 436 = true := by decide +kernel
def bk_152_436 : List mO := [(.aload_n 0, 0, 0, .null), (.getfield 26, 9, 6, .null), (.iconst 0, 0, 0, .int 0), (.aload_n 0, 0, 0, .null), (.getfield 26, 9, 6, .null), (.iconst 0, 0, 0, .int 0), (.laload, 0, 0, .null), (.lload 5, 5, 0, .null), (.ladd, 0, 0, .null), (.lload_n 3, 3, 0, .null), (.land, 0, 0, .null), (.lastore, 0, 0, .null), (.aload_n 0, 0, 0, .null), (.getfield 26, 9, 6, .null), (.iconst 1, 0, 0, .int 1), (.aload_n 0, 0, 0, .null), (.getfield 26, 9, 6, .null), (.iconst 1, 0, 0, .int 1), (.laload, 0, 0, .null), (.lload 7, 7, 0, .null), (.ladd, 0, 0, .null), (.lload_n 3, 3, 0, .null), (.land, 0, 0, .null), (.lastore, 0, 0, .null), (.aload_n 0, 0, 0, .null), (.getfield 26, 9, 6, .null), (.iconst 2, 0, 0, .int 2), (.aload_n 0, 0, 0, .null), (.getfield 26, 9, 6, .null), (.iconst 2, 0, 0, .int 2), (.laload, 0, 0, .null), (.lload 9, 9, 0, .null), (.ladd, 0, 0, .null), (.lload_n 3, 3, 0, .null), (.land, 0, 0, .null), (.lastore, 0, 0, .null), (.aload_n 0, 0, 0, .null), (.getfield 26, 9, 6, .null), (.iconst 3, 0, 0, .int 3), (.aload_n 0, 0, 0, .null), (.getfield 26, 9, 6, .null), (.iconst 3, 0, 0, .int 3), (.laload, 0, 0, .null), (.lload 11, 11, 0, .null), (.ladd, 0, 0, .null), (.lload_n 3, 3, 0, .null), (.land, 0, 0, .null), (.lastore, 0, 0, .null), (.aload_n 0, 0, 0, .null), (.getfield 26, 9, 6, .null), (.iconst 4, 0, 0, .int 4), (.aload_n 0, 0, 0, .null), (.getfield 26, 9, 6, .null), (.iconst 4, 0, 0, .int 4), (.laload, 0, 0, .null), (.lload 13, 13, 0, .null), (.ladd, 0, 0, .null), (.lload_n 3, 3, 0, .null), (.land, 0, 0, .null), (.lastore, 0, 0, .null), (.aload_n 0, 0, 0, .null), (.getfield 26, 9, 6, .null), (.iconst 5, 0, 0, .int 5), (.aload_n 0, 0, 0, .null), (.getfield 26, 9, 6, .null), (.iconst 5, 0, 0, .int 5), (.laload, 0, 0, .null), (.lload 15, 15, 0, .null), (.ladd, 0, 0, .null), (.lload_n 3, 3, 0, .null), (.land, 0, 0, .null), (.lastore, 0, 0, .null), (.aload_n 0, 0, 0, .null), (.getfield 26, 9, 6, .null), (.bipush 6, 0, 0, .int 6), (.aload_n 0, 0, 0, .null), (.getfield 26, 9, 6, .null), (.bipush 6, 0, 0, .int 6), (.laload, 0, 0, .null), (.lload 17, 17, 0, .null), (.ladd, 0, 0, .null), (.lload_n 3, 3, 0, .null), (.land, 0, 0, .null), (.lastore, 0, 0, .null), (.aload_n 0, 0, 0, .null), (.getfield 26, 9, 6, .null), (.bipush 7, 0, 0, .int 7), (.aload_n 0, 0, 0, .null), (.getfield 26, 9, 6, .null), (.bipush 7, 0, 0, .int 7), (.laload, 0, 0, .null), (.lload 19, 19, 0, .null), (.ladd, 0, 0, .null), (.lload_n 3, 3, 0, .null), (.land, 0, 0, .null), (.lastore, 0, 0, .null), (.return_, 0, 0, .null)]
set_option maxRecDepth 100000 in
theorem cb_152_436 : mChk 152 436 bk_152_436 577 = true := by decide +kernel
-- method 153: KeySealerModel.hash(III)I, locals 5, room (4, 125)
def bk_153_0 : List mO := [(.iload_n 1, 1, 0, .null), (.iconst 1, 0, 0, .int 1), (.if_icmp .eq 8, 10, 0, .null)]
set_option maxRecDepth 100000 in
theorem cb_153_0 : mChk 153 0 bk_153_0 5 = true := by decide +kernel
def bk_153_5 : List mO := [(.iload_n 1, 1, 0, .null), (.iconst 3, 0, 0, .int 3), (.if_icmp .ne 17, 24, 0, .null)]
set_option maxRecDepth 100000 in
theorem cb_153_5 : mChk 153 5 bk_153_5 10 = true := by decide +kernel
def bk_153_10 : List mO := [(.iload_n 2, 2, 0, .null), (.invokestatic 184, 137, 1, .null), (.ifCond .eq 10, 24, 0, .null)]
set_option maxRecDepth 100000 in
theorem cb_153_10 : mChk 153 10 bk_153_10 17 = true := by decide +kernel
def bk_153_17 : List mO := [(.iload_n 3, 3, 0, .null), (.invokestatic 184, 137, 1, .null), (.ifCond .ne 6, 27, 0, .null)]
set_option maxRecDepth 100000 in
theorem cb_153_17 : mChk 153 17 bk_153_17 24 = true := by decide +kernel
def bk_153_24 : List mO := [(.bipush (-2), 0, 0, .int (-2)), (.ireturn, 0, 0, .int 0)]
set_option maxRecDepth 100000 in
theorem cb_153_24 : mChk 153 24 bk_153_24 27 = true := by decide +kernel
def bk_153_27 : List mO := [(.aload_n 0, 0, 0, .null), (.iconst 0, 0, 0, .int 0), (.putfield 200, 9, 4, .int 0), (.iconst 0, 0, 0, .int 0), (.istore 4, 4, 0, .null)]
set_option maxRecDepth 100000 in
theorem cb_153_27 : mChk 153 27 bk_153_27 35 = true := by decide +kernel
def bk_153_35 : List mO := [(.iload 4, 4, 0, .null), (.aload_n 0, 0, 0, .null), (.getfield 13, 9, 1, .null), (.iload_n 3, 3, 0, .null), (.iaload, 0, 0, .null), (.if_icmp .ge 39, 82, 0, .null)]
set_option maxRecDepth 100000 in
theorem cb_153_35 : mChk 153 35 bk_153_35 46 = true := by decide +kernel
def bk_153_46 : List mO := [(.aload_n 0, 0, 0, .null), (.getfield 19, 9, 3, .null), (.iload 4, 4, 0, .null), (.aload_n 0, 0, 0, .null), (.getfield 7, 9, 0, .null), (.sipush 300, 0, 0, .int 300), (.iload_n 3, 3, 0, .null), (.imul, 0, 0, .null), (.iload 4, 4, 0, .null), (.iadd, 0, 0, .null), (.iaload, 0, 0, .null), (.iastore, 0, 0, .null), (.aload_n 0, 0, 0, .null), (.dup, 0, 0, .null), (.getfield 200, 9, 4, .null), (.iconst 1, 0, 0, .int 1), (.iadd, 0, 0, .null), (.putfield 200, 9, 4, .int 0), (.iinc 4 1, 4, 0, .int 1), (.goto (-44), 35, 0, .null)]
set_option maxRecDepth 100000 in
theorem cb_153_46 : mChk 153 46 bk_153_46 82 = true := by decide +kernel
def bk_153_82 : List mO := [(.aload_n 0, 0, 0, .null), (.iload_n 1, 1, 0, .null), (.invokevirtual 223, 151, 1, .ref 9), (.aload_n 0, 0, 0, .null), (.iload_n 2, 2, 0, .null), (.iload_n 1, 1, 0, .null), (.invokestatic 227, 147, 1, .null), (.invokevirtual 231, 154, 2, .ref 9), (.iload_n 1, 1, 0, .null), (.invokestatic 227, 147, 1, .null), (.ireturn, 0, 0, .int 0)]
set_option maxRecDepth 100000 in
theorem cb_153_82 : mChk 153 82 bk_153_82 101 = true := by decide +kernel

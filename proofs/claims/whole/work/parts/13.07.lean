/-! PART 13.07: blocks of code and their checks, printed by program (wip/whole/mk13.py) -/
-- method 190: KeySealerModel.gatherAll([II)V, locals 5, room (1, 36)
def bk_190_0 : List mO := [(.iconst 0, 0, 0, .int 0), (.istore_n 3, 3, 0, .null)]
set_option maxRecDepth 100000 in
theorem cb_190_0 : mChk 190 0 bk_190_0 2 = true := by decide +kernel
def bk_190_2 : List mO := [(.iload_n 3, 3, 0, .null), (.iload_n 2, 2, 0, .null), (.if_icmp .ge 71, 75, 0, .null)]
set_option maxRecDepth 100000 in
theorem cb_190_2 : mChk 190 2 bk_190_2 7 = true := by decide +kernel
def bk_190_7 : List mO := [(.iconst 0, 0, 0, .int 0), (.istore 4, 4, 0, .null)]
set_option maxRecDepth 100000 in
theorem cb_190_7 : mChk 190 7 bk_190_7 10 = true := by decide +kernel
def bk_190_10 : List mO := [(.iload 4, 4, 0, .null), (.bipush 16, 0, 0, .int 16), (.if_icmp .ge 34, 48, 0, .null)]
set_option maxRecDepth 100000 in
theorem cb_190_10 : mChk 190 10 bk_190_10 17 = true := by decide +kernel
def bk_190_17 : List mO := [(.aload_n 0, 0, 0, .null), (.getfield 97, 9, 33, .null), (.iload 4, 4, 0, .null), (.iload_n 3, 3, 0, .null), (.iload 4, 4, 0, .null), (.iadd, 0, 0, .null), (.iload_n 2, 2, 0, .null), (.if_icmp .ge 12, 40, 0, .null)]
set_option maxRecDepth 100000 in
theorem cb_190_17 : mChk 190 17 bk_190_17 31 = true := by decide +kernel
def bk_190_31 : List mO := [(.aload_n 1, 1, 0, .null), (.iload_n 3, 3, 0, .null), (.iload 4, 4, 0, .null), (.iadd, 0, 0, .null), (.iaload, 0, 0, .null), (.goto 4, 41, 0, .null)]
set_option maxRecDepth 100000 in
theorem cb_190_31 : mChk 190 31 bk_190_31 40 = true := by decide +kernel
def bk_190_40 : List mO := [(.iconst 0, 0, 0, .int 0)]
set_option maxRecDepth 100000 in
theorem cb_190_40 : mChk 190 40 bk_190_40 41 = true := by decide +kernel
def bk_190_41 : List mO := [(.iastore, 0, 0, .null), (.iinc 4 1, 4, 0, .int 1), (.goto (-35), 10, 0, .null)]
set_option maxRecDepth 100000 in
theorem cb_190_41 : mChk 190 41 bk_190_41 48 = true := by decide +kernel
def bk_190_48 : List mO := [(.aload_n 0, 0, 0, .null), (.aload_n 0, 0, 0, .null), (.getfield 97, 9, 33, .null), (.iconst 0, 0, 0, .int 0), (.invokestatic 357, 188, 2, .null), (.aload_n 0, 0, 0, .null), (.getfield 97, 9, 33, .null), (.bipush 8, 0, 0, .int 8), (.invokestatic 357, 188, 2, .null), (.invokevirtual 361, 189, 2, .ref 9), (.iinc 3 16, 3, 0, .int 16), (.goto (-70), 2, 0, .null)]
set_option maxRecDepth 100000 in
theorem cb_190_48 : mChk 190 48 bk_190_48 75 = true := by decide +kernel
def bk_190_75 : List mO := [(.return_, 0, 0, .null)]
set_option maxRecDepth 100000 in
theorem cb_190_75 : mChk 190 75 bk_190_75 76 = true := by decide +kernel
-- method 191: KeySealerModel.blockTag()V, locals 2, room (3, 70)
def bk_191_0 : List mO := [(.iconst 0, 0, 0, .int 0), (.istore_n 1, 1, 0, .null)]
set_option maxRecDepth 100000 in
theorem cb_191_0 : mChk 191 0 bk_191_0 2 = true := by decide +kernel
def bk_191_2 : List mO := [(.iload_n 1, 1, 0, .null), (.bipush 16, 0, 0, .int 16), (.if_icmp .ge 16, 21, 0, .null)]
set_option maxRecDepth 100000 in
theorem cb_191_2 : mChk 191 2 bk_191_2 8 = true := by decide +kernel
def bk_191_8 : List mO := [(.aload_n 0, 0, 0, .null), (.getfield 97, 9, 33, .null), (.iload_n 1, 1, 0, .null), (.iconst 0, 0, 0, .int 0), (.iastore, 0, 0, .null), (.iinc 1 1, 1, 0, .int 1), (.goto (-16), 2, 0, .null)]
set_option maxRecDepth 100000 in
theorem cb_191_8 : mChk 191 8 bk_191_8 21 = true := by decide +kernel
def bk_191_21 : List mO := [(.aload_n 0, 0, 0, .null), (.invokevirtual 339, 186, 0, .ref 9), (.aload_n 0, 0, 0, .null), (.aload_n 0, 0, 0, .null), (.getfield 97, 9, 33, .null), (.iconst 0, 0, 0, .int 0), (.invokestatic 357, 188, 2, .null), (.putfield 349, 9, 42, .long 0), (.aload_n 0, 0, 0, .null), (.aload_n 0, 0, 0, .null), (.getfield 97, 9, 33, .null), (.bipush 8, 0, 0, .int 8), (.invokestatic 357, 188, 2, .null), (.putfield 352, 9, 43, .long 0), (.aload_n 0, 0, 0, .null), (.lconst 0, 0, 0, .long 0), (.putfield 342, 9, 44, .long 0), (.aload_n 0, 0, 0, .null), (.lconst 0, 0, 0, .long 0), (.putfield 346, 9, 45, .long 0), (.aload_n 0, 0, 0, .null), (.aload_n 0, 0, 0, .null), (.getfield 109, 9, 37, .null), (.aload_n 0, 0, 0, .null), (.getfield 365, 9, 38, .null), (.invokevirtual 368, 190, 2, .ref 9), (.aload_n 0, 0, 0, .null), (.aload_n 0, 0, 0, .null), (.getfield 112, 9, 39, .null), (.aload_n 0, 0, 0, .null), (.getfield 371, 9, 40, .null), (.invokevirtual 368, 190, 2, .ref 9), (.aload_n 0, 0, 0, .null), (.ldc2_w 374, 0, 0, .long 8), (.aload_n 0, 0, 0, .null), (.getfield 365, 9, 38, .null), (.i2l, 0, 0, .null), (.lmul, 0, 0, .null), (.ldc2_w 374, 0, 0, .long 8), (.aload_n 0, 0, 0, .null), (.getfield 371, 9, 40, .null), (.i2l, 0, 0, .null), (.lmul, 0, 0, .null), (.invokevirtual 361, 189, 2, .ref 9), (.aload_n 0, 0, 0, .null), (.iconst 1, 0, 0, .int 1), (.invokevirtual 376, 187, 1, .ref 9), (.iconst 0, 0, 0, .int 0), (.istore_n 1, 1, 0, .null)]
set_option maxRecDepth 100000 in
theorem cb_191_21 : mChk 191 21 bk_191_21 113 = true := by decide +kernel
def bk_191_113 : List mO := [(.iload_n 1, 1, 0, .null), (.bipush 16, 0, 0, .int 16), (.if_icmp .ge 60, 176, 0, .null)]
set_option maxRecDepth 100000 in
theorem cb_191_113 : mChk 191 113 bk_191_113 119 = true := by decide +kernel
def bk_191_119 : List mO := [(.aload_n 0, 0, 0, .null), (.getfield 115, 9, 41, .null), (.iload_n 1, 1, 0, .null), (.aload_n 0, 0, 0, .null), (.getfield 97, 9, 33, .null), (.iload_n 1, 1, 0, .null), (.iaload, 0, 0, .null), (.iload_n 1, 1, 0, .null), (.bipush 8, 0, 0, .int 8), (.if_icmp .ge 18, 151, 0, .null)]
set_option maxRecDepth 100000 in
theorem cb_191_119 : mChk 191 119 bk_191_119 136 = true := by decide +kernel
def bk_191_136 : List mO := [(.aload_n 0, 0, 0, .null), (.getfield 342, 9, 44, .null), (.bipush 56, 0, 0, .int 56), (.bipush 8, 0, 0, .int 8), (.iload_n 1, 1, 0, .null), (.imul, 0, 0, .null), (.isub, 0, 0, .null), (.lushr, 0, 0, .null), (.goto 15, 163, 0, .null)]
set_option maxRecDepth 100000 in
theorem cb_191_136 : mChk 191 136 bk_191_136 151 = true := by decide +kernel
def bk_191_151 : List mO := [(.aload_n 0, 0, 0, .null), (.getfield 346, 9, 45, .null), (.bipush 120, 0, 0, .int 120), (.bipush 8, 0, 0, .int 8), (.iload_n 1, 1, 0, .null), (.imul, 0, 0, .null), (.isub, 0, 0, .null), (.lushr, 0, 0, .null)]
set_option maxRecDepth 100000 in
theorem cb_191_151 : mChk 191 151 bk_191_151 163 = true := by decide +kernel
def bk_191_163 : List mO := [(.ldc2_w 188, 0, 0, .long 255), (.land, 0, 0, .null), (.l2i, 0, 0, .null), (.ixor, 0, 0, .null), (.iastore, 0, 0, .null), (.iinc 1 1, 1, 0, .int 1), (.goto (-60), 113, 0, .null)]
set_option maxRecDepth 100000 in
theorem cb_191_163 : mChk 191 163 bk_191_163 176 = true := by decide +kernel
def bk_191_176 : List mO := [(.return_, 0, 0, .null)]
set_option maxRecDepth 100000 in
theorem cb_191_176 : mChk 191 176 bk_191_176 177 = true := by decide +kernel
-- method 192: KeySealerModel.quarter(IIII)V, locals 5, room (0, 0)
def bk_192_0 : List mO := [(.aload_n 0, 0, 0, .null), (.getfield 121, 9, 47, .null), (.iload_n 1, 1, 0, .null), (.dup2, 0, 0, .null), (.iaload, 0, 0, .null), (.aload_n 0, 0, 0, .null), (.getfield 121, 9, 47, .null), (.iload_n 2, 2, 0, .null), (.iaload, 0, 0, .null), (.iadd, 0, 0, .null), (.iastore, 0, 0, .null), (.aload_n 0, 0, 0, .null), (.getfield 121, 9, 47, .null), (.iload 4, 4, 0, .null), (.dup2, 0, 0, .null), (.iaload, 0, 0, .null), (.aload_n 0, 0, 0, .null), (.getfield 121, 9, 47, .null), (.iload_n 1, 1, 0, .null), (.iaload, 0, 0, .null), (.ixor, 0, 0, .null), (.iastore, 0, 0, .null), (.aload_n 0, 0, 0, .null), (.getfield 121, 9, 47, .null), (.iload 4, 4, 0, .null), (.aload_n 0, 0, 0, .null), (.getfield 121, 9, 47, .null), (.iload 4, 4, 0, .null), (.iaload, 0, 0, .null), (.bipush 16, 0, 0, .int 16), (.ishl, 0, 0, .null), (.aload_n 0, 0, 0, .null), (.getfield 121, 9, 47, .null), (.iload 4, 4, 0, .null), (.iaload, 0, 0, .null), (.bipush 16, 0, 0, .int 16), (.iushr, 0, 0, .null), (.ior, 0, 0, .null), (.iastore, 0, 0, .null), (.aload_n 0, 0, 0, .null), (.getfield 121, 9, 47, .null), (.iload_n 3, 3, 0, .null), (.dup2, 0, 0, .null), (.iaload, 0, 0, .null), (.aload_n 0, 0, 0, .null), (.getfield 121, 9, 47, .null), (.iload 4, 4, 0, .null), (.iaload, 0, 0, .null), (.iadd, 0, 0, .null), (.iastore, 0, 0, .null), (.aload_n 0, 0, 0, .null), (.getfield 121, 9, 47, .null), (.iload_n 2, 2, 0, .null), (.dup2, 0, 0, .null), (.iaload, 0, 0, .null), (.aload_n 0, 0, 0, .null), (.getfield 121, 9, 47, .null), (.iload_n 3, 3, 0, .null), (.iaload, 0, 0, .null), (.ixor, 0, 0, .null), (.iastore, 0, 0, .null), (.aload_n 0, 0, 0, .null), (.getfield 121, 9, 47, .null), (.iload_n 2, 2, 0, .null), (.aload_n 0, 0, 0, .null), (.getfield 121, 9, 47, .null), (.iload_n 2, 2, 0, .null), (.iaload, 0, 0, .null), (.bipush 12, 0, 0, .int 12), (.ishl, 0, 0, .null), (.aload_n 0, 0, 0, .null), (.getfield 121, 9, 47, .null), (.iload_n 2, 2, 0, .null), (.iaload, 0, 0, .null), (.bipush 20, 0, 0, .int 20), (.iushr, 0, 0, .null), (.ior, 0, 0, .null), (.iastore, 0, 0, .null), (.aload_n 0, 0, 0, .null), (.getfield 121, 9, 47, .null), (.iload_n 1, 1, 0, .null), (.dup2, 0, 0, .null), (.iaload, 0, 0, .null), (.aload_n 0, 0, 0, .null), (.getfield 121, 9, 47, .null), (.iload_n 2, 2, 0, .null), (.iaload, 0, 0, .null), (.iadd, 0, 0, .null), (.iastore, 0, 0, .null), (.aload_n 0, 0, 0, .null), (.getfield 121, 9, 47, .null), (.iload 4, 4, 0, .null), (.dup2, 0, 0, .null), (.iaload, 0, 0, .null), (.aload_n 0, 0, 0, .null), (.getfield 121, 9, 47, .null), (.iload_n 1, 1, 0, .null), (.iaload, 0, 0, .null), (.ixor, 0, 0, .null), (.iastore, 0, 0, .null), (.aload_n 0, 0, 0, .null), (.getfield 121, 9, 47, .null), (.iload 4, 4, 0, .null), (.aload_n 0, 0, 0, .null), (.getfield 121, 9, 47, .null), (.iload 4, 4, 0, .null), (.iaload, 0, 0, .null), (.bipush 8, 0, 0, .int 8), (.ishl, 0, 0, .null), (.aload_n 0, 0, 0, .null), (.getfield 121, 9, 47, .null), (.iload 4, 4, 0, .null), (.iaload, 0, 0, .null), (.bipush 24, 0, 0, .int 24), (.iushr, 0, 0, .null), (.ior, 0, 0, .null), (.iastore, 0, 0, .null), (.aload_n 0, 0, 0, .null), (.getfield 121, 9, 47, .null), (.iload_n 3, 3, 0, .null), (.dup2, 0, 0, .null), (.iaload, 0, 0, .null), (.aload_n 0, 0, 0, .null), (.getfield 121, 9, 47, .null), (.iload 4, 4, 0, .null), (.iaload, 0, 0, .null), (.iadd, 0, 0, .null), (.iastore, 0, 0, .null), (.aload_n 0, 0, 0, .null), (.getfield 121, 9, 47, .null), (.iload_n 2, 2, 0, .null), (.dup2, 0, 0, .null), (.iaload, 0, 0, .null), (.aload_n 0, 0, 0, .null), (.getfield 121, 9, 47, .null), (.iload_n 3, 3, 0, .null), (.iaload, 0, 0, .null), (.ixor, 0, 0, .null), (.iastore, 0, 0, .null), (.aload_n 0, 0, 0, .null), (.getfield 121, 9, 47, .null), (.iload_n 2, 2, 0, .null), (.aload_n 0, 0, 0, .null), (.getfield 121, 9, 47, .null), (.iload_n 2, 2, 0, .null), (.iaload, 0, 0, .null), (.bipush 7, 0, 0, .int 7), (.ishl, 0, 0, .null), (.aload_n 0, 0, 0, .null), (.getfield 121, 9, 47, .null), (.iload_n 2, 2, 0, .null), (.iaload, 0, 0, .null), (.bipush 25, 0, 0, .int 25), (.iushr, 0, 0, .null), (.ior, 0, 0, .null), (.iastore, 0, 0, .null), (.return_, 0, 0, .null)]
set_option maxRecDepth 100000 in
theorem cb_192_0 : mChk 192 0 bk_192_0 231 = true := by decide +kernel
-- method 193: KeySealerModel.four([II)I, locals 2, room (0, 0)
def bk_193_0 : List mO := [(.aload_n 0, 0, 0, .null), (.iload_n 1, 1, 0, .null), (.iaload, 0, 0, .null), (.aload_n 0, 0, 0, .null), (.iload_n 1, 1, 0, .null), (.iconst 1, 0, 0, .int 1), (.iadd, 0, 0, .null), (.iaload, 0, 0, .null), (.bipush 8, 0, 0, .int 8), (.ishl, 0, 0, .null), (.ior, 0, 0, .null), (.aload_n 0, 0, 0, .null), (.iload_n 1, 1, 0, .null), (.iconst 2, 0, 0, .int 2), (.iadd, 0, 0, .null), (.iaload, 0, 0, .null), (.bipush 16, 0, 0, .int 16), (.ishl, 0, 0, .null), (.ior, 0, 0, .null), (.aload_n 0, 0, 0, .null), (.iload_n 1, 1, 0, .null), (.iconst 3, 0, 0, .int 3), (.iadd, 0, 0, .null), (.iaload, 0, 0, .null), (.bipush 24, 0, 0, .int 24), (.ishl, 0, 0, .null), (.ior, 0, 0, .null), (.ireturn, 0, 0, .int 0)]
set_option maxRecDepth 100000 in
theorem cb_193_0 : mChk 193 0 bk_193_0 31 = true := by decide +kernel
-- method 194: KeySealerModel.streamOf(I)V, locals 4, room (1, 24)
def bk_194_0 : List mO := [(.iconst 0, 0, 0, .int 0), (.istore_n 2, 2, 0, .null)]
set_option maxRecDepth 100000 in
theorem cb_194_0 : mChk 194 0 bk_194_0 2 = true := by decide +kernel
def bk_194_2 : List mO := [(.iload_n 2, 2, 0, .null), (.bipush 16, 0, 0, .int 16), (.if_icmp .ge 85, 90, 0, .null)]
set_option maxRecDepth 100000 in
theorem cb_194_2 : mChk 194 2 bk_194_2 8 = true := by decide +kernel
def bk_194_8 : List mO := [(.aload_n 0, 0, 0, .null), (.getfield 118, 9, 46, .null), (.iload_n 2, 2, 0, .null), (.iload_n 2, 2, 0, .null), (.iconst 4, 0, 0, .int 4), (.if_icmp .ge 11, 26, 0, .null)]
set_option maxRecDepth 100000 in
theorem cb_194_8 : mChk 194 8 bk_194_8 18 = true := by decide +kernel
def bk_194_18 : List mO := [(.getstatic 379, 0, 0, .ref 1000006), (.iload_n 2, 2, 0, .null), (.iaload, 0, 0, .null), (.goto 48, 71, 0, .null)]
set_option maxRecDepth 100000 in
theorem cb_194_18 : mChk 194 18 bk_194_18 26 = true := by decide +kernel
def bk_194_26 : List mO := [(.iload_n 2, 2, 0, .null), (.bipush 12, 0, 0, .int 12), (.if_icmp .ge 19, 48, 0, .null)]
set_option maxRecDepth 100000 in
theorem cb_194_26 : mChk 194 26 bk_194_26 32 = true := by decide +kernel
def bk_194_32 : List mO := [(.aload_n 0, 0, 0, .null), (.getfield 103, 9, 35, .null), (.iconst 4, 0, 0, .int 4), (.iload_n 2, 2, 0, .null), (.imul, 0, 0, .null), (.bipush 16, 0, 0, .int 16), (.isub, 0, 0, .null), (.invokestatic 382, 193, 2, .null), (.goto 26, 71, 0, .null)]
set_option maxRecDepth 100000 in
theorem cb_194_32 : mChk 194 32 bk_194_32 48 = true := by decide +kernel
def bk_194_48 : List mO := [(.iload_n 2, 2, 0, .null), (.bipush 12, 0, 0, .int 12), (.if_icmp .ne 7, 58, 0, .null)]
set_option maxRecDepth 100000 in
theorem cb_194_48 : mChk 194 48 bk_194_48 54 = true := by decide +kernel
def bk_194_54 : List mO := [(.iload_n 1, 1, 0, .null), (.goto 16, 71, 0, .null)]
set_option maxRecDepth 100000 in
theorem cb_194_54 : mChk 194 54 bk_194_54 58 = true := by decide +kernel
def bk_194_58 : List mO := [(.aload_n 0, 0, 0, .null), (.getfield 106, 9, 36, .null), (.iconst 4, 0, 0, .int 4), (.iload_n 2, 2, 0, .null), (.imul, 0, 0, .null), (.bipush 52, 0, 0, .int 52), (.isub, 0, 0, .null), (.invokestatic 382, 193, 2, .null)]
set_option maxRecDepth 100000 in
theorem cb_194_58 : mChk 194 58 bk_194_58 71 = true := by decide +kernel
def bk_194_71 : List mO := [(.iastore, 0, 0, .null), (.aload_n 0, 0, 0, .null), (.getfield 121, 9, 47, .null), (.iload_n 2, 2, 0, .null), (.aload_n 0, 0, 0, .null), (.getfield 118, 9, 46, .null), (.iload_n 2, 2, 0, .null), (.iaload, 0, 0, .null), (.iastore, 0, 0, .null), (.iinc 2 1, 2, 0, .int 1), (.goto (-85), 2, 0, .null)]
set_option maxRecDepth 100000 in
theorem cb_194_71 : mChk 194 71 bk_194_71 90 = true := by decide +kernel
def bk_194_90 : List mO := [(.iconst 0, 0, 0, .int 0), (.istore_n 2, 2, 0, .null)]
set_option maxRecDepth 100000 in
theorem cb_194_90 : mChk 194 90 bk_194_90 92 = true := by decide +kernel
def bk_194_92 : List mO := [(.iload_n 2, 2, 0, .null), (.bipush 10, 0, 0, .int 10), (.if_icmp .ge 79, 174, 0, .null)]
set_option maxRecDepth 100000 in
theorem cb_194_92 : mChk 194 92 bk_194_92 98 = true := by decide +kernel
def bk_194_98 : List mO := [(.iconst 0, 0, 0, .int 0), (.istore_n 3, 3, 0, .null)]
set_option maxRecDepth 100000 in
theorem cb_194_98 : mChk 194 98 bk_194_98 100 = true := by decide +kernel
def bk_194_100 : List mO := [(.iload_n 3, 3, 0, .null), (.iconst 4, 0, 0, .int 4), (.if_icmp .ge 25, 127, 0, .null)]
set_option maxRecDepth 100000 in
theorem cb_194_100 : mChk 194 100 bk_194_100 105 = true := by decide +kernel
def bk_194_105 : List mO := [(.aload_n 0, 0, 0, .null), (.iload_n 3, 3, 0, .null), (.iload_n 3, 3, 0, .null), (.iconst 4, 0, 0, .int 4), (.iadd, 0, 0, .null), (.iload_n 3, 3, 0, .null), (.bipush 8, 0, 0, .int 8), (.iadd, 0, 0, .null), (.iload_n 3, 3, 0, .null), (.bipush 12, 0, 0, .int 12), (.iadd, 0, 0, .null), (.invokevirtual 386, 192, 4, .ref 9), (.iinc 3 1, 3, 0, .int 1), (.goto (-24), 100, 0, .null)]
set_option maxRecDepth 100000 in
theorem cb_194_105 : mChk 194 105 bk_194_105 127 = true := by decide +kernel
def bk_194_127 : List mO := [(.iconst 0, 0, 0, .int 0), (.istore_n 3, 3, 0, .null)]
set_option maxRecDepth 100000 in
theorem cb_194_127 : mChk 194 127 bk_194_127 129 = true := by decide +kernel
def bk_194_129 : List mO := [(.iload_n 3, 3, 0, .null), (.iconst 4, 0, 0, .int 4), (.if_icmp .ge 37, 168, 0, .null)]
set_option maxRecDepth 100000 in
theorem cb_194_129 : mChk 194 129 bk_194_129 134 = true := by decide +kernel
def bk_194_134 : List mO := [(.aload_n 0, 0, 0, .null), (.iload_n 3, 3, 0, .null), (.iconst 4, 0, 0, .int 4), (.iload_n 3, 3, 0, .null), (.iconst 1, 0, 0, .int 1), (.iadd, 0, 0, .null), (.iconst 4, 0, 0, .int 4), (.irem, 0, 0, .null), (.iadd, 0, 0, .null), (.bipush 8, 0, 0, .int 8), (.iload_n 3, 3, 0, .null), (.iconst 2, 0, 0, .int 2), (.iadd, 0, 0, .null), (.iconst 4, 0, 0, .int 4), (.irem, 0, 0, .null), (.iadd, 0, 0, .null), (.bipush 12, 0, 0, .int 12), (.iload_n 3, 3, 0, .null), (.iconst 3, 0, 0, .int 3), (.iadd, 0, 0, .null), (.iconst 4, 0, 0, .int 4), (.irem, 0, 0, .null), (.iadd, 0, 0, .null), (.invokevirtual 386, 192, 4, .ref 9), (.iinc 3 1, 3, 0, .int 1), (.goto (-36), 129, 0, .null)]
set_option maxRecDepth 100000 in
theorem cb_194_134 : mChk 194 134 bk_194_134 168 = true := by decide +kernel
def bk_194_168 : List mO := [(.iinc 2 1, 2, 0, .int 1), (.goto (-79), 92, 0, .null)]
set_option maxRecDepth 100000 in
theorem cb_194_168 : mChk 194 168 bk_194_168 174 = true := by decide +kernel
def bk_194_174 : List mO := [(.iconst 0, 0, 0, .int 0), (.istore_n 2, 2, 0, .null)]
set_option maxRecDepth 100000 in
theorem cb_194_174 : mChk 194 174 bk_194_174 176 = true := by decide +kernel
def bk_194_176 : List mO := [(.iload_n 2, 2, 0, .null), (.bipush 64, 0, 0, .int 64), (.if_icmp .ge 43, 222, 0, .null)]
set_option maxRecDepth 100000 in
theorem cb_194_176 : mChk 194 176 bk_194_176 182 = true := by decide +kernel
def bk_194_182 : List mO := [(.aload_n 0, 0, 0, .null), (.getfield 124, 9, 48, .null), (.iload_n 2, 2, 0, .null), (.aload_n 0, 0, 0, .null), (.getfield 121, 9, 47, .null), (.iload_n 2, 2, 0, .null), (.iconst 4, 0, 0, .int 4), (.idiv, 0, 0, .null), (.iaload, 0, 0, .null), (.aload_n 0, 0, 0, .null), (.getfield 118, 9, 46, .null), (.iload_n 2, 2, 0, .null), (.iconst 4, 0, 0, .int 4), (.idiv, 0, 0, .null), (.iaload, 0, 0, .null), (.iadd, 0, 0, .null), (.bipush 8, 0, 0, .int 8), (.iload_n 2, 2, 0, .null), (.iconst 4, 0, 0, .int 4), (.irem, 0, 0, .null), (.imul, 0, 0, .null), (.iushr, 0, 0, .null), (.sipush 255, 0, 0, .int 255), (.iand, 0, 0, .null), (.iastore, 0, 0, .null), (.iinc 2 1, 2, 0, .int 1), (.goto (-43), 176, 0, .null)]
set_option maxRecDepth 100000 in
theorem cb_194_182 : mChk 194 182 bk_194_182 222 = true := by decide +kernel
def bk_194_222 : List mO := [(.return_, 0, 0, .null)]
set_option maxRecDepth 100000 in
theorem cb_194_222 : mChk 194 222 bk_194_222 223 = true := by decide +kernel
-- method 195: KeySealerModel.addPoly([III)V, locals 8, room (1, 23)
def bk_195_0 : List mO := [(.iconst 0, 0, 0, .int 0), (.istore 4, 4, 0, .null)]
set_option maxRecDepth 100000 in
theorem cb_195_0 : mChk 195 0 bk_195_0 3 = true := by decide +kernel
def bk_195_3 : List mO := [(.iload 4, 4, 0, .null), (.bipush 17, 0, 0, .int 17), (.if_icmp .ge 107, 114, 0, .null)]
set_option maxRecDepth 100000 in
theorem cb_195_3 : mChk 195 3 bk_195_3 10 = true := by decide +kernel
def bk_195_10 : List mO := [(.iload 4, 4, 0, .null), (.bipush 16, 0, 0, .int 16), (.if_icmp .ne 7, 21, 0, .null)]
set_option maxRecDepth 100000 in
theorem cb_195_10 : mChk 195 10 bk_195_10 17 = true := by decide +kernel
def bk_195_17 : List mO := [(.iconst 1, 0, 0, .int 1), (.goto 19, 37, 0, .null)]
set_option maxRecDepth 100000 in
theorem cb_195_17 : mChk 195 17 bk_195_17 21 = true := by decide +kernel
def bk_195_21 : List mO := [(.iload 4, 4, 0, .null), (.iload_n 3, 3, 0, .null), (.if_icmp .ge 12, 36, 0, .null)]
set_option maxRecDepth 100000 in
theorem cb_195_21 : mChk 195 21 bk_195_21 27 = true := by decide +kernel
def bk_195_27 : List mO := [(.aload_n 1, 1, 0, .null), (.iload_n 2, 2, 0, .null), (.iload 4, 4, 0, .null), (.iadd, 0, 0, .null), (.iaload, 0, 0, .null), (.goto 4, 37, 0, .null)]
set_option maxRecDepth 100000 in
theorem cb_195_27 : mChk 195 27 bk_195_27 36 = true := by decide +kernel
def bk_195_36 : List mO := [(.iconst 0, 0, 0, .int 0)]
set_option maxRecDepth 100000 in
theorem cb_195_36 : mChk 195 36 bk_195_36 37 = true := by decide +kernel
def bk_195_37 : List mO := [(.istore 5, 5, 0, .null), (.iconst 0, 0, 0, .int 0), (.istore 6, 6, 0, .null)]
set_option maxRecDepth 100000 in
theorem cb_195_37 : mChk 195 37 bk_195_37 42 = true := by decide +kernel
def bk_195_42 : List mO := [(.iload 6, 6, 0, .null), (.bipush 8, 0, 0, .int 8), (.if_icmp .ge 62, 108, 0, .null)]
set_option maxRecDepth 100000 in
theorem cb_195_42 : mChk 195 42 bk_195_42 49 = true := by decide +kernel
def bk_195_49 : List mO := [(.iload 5, 5, 0, .null), (.iload 6, 6, 0, .null), (.ishr, 0, 0, .null), (.ifCond .le 54, 108, 0, .null)]
set_option maxRecDepth 100000 in
theorem cb_195_49 : mChk 195 49 bk_195_49 57 = true := by decide +kernel
def bk_195_57 : List mO := [(.bipush 8, 0, 0, .int 8), (.iload 4, 4, 0, .null), (.imul, 0, 0, .null), (.iload 6, 6, 0, .null), (.iadd, 0, 0, .null), (.istore 7, 7, 0, .null), (.aload_n 0, 0, 0, .null), (.getfield 130, 9, 50, .null), (.iload 7, 7, 0, .null), (.bipush 26, 0, 0, .int 26), (.idiv, 0, 0, .null), (.dup2, 0, 0, .null), (.laload, 0, 0, .null), (.iload 5, 5, 0, .null), (.iload 6, 6, 0, .null), (.ishr, 0, 0, .null), (.iconst 1, 0, 0, .int 1), (.iand, 0, 0, .null), (.iconst 1, 0, 0, .int 1), (.if_icmp .ne 13, 99, 0, .null)]
set_option maxRecDepth 100000 in
theorem cb_195_57 : mChk 195 57 bk_195_57 89 = true := by decide +kernel
def bk_195_89 : List mO := [(.lconst 1, 0, 0, .long 1), (.iload 7, 7, 0, .null), (.bipush 26, 0, 0, .int 26), (.irem, 0, 0, .null), (.lshl, 0, 0, .null), (.goto 4, 100, 0, .null)]
set_option maxRecDepth 100000 in
theorem cb_195_89 : mChk 195 89 bk_195_89 99 = true := by decide +kernel
def bk_195_99 : List mO := [(.lconst 0, 0, 0, .long 0)]
set_option maxRecDepth 100000 in
theorem cb_195_99 : mChk 195 99 bk_195_99 100 = true := by decide +kernel
def bk_195_100 : List mO := [(.ladd, 0, 0, .null), (.lastore, 0, 0, .null), (.iinc 6 1, 6, 0, .int 1), (.goto (-63), 42, 0, .null)]
set_option maxRecDepth 100000 in
theorem cb_195_100 : mChk 195 100 bk_195_100 108 = true := by decide +kernel
def bk_195_108 : List mO := [(.iinc 4 1, 4, 0, .int 1), (.goto (-108), 3, 0, .null)]
set_option maxRecDepth 100000 in
theorem cb_195_108 : mChk 195 108 bk_195_108 114 = true := by decide +kernel
def bk_195_114 : List mO := [(.iconst 0, 0, 0, .int 0), (.istore 4, 4, 0, .null)]
set_option maxRecDepth 100000 in
theorem cb_195_114 : mChk 195 114 bk_195_114 117 = true := by decide +kernel
def bk_195_117 : List mO := [(.iload 4, 4, 0, .null), (.iconst 5, 0, 0, .int 5), (.if_icmp .ge 85, 205, 0, .null)]
set_option maxRecDepth 100000 in
theorem cb_195_117 : mChk 195 117 bk_195_117 123 = true := by decide +kernel
def bk_195_123 : List mO := [(.aload_n 0, 0, 0, .null), (.getfield 133, 9, 51, .null), (.iload 4, 4, 0, .null), (.lconst 0, 0, 0, .long 0), (.lastore, 0, 0, .null), (.iconst 0, 0, 0, .int 0), (.istore 5, 5, 0, .null)]
set_option maxRecDepth 100000 in
theorem cb_195_123 : mChk 195 123 bk_195_123 134 = true := by decide +kernel
def bk_195_134 : List mO := [(.iload 5, 5, 0, .null), (.iconst 5, 0, 0, .int 5), (.if_icmp .ge 62, 199, 0, .null)]
set_option maxRecDepth 100000 in
theorem cb_195_134 : mChk 195 134 bk_195_134 140 = true := by decide +kernel
def bk_195_140 : List mO := [(.iload 4, 4, 0, .null), (.iload 5, 5, 0, .null), (.isub, 0, 0, .null), (.iconst 5, 0, 0, .int 5), (.iadd, 0, 0, .null), (.iconst 5, 0, 0, .int 5), (.irem, 0, 0, .null), (.istore 6, 6, 0, .null), (.aload_n 0, 0, 0, .null), (.getfield 133, 9, 51, .null), (.iload 4, 4, 0, .null), (.dup2, 0, 0, .null), (.laload, 0, 0, .null), (.aload_n 0, 0, 0, .null), (.getfield 130, 9, 50, .null), (.iload 5, 5, 0, .null), (.laload, 0, 0, .null), (.aload_n 0, 0, 0, .null), (.getfield 127, 9, 49, .null), (.iload 6, 6, 0, .null), (.laload, 0, 0, .null), (.lmul, 0, 0, .null), (.iload 5, 5, 0, .null), (.iload 6, 6, 0, .null), (.iadd, 0, 0, .null), (.iconst 4, 0, 0, .int 4), (.if_icmp .le 9, 189, 0, .null)]
set_option maxRecDepth 100000 in
theorem cb_195_140 : mChk 195 140 bk_195_140 183 = true := by decide +kernel
def bk_195_183 : List mO := [(.ldc2_w 390, 0, 0, .long 5), (.goto 4, 190, 0, .null)]
set_option maxRecDepth 100000 in
theorem cb_195_183 : mChk 195 183 bk_195_183 189 = true := by decide +kernel
def bk_195_189 : List mO := [(.lconst 1, 0, 0, .long 1)]
set_option maxRecDepth 100000 in
theorem cb_195_189 : mChk 195 189 bk_195_189 190 = true := by decide +kernel
def bk_195_190 : List mO := [(.lmul, 0, 0, .null), (.ladd, 0, 0, .null), (.lastore, 0, 0, .null), (.iinc 5 1, 5, 0, .int 1), (.goto (-62), 134, 0, .null)]
set_option maxRecDepth 100000 in
theorem cb_195_190 : mChk 195 190 bk_195_190 199 = true := by decide +kernel
def bk_195_199 : List mO := [(.iinc 4 1, 4, 0, .int 1), (.goto (-85), 117, 0, .null)]
set_option maxRecDepth 100000 in
theorem cb_195_199 : mChk 195 199 bk_195_199 205 = true := by decide +kernel
def bk_195_205 : List mO := [(.iconst 0, 0, 0, .int 0), (.istore 4, 4, 0, .null)]
set_option maxRecDepth 100000 in
theorem cb_195_205 : mChk 195 205 bk_195_205 208 = true := by decide +kernel
def bk_195_208 : List mO := [(.iload 4, 4, 0, .null), (.iconst 5, 0, 0, .int 5), (.if_icmp .ge 23, 234, 0, .null)]
set_option maxRecDepth 100000 in
theorem cb_195_208 : mChk 195 208 bk_195_208 214 = true := by decide +kernel
def bk_195_214 : List mO := [(.aload_n 0, 0, 0, .null), (.getfield 130, 9, 50, .null), (.iload 4, 4, 0, .null), (.aload_n 0, 0, 0, .null), (.getfield 133, 9, 51, .null), (.iload 4, 4, 0, .null), (.laload, 0, 0, .null), (.lastore, 0, 0, .null), (.iinc 4 1, 4, 0, .int 1), (.goto (-23), 208, 0, .null)]
set_option maxRecDepth 100000 in
theorem cb_195_214 : mChk 195 214 bk_195_214 234 = true := by decide +kernel
def bk_195_234 : List mO := [(.aload_n 0, 0, 0, .null), (.invokevirtual 392, 196, 0, .ref 9), (.aload_n 0, 0, 0, .null), (.invokevirtual 392, 196, 0, .ref 9), (.return_, 0, 0, .null)]
set_option maxRecDepth 100000 in
theorem cb_195_234 : mChk 195 234 bk_195_234 243 = true := by decide +kernel
-- method 196: KeySealerModel.carryPoly()V, locals 4, room (0, 0)
def bk_196_0 : List mO := [(.iconst 0, 0, 0, .int 0), (.istore_n 1, 1, 0, .null)]
set_option maxRecDepth 100000 in
theorem cb_196_0 : mChk 196 0 bk_196_0 2 = true := by decide +kernel
def bk_196_2 : List mO := [(.iload_n 1, 1, 0, .null), (.iconst 5, 0, 0, .int 5), (.if_icmp .ge 66, 70, 0, .null)]
set_option maxRecDepth 100000 in
theorem cb_196_2 : mChk 196 2 bk_196_2 7 = true := by decide +kernel
def bk_196_7 : List mO := [(.aload_n 0, 0, 0, .null), (.getfield 130, 9, 50, .null), (.iload_n 1, 1, 0, .null), (.laload, 0, 0, .null), (.bipush 26, 0, 0, .int 26), (.lshr, 0, 0, .null), (.lstore_n 2, 2, 0, .null), (.aload_n 0, 0, 0, .null), (.getfield 130, 9, 50, .null), (.iload_n 1, 1, 0, .null), (.dup2, 0, 0, .null), (.laload, 0, 0, .null), (.lload_n 2, 2, 0, .null), (.bipush 26, 0, 0, .int 26), (.lshl, 0, 0, .null), (.lsub, 0, 0, .null), (.lastore, 0, 0, .null), (.iload_n 1, 1, 0, .null), (.iconst 4, 0, 0, .int 4), (.if_icmp .ge 18, 50, 0, .null)]
set_option maxRecDepth 100000 in
theorem cb_196_7 : mChk 196 7 bk_196_7 35 = true := by decide +kernel
def bk_196_35 : List mO := [(.aload_n 0, 0, 0, .null), (.getfield 130, 9, 50, .null), (.iload_n 1, 1, 0, .null), (.iconst 1, 0, 0, .int 1), (.iadd, 0, 0, .null), (.dup2, 0, 0, .null), (.laload, 0, 0, .null), (.lload_n 2, 2, 0, .null), (.ladd, 0, 0, .null), (.lastore, 0, 0, .null), (.goto 17, 64, 0, .null)]
set_option maxRecDepth 100000 in
theorem cb_196_35 : mChk 196 35 bk_196_35 50 = true := by decide +kernel
def bk_196_50 : List mO := [(.aload_n 0, 0, 0, .null), (.getfield 130, 9, 50, .null), (.iconst 0, 0, 0, .int 0), (.dup2, 0, 0, .null), (.laload, 0, 0, .null), (.ldc2_w 390, 0, 0, .long 5), (.lload_n 2, 2, 0, .null), (.lmul, 0, 0, .null), (.ladd, 0, 0, .null), (.lastore, 0, 0, .null)]
set_option maxRecDepth 100000 in
theorem cb_196_50 : mChk 196 50 bk_196_50 64 = true := by decide +kernel
def bk_196_64 : List mO := [(.iinc 1 1, 1, 0, .int 1), (.goto (-65), 2, 0, .null)]
set_option maxRecDepth 100000 in
theorem cb_196_64 : mChk 196 64 bk_196_64 70 = true := by decide +kernel
def bk_196_70 : List mO := [(.return_, 0, 0, .null)]
set_option maxRecDepth 100000 in
theorem cb_196_70 : mChk 196 70 bk_196_70 71 = true := by decide +kernel
-- method 197: KeySealerModel.streamTag()V, locals 7, room (2, 50)
def bk_197_0 : List mO := [(.aload_n 0, 0, 0, .null), (.iconst 0, 0, 0, .int 0), (.invokevirtual 395, 194, 1, .ref 9), (.iconst 0, 0, 0, .int 0), (.istore_n 1, 1, 0, .null)]
set_option maxRecDepth 100000 in
theorem cb_197_0 : mChk 197 0 bk_197_0 7 = true := by decide +kernel
def bk_197_7 : List mO := [(.iload_n 1, 1, 0, .null), (.iconst 5, 0, 0, .int 5), (.if_icmp .ge 23, 32, 0, .null)]
set_option maxRecDepth 100000 in
theorem cb_197_7 : mChk 197 7 bk_197_7 12 = true := by decide +kernel
def bk_197_12 : List mO := [(.aload_n 0, 0, 0, .null), (.getfield 127, 9, 49, .null), (.iload_n 1, 1, 0, .null), (.lconst 0, 0, 0, .long 0), (.lastore, 0, 0, .null), (.aload_n 0, 0, 0, .null), (.getfield 130, 9, 50, .null), (.iload_n 1, 1, 0, .null), (.lconst 0, 0, 0, .long 0), (.lastore, 0, 0, .null), (.iinc 1 1, 1, 0, .int 1), (.goto (-22), 7, 0, .null)]
set_option maxRecDepth 100000 in
theorem cb_197_12 : mChk 197 12 bk_197_12 32 = true := by decide +kernel
def bk_197_32 : List mO := [(.iconst 0, 0, 0, .int 0), (.istore_n 1, 1, 0, .null)]
set_option maxRecDepth 100000 in
theorem cb_197_32 : mChk 197 32 bk_197_32 34 = true := by decide +kernel
def bk_197_34 : List mO := [(.iload_n 1, 1, 0, .null), (.bipush 16, 0, 0, .int 16), (.if_icmp .ge 103, 140, 0, .null)]
set_option maxRecDepth 100000 in
theorem cb_197_34 : mChk 197 34 bk_197_34 40 = true := by decide +kernel
def bk_197_40 : List mO := [(.aload_n 0, 0, 0, .null), (.getfield 124, 9, 48, .null), (.iload_n 1, 1, 0, .null), (.iaload, 0, 0, .null), (.iload_n 1, 1, 0, .null), (.iconst 4, 0, 0, .int 4), (.irem, 0, 0, .null), (.iconst 3, 0, 0, .int 3), (.if_icmp .ne 8, 58, 0, .null)]
set_option maxRecDepth 100000 in
theorem cb_197_40 : mChk 197 40 bk_197_40 53 = true := by decide +kernel
def bk_197_53 : List mO := [(.bipush 15, 0, 0, .int 15), (.goto 22, 77, 0, .null)]
set_option maxRecDepth 100000 in
theorem cb_197_53 : mChk 197 53 bk_197_53 58 = true := by decide +kernel
def bk_197_58 : List mO := [(.iload_n 1, 1, 0, .null), (.ifCond .le 15, 74, 0, .null)]
set_option maxRecDepth 100000 in
theorem cb_197_58 : mChk 197 58 bk_197_58 62 = true := by decide +kernel
def bk_197_62 : List mO := [(.iload_n 1, 1, 0, .null), (.iconst 4, 0, 0, .int 4), (.irem, 0, 0, .null), (.ifCond .ne 9, 74, 0, .null)]
set_option maxRecDepth 100000 in
theorem cb_197_62 : mChk 197 62 bk_197_62 68 = true := by decide +kernel
def bk_197_68 : List mO := [(.sipush 252, 0, 0, .int 252), (.goto 6, 77, 0, .null)]
set_option maxRecDepth 100000 in
theorem cb_197_68 : mChk 197 68 bk_197_68 74 = true := by decide +kernel
def bk_197_74 : List mO := [(.sipush 255, 0, 0, .int 255)]
set_option maxRecDepth 100000 in
theorem cb_197_74 : mChk 197 74 bk_197_74 77 = true := by decide +kernel
def bk_197_77 : List mO := [(.iand, 0, 0, .null), (.istore_n 2, 2, 0, .null), (.iconst 0, 0, 0, .int 0), (.istore_n 3, 3, 0, .null)]
set_option maxRecDepth 100000 in
theorem cb_197_77 : mChk 197 77 bk_197_77 81 = true := by decide +kernel
def bk_197_81 : List mO := [(.iload_n 3, 3, 0, .null), (.bipush 8, 0, 0, .int 8), (.if_icmp .ge 50, 134, 0, .null)]
set_option maxRecDepth 100000 in
theorem cb_197_81 : mChk 197 81 bk_197_81 87 = true := by decide +kernel
def bk_197_87 : List mO := [(.bipush 8, 0, 0, .int 8), (.iload_n 1, 1, 0, .null), (.imul, 0, 0, .null), (.iload_n 3, 3, 0, .null), (.iadd, 0, 0, .null), (.istore 4, 4, 0, .null), (.aload_n 0, 0, 0, .null), (.getfield 127, 9, 49, .null), (.iload 4, 4, 0, .null), (.bipush 26, 0, 0, .int 26), (.idiv, 0, 0, .null), (.dup2, 0, 0, .null), (.laload, 0, 0, .null), (.iload_n 2, 2, 0, .null), (.iload_n 3, 3, 0, .null), (.ishr, 0, 0, .null), (.iconst 1, 0, 0, .int 1), (.iand, 0, 0, .null), (.iconst 1, 0, 0, .int 1), (.if_icmp .ne 13, 125, 0, .null)]
set_option maxRecDepth 100000 in
theorem cb_197_87 : mChk 197 87 bk_197_87 115 = true := by decide +kernel
def bk_197_115 : List mO := [(.lconst 1, 0, 0, .long 1), (.iload 4, 4, 0, .null), (.bipush 26, 0, 0, .int 26), (.irem, 0, 0, .null), (.lshl, 0, 0, .null), (.goto 4, 126, 0, .null)]
set_option maxRecDepth 100000 in
theorem cb_197_115 : mChk 197 115 bk_197_115 125 = true := by decide +kernel
def bk_197_125 : List mO := [(.lconst 0, 0, 0, .long 0)]
set_option maxRecDepth 100000 in
theorem cb_197_125 : mChk 197 125 bk_197_125 126 = true := by decide +kernel
def bk_197_126 : List mO := [(.ladd, 0, 0, .null), (.lastore, 0, 0, .null), (.iinc 3 1, 3, 0, .int 1), (.goto (-50), 81, 0, .null)]
set_option maxRecDepth 100000 in
theorem cb_197_126 : mChk 197 126 bk_197_126 134 = true := by decide +kernel
def bk_197_134 : List mO := [(.iinc 1 1, 1, 0, .int 1), (.goto (-103), 34, 0, .null)]
set_option maxRecDepth 100000 in
theorem cb_197_134 : mChk 197 134 bk_197_134 140 = true := by decide +kernel
def bk_197_140 : List mO := [(.iconst 0, 0, 0, .int 0), (.istore_n 1, 1, 0, .null)]
set_option maxRecDepth 100000 in
theorem cb_197_140 : mChk 197 140 bk_197_140 142 = true := by decide +kernel
def bk_197_142 : List mO := [(.iload_n 1, 1, 0, .null), (.aload_n 0, 0, 0, .null), (.getfield 365, 9, 38, .null), (.if_icmp .ge 24, 171, 0, .null)]
set_option maxRecDepth 100000 in
theorem cb_197_142 : mChk 197 142 bk_197_142 150 = true := by decide +kernel
def bk_197_150 : List mO := [(.aload_n 0, 0, 0, .null), (.aload_n 0, 0, 0, .null), (.getfield 109, 9, 37, .null), (.iload_n 1, 1, 0, .null), (.aload_n 0, 0, 0, .null), (.getfield 365, 9, 38, .null), (.iload_n 1, 1, 0, .null), (.isub, 0, 0, .null), (.invokevirtual 398, 195, 3, .ref 9), (.iinc 1 16, 1, 0, .int 16), (.goto (-26), 142, 0, .null)]
set_option maxRecDepth 100000 in
theorem cb_197_150 : mChk 197 150 bk_197_150 171 = true := by decide +kernel
def bk_197_171 : List mO := [(.iconst 0, 0, 0, .int 0), (.istore_n 1, 1, 0, .null)]
set_option maxRecDepth 100000 in
theorem cb_197_171 : mChk 197 171 bk_197_171 173 = true := by decide +kernel
def bk_197_173 : List mO := [(.iload_n 1, 1, 0, .null), (.aload_n 0, 0, 0, .null), (.getfield 371, 9, 40, .null), (.if_icmp .ge 24, 202, 0, .null)]
set_option maxRecDepth 100000 in
theorem cb_197_173 : mChk 197 173 bk_197_173 181 = true := by decide +kernel
def bk_197_181 : List mO := [(.aload_n 0, 0, 0, .null), (.aload_n 0, 0, 0, .null), (.getfield 112, 9, 39, .null), (.iload_n 1, 1, 0, .null), (.aload_n 0, 0, 0, .null), (.getfield 371, 9, 40, .null), (.iload_n 1, 1, 0, .null), (.isub, 0, 0, .null), (.invokevirtual 398, 195, 3, .ref 9), (.iinc 1 16, 1, 0, .int 16), (.goto (-26), 173, 0, .null)]
set_option maxRecDepth 100000 in
theorem cb_197_181 : mChk 197 181 bk_197_181 202 = true := by decide +kernel
def bk_197_202 : List mO := [(.iconst 0, 0, 0, .int 0), (.istore_n 1, 1, 0, .null)]
set_option maxRecDepth 100000 in
theorem cb_197_202 : mChk 197 202 bk_197_202 204 = true := by decide +kernel
def bk_197_204 : List mO := [(.iload_n 1, 1, 0, .null), (.bipush 16, 0, 0, .int 16), (.if_icmp .ge 56, 263, 0, .null)]
set_option maxRecDepth 100000 in
theorem cb_197_204 : mChk 197 204 bk_197_204 210 = true := by decide +kernel
def bk_197_210 : List mO := [(.aload_n 0, 0, 0, .null), (.getfield 136, 9, 52, .null), (.iload_n 1, 1, 0, .null), (.iload_n 1, 1, 0, .null), (.bipush 8, 0, 0, .int 8), (.irem, 0, 0, .null), (.iconst 1, 0, 0, .int 1), (.if_icmp .le 7, 227, 0, .null)]
set_option maxRecDepth 100000 in
theorem cb_197_210 : mChk 197 210 bk_197_210 223 = true := by decide +kernel
def bk_197_223 : List mO := [(.iconst 0, 0, 0, .int 0), (.goto 32, 256, 0, .null)]
set_option maxRecDepth 100000 in
theorem cb_197_223 : mChk 197 223 bk_197_223 227 = true := by decide +kernel
def bk_197_227 : List mO := [(.iload_n 1, 1, 0, .null), (.bipush 8, 0, 0, .int 8), (.if_icmp .ge 10, 240, 0, .null)]
set_option maxRecDepth 100000 in
theorem cb_197_227 : mChk 197 227 bk_197_227 233 = true := by decide +kernel
def bk_197_233 : List mO := [(.aload_n 0, 0, 0, .null), (.getfield 365, 9, 38, .null), (.goto 7, 244, 0, .null)]
set_option maxRecDepth 100000 in
theorem cb_197_233 : mChk 197 233 bk_197_233 240 = true := by decide +kernel
def bk_197_240 : List mO := [(.aload_n 0, 0, 0, .null), (.getfield 371, 9, 40, .null)]
set_option maxRecDepth 100000 in
theorem cb_197_240 : mChk 197 240 bk_197_240 244 = true := by decide +kernel
def bk_197_244 : List mO := [(.bipush 8, 0, 0, .int 8), (.iload_n 1, 1, 0, .null), (.bipush 8, 0, 0, .int 8), (.irem, 0, 0, .null), (.imul, 0, 0, .null), (.ishr, 0, 0, .null), (.sipush 255, 0, 0, .int 255), (.iand, 0, 0, .null)]
set_option maxRecDepth 100000 in
theorem cb_197_244 : mChk 197 244 bk_197_244 256 = true := by decide +kernel
def bk_197_256 : List mO := [(.iastore, 0, 0, .null), (.iinc 1 1, 1, 0, .int 1), (.goto (-56), 204, 0, .null)]
set_option maxRecDepth 100000 in
theorem cb_197_256 : mChk 197 256 bk_197_256 263 = true := by decide +kernel
def bk_197_263 : List mO := [(.aload_n 0, 0, 0, .null), (.aload_n 0, 0, 0, .null), (.getfield 136, 9, 52, .null), (.iconst 0, 0, 0, .int 0), (.bipush 16, 0, 0, .int 16), (.invokevirtual 398, 195, 3, .ref 9), (.aload_n 0, 0, 0, .null), (.invokevirtual 392, 196, 0, .ref 9), (.aload_n 0, 0, 0, .null), (.getfield 130, 9, 50, .null), (.iconst 0, 0, 0, .int 0), (.laload, 0, 0, .null), (.ldc2_w 401, 0, 0, .long 67108859), (.lcmp, 0, 0, .null), (.ifCond .lt 59, 347, 0, .null)]
set_option maxRecDepth 100000 in
theorem cb_197_263 : mChk 197 263 bk_197_263 291 = true := by decide +kernel
def bk_197_291 : List mO := [(.aload_n 0, 0, 0, .null), (.getfield 130, 9, 50, .null), (.iconst 1, 0, 0, .int 1), (.laload, 0, 0, .null), (.ldc2_w 403, 0, 0, .long 67108863), (.lcmp, 0, 0, .null), (.ifCond .ne 46, 347, 0, .null)]
set_option maxRecDepth 100000 in
theorem cb_197_291 : mChk 197 291 bk_197_291 304 = true := by decide +kernel
def bk_197_304 : List mO := [(.aload_n 0, 0, 0, .null), (.getfield 130, 9, 50, .null), (.iconst 2, 0, 0, .int 2), (.laload, 0, 0, .null), (.ldc2_w 403, 0, 0, .long 67108863), (.lcmp, 0, 0, .null), (.ifCond .ne 33, 347, 0, .null)]
set_option maxRecDepth 100000 in
theorem cb_197_304 : mChk 197 304 bk_197_304 317 = true := by decide +kernel
def bk_197_317 : List mO := [(.aload_n 0, 0, 0, .null), (.getfield 130, 9, 50, .null), (.iconst 3, 0, 0, .int 3), (.laload, 0, 0, .null), (.ldc2_w 403, 0, 0, .long 67108863), (.lcmp, 0, 0, .null), (.ifCond .ne 20, 347, 0, .null)]
set_option maxRecDepth 100000 in
theorem cb_197_317 : mChk 197 317 bk_197_317 330 = true := by decide +kernel
def bk_197_330 : List mO := [(.aload_n 0, 0, 0, .null), (.getfield 130, 9, 50, .null), (.iconst 4, 0, 0, .int 4), (.laload, 0, 0, .null), (.ldc2_w 403, 0, 0, .long 67108863), (.lcmp, 0, 0, .null), (.ifCond .ne 7, 347, 0, .null)]
set_option maxRecDepth 100000 in
theorem cb_197_330 : mChk 197 330 bk_197_330 343 = true := by decide +kernel
def bk_197_343 : List mO := [(.iconst 1, 0, 0, .int 1), (.goto 4, 348, 0, .null)]
set_option maxRecDepth 100000 in
theorem cb_197_343 : mChk 197 343 bk_197_343 347 = true := by decide +kernel
def bk_197_347 : List mO := [(.iconst 0, 0, 0, .int 0)]
set_option maxRecDepth 100000 in
theorem cb_197_347 : mChk 197 347 bk_197_347 348 = true := by decide +kernel
def bk_197_348 : List mO := [(.istore_n 1, 1, 0, .null), (.iload_n 1, 1, 0, .null), (.ifCond .eq 35, 385, 0, .null)]
set_option maxRecDepth 100000 in
theorem cb_197_348 : mChk 197 348 bk_197_348 353 = true := by decide +kernel
def bk_197_353 : List mO := [(.aload_n 0, 0, 0, .null), (.getfield 130, 9, 50, .null), (.iconst 0, 0, 0, .int 0), (.dup2, 0, 0, .null), (.laload, 0, 0, .null), (.ldc2_w 401, 0, 0, .long 67108859), (.lsub, 0, 0, .null), (.lastore, 0, 0, .null), (.iconst 1, 0, 0, .int 1), (.istore_n 2, 2, 0, .null)]
set_option maxRecDepth 100000 in
theorem cb_197_353 : mChk 197 353 bk_197_353 367 = true := by decide +kernel
def bk_197_367 : List mO := [(.iload_n 2, 2, 0, .null), (.iconst 5, 0, 0, .int 5), (.if_icmp .ge 16, 385, 0, .null)]
set_option maxRecDepth 100000 in
theorem cb_197_367 : mChk 197 367 bk_197_367 372 = true := by decide +kernel
def bk_197_372 : List mO := [(.aload_n 0, 0, 0, .null), (.getfield 130, 9, 50, .null), (.iload_n 2, 2, 0, .null), (.lconst 0, 0, 0, .long 0), (.lastore, 0, 0, .null), (.iinc 2 1, 2, 0, .int 1), (.goto (-15), 367, 0, .null)]
set_option maxRecDepth 100000 in
theorem cb_197_372 : mChk 197 372 bk_197_372 385 = true := by decide +kernel
def bk_197_385 : List mO := [(.iconst 0, 0, 0, .int 0), (.istore_n 2, 2, 0, .null), (.iconst 0, 0, 0, .int 0), (.istore_n 3, 3, 0, .null)]
set_option maxRecDepth 100000 in
theorem cb_197_385 : mChk 197 385 bk_197_385 389 = true := by decide +kernel
def bk_197_389 : List mO := [(.iload_n 3, 3, 0, .null), (.bipush 16, 0, 0, .int 16), (.if_icmp .ge 95, 487, 0, .null)]
set_option maxRecDepth 100000 in
theorem cb_197_389 : mChk 197 389 bk_197_389 395 = true := by decide +kernel
def bk_197_395 : List mO := [(.iconst 0, 0, 0, .int 0), (.istore 4, 4, 0, .null), (.iconst 0, 0, 0, .int 0), (.istore 5, 5, 0, .null)]
set_option maxRecDepth 100000 in
theorem cb_197_395 : mChk 197 395 bk_197_395 401 = true := by decide +kernel
def bk_197_401 : List mO := [(.iload 5, 5, 0, .null), (.bipush 8, 0, 0, .int 8), (.if_icmp .ge 45, 450, 0, .null)]
set_option maxRecDepth 100000 in
theorem cb_197_401 : mChk 197 401 bk_197_401 408 = true := by decide +kernel
def bk_197_408 : List mO := [(.bipush 8, 0, 0, .int 8), (.iload_n 3, 3, 0, .null), (.imul, 0, 0, .null), (.iload 5, 5, 0, .null), (.iadd, 0, 0, .null), (.istore 6, 6, 0, .null), (.iload 4, 4, 0, .null), (.aload_n 0, 0, 0, .null), (.getfield 130, 9, 50, .null), (.iload 6, 6, 0, .null), (.bipush 26, 0, 0, .int 26), (.idiv, 0, 0, .null), (.laload, 0, 0, .null), (.iload 6, 6, 0, .null), (.bipush 26, 0, 0, .int 26), (.irem, 0, 0, .null), (.lshr, 0, 0, .null), (.lconst 1, 0, 0, .long 1), (.land, 0, 0, .null), (.l2i, 0, 0, .null), (.iload 5, 5, 0, .null), (.ishl, 0, 0, .null), (.ior, 0, 0, .null), (.istore 4, 4, 0, .null), (.iinc 5 1, 5, 0, .int 1), (.goto (-46), 401, 0, .null)]
set_option maxRecDepth 100000 in
theorem cb_197_408 : mChk 197 408 bk_197_408 450 = true := by decide +kernel
def bk_197_450 : List mO := [(.iload_n 2, 2, 0, .null), (.iload 4, 4, 0, .null), (.aload_n 0, 0, 0, .null), (.getfield 124, 9, 48, .null), (.bipush 16, 0, 0, .int 16), (.iload_n 3, 3, 0, .null), (.iadd, 0, 0, .null), (.iaload, 0, 0, .null), (.iadd, 0, 0, .null), (.iadd, 0, 0, .null), (.istore_n 2, 2, 0, .null), (.aload_n 0, 0, 0, .null), (.getfield 115, 9, 41, .null), (.iload_n 3, 3, 0, .null), (.iload_n 2, 2, 0, .null), (.sipush 255, 0, 0, .int 255), (.iand, 0, 0, .null), (.iastore, 0, 0, .null), (.iload_n 2, 2, 0, .null), (.bipush 8, 0, 0, .int 8), (.ishr, 0, 0, .null), (.istore_n 2, 2, 0, .null), (.iinc 3 1, 3, 0, .int 1), (.goto (-95), 389, 0, .null)]
set_option maxRecDepth 100000 in
theorem cb_197_450 : mChk 197 450 bk_197_450 487 = true := by decide +kernel
def bk_197_487 : List mO := [(.return_, 0, 0, .null)]
set_option maxRecDepth 100000 in
theorem cb_197_487 : mChk 197 487 bk_197_487 488 = true := by decide +kernel
-- method 198: KeySealerModel.keySize(I)I, locals 1, room (0, 0)
def bk_198_0 : List mO := [(.iload_n 0, 0, 0, .null), (.iconst 1, 0, 0, .int 1), (.if_icmp .ne 8, 10, 0, .null)]
set_option maxRecDepth 100000 in
theorem cb_198_0 : mChk 198 0 bk_198_0 5 = true := by decide +kernel
def bk_198_5 : List mO := [(.bipush 16, 0, 0, .int 16), (.goto 16, 23, 0, .null)]
set_option maxRecDepth 100000 in
theorem cb_198_5 : mChk 198 5 bk_198_5 10 = true := by decide +kernel
def bk_198_10 : List mO := [(.iload_n 0, 0, 0, .null), (.sipush 255, 0, 0, .int 255), (.if_icmp .ne 7, 21, 0, .null)]
set_option maxRecDepth 100000 in
theorem cb_198_10 : mChk 198 10 bk_198_10 17 = true := by decide +kernel
def bk_198_17 : List mO := [(.iconst 0, 0, 0, .int 0), (.goto 5, 23, 0, .null)]
set_option maxRecDepth 100000 in
theorem cb_198_17 : mChk 198 17 bk_198_17 21 = true := by decide +kernel
def bk_198_21 : List mO := [(.bipush 32, 0, 0, .int 32)]
set_option maxRecDepth 100000 in
theorem cb_198_21 : mChk 198 21 bk_198_21 23 = true := by decide +kernel
def bk_198_23 : List mO := [(.ireturn, 0, 0, .int 0)]
set_option maxRecDepth 100000 in
theorem cb_198_23 : mChk 198 23 bk_198_23 24 = true := by decide +kernel
-- method 199: KeySealerModel.mask(I)V, locals 4, room (3, 70)
def bk_199_0 : List mO := [(.iconst 0, 0, 0, .int 0), (.istore_n 2, 2, 0, .null)]
set_option maxRecDepth 100000 in
theorem cb_199_0 : mChk 199 0 bk_199_0 2 = true := by decide +kernel
def bk_199_2 : List mO := [(.iload_n 1, 1, 0, .null), (.iconst 3, 0, 0, .int 3), (.if_icmp .ne 68, 72, 0, .null)]
set_option maxRecDepth 100000 in
theorem cb_199_2 : mChk 199 2 bk_199_2 7 = true := by decide +kernel
def bk_199_7 : List mO := [(.iload_n 2, 2, 0, .null), (.aload_n 0, 0, 0, .null), (.getfield 371, 9, 40, .null), (.if_icmp .ge 60, 72, 0, .null)]
set_option maxRecDepth 100000 in
theorem cb_199_7 : mChk 199 7 bk_199_7 15 = true := by decide +kernel
def bk_199_15 : List mO := [(.aload_n 0, 0, 0, .null), (.iconst 1, 0, 0, .int 1), (.iload_n 2, 2, 0, .null), (.bipush 64, 0, 0, .int 64), (.idiv, 0, 0, .null), (.iadd, 0, 0, .null), (.invokevirtual 395, 194, 1, .ref 9), (.iconst 0, 0, 0, .int 0), (.istore_n 3, 3, 0, .null)]
set_option maxRecDepth 100000 in
theorem cb_199_15 : mChk 199 15 bk_199_15 27 = true := by decide +kernel
def bk_199_27 : List mO := [(.iload_n 3, 3, 0, .null), (.bipush 64, 0, 0, .int 64), (.if_icmp .ge 36, 66, 0, .null)]
set_option maxRecDepth 100000 in
theorem cb_199_27 : mChk 199 27 bk_199_27 33 = true := by decide +kernel
def bk_199_33 : List mO := [(.iload_n 2, 2, 0, .null), (.iload_n 3, 3, 0, .null), (.iadd, 0, 0, .null), (.aload_n 0, 0, 0, .null), (.getfield 371, 9, 40, .null), (.if_icmp .ge 26, 66, 0, .null)]
set_option maxRecDepth 100000 in
theorem cb_199_33 : mChk 199 33 bk_199_33 43 = true := by decide +kernel
def bk_199_43 : List mO := [(.aload_n 0, 0, 0, .null), (.getfield 112, 9, 39, .null), (.iload_n 2, 2, 0, .null), (.iload_n 3, 3, 0, .null), (.iadd, 0, 0, .null), (.dup2, 0, 0, .null), (.iaload, 0, 0, .null), (.aload_n 0, 0, 0, .null), (.getfield 124, 9, 48, .null), (.iload_n 3, 3, 0, .null), (.iaload, 0, 0, .null), (.ixor, 0, 0, .null), (.iastore, 0, 0, .null), (.iinc 3 1, 3, 0, .int 1), (.goto (-36), 27, 0, .null)]
set_option maxRecDepth 100000 in
theorem cb_199_43 : mChk 199 43 bk_199_43 66 = true := by decide +kernel
def bk_199_66 : List mO := [(.iinc 2 64, 2, 0, .int 64), (.goto (-67), 2, 0, .null)]
set_option maxRecDepth 100000 in
theorem cb_199_66 : mChk 199 66 bk_199_66 72 = true := by decide +kernel
def bk_199_72 : List mO := [(.iconst 0, 0, 0, .int 0), (.istore_n 2, 2, 0, .null)]
set_option maxRecDepth 100000 in
theorem cb_199_72 : mChk 199 72 bk_199_72 74 = true := by decide +kernel
def bk_199_74 : List mO := [(.iload_n 1, 1, 0, .null), (.iconst 3, 0, 0, .int 3), (.if_icmp .ge 68, 144, 0, .null)]
set_option maxRecDepth 100000 in
theorem cb_199_74 : mChk 199 74 bk_199_74 79 = true := by decide +kernel
def bk_199_79 : List mO := [(.iload_n 2, 2, 0, .null), (.aload_n 0, 0, 0, .null), (.getfield 371, 9, 40, .null), (.if_icmp .ge 60, 144, 0, .null)]
set_option maxRecDepth 100000 in
theorem cb_199_79 : mChk 199 79 bk_199_79 87 = true := by decide +kernel
def bk_199_87 : List mO := [(.aload_n 0, 0, 0, .null), (.iconst 2, 0, 0, .int 2), (.iload_n 2, 2, 0, .null), (.bipush 16, 0, 0, .int 16), (.idiv, 0, 0, .null), (.iadd, 0, 0, .null), (.invokevirtual 376, 187, 1, .ref 9), (.iconst 0, 0, 0, .int 0), (.istore_n 3, 3, 0, .null)]
set_option maxRecDepth 100000 in
theorem cb_199_87 : mChk 199 87 bk_199_87 99 = true := by decide +kernel
def bk_199_99 : List mO := [(.iload_n 3, 3, 0, .null), (.bipush 16, 0, 0, .int 16), (.if_icmp .ge 36, 138, 0, .null)]
set_option maxRecDepth 100000 in
theorem cb_199_99 : mChk 199 99 bk_199_99 105 = true := by decide +kernel
def bk_199_105 : List mO := [(.iload_n 2, 2, 0, .null), (.iload_n 3, 3, 0, .null), (.iadd, 0, 0, .null), (.aload_n 0, 0, 0, .null), (.getfield 371, 9, 40, .null), (.if_icmp .ge 26, 138, 0, .null)]
set_option maxRecDepth 100000 in
theorem cb_199_105 : mChk 199 105 bk_199_105 115 = true := by decide +kernel
def bk_199_115 : List mO := [(.aload_n 0, 0, 0, .null), (.getfield 112, 9, 39, .null), (.iload_n 2, 2, 0, .null), (.iload_n 3, 3, 0, .null), (.iadd, 0, 0, .null), (.dup2, 0, 0, .null), (.iaload, 0, 0, .null), (.aload_n 0, 0, 0, .null), (.getfield 97, 9, 33, .null), (.iload_n 3, 3, 0, .null), (.iaload, 0, 0, .null), (.ixor, 0, 0, .null), (.iastore, 0, 0, .null), (.iinc 3 1, 3, 0, .int 1), (.goto (-36), 99, 0, .null)]
set_option maxRecDepth 100000 in
theorem cb_199_115 : mChk 199 115 bk_199_115 138 = true := by decide +kernel
def bk_199_138 : List mO := [(.iinc 2 16, 2, 0, .int 16), (.goto (-67), 74, 0, .null)]
set_option maxRecDepth 100000 in
theorem cb_199_138 : mChk 199 138 bk_199_138 144 = true := by decide +kernel
def bk_199_144 : List mO := [(.return_, 0, 0, .null)]
set_option maxRecDepth 100000 in
theorem cb_199_144 : mChk 199 144 bk_199_144 145 = true := by decide +kernel
-- method 200: KeySealerModel.makeTag(I)V, locals 2, room (4, 91)
def bk_200_0 : List mO := [(.iload_n 1, 1, 0, .null), (.iconst 3, 0, 0, .int 3), (.if_icmp .ne 10, 12, 0, .null)]
set_option maxRecDepth 100000 in
theorem cb_200_0 : mChk 200 0 bk_200_0 5 = true := by decide +kernel
def bk_200_5 : List mO := [(.aload_n 0, 0, 0, .null), (.invokevirtual 405, 197, 0, .ref 9), (.goto 7, 16, 0, .null)]
set_option maxRecDepth 100000 in
theorem cb_200_5 : mChk 200 5 bk_200_5 12 = true := by decide +kernel
def bk_200_12 : List mO := [(.aload_n 0, 0, 0, .null), (.invokevirtual 408, 191, 0, .ref 9)]
set_option maxRecDepth 100000 in
theorem cb_200_12 : mChk 200 12 bk_200_12 16 = true := by decide +kernel
def bk_200_16 : List mO := [(.return_, 0, 0, .null)]
set_option maxRecDepth 100000 in
theorem cb_200_16 : mChk 200 16 bk_200_16 17 = true := by decide +kernel
-- method 201: KeySealerModel.locked(IIII)I, locals 6, room (5, 112)
def bk_201_0 : List mO := [(.aload_n 0, 0, 0, .null), (.iload_n 1, 1, 0, .null), (.iload_n 3, 3, 0, .null), (.iload 4, 4, 0, .null), (.invokevirtual 411, 202, 3, .ref 9), (.aload_n 0, 0, 0, .null), (.aload_n 0, 0, 0, .null), (.getfield 13, 9, 1, .null), (.iload 4, 4, 0, .null), (.iaload, 0, 0, .null), (.putfield 371, 9, 40, .int 0), (.aload_n 0, 0, 0, .null), (.iload_n 1, 1, 0, .null), (.invokevirtual 415, 199, 1, .ref 9), (.aload_n 0, 0, 0, .null), (.iload_n 1, 1, 0, .null), (.invokevirtual 418, 200, 1, .ref 9), (.iconst 0, 0, 0, .int 0), (.istore 5, 5, 0, .null)]
set_option maxRecDepth 100000 in
theorem cb_201_0 : mChk 201 0 bk_201_0 32 = true := by decide +kernel
def bk_201_32 : List mO := [(.iload 5, 5, 0, .null), (.aload_n 0, 0, 0, .null), (.getfield 371, 9, 40, .null), (.bipush 16, 0, 0, .int 16), (.iadd, 0, 0, .null), (.if_icmp .ge 47, 88, 0, .null)]
set_option maxRecDepth 100000 in
theorem cb_201_32 : mChk 201 32 bk_201_32 44 = true := by decide +kernel
def bk_201_44 : List mO := [(.aload_n 0, 0, 0, .null), (.getfield 16, 9, 2, .null), (.iload 5, 5, 0, .null), (.iload 5, 5, 0, .null), (.aload_n 0, 0, 0, .null), (.getfield 371, 9, 40, .null), (.if_icmp .ge 13, 69, 0, .null)]
set_option maxRecDepth 100000 in
theorem cb_201_44 : mChk 201 44 bk_201_44 59 = true := by decide +kernel
def bk_201_59 : List mO := [(.aload_n 0, 0, 0, .null), (.getfield 112, 9, 39, .null), (.iload 5, 5, 0, .null), (.iaload, 0, 0, .null), (.goto 15, 81, 0, .null)]
set_option maxRecDepth 100000 in
theorem cb_201_59 : mChk 201 59 bk_201_59 69 = true := by decide +kernel
def bk_201_69 : List mO := [(.aload_n 0, 0, 0, .null), (.getfield 115, 9, 41, .null), (.iload 5, 5, 0, .null), (.aload_n 0, 0, 0, .null), (.getfield 371, 9, 40, .null), (.isub, 0, 0, .null), (.iaload, 0, 0, .null)]
set_option maxRecDepth 100000 in
theorem cb_201_69 : mChk 201 69 bk_201_69 81 = true := by decide +kernel
def bk_201_81 : List mO := [(.iastore, 0, 0, .null), (.iinc 5 1, 5, 0, .int 1), (.goto (-53), 32, 0, .null)]
set_option maxRecDepth 100000 in
theorem cb_201_81 : mChk 201 81 bk_201_81 88 = true := by decide +kernel
def bk_201_88 : List mO := [(.aload_n 0, 0, 0, .null), (.iload_n 2, 2, 0, .null), (.aload_n 0, 0, 0, .null), (.getfield 371, 9, 40, .null), (.bipush 16, 0, 0, .int 16), (.iadd, 0, 0, .null), (.invokevirtual 190, 146, 2, .ref 9), (.aload_n 0, 0, 0, .null), (.getfield 371, 9, 40, .null), (.bipush 16, 0, 0, .int 16), (.iadd, 0, 0, .null), (.ireturn, 0, 0, .int 0)]
set_option maxRecDepth 100000 in
theorem cb_201_88 : mChk 201 88 bk_201_88 108 = true := by decide +kernel
-- method 202: KeySealerModel.take(III)V, locals 5, room (2, 50)
def bk_202_0 : List mO := [(.iload_n 1, 1, 0, .null), (.iconst 3, 0, 0, .int 3), (.if_icmp .ge 11, 13, 0, .null)]
set_option maxRecDepth 100000 in
theorem cb_202_0 : mChk 202 0 bk_202_0 5 = true := by decide +kernel
def bk_202_5 : List mO := [(.aload_n 0, 0, 0, .null), (.iload_n 1, 1, 0, .null), (.invokestatic 421, 198, 1, .null), (.invokevirtual 424, 185, 1, .ref 9)]
set_option maxRecDepth 100000 in
theorem cb_202_5 : mChk 202 5 bk_202_5 13 = true := by decide +kernel
def bk_202_13 : List mO := [(.aload_n 0, 0, 0, .null), (.aload_n 0, 0, 0, .null), (.getfield 13, 9, 1, .null), (.iload_n 2, 2, 0, .null), (.iaload, 0, 0, .null), (.putfield 365, 9, 38, .int 0), (.iconst 0, 0, 0, .int 0), (.istore 4, 4, 0, .null)]
set_option maxRecDepth 100000 in
theorem cb_202_13 : mChk 202 13 bk_202_13 26 = true := by decide +kernel
def bk_202_26 : List mO := [(.iload 4, 4, 0, .null), (.aload_n 0, 0, 0, .null), (.getfield 365, 9, 38, .null), (.if_icmp .ge 29, 61, 0, .null)]
set_option maxRecDepth 100000 in
theorem cb_202_26 : mChk 202 26 bk_202_26 35 = true := by decide +kernel
def bk_202_35 : List mO := [(.aload_n 0, 0, 0, .null), (.getfield 109, 9, 37, .null), (.iload 4, 4, 0, .null), (.aload_n 0, 0, 0, .null), (.getfield 7, 9, 0, .null), (.sipush 300, 0, 0, .int 300), (.iload_n 2, 2, 0, .null), (.imul, 0, 0, .null), (.iload 4, 4, 0, .null), (.iadd, 0, 0, .null), (.iaload, 0, 0, .null), (.iastore, 0, 0, .null), (.iinc 4 1, 4, 0, .int 1), (.goto (-32), 26, 0, .null)]
set_option maxRecDepth 100000 in
theorem cb_202_35 : mChk 202 35 bk_202_35 61 = true := by decide +kernel
def bk_202_61 : List mO := [(.iconst 0, 0, 0, .int 0), (.istore 4, 4, 0, .null)]
set_option maxRecDepth 100000 in
theorem cb_202_61 : mChk 202 61 bk_202_61 64 = true := by decide +kernel
def bk_202_64 : List mO := [(.iload 4, 4, 0, .null), (.aload_n 0, 0, 0, .null), (.getfield 13, 9, 1, .null), (.iload_n 3, 3, 0, .null), (.iaload, 0, 0, .null), (.if_icmp .ge 29, 101, 0, .null)]
set_option maxRecDepth 100000 in
theorem cb_202_64 : mChk 202 64 bk_202_64 75 = true := by decide +kernel
def bk_202_75 : List mO := [(.aload_n 0, 0, 0, .null), (.getfield 112, 9, 39, .null), (.iload 4, 4, 0, .null), (.aload_n 0, 0, 0, .null), (.getfield 7, 9, 0, .null), (.sipush 300, 0, 0, .int 300), (.iload_n 3, 3, 0, .null), (.imul, 0, 0, .null), (.iload 4, 4, 0, .null), (.iadd, 0, 0, .null), (.iaload, 0, 0, .null), (.iastore, 0, 0, .null), (.iinc 4 1, 4, 0, .int 1), (.goto (-34), 64, 0, .null)]
set_option maxRecDepth 100000 in
theorem cb_202_75 : mChk 202 75 bk_202_75 101 = true := by decide +kernel
def bk_202_101 : List mO := [(.return_, 0, 0, .null)]
set_option maxRecDepth 100000 in
theorem cb_202_101 : mChk 202 101 bk_202_101 102 = true := by decide +kernel
-- method 203: KeySealerModel.unlocked(IIII)I, locals 7, room (5, 112)
def bk_203_0 : List mO := [(.aload_n 0, 0, 0, .null), (.getfield 13, 9, 1, .null), (.iload 4, 4, 0, .null), (.iaload, 0, 0, .null), (.bipush 16, 0, 0, .int 16), (.if_icmp .ge 6, 15, 0, .null)]
set_option maxRecDepth 100000 in
theorem cb_203_0 : mChk 203 0 bk_203_0 12 = true := by decide +kernel
def bk_203_12 : List mO := [(.bipush (-14), 0, 0, .int (-14)), (.ireturn, 0, 0, .int 0)]
set_option maxRecDepth 100000 in
theorem cb_203_12 : mChk 203 12 bk_203_12 15 = true := by decide +kernel
def bk_203_15 : List mO := [(.aload_n 0, 0, 0, .null), (.iload_n 1, 1, 0, .null), (.iload_n 3, 3, 0, .null), (.iload 4, 4, 0, .null), (.invokevirtual 411, 202, 3, .ref 9), (.aload_n 0, 0, 0, .null), (.aload_n 0, 0, 0, .null), (.getfield 13, 9, 1, .null), (.iload 4, 4, 0, .null), (.iaload, 0, 0, .null), (.bipush 16, 0, 0, .int 16), (.isub, 0, 0, .null), (.putfield 371, 9, 40, .int 0), (.aload_n 0, 0, 0, .null), (.iload_n 1, 1, 0, .null), (.invokevirtual 418, 200, 1, .ref 9), (.iconst 1, 0, 0, .int 1), (.istore 5, 5, 0, .null), (.iconst 0, 0, 0, .int 0), (.istore 6, 6, 0, .null)]
set_option maxRecDepth 100000 in
theorem cb_203_15 : mChk 203 15 bk_203_15 48 = true := by decide +kernel
def bk_203_48 : List mO := [(.iload 6, 6, 0, .null), (.bipush 16, 0, 0, .int 16), (.if_icmp .ge 43, 95, 0, .null)]
set_option maxRecDepth 100000 in
theorem cb_203_48 : mChk 203 48 bk_203_48 55 = true := by decide +kernel
def bk_203_55 : List mO := [(.iload 5, 5, 0, .null), (.ifCond .eq 29, 86, 0, .null)]
set_option maxRecDepth 100000 in
theorem cb_203_55 : mChk 203 55 bk_203_55 60 = true := by decide +kernel
def bk_203_60 : List mO := [(.aload_n 0, 0, 0, .null), (.getfield 115, 9, 41, .null), (.iload 6, 6, 0, .null), (.iaload, 0, 0, .null), (.aload_n 0, 0, 0, .null), (.getfield 112, 9, 39, .null), (.aload_n 0, 0, 0, .null), (.getfield 371, 9, 40, .null), (.iload 6, 6, 0, .null), (.iadd, 0, 0, .null), (.iaload, 0, 0, .null), (.if_icmp .ne 7, 86, 0, .null)]
set_option maxRecDepth 100000 in
theorem cb_203_60 : mChk 203 60 bk_203_60 82 = true := by decide +kernel
def bk_203_82 : List mO := [(.iconst 1, 0, 0, .int 1), (.goto 4, 87, 0, .null)]
set_option maxRecDepth 100000 in
theorem cb_203_82 : mChk 203 82 bk_203_82 86 = true := by decide +kernel
def bk_203_86 : List mO := [(.iconst 0, 0, 0, .int 0)]
set_option maxRecDepth 100000 in
theorem cb_203_86 : mChk 203 86 bk_203_86 87 = true := by decide +kernel
def bk_203_87 : List mO := [(.istore 5, 5, 0, .null), (.iinc 6 1, 6, 0, .int 1), (.goto (-44), 48, 0, .null)]
set_option maxRecDepth 100000 in
theorem cb_203_87 : mChk 203 87 bk_203_87 95 = true := by decide +kernel
def bk_203_95 : List mO := [(.iload 5, 5, 0, .null), (.ifCond .ne 6, 103, 0, .null)]
set_option maxRecDepth 100000 in
theorem cb_203_95 : mChk 203 95 bk_203_95 100 = true := by decide +kernel
def bk_203_100 : List mO := [(.bipush (-14), 0, 0, .int (-14)), (.ireturn, 0, 0, .int 0)]
set_option maxRecDepth 100000 in
theorem cb_203_100 : mChk 203 100 bk_203_100 103 = true := by decide +kernel
def bk_203_103 : List mO := [(.aload_n 0, 0, 0, .null), (.iload_n 1, 1, 0, .null), (.invokevirtual 415, 199, 1, .ref 9), (.iconst 0, 0, 0, .int 0), (.istore 6, 6, 0, .null)]
set_option maxRecDepth 100000 in
theorem cb_203_103 : mChk 203 103 bk_203_103 111 = true := by decide +kernel
def bk_203_111 : List mO := [(.iload 6, 6, 0, .null), (.aload_n 0, 0, 0, .null), (.getfield 371, 9, 40, .null), (.if_icmp .ge 23, 140, 0, .null)]
set_option maxRecDepth 100000 in
theorem cb_203_111 : mChk 203 111 bk_203_111 120 = true := by decide +kernel
def bk_203_120 : List mO := [(.aload_n 0, 0, 0, .null), (.getfield 16, 9, 2, .null), (.iload 6, 6, 0, .null), (.aload_n 0, 0, 0, .null), (.getfield 112, 9, 39, .null), (.iload 6, 6, 0, .null), (.iaload, 0, 0, .null), (.iastore, 0, 0, .null), (.iinc 6 1, 6, 0, .int 1), (.goto (-26), 111, 0, .null)]
set_option maxRecDepth 100000 in
theorem cb_203_120 : mChk 203 120 bk_203_120 140 = true := by decide +kernel
def bk_203_140 : List mO := [(.aload_n 0, 0, 0, .null), (.iload_n 2, 2, 0, .null), (.aload_n 0, 0, 0, .null), (.getfield 371, 9, 40, .null), (.invokevirtual 190, 146, 2, .ref 9), (.aload_n 0, 0, 0, .null), (.getfield 371, 9, 40, .null), (.ireturn, 0, 0, .int 0)]
set_option maxRecDepth 100000 in
theorem cb_203_140 : mChk 203 140 bk_203_140 154 = true := by decide +kernel

/-! PART 13.08: blocks of code and their checks, printed by program (wip/whole/mk13.py) -/
-- method 204: KeySealerModel.isLock(IIIIII)Z, locals 9, room (2, 42)
def bk_204_0 : List mO := [(.iload_n 1, 1, 0, .null), (.iconst 1, 0, 0, .int 1), (.if_icmp .lt 38, 40, 0, .null)]
set_option maxRecDepth 100000 in
theorem cb_204_0 : mChk 204 0 bk_204_0 5 = true := by decide +kernel
def bk_204_5 : List mO := [(.iload_n 1, 1, 0, .null), (.iconst 3, 0, 0, .int 3), (.if_icmp .gt 33, 40, 0, .null)]
set_option maxRecDepth 100000 in
theorem cb_204_5 : mChk 204 5 bk_204_5 10 = true := by decide +kernel
def bk_204_10 : List mO := [(.iload_n 2, 2, 0, .null), (.iload_n 3, 3, 0, .null), (.iload 4, 4, 0, .null), (.invokestatic 253, 138, 3, .null), (.ifCond .eq 23, 40, 0, .null)]
set_option maxRecDepth 100000 in
theorem cb_204_10 : mChk 204 10 bk_204_10 20 = true := by decide +kernel
def bk_204_20 : List mO := [(.iload 5, 5, 0, .null), (.invokestatic 184, 137, 1, .null), (.ifCond .eq 15, 40, 0, .null)]
set_option maxRecDepth 100000 in
theorem cb_204_20 : mChk 204 20 bk_204_20 28 = true := by decide +kernel
def bk_204_28 : List mO := [(.iload 6, 6, 0, .null), (.invokestatic 184, 137, 1, .null), (.ifCond .eq 7, 40, 0, .null)]
set_option maxRecDepth 100000 in
theorem cb_204_28 : mChk 204 28 bk_204_28 36 = true := by decide +kernel
def bk_204_36 : List mO := [(.iconst 1, 0, 0, .int 1), (.goto 4, 41, 0, .null)]
set_option maxRecDepth 100000 in
theorem cb_204_36 : mChk 204 36 bk_204_36 40 = true := by decide +kernel
def bk_204_40 : List mO := [(.iconst 0, 0, 0, .int 0)]
set_option maxRecDepth 100000 in
theorem cb_204_40 : mChk 204 40 bk_204_40 41 = true := by decide +kernel
def bk_204_41 : List mO := [(.istore 7, 7, 0, .null), (.iload 7, 7, 0, .null), (.ifCond .eq 32, 77, 0, .null)]
set_option maxRecDepth 100000 in
theorem cb_204_41 : mChk 204 41 bk_204_41 48 = true := by decide +kernel
def bk_204_48 : List mO := [(.aload_n 0, 0, 0, .null), (.getfield 13, 9, 1, .null), (.iload_n 3, 3, 0, .null), (.iaload, 0, 0, .null), (.iload_n 1, 1, 0, .null), (.invokestatic 421, 198, 1, .null), (.if_icmp .ne 19, 77, 0, .null)]
set_option maxRecDepth 100000 in
theorem cb_204_48 : mChk 204 48 bk_204_48 61 = true := by decide +kernel
def bk_204_61 : List mO := [(.aload_n 0, 0, 0, .null), (.getfield 13, 9, 1, .null), (.iload 4, 4, 0, .null), (.iaload, 0, 0, .null), (.bipush 12, 0, 0, .int 12), (.if_icmp .ne 7, 77, 0, .null)]
set_option maxRecDepth 100000 in
theorem cb_204_61 : mChk 204 61 bk_204_61 73 = true := by decide +kernel
def bk_204_73 : List mO := [(.iconst 1, 0, 0, .int 1), (.goto 4, 78, 0, .null)]
set_option maxRecDepth 100000 in
theorem cb_204_73 : mChk 204 73 bk_204_73 77 = true := by decide +kernel
def bk_204_77 : List mO := [(.iconst 0, 0, 0, .int 0)]
set_option maxRecDepth 100000 in
theorem cb_204_77 : mChk 204 77 bk_204_77 78 = true := by decide +kernel
def bk_204_78 : List mO := [(.istore 7, 7, 0, .null), (.iconst 0, 0, 0, .int 0), (.istore 8, 8, 0, .null)]
set_option maxRecDepth 100000 in
theorem cb_204_78 : mChk 204 78 bk_204_78 83 = true := by decide +kernel
def bk_204_83 : List mO := [(.iload 7, 7, 0, .null), (.ifCond .eq 40, 125, 0, .null)]
set_option maxRecDepth 100000 in
theorem cb_204_83 : mChk 204 83 bk_204_83 88 = true := by decide +kernel
def bk_204_88 : List mO := [(.iload 8, 8, 0, .null), (.aload_n 0, 0, 0, .null), (.getfield 13, 9, 1, .null), (.iload_n 3, 3, 0, .null), (.iaload, 0, 0, .null), (.if_icmp .ge 29, 125, 0, .null)]
set_option maxRecDepth 100000 in
theorem cb_204_88 : mChk 204 88 bk_204_88 99 = true := by decide +kernel
def bk_204_99 : List mO := [(.aload_n 0, 0, 0, .null), (.getfield 103, 9, 35, .null), (.iload 8, 8, 0, .null), (.aload_n 0, 0, 0, .null), (.getfield 7, 9, 0, .null), (.sipush 300, 0, 0, .int 300), (.iload_n 3, 3, 0, .null), (.imul, 0, 0, .null), (.iload 8, 8, 0, .null), (.iadd, 0, 0, .null), (.iaload, 0, 0, .null), (.iastore, 0, 0, .null), (.iinc 8 1, 8, 0, .int 1), (.goto (-39), 83, 0, .null)]
set_option maxRecDepth 100000 in
theorem cb_204_99 : mChk 204 99 bk_204_99 125 = true := by decide +kernel
def bk_204_125 : List mO := [(.iconst 0, 0, 0, .int 0), (.istore 8, 8, 0, .null)]
set_option maxRecDepth 100000 in
theorem cb_204_125 : mChk 204 125 bk_204_125 128 = true := by decide +kernel
def bk_204_128 : List mO := [(.iload 7, 7, 0, .null), (.ifCond .eq 37, 167, 0, .null)]
set_option maxRecDepth 100000 in
theorem cb_204_128 : mChk 204 128 bk_204_128 133 = true := by decide +kernel
def bk_204_133 : List mO := [(.iload 8, 8, 0, .null), (.bipush 12, 0, 0, .int 12), (.if_icmp .ge 30, 167, 0, .null)]
set_option maxRecDepth 100000 in
theorem cb_204_133 : mChk 204 133 bk_204_133 140 = true := by decide +kernel
def bk_204_140 : List mO := [(.aload_n 0, 0, 0, .null), (.getfield 106, 9, 36, .null), (.iload 8, 8, 0, .null), (.aload_n 0, 0, 0, .null), (.getfield 7, 9, 0, .null), (.sipush 300, 0, 0, .int 300), (.iload 4, 4, 0, .null), (.imul, 0, 0, .null), (.iload 8, 8, 0, .null), (.iadd, 0, 0, .null), (.iaload, 0, 0, .null), (.iastore, 0, 0, .null), (.iinc 8 1, 8, 0, .int 1), (.goto (-36), 128, 0, .null)]
set_option maxRecDepth 100000 in
theorem cb_204_140 : mChk 204 140 bk_204_140 167 = true := by decide +kernel
def bk_204_167 : List mO := [(.iload 7, 7, 0, .null), (.ireturn, 0, 0, .int 1)]
set_option maxRecDepth 100000 in
theorem cb_204_167 : mChk 204 167 bk_204_167 170 = true := by decide +kernel
-- method 205: KeySealerModel.lock(IIIIII)I, locals 7, room (6, 137)
def bk_205_0 : List mO := [(.aload_n 0, 0, 0, .null), (.iload_n 1, 1, 0, .null), (.iload_n 2, 2, 0, .null), (.iload_n 3, 3, 0, .null), (.iload 4, 4, 0, .null), (.iload 5, 5, 0, .null), (.iload 6, 6, 0, .null), (.invokevirtual 427, 204, 6, .ref 9), (.ifCond .ne 6, 19, 0, .null)]
set_option maxRecDepth 100000 in
theorem cb_205_0 : mChk 205 0 bk_205_0 16 = true := by decide +kernel
def bk_205_16 : List mO := [(.bipush (-2), 0, 0, .int (-2)), (.ireturn, 0, 0, .int 0)]
set_option maxRecDepth 100000 in
theorem cb_205_16 : mChk 205 16 bk_205_16 19 = true := by decide +kernel
def bk_205_19 : List mO := [(.aload_n 0, 0, 0, .null), (.getfield 13, 9, 1, .null), (.iload 6, 6, 0, .null), (.iaload, 0, 0, .null), (.sipush 284, 0, 0, .int 284), (.if_icmp .le 8, 37, 0, .null)]
set_option maxRecDepth 100000 in
theorem cb_205_19 : mChk 205 19 bk_205_19 32 = true := by decide +kernel
def bk_205_32 : List mO := [(.bipush (-3), 0, 0, .int (-3)), (.goto 13, 47, 0, .null)]
set_option maxRecDepth 100000 in
theorem cb_205_32 : mChk 205 32 bk_205_32 37 = true := by decide +kernel
def bk_205_37 : List mO := [(.aload_n 0, 0, 0, .null), (.iload_n 1, 1, 0, .null), (.iload_n 2, 2, 0, .null), (.iload 5, 5, 0, .null), (.iload 6, 6, 0, .null), (.invokevirtual 431, 201, 4, .ref 9)]
set_option maxRecDepth 100000 in
theorem cb_205_37 : mChk 205 37 bk_205_37 47 = true := by decide +kernel
def bk_205_47 : List mO := [(.ireturn, 0, 0, .int 0)]
set_option maxRecDepth 100000 in
theorem cb_205_47 : mChk 205 47 bk_205_47 48 = true := by decide +kernel
-- method 206: KeySealerModel.unlock(IIIIII)I, locals 7, room (6, 138)
def bk_206_0 : List mO := [(.aload_n 0, 0, 0, .null), (.iload_n 1, 1, 0, .null), (.iload_n 2, 2, 0, .null), (.iload_n 3, 3, 0, .null), (.iload 4, 4, 0, .null), (.iload 5, 5, 0, .null), (.iload 6, 6, 0, .null), (.invokevirtual 427, 204, 6, .ref 9), (.ifCond .eq 16, 29, 0, .null)]
set_option maxRecDepth 100000 in
theorem cb_206_0 : mChk 206 0 bk_206_0 16 = true := by decide +kernel
def bk_206_16 : List mO := [(.aload_n 0, 0, 0, .null), (.iload_n 1, 1, 0, .null), (.iload_n 2, 2, 0, .null), (.iload 5, 5, 0, .null), (.iload 6, 6, 0, .null), (.invokevirtual 435, 203, 4, .ref 9), (.goto 5, 31, 0, .null)]
set_option maxRecDepth 100000 in
theorem cb_206_16 : mChk 206 16 bk_206_16 29 = true := by decide +kernel
def bk_206_29 : List mO := [(.bipush (-2), 0, 0, .int (-2))]
set_option maxRecDepth 100000 in
theorem cb_206_29 : mChk 206 29 bk_206_29 31 = true := by decide +kernel
def bk_206_31 : List mO := [(.ireturn, 0, 0, .int 0)]
set_option maxRecDepth 100000 in
theorem cb_206_31 : mChk 206 31 bk_206_31 32 = true := by decide +kernel
-- method 207: KeySealerModel.kemId()V, locals 2, room (0, 0)
def bk_207_0 : List mO := [(.aload_n 0, 0, 0, .null), (.iconst 5, 0, 0, .int 5), (.putfield 438, 9, 54, .int 0), (.iconst 0, 0, 0, .int 0), (.istore_n 1, 1, 0, .null)]
set_option maxRecDepth 100000 in
theorem cb_207_0 : mChk 207 0 bk_207_0 7 = true := by decide +kernel
def bk_207_7 : List mO := [(.iload_n 1, 1, 0, .null), (.iconst 5, 0, 0, .int 5), (.if_icmp .ge 20, 29, 0, .null)]
set_option maxRecDepth 100000 in
theorem cb_207_7 : mChk 207 7 bk_207_7 12 = true := by decide +kernel
def bk_207_12 : List mO := [(.aload_n 0, 0, 0, .null), (.getfield 139, 9, 53, .null), (.iload_n 1, 1, 0, .null), (.getstatic 441, 0, 0, .ref 1000007), (.iload_n 1, 1, 0, .null), (.iaload, 0, 0, .null), (.iastore, 0, 0, .null), (.iinc 1 1, 1, 0, .int 1), (.goto (-19), 7, 0, .null)]
set_option maxRecDepth 100000 in
theorem cb_207_12 : mChk 207 12 bk_207_12 29 = true := by decide +kernel
def bk_207_29 : List mO := [(.return_, 0, 0, .null)]
set_option maxRecDepth 100000 in
theorem cb_207_29 : mChk 207 29 bk_207_29 30 = true := by decide +kernel
-- method 208: KeySealerModel.suiteId(II)V, locals 4, room (0, 0)
def bk_208_0 : List mO := [(.aload_n 0, 0, 0, .null), (.bipush 10, 0, 0, .int 10), (.putfield 438, 9, 54, .int 0), (.iconst 0, 0, 0, .int 0), (.istore_n 3, 3, 0, .null)]
set_option maxRecDepth 100000 in
theorem cb_208_0 : mChk 208 0 bk_208_0 8 = true := by decide +kernel
def bk_208_8 : List mO := [(.iload_n 3, 3, 0, .null), (.iconst 4, 0, 0, .int 4), (.if_icmp .ge 20, 30, 0, .null)]
set_option maxRecDepth 100000 in
theorem cb_208_8 : mChk 208 8 bk_208_8 13 = true := by decide +kernel
def bk_208_13 : List mO := [(.aload_n 0, 0, 0, .null), (.getfield 139, 9, 53, .null), (.iload_n 3, 3, 0, .null), (.getstatic 444, 0, 0, .ref 1000008), (.iload_n 3, 3, 0, .null), (.iaload, 0, 0, .null), (.iastore, 0, 0, .null), (.iinc 3 1, 3, 0, .int 1), (.goto (-19), 8, 0, .null)]
set_option maxRecDepth 100000 in
theorem cb_208_13 : mChk 208 13 bk_208_13 30 = true := by decide +kernel
def bk_208_30 : List mO := [(.aload_n 0, 0, 0, .null), (.getfield 139, 9, 53, .null), (.iconst 4, 0, 0, .int 4), (.iconst 0, 0, 0, .int 0), (.iastore, 0, 0, .null), (.aload_n 0, 0, 0, .null), (.getfield 139, 9, 53, .null), (.iconst 5, 0, 0, .int 5), (.bipush 32, 0, 0, .int 32), (.iastore, 0, 0, .null), (.aload_n 0, 0, 0, .null), (.getfield 139, 9, 53, .null), (.bipush 6, 0, 0, .int 6), (.iconst 0, 0, 0, .int 0), (.iastore, 0, 0, .null), (.aload_n 0, 0, 0, .null), (.getfield 139, 9, 53, .null), (.bipush 7, 0, 0, .int 7), (.iload_n 1, 1, 0, .null), (.iastore, 0, 0, .null), (.aload_n 0, 0, 0, .null), (.getfield 139, 9, 53, .null), (.bipush 8, 0, 0, .int 8), (.iload_n 2, 2, 0, .null), (.sipush 255, 0, 0, .int 255), (.if_icmp .ne 9, 80, 0, .null)]
set_option maxRecDepth 100000 in
theorem cb_208_30 : mChk 208 30 bk_208_30 74 = true := by decide +kernel
def bk_208_74 : List mO := [(.sipush 255, 0, 0, .int 255), (.goto 4, 81, 0, .null)]
set_option maxRecDepth 100000 in
theorem cb_208_74 : mChk 208 74 bk_208_74 80 = true := by decide +kernel
def bk_208_80 : List mO := [(.iconst 0, 0, 0, .int 0)]
set_option maxRecDepth 100000 in
theorem cb_208_80 : mChk 208 80 bk_208_80 81 = true := by decide +kernel
def bk_208_81 : List mO := [(.iastore, 0, 0, .null), (.aload_n 0, 0, 0, .null), (.getfield 139, 9, 53, .null), (.bipush 9, 0, 0, .int 9), (.iload_n 2, 2, 0, .null), (.iastore, 0, 0, .null), (.return_, 0, 0, .null)]
set_option maxRecDepth 100000 in
theorem cb_208_81 : mChk 208 81 bk_208_81 91 = true := by decide +kernel
-- method 209: KeySealerModel.beginX([I)V, locals 2, room (2, 45)
def bk_209_0 : List mO := [(.aload_n 0, 0, 0, .null), (.iconst 0, 0, 0, .int 0), (.putfield 234, 9, 11, .int 0), (.aload_n 0, 0, 0, .null), (.getstatic 444, 0, 0, .ref 1000008), (.invokevirtual 447, 156, 1, .ref 9), (.aload_n 0, 0, 0, .null), (.aload_n 0, 0, 0, .null), (.getfield 139, 9, 53, .null), (.iconst 0, 0, 0, .int 0), (.aload_n 0, 0, 0, .null), (.getfield 438, 9, 54, .null), (.invokevirtual 240, 157, 3, .ref 9), (.aload_n 0, 0, 0, .null), (.aload_n 1, 1, 0, .null), (.invokevirtual 447, 156, 1, .ref 9), (.return_, 0, 0, .null)]
set_option maxRecDepth 100000 in
theorem cb_209_0 : mChk 209 0 bk_209_0 31 = true := by decide +kernel
-- method 210: KeySealerModel.beginP([II)V, locals 3, room (2, 45)
def bk_210_0 : List mO := [(.aload_n 0, 0, 0, .null), (.iconst 0, 0, 0, .int 0), (.putfield 234, 9, 11, .int 0), (.aload_n 0, 0, 0, .null), (.iload_n 2, 2, 0, .null), (.bipush 8, 0, 0, .int 8), (.ishr, 0, 0, .null), (.invokevirtual 237, 155, 1, .ref 9), (.aload_n 0, 0, 0, .null), (.iload_n 2, 2, 0, .null), (.sipush 255, 0, 0, .int 255), (.iand, 0, 0, .null), (.invokevirtual 237, 155, 1, .ref 9), (.aload_n 0, 0, 0, .null), (.getstatic 444, 0, 0, .ref 1000008), (.invokevirtual 447, 156, 1, .ref 9), (.aload_n 0, 0, 0, .null), (.aload_n 0, 0, 0, .null), (.getfield 139, 9, 53, .null), (.iconst 0, 0, 0, .int 0), (.aload_n 0, 0, 0, .null), (.getfield 438, 9, 54, .null), (.invokevirtual 240, 157, 3, .ref 9), (.aload_n 0, 0, 0, .null), (.aload_n 1, 1, 0, .null), (.invokevirtual 447, 156, 1, .ref 9), (.return_, 0, 0, .null)]
set_option maxRecDepth 100000 in
theorem cb_210_0 : mChk 210 0 bk_210_0 48 = true := by decide +kernel
-- method 211: KeySealerModel.noSalt(I)V, locals 2, room (5, 151)
def bk_211_0 : List mO := [(.aload_n 0, 0, 0, .null), (.iload_n 1, 1, 0, .null), (.aload_n 0, 0, 0, .null), (.getfield 139, 9, 53, .null), (.iconst 0, 0, 0, .int 0), (.iconst 0, 0, 0, .int 0), (.invokevirtual 257, 159, 4, .ref 9), (.return_, 0, 0, .null)]
set_option maxRecDepth 100000 in
theorem cb_211_0 : mChk 211 0 bk_211_0 12 = true := by decide +kernel
-- method 212: KeySealerModel.makeP(II)V, locals 3, room (6, 174)
def bk_212_0 : List mO := [(.aload_n 0, 0, 0, .null), (.invokevirtual 264, 163, 0, .ref 9), (.aload_n 0, 0, 0, .null), (.iload_n 1, 1, 0, .null), (.iload_n 2, 2, 0, .null), (.invokevirtual 267, 161, 2, .ref 9), (.return_, 0, 0, .null)]
set_option maxRecDepth 100000 in
theorem cb_212_0 : mChk 212 0 bk_212_0 11 = true := by decide +kernel
-- method 213: KeySealerModel.pair(III)I, locals 4, room (7, 196)
def bk_213_0 : List mO := [(.iload_n 1, 1, 0, .null), (.iload_n 2, 2, 0, .null), (.iload_n 3, 3, 0, .null), (.invokestatic 253, 138, 3, .null), (.ifCond .ne 6, 12, 0, .null)]
set_option maxRecDepth 100000 in
theorem cb_213_0 : mChk 213 0 bk_213_0 9 = true := by decide +kernel
def bk_213_9 : List mO := [(.bipush (-2), 0, 0, .int (-2)), (.ireturn, 0, 0, .int 0)]
set_option maxRecDepth 100000 in
theorem cb_213_9 : mChk 213 9 bk_213_9 12 = true := by decide +kernel
def bk_213_12 : List mO := [(.aload_n 0, 0, 0, .null), (.invokevirtual 451, 207, 0, .ref 9), (.aload_n 0, 0, 0, .null), (.getstatic 454, 0, 0, .ref 1000009), (.invokevirtual 457, 209, 1, .ref 9), (.aload_n 0, 0, 0, .null), (.iload_n 3, 3, 0, .null), (.invokevirtual 261, 158, 1, .ref 9), (.aload_n 0, 0, 0, .null), (.iconst 1, 0, 0, .int 1), (.invokevirtual 460, 211, 1, .ref 9), (.aload_n 0, 0, 0, .null), (.iconst 1, 0, 0, .int 1), (.invokevirtual 250, 160, 1, .ref 9), (.aload_n 0, 0, 0, .null), (.iconst 1, 0, 0, .int 1), (.aload_n 0, 0, 0, .null), (.getfield 29, 9, 7, .null), (.iconst 0, 0, 0, .int 0), (.bipush 32, 0, 0, .int 32), (.invokevirtual 257, 159, 4, .ref 9), (.aload_n 0, 0, 0, .null), (.getstatic 463, 0, 0, .ref 1000010), (.bipush 32, 0, 0, .int 32), (.invokevirtual 466, 210, 2, .ref 9), (.aload_n 0, 0, 0, .null), (.iconst 1, 0, 0, .int 1), (.bipush 32, 0, 0, .int 32), (.invokevirtual 469, 212, 2, .ref 9), (.aload_n 0, 0, 0, .null), (.iload_n 1, 1, 0, .null), (.bipush 32, 0, 0, .int 32), (.invokevirtual 190, 146, 2, .ref 9), (.aload_n 0, 0, 0, .null), (.aload_n 0, 0, 0, .null), (.getfield 7, 9, 0, .null), (.sipush 300, 0, 0, .int 300), (.iload_n 1, 1, 0, .null), (.imul, 0, 0, .null), (.invokevirtual 315, 175, 2, .ref 9), (.aload_n 0, 0, 0, .null), (.invokevirtual 329, 177, 0, .ref 9), (.aload_n 0, 0, 0, .null), (.iload_n 2, 2, 0, .null), (.invokevirtual 326, 180, 1, .ref 9), (.ireturn, 0, 0, .int 0)]
set_option maxRecDepth 100000 in
theorem cb_213_12 : mChk 213 12 bk_213_12 96 = true := by decide +kernel
-- method 214: KeySealerModel.use(II)I, locals 3, room (1, 20)
def bk_214_0 : List mO := [(.iload_n 1, 1, 0, .null), (.ifCond .lt 20, 21, 0, .null)]
set_option maxRecDepth 100000 in
theorem cb_214_0 : mChk 214 0 bk_214_0 4 = true := by decide +kernel
def bk_214_4 : List mO := [(.iload_n 1, 1, 0, .null), (.iconst 4, 0, 0, .int 4), (.if_icmp .gt 15, 21, 0, .null)]
set_option maxRecDepth 100000 in
theorem cb_214_4 : mChk 214 4 bk_214_4 9 = true := by decide +kernel
def bk_214_9 : List mO := [(.iload_n 2, 2, 0, .null), (.iconst (-1), 0, 0, .int (-1)), (.if_icmp .eq 13, 24, 0, .null)]
set_option maxRecDepth 100000 in
theorem cb_214_9 : mChk 214 9 bk_214_9 14 = true := by decide +kernel
def bk_214_14 : List mO := [(.iload_n 2, 2, 0, .null), (.invokestatic 184, 137, 1, .null), (.ifCond .ne 6, 24, 0, .null)]
set_option maxRecDepth 100000 in
theorem cb_214_14 : mChk 214 14 bk_214_14 21 = true := by decide +kernel
def bk_214_21 : List mO := [(.bipush (-2), 0, 0, .int (-2)), (.ireturn, 0, 0, .int 0)]
set_option maxRecDepth 100000 in
theorem cb_214_21 : mChk 214 21 bk_214_21 24 = true := by decide +kernel
def bk_214_24 : List mO := [(.aload_n 0, 0, 0, .null), (.getfield 142, 9, 55, .null), (.iload_n 1, 1, 0, .null), (.iload_n 2, 2, 0, .null), (.iastore, 0, 0, .null), (.iconst 0, 0, 0, .int 0), (.ireturn, 0, 0, .int 0)]
set_option maxRecDepth 100000 in
theorem cb_214_24 : mChk 214 24 bk_214_24 33 = true := by decide +kernel
-- method 215: KeySealerModel.usedSize(I)I, locals 2, room (0, 0)
def bk_215_0 : List mO := [(.aload_n 0, 0, 0, .null), (.getfield 142, 9, 55, .null), (.iload_n 1, 1, 0, .null), (.iaload, 0, 0, .null), (.ifCond .ge 7, 13, 0, .null)]
set_option maxRecDepth 100000 in
theorem cb_215_0 : mChk 215 0 bk_215_0 9 = true := by decide +kernel
def bk_215_9 : List mO := [(.iconst 0, 0, 0, .int 0), (.goto 14, 24, 0, .null)]
set_option maxRecDepth 100000 in
theorem cb_215_9 : mChk 215 9 bk_215_9 13 = true := by decide +kernel
def bk_215_13 : List mO := [(.aload_n 0, 0, 0, .null), (.getfield 13, 9, 1, .null), (.aload_n 0, 0, 0, .null), (.getfield 142, 9, 55, .null), (.iload_n 1, 1, 0, .null), (.iaload, 0, 0, .null), (.iaload, 0, 0, .null)]
set_option maxRecDepth 100000 in
theorem cb_215_13 : mChk 215 13 bk_215_13 24 = true := by decide +kernel
def bk_215_24 : List mO := [(.ireturn, 0, 0, .int 0)]
set_option maxRecDepth 100000 in
theorem cb_215_24 : mChk 215 24 bk_215_24 25 = true := by decide +kernel
-- method 216: KeySealerModel.agreesToo()Z, locals 2, room (4, 91)
def bk_216_0 : List mO := [(.aload_n 0, 0, 0, .null), (.invokevirtual 309, 173, 0, .ref 9), (.iconst 0, 0, 0, .int 0), (.istore_n 1, 1, 0, .null)]
set_option maxRecDepth 100000 in
theorem cb_216_0 : mChk 216 0 bk_216_0 6 = true := by decide +kernel
def bk_216_6 : List mO := [(.iload_n 1, 1, 0, .null), (.bipush 32, 0, 0, .int 32), (.if_icmp .ge 26, 35, 0, .null)]
set_option maxRecDepth 100000 in
theorem cb_216_6 : mChk 216 6 bk_216_6 12 = true := by decide +kernel
def bk_216_12 : List mO := [(.aload_n 0, 0, 0, .null), (.getfield 145, 9, 56, .null), (.aload_n 0, 0, 0, .null), (.getfield 472, 9, 57, .null), (.iload_n 1, 1, 0, .null), (.iadd, 0, 0, .null), (.aload_n 0, 0, 0, .null), (.getfield 88, 9, 29, .null), (.iload_n 1, 1, 0, .null), (.iaload, 0, 0, .null), (.iastore, 0, 0, .null), (.iinc 1 1, 1, 0, .int 1), (.goto (-26), 6, 0, .null)]
set_option maxRecDepth 100000 in
theorem cb_216_12 : mChk 216 12 bk_216_12 35 = true := by decide +kernel
def bk_216_35 : List mO := [(.aload_n 0, 0, 0, .null), (.dup, 0, 0, .null), (.getfield 472, 9, 57, .null), (.bipush 32, 0, 0, .int 32), (.iadd, 0, 0, .null), (.putfield 472, 9, 57, .int 0), (.aload_n 0, 0, 0, .null), (.invokevirtual 322, 178, 0, .ref 9), (.ifCond .ne 7, 57, 0, .null)]
set_option maxRecDepth 100000 in
theorem cb_216_35 : mChk 216 35 bk_216_35 53 = true := by decide +kernel
def bk_216_53 : List mO := [(.iconst 1, 0, 0, .int 1), (.goto 4, 58, 0, .null)]
set_option maxRecDepth 100000 in
theorem cb_216_53 : mChk 216 53 bk_216_53 57 = true := by decide +kernel
def bk_216_57 : List mO := [(.iconst 0, 0, 0, .int 0)]
set_option maxRecDepth 100000 in
theorem cb_216_57 : mChk 216 57 bk_216_57 58 = true := by decide +kernel
def bk_216_58 : List mO := [(.ireturn, 0, 0, .int 1)]
set_option maxRecDepth 100000 in
theorem cb_216_58 : mChk 216 58 bk_216_58 59 = true := by decide +kernel
-- method 217: KeySealerModel.aboutToo([II)V, locals 4, room (0, 0)
def bk_217_0 : List mO := [(.iconst 0, 0, 0, .int 0), (.istore_n 3, 3, 0, .null)]
set_option maxRecDepth 100000 in
theorem cb_217_0 : mChk 217 0 bk_217_0 2 = true := by decide +kernel
def bk_217_2 : List mO := [(.iload_n 3, 3, 0, .null), (.bipush 32, 0, 0, .int 32), (.if_icmp .ge 25, 30, 0, .null)]
set_option maxRecDepth 100000 in
theorem cb_217_2 : mChk 217 2 bk_217_2 8 = true := by decide +kernel
def bk_217_8 : List mO := [(.aload_n 0, 0, 0, .null), (.getfield 148, 9, 58, .null), (.aload_n 0, 0, 0, .null), (.getfield 475, 9, 59, .null), (.iload_n 3, 3, 0, .null), (.iadd, 0, 0, .null), (.aload_n 1, 1, 0, .null), (.iload_n 2, 2, 0, .null), (.iload_n 3, 3, 0, .null), (.iadd, 0, 0, .null), (.iaload, 0, 0, .null), (.iastore, 0, 0, .null), (.iinc 3 1, 3, 0, .int 1), (.goto (-25), 2, 0, .null)]
set_option maxRecDepth 100000 in
theorem cb_217_8 : mChk 217 8 bk_217_8 30 = true := by decide +kernel
def bk_217_30 : List mO := [(.aload_n 0, 0, 0, .null), (.dup, 0, 0, .null), (.getfield 475, 9, 59, .null), (.bipush 32, 0, 0, .int 32), (.iadd, 0, 0, .null), (.putfield 475, 9, 59, .int 0), (.return_, 0, 0, .null)]
set_option maxRecDepth 100000 in
theorem cb_217_30 : mChk 217 30 bk_217_30 42 = true := by decide +kernel
-- method 218: KeySealerModel.makeSecret()V, locals 2, room (7, 196)
def bk_218_0 : List mO := [(.aload_n 0, 0, 0, .null), (.invokevirtual 451, 207, 0, .ref 9), (.aload_n 0, 0, 0, .null), (.getstatic 478, 0, 0, .ref 1000011), (.invokevirtual 457, 209, 1, .ref 9), (.aload_n 0, 0, 0, .null), (.aload_n 0, 0, 0, .null), (.getfield 145, 9, 56, .null), (.iconst 0, 0, 0, .int 0), (.aload_n 0, 0, 0, .null), (.getfield 472, 9, 57, .null), (.invokevirtual 240, 157, 3, .ref 9), (.aload_n 0, 0, 0, .null), (.iconst 1, 0, 0, .int 1), (.invokevirtual 460, 211, 1, .ref 9), (.aload_n 0, 0, 0, .null), (.iconst 1, 0, 0, .int 1), (.invokevirtual 250, 160, 1, .ref 9), (.aload_n 0, 0, 0, .null), (.iconst 1, 0, 0, .int 1), (.aload_n 0, 0, 0, .null), (.getfield 29, 9, 7, .null), (.iconst 0, 0, 0, .int 0), (.bipush 32, 0, 0, .int 32), (.invokevirtual 257, 159, 4, .ref 9), (.aload_n 0, 0, 0, .null), (.getstatic 481, 0, 0, .ref 1000012), (.bipush 32, 0, 0, .int 32), (.invokevirtual 466, 210, 2, .ref 9), (.aload_n 0, 0, 0, .null), (.aload_n 0, 0, 0, .null), (.getfield 148, 9, 58, .null), (.iconst 0, 0, 0, .int 0), (.aload_n 0, 0, 0, .null), (.getfield 475, 9, 59, .null), (.invokevirtual 240, 157, 3, .ref 9), (.aload_n 0, 0, 0, .null), (.iconst 1, 0, 0, .int 1), (.bipush 32, 0, 0, .int 32), (.invokevirtual 469, 212, 2, .ref 9), (.iconst 0, 0, 0, .int 0), (.istore_n 1, 1, 0, .null)]
set_option maxRecDepth 100000 in
theorem cb_218_0 : mChk 218 0 bk_218_0 77 = true := by decide +kernel
def bk_218_77 : List mO := [(.iload_n 1, 1, 0, .null), (.bipush 32, 0, 0, .int 32), (.if_icmp .ge 21, 101, 0, .null)]
set_option maxRecDepth 100000 in
theorem cb_218_77 : mChk 218 77 bk_218_77 83 = true := by decide +kernel
def bk_218_83 : List mO := [(.aload_n 0, 0, 0, .null), (.getfield 151, 9, 60, .null), (.iload_n 1, 1, 0, .null), (.aload_n 0, 0, 0, .null), (.getfield 16, 9, 2, .null), (.iload_n 1, 1, 0, .null), (.iaload, 0, 0, .null), (.iastore, 0, 0, .null), (.iinc 1 1, 1, 0, .int 1), (.goto (-21), 77, 0, .null)]
set_option maxRecDepth 100000 in
theorem cb_218_83 : mChk 218 83 bk_218_83 101 = true := by decide +kernel
def bk_218_101 : List mO := [(.return_, 0, 0, .null)]
set_option maxRecDepth 100000 in
theorem cb_218_101 : mChk 218 101 bk_218_101 102 = true := by decide +kernel
-- method 219: KeySealerModel.schedule(IIIII)V, locals 8, room (8, 222)
def bk_219_0 : List mO := [(.aload_n 0, 0, 0, .null), (.invokevirtual 484, 218, 0, .ref 9), (.aload_n 0, 0, 0, .null), (.iload 4, 4, 0, .null), (.iload 5, 5, 0, .null), (.invokevirtual 487, 208, 2, .ref 9), (.iload 4, 4, 0, .null), (.invokestatic 227, 147, 1, .null), (.istore 6, 6, 0, .null), (.aload_n 0, 0, 0, .null), (.getfield 178, 9, 69, .null), (.iconst 0, 0, 0, .int 0), (.iload_n 3, 3, 0, .null), (.iastore, 0, 0, .null), (.aload_n 0, 0, 0, .null), (.iconst 1, 0, 0, .int 1), (.putfield 490, 9, 70, .int 0), (.aload_n 0, 0, 0, .null), (.getstatic 493, 0, 0, .ref 1000013), (.invokevirtual 457, 209, 1, .ref 9), (.aload_n 0, 0, 0, .null), (.aload_n 0, 0, 0, .null), (.getfield 142, 9, 55, .null), (.iconst 2, 0, 0, .int 2), (.iaload, 0, 0, .null), (.invokevirtual 261, 158, 1, .ref 9), (.aload_n 0, 0, 0, .null), (.iload 4, 4, 0, .null), (.invokevirtual 460, 211, 1, .ref 9), (.aload_n 0, 0, 0, .null), (.iload 4, 4, 0, .null), (.invokevirtual 250, 160, 1, .ref 9), (.aload_n 0, 0, 0, .null), (.iload 6, 6, 0, .null), (.invokevirtual 496, 220, 1, .ref 9), (.aload_n 0, 0, 0, .null), (.getstatic 499, 0, 0, .ref 1000014), (.invokevirtual 457, 209, 1, .ref 9), (.aload_n 0, 0, 0, .null), (.aload_n 0, 0, 0, .null), (.getfield 142, 9, 55, .null), (.iconst 0, 0, 0, .int 0), (.iaload, 0, 0, .null), (.invokevirtual 261, 158, 1, .ref 9), (.aload_n 0, 0, 0, .null), (.iload 4, 4, 0, .null), (.invokevirtual 460, 211, 1, .ref 9), (.aload_n 0, 0, 0, .null), (.iload 4, 4, 0, .null), (.invokevirtual 250, 160, 1, .ref 9), (.aload_n 0, 0, 0, .null), (.iload 6, 6, 0, .null), (.invokevirtual 496, 220, 1, .ref 9), (.aload_n 0, 0, 0, .null), (.getstatic 502, 0, 0, .ref 1000015), (.invokevirtual 457, 209, 1, .ref 9), (.aload_n 0, 0, 0, .null), (.aload_n 0, 0, 0, .null), (.getfield 142, 9, 55, .null), (.iconst 1, 0, 0, .int 1), (.iaload, 0, 0, .null), (.invokevirtual 261, 158, 1, .ref 9), (.aload_n 0, 0, 0, .null), (.iload 4, 4, 0, .null), (.aload_n 0, 0, 0, .null), (.getfield 151, 9, 60, .null), (.iconst 0, 0, 0, .int 0), (.bipush 32, 0, 0, .int 32), (.invokevirtual 257, 159, 4, .ref 9), (.aload_n 0, 0, 0, .null), (.iload 4, 4, 0, .null), (.invokevirtual 250, 160, 1, .ref 9), (.aload_n 0, 0, 0, .null), (.iload 4, 4, 0, .null), (.aload_n 0, 0, 0, .null), (.getfield 29, 9, 7, .null), (.iconst 0, 0, 0, .int 0), (.iload 6, 6, 0, .null), (.invokevirtual 257, 159, 4, .ref 9), (.aload_n 0, 0, 0, .null), (.getfield 154, 9, 61, .null), (.iload_n 1, 1, 0, .null), (.iload_n 2, 2, 0, .null), (.iastore, 0, 0, .null), (.aload_n 0, 0, 0, .null), (.getfield 157, 9, 62, .null), (.iload_n 1, 1, 0, .null), (.iload_n 3, 3, 0, .null), (.iastore, 0, 0, .null), (.aload_n 0, 0, 0, .null), (.getfield 160, 9, 63, .null), (.iload_n 1, 1, 0, .null), (.iload 4, 4, 0, .null), (.iastore, 0, 0, .null), (.aload_n 0, 0, 0, .null), (.getfield 163, 9, 64, .null), (.iload_n 1, 1, 0, .null), (.iload 5, 5, 0, .null), (.iastore, 0, 0, .null), (.iconst 0, 0, 0, .int 0), (.istore 7, 7, 0, .null)]
set_option maxRecDepth 100000 in
theorem cb_219_0 : mChk 219 0 bk_219_0 183 = true := by decide +kernel
def bk_219_183 : List mO := [(.iload 7, 7, 0, .null), (.iconst 3, 0, 0, .int 3), (.if_icmp .ge 21, 207, 0, .null)]
set_option maxRecDepth 100000 in
theorem cb_219_183 : mChk 219 183 bk_219_183 189 = true := by decide +kernel
def bk_219_189 : List mO := [(.aload_n 0, 0, 0, .null), (.getfield 166, 9, 65, .null), (.iconst 3, 0, 0, .int 3), (.iload_n 1, 1, 0, .null), (.imul, 0, 0, .null), (.iload 7, 7, 0, .null), (.iadd, 0, 0, .null), (.lconst 0, 0, 0, .long 0), (.lastore, 0, 0, .null), (.iinc 7 1, 7, 0, .int 1), (.goto (-21), 183, 0, .null)]
set_option maxRecDepth 100000 in
theorem cb_219_189 : mChk 219 189 bk_219_189 207 = true := by decide +kernel
def bk_219_207 : List mO := [(.iload 5, 5, 0, .null), (.sipush 255, 0, 0, .int 255), (.if_icmp .eq 44, 256, 0, .null)]
set_option maxRecDepth 100000 in
theorem cb_219_207 : mChk 219 207 bk_219_207 215 = true := by decide +kernel
def bk_219_215 : List mO := [(.aload_n 0, 0, 0, .null), (.getstatic 505, 0, 0, .ref 1000016), (.iload 5, 5, 0, .null), (.invokestatic 421, 198, 1, .null), (.iload 4, 4, 0, .null), (.aload_n 0, 0, 0, .null), (.getfield 169, 9, 66, .null), (.bipush 32, 0, 0, .int 32), (.iload_n 1, 1, 0, .null), (.imul, 0, 0, .null), (.invokevirtual 508, 221, 5, .ref 9), (.aload_n 0, 0, 0, .null), (.getstatic 512, 0, 0, .ref 1000017), (.bipush 12, 0, 0, .int 12), (.iload 4, 4, 0, .null), (.aload_n 0, 0, 0, .null), (.getfield 172, 9, 67, .null), (.bipush 12, 0, 0, .int 12), (.iload_n 1, 1, 0, .null), (.imul, 0, 0, .null), (.invokevirtual 508, 221, 5, .ref 9)]
set_option maxRecDepth 100000 in
theorem cb_219_215 : mChk 219 215 bk_219_215 256 = true := by decide +kernel
def bk_219_256 : List mO := [(.aload_n 0, 0, 0, .null), (.getstatic 515, 0, 0, .ref 1000018), (.iload 6, 6, 0, .null), (.iload 4, 4, 0, .null), (.aload_n 0, 0, 0, .null), (.getfield 175, 9, 68, .null), (.bipush 64, 0, 0, .int 64), (.iload_n 1, 1, 0, .null), (.imul, 0, 0, .null), (.invokevirtual 508, 221, 5, .ref 9), (.return_, 0, 0, .null)]
set_option maxRecDepth 100000 in
theorem cb_219_256 : mChk 219 256 bk_219_256 276 = true := by decide +kernel
-- method 220: KeySealerModel.toZ(I)V, locals 3, room (0, 0)
def bk_220_0 : List mO := [(.iconst 0, 0, 0, .int 0), (.istore_n 2, 2, 0, .null)]
set_option maxRecDepth 100000 in
theorem cb_220_0 : mChk 220 0 bk_220_0 2 = true := by decide +kernel
def bk_220_2 : List mO := [(.iload_n 2, 2, 0, .null), (.iload_n 1, 1, 0, .null), (.if_icmp .ge 26, 30, 0, .null)]
set_option maxRecDepth 100000 in
theorem cb_220_2 : mChk 220 2 bk_220_2 7 = true := by decide +kernel
def bk_220_7 : List mO := [(.aload_n 0, 0, 0, .null), (.getfield 178, 9, 69, .null), (.aload_n 0, 0, 0, .null), (.getfield 490, 9, 70, .null), (.iload_n 2, 2, 0, .null), (.iadd, 0, 0, .null), (.aload_n 0, 0, 0, .null), (.getfield 29, 9, 7, .null), (.iload_n 2, 2, 0, .null), (.iaload, 0, 0, .null), (.iastore, 0, 0, .null), (.iinc 2 1, 2, 0, .int 1), (.goto (-25), 2, 0, .null)]
set_option maxRecDepth 100000 in
theorem cb_220_7 : mChk 220 7 bk_220_7 30 = true := by decide +kernel
def bk_220_30 : List mO := [(.aload_n 0, 0, 0, .null), (.dup, 0, 0, .null), (.getfield 490, 9, 70, .null), (.iload_n 1, 1, 0, .null), (.iadd, 0, 0, .null), (.putfield 490, 9, 70, .int 0), (.return_, 0, 0, .null)]
set_option maxRecDepth 100000 in
theorem cb_220_30 : mChk 220 30 bk_220_30 41 = true := by decide +kernel
-- method 221: KeySealerModel.part([III[II)V, locals 7, room (7, 196)
def bk_221_0 : List mO := [(.aload_n 0, 0, 0, .null), (.aload_n 1, 1, 0, .null), (.iload_n 2, 2, 0, .null), (.invokevirtual 466, 210, 2, .ref 9), (.aload_n 0, 0, 0, .null), (.aload_n 0, 0, 0, .null), (.getfield 178, 9, 69, .null), (.iconst 0, 0, 0, .int 0), (.aload_n 0, 0, 0, .null), (.getfield 490, 9, 70, .null), (.invokevirtual 240, 157, 3, .ref 9), (.aload_n 0, 0, 0, .null), (.iload_n 3, 3, 0, .null), (.iload_n 2, 2, 0, .null), (.invokevirtual 469, 212, 2, .ref 9), (.iconst 0, 0, 0, .int 0), (.istore 6, 6, 0, .null)]
set_option maxRecDepth 100000 in
theorem cb_221_0 : mChk 221 0 bk_221_0 28 = true := by decide +kernel
def bk_221_28 : List mO := [(.iload 6, 6, 0, .null), (.iload_n 2, 2, 0, .null), (.if_icmp .ge 24, 55, 0, .null)]
set_option maxRecDepth 100000 in
theorem cb_221_28 : mChk 221 28 bk_221_28 34 = true := by decide +kernel
def bk_221_34 : List mO := [(.aload 4, 4, 0, .null), (.iload 5, 5, 0, .null), (.iload 6, 6, 0, .null), (.iadd, 0, 0, .null), (.aload_n 0, 0, 0, .null), (.getfield 16, 9, 2, .null), (.iload 6, 6, 0, .null), (.iaload, 0, 0, .null), (.iastore, 0, 0, .null), (.iinc 6 1, 6, 0, .int 1), (.goto (-24), 28, 0, .null)]
set_option maxRecDepth 100000 in
theorem cb_221_34 : mChk 221 34 bk_221_34 55 = true := by decide +kernel
def bk_221_55 : List mO := [(.return_, 0, 0, .null)]
set_option maxRecDepth 100000 in
theorem cb_221_55 : mChk 221 55 bk_221_55 56 = true := by decide +kernel
-- method 222: KeySealerModel.isContext(I)Z, locals 1, room (0, 0)
def bk_222_0 : List mO := [(.iload_n 0, 0, 0, .null), (.ifCond .lt 12, 13, 0, .null)]
set_option maxRecDepth 100000 in
theorem cb_222_0 : mChk 222 0 bk_222_0 4 = true := by decide +kernel
def bk_222_4 : List mO := [(.iload_n 0, 0, 0, .null), (.iconst 4, 0, 0, .int 4), (.if_icmp .ge 7, 13, 0, .null)]
set_option maxRecDepth 100000 in
theorem cb_222_4 : mChk 222 4 bk_222_4 9 = true := by decide +kernel
def bk_222_9 : List mO := [(.iconst 1, 0, 0, .int 1), (.goto 4, 14, 0, .null)]
set_option maxRecDepth 100000 in
theorem cb_222_9 : mChk 222 9 bk_222_9 13 = true := by decide +kernel
def bk_222_13 : List mO := [(.iconst 0, 0, 0, .int 0)]
set_option maxRecDepth 100000 in
theorem cb_222_13 : mChk 222 13 bk_222_13 14 = true := by decide +kernel
def bk_222_14 : List mO := [(.ireturn, 0, 0, .int 1)]
set_option maxRecDepth 100000 in
theorem cb_222_14 : mChk 222 14 bk_222_14 15 = true := by decide +kernel
-- method 223: KeySealerModel.isSuite(IIII)Z, locals 4, room (1, 20)
def bk_223_0 : List mO := [(.iload_n 0, 0, 0, .null), (.invokestatic 518, 222, 1, .null), (.ifCond .eq 43, 47, 0, .null)]
set_option maxRecDepth 100000 in
theorem cb_223_0 : mChk 223 0 bk_223_0 7 = true := by decide +kernel
def bk_223_7 : List mO := [(.iload_n 1, 1, 0, .null), (.ifCond .lt 39, 47, 0, .null)]
set_option maxRecDepth 100000 in
theorem cb_223_7 : mChk 223 7 bk_223_7 11 = true := by decide +kernel
def bk_223_11 : List mO := [(.iload_n 1, 1, 0, .null), (.iconst 4, 0, 0, .int 4), (.if_icmp .ge 34, 47, 0, .null)]
set_option maxRecDepth 100000 in
theorem cb_223_11 : mChk 223 11 bk_223_11 16 = true := by decide +kernel
def bk_223_16 : List mO := [(.iload_n 2, 2, 0, .null), (.iconst 1, 0, 0, .int 1), (.if_icmp .eq 8, 26, 0, .null)]
set_option maxRecDepth 100000 in
theorem cb_223_16 : mChk 223 16 bk_223_16 21 = true := by decide +kernel
def bk_223_21 : List mO := [(.iload_n 2, 2, 0, .null), (.iconst 3, 0, 0, .int 3), (.if_icmp .ne 24, 47, 0, .null)]
set_option maxRecDepth 100000 in
theorem cb_223_21 : mChk 223 21 bk_223_21 26 = true := by decide +kernel
def bk_223_26 : List mO := [(.iload_n 3, 3, 0, .null), (.iconst 1, 0, 0, .int 1), (.if_icmp .lt 8, 36, 0, .null)]
set_option maxRecDepth 100000 in
theorem cb_223_26 : mChk 223 26 bk_223_26 31 = true := by decide +kernel
def bk_223_31 : List mO := [(.iload_n 3, 3, 0, .null), (.iconst 3, 0, 0, .int 3), (.if_icmp .le 10, 43, 0, .null)]
set_option maxRecDepth 100000 in
theorem cb_223_31 : mChk 223 31 bk_223_31 36 = true := by decide +kernel
def bk_223_36 : List mO := [(.iload_n 3, 3, 0, .null), (.sipush 255, 0, 0, .int 255), (.if_icmp .ne 7, 47, 0, .null)]
set_option maxRecDepth 100000 in
theorem cb_223_36 : mChk 223 36 bk_223_36 43 = true := by decide +kernel
def bk_223_43 : List mO := [(.iconst 1, 0, 0, .int 1), (.goto 4, 48, 0, .null)]
set_option maxRecDepth 100000 in
theorem cb_223_43 : mChk 223 43 bk_223_43 47 = true := by decide +kernel
def bk_223_47 : List mO := [(.iconst 0, 0, 0, .int 0)]
set_option maxRecDepth 100000 in
theorem cb_223_47 : mChk 223 47 bk_223_47 48 = true := by decide +kernel
def bk_223_48 : List mO := [(.ireturn, 0, 0, .int 1)]
set_option maxRecDepth 100000 in
theorem cb_223_48 : mChk 223 48 bk_223_48 49 = true := by decide +kernel
-- method 224: KeySealerModel.areShared(I)Z, locals 3, room (1, 21)
def bk_224_0 : List mO := [(.iload_n 1, 1, 0, .null), (.iconst 1, 0, 0, .int 1), (.if_icmp .eq 8, 10, 0, .null)]
set_option maxRecDepth 100000 in
theorem cb_224_0 : mChk 224 0 bk_224_0 5 = true := by decide +kernel
def bk_224_5 : List mO := [(.iload_n 1, 1, 0, .null), (.iconst 3, 0, 0, .int 3), (.if_icmp .ne 7, 14, 0, .null)]
set_option maxRecDepth 100000 in
theorem cb_224_5 : mChk 224 5 bk_224_5 10 = true := by decide +kernel
def bk_224_10 : List mO := [(.iconst 1, 0, 0, .int 1), (.goto 4, 15, 0, .null)]
set_option maxRecDepth 100000 in
theorem cb_224_10 : mChk 224 10 bk_224_10 14 = true := by decide +kernel
def bk_224_14 : List mO := [(.iconst 0, 0, 0, .int 0)]
set_option maxRecDepth 100000 in
theorem cb_224_14 : mChk 224 14 bk_224_14 15 = true := by decide +kernel
def bk_224_15 : List mO := [(.istore_n 2, 2, 0, .null), (.aload_n 0, 0, 0, .null), (.iconst 1, 0, 0, .int 1), (.invokevirtual 521, 215, 1, .ref 9), (.ifCond .le 7, 28, 0, .null)]
set_option maxRecDepth 100000 in
theorem cb_224_15 : mChk 224 15 bk_224_15 24 = true := by decide +kernel
def bk_224_24 : List mO := [(.iconst 1, 0, 0, .int 1), (.goto 4, 29, 0, .null)]
set_option maxRecDepth 100000 in
theorem cb_224_24 : mChk 224 24 bk_224_24 28 = true := by decide +kernel
def bk_224_28 : List mO := [(.iconst 0, 0, 0, .int 0)]
set_option maxRecDepth 100000 in
theorem cb_224_28 : mChk 224 28 bk_224_28 29 = true := by decide +kernel
def bk_224_29 : List mO := [(.iload_n 2, 2, 0, .null), (.if_icmp .ne 24, 54, 0, .null)]
set_option maxRecDepth 100000 in
theorem cb_224_29 : mChk 224 29 bk_224_29 33 = true := by decide +kernel
def bk_224_33 : List mO := [(.aload_n 0, 0, 0, .null), (.iconst 2, 0, 0, .int 2), (.invokevirtual 521, 215, 1, .ref 9), (.ifCond .le 7, 45, 0, .null)]
set_option maxRecDepth 100000 in
theorem cb_224_33 : mChk 224 33 bk_224_33 41 = true := by decide +kernel
def bk_224_41 : List mO := [(.iconst 1, 0, 0, .int 1), (.goto 4, 46, 0, .null)]
set_option maxRecDepth 100000 in
theorem cb_224_41 : mChk 224 41 bk_224_41 45 = true := by decide +kernel
def bk_224_45 : List mO := [(.iconst 0, 0, 0, .int 0)]
set_option maxRecDepth 100000 in
theorem cb_224_45 : mChk 224 45 bk_224_45 46 = true := by decide +kernel
def bk_224_46 : List mO := [(.iload_n 2, 2, 0, .null), (.if_icmp .ne 7, 54, 0, .null)]
set_option maxRecDepth 100000 in
theorem cb_224_46 : mChk 224 46 bk_224_46 50 = true := by decide +kernel
def bk_224_50 : List mO := [(.iconst 1, 0, 0, .int 1), (.goto 4, 55, 0, .null)]
set_option maxRecDepth 100000 in
theorem cb_224_50 : mChk 224 50 bk_224_50 54 = true := by decide +kernel
def bk_224_54 : List mO := [(.iconst 0, 0, 0, .int 0)]
set_option maxRecDepth 100000 in
theorem cb_224_54 : mChk 224 54 bk_224_54 55 = true := by decide +kernel
def bk_224_55 : List mO := [(.ireturn, 0, 0, .int 1)]
set_option maxRecDepth 100000 in
theorem cb_224_55 : mChk 224 55 bk_224_55 56 = true := by decide +kernel
-- method 225: KeySealerModel.sender(IIIIIII)I, locals 10, room (9, 249)
def bk_225_0 : List mO := [(.iload_n 1, 1, 0, .null), (.iload_n 2, 2, 0, .null), (.iload_n 3, 3, 0, .null), (.iload 4, 4, 0, .null), (.invokestatic 524, 223, 4, .null), (.ifCond .eq 44, 52, 0, .null)]
set_option maxRecDepth 100000 in
theorem cb_225_0 : mChk 225 0 bk_225_0 11 = true := by decide +kernel
def bk_225_11 : List mO := [(.iload 5, 5, 0, .null), (.invokestatic 184, 137, 1, .null), (.ifCond .eq 36, 52, 0, .null)]
set_option maxRecDepth 100000 in
theorem cb_225_11 : mChk 225 11 bk_225_11 19 = true := by decide +kernel
def bk_225_19 : List mO := [(.aload_n 0, 0, 0, .null), (.iload 6, 6, 0, .null), (.invokevirtual 312, 179, 1, .ref 9), (.ifCond .eq 27, 52, 0, .null)]
set_option maxRecDepth 100000 in
theorem cb_225_19 : mChk 225 19 bk_225_19 28 = true := by decide +kernel
def bk_225_28 : List mO := [(.aload_n 0, 0, 0, .null), (.iload 7, 7, 0, .null), (.invokevirtual 312, 179, 1, .ref 9), (.ifCond .eq 18, 52, 0, .null)]
set_option maxRecDepth 100000 in
theorem cb_225_28 : mChk 225 28 bk_225_28 37 = true := by decide +kernel
def bk_225_37 : List mO := [(.iload_n 2, 2, 0, .null), (.iconst 1, 0, 0, .int 1), (.if_icmp .le 16, 55, 0, .null)]
set_option maxRecDepth 100000 in
theorem cb_225_37 : mChk 225 37 bk_225_37 42 = true := by decide +kernel
def bk_225_42 : List mO := [(.aload_n 0, 0, 0, .null), (.iconst 3, 0, 0, .int 3), (.invokevirtual 521, 215, 1, .ref 9), (.bipush 32, 0, 0, .int 32), (.if_icmp .eq 6, 55, 0, .null)]
set_option maxRecDepth 100000 in
theorem cb_225_42 : mChk 225 42 bk_225_42 52 = true := by decide +kernel
def bk_225_52 : List mO := [(.bipush (-2), 0, 0, .int (-2)), (.ireturn, 0, 0, .int 0)]
set_option maxRecDepth 100000 in
theorem cb_225_52 : mChk 225 52 bk_225_52 55 = true := by decide +kernel
def bk_225_55 : List mO := [(.aload_n 0, 0, 0, .null), (.iload_n 2, 2, 0, .null), (.invokevirtual 528, 224, 1, .ref 9), (.ifCond .ne 6, 66, 0, .null)]
set_option maxRecDepth 100000 in
theorem cb_225_55 : mChk 225 55 bk_225_55 63 = true := by decide +kernel
def bk_225_63 : List mO := [(.bipush (-12), 0, 0, .int (-12)), (.ireturn, 0, 0, .int 0)]
set_option maxRecDepth 100000 in
theorem cb_225_63 : mChk 225 63 bk_225_63 66 = true := by decide +kernel
def bk_225_66 : List mO := [(.aload_n 0, 0, 0, .null), (.iconst 0, 0, 0, .int 0), (.putfield 472, 9, 57, .int 0), (.aload_n 0, 0, 0, .null), (.iconst 0, 0, 0, .int 0), (.putfield 475, 9, 59, .int 0), (.aload_n 0, 0, 0, .null), (.aload_n 0, 0, 0, .null), (.getfield 7, 9, 0, .null), (.sipush 300, 0, 0, .int 300), (.iload 6, 6, 0, .null), (.imul, 0, 0, .null), (.invokevirtual 315, 175, 2, .ref 9), (.aload_n 0, 0, 0, .null), (.invokevirtual 329, 177, 0, .ref 9), (.aload_n 0, 0, 0, .null), (.aload_n 0, 0, 0, .null), (.getfield 88, 9, 29, .null), (.iconst 0, 0, 0, .int 0), (.invokevirtual 531, 217, 2, .ref 9), (.aload_n 0, 0, 0, .null), (.aload_n 0, 0, 0, .null), (.getfield 7, 9, 0, .null), (.sipush 300, 0, 0, .int 300), (.iload 7, 7, 0, .null), (.imul, 0, 0, .null), (.invokevirtual 531, 217, 2, .ref 9), (.aload_n 0, 0, 0, .null), (.aload_n 0, 0, 0, .null), (.getfield 7, 9, 0, .null), (.sipush 300, 0, 0, .int 300), (.iload 7, 7, 0, .null), (.imul, 0, 0, .null), (.invokevirtual 319, 176, 2, .ref 9), (.aload_n 0, 0, 0, .null), (.invokevirtual 534, 216, 0, .ref 9), (.istore 8, 8, 0, .null), (.iload_n 2, 2, 0, .null), (.iconst 1, 0, 0, .int 1), (.if_icmp .le 53, 192, 0, .null)]
set_option maxRecDepth 100000 in
theorem cb_225_66 : mChk 225 66 bk_225_66 142 = true := by decide +kernel
def bk_225_142 : List mO := [(.aload_n 0, 0, 0, .null), (.aload_n 0, 0, 0, .null), (.getfield 7, 9, 0, .null), (.sipush 300, 0, 0, .int 300), (.aload_n 0, 0, 0, .null), (.getfield 142, 9, 55, .null), (.iconst 3, 0, 0, .int 3), (.iaload, 0, 0, .null), (.imul, 0, 0, .null), (.invokevirtual 315, 175, 2, .ref 9), (.aload_n 0, 0, 0, .null), (.invokevirtual 534, 216, 0, .ref 9), (.ifCond .eq 12, 176, 0, .null)]
set_option maxRecDepth 100000 in
theorem cb_225_142 : mChk 225 142 bk_225_142 167 = true := by decide +kernel
def bk_225_167 : List mO := [(.iload 8, 8, 0, .null), (.ifCond .eq 7, 176, 0, .null)]
set_option maxRecDepth 100000 in
theorem cb_225_167 : mChk 225 167 bk_225_167 172 = true := by decide +kernel
def bk_225_172 : List mO := [(.iconst 1, 0, 0, .int 1), (.goto 4, 177, 0, .null)]
set_option maxRecDepth 100000 in
theorem cb_225_172 : mChk 225 172 bk_225_172 176 = true := by decide +kernel
def bk_225_176 : List mO := [(.iconst 0, 0, 0, .int 0)]
set_option maxRecDepth 100000 in
theorem cb_225_176 : mChk 225 176 bk_225_176 177 = true := by decide +kernel
def bk_225_177 : List mO := [(.istore 8, 8, 0, .null), (.aload_n 0, 0, 0, .null), (.invokevirtual 329, 177, 0, .ref 9), (.aload_n 0, 0, 0, .null), (.aload_n 0, 0, 0, .null), (.getfield 88, 9, 29, .null), (.iconst 0, 0, 0, .int 0), (.invokevirtual 531, 217, 2, .ref 9)]
set_option maxRecDepth 100000 in
theorem cb_225_177 : mChk 225 177 bk_225_177 192 = true := by decide +kernel
def bk_225_192 : List mO := [(.iload 8, 8, 0, .null), (.ifCond .ne 6, 200, 0, .null)]
set_option maxRecDepth 100000 in
theorem cb_225_192 : mChk 225 192 bk_225_192 197 = true := by decide +kernel
def bk_225_197 : List mO := [(.bipush (-11), 0, 0, .int (-11)), (.ireturn, 0, 0, .int 0)]
set_option maxRecDepth 100000 in
theorem cb_225_197 : mChk 225 197 bk_225_197 200 = true := by decide +kernel
def bk_225_200 : List mO := [(.aload_n 0, 0, 0, .null), (.iload_n 1, 1, 0, .null), (.iconst 1, 0, 0, .int 1), (.iload_n 2, 2, 0, .null), (.iload_n 3, 3, 0, .null), (.iload 4, 4, 0, .null), (.invokevirtual 537, 219, 5, .ref 9), (.iconst 0, 0, 0, .int 0), (.istore 9, 9, 0, .null)]
set_option maxRecDepth 100000 in
theorem cb_225_200 : mChk 225 200 bk_225_200 213 = true := by decide +kernel
def bk_225_213 : List mO := [(.iload 9, 9, 0, .null), (.bipush 32, 0, 0, .int 32), (.if_icmp .ge 23, 240, 0, .null)]
set_option maxRecDepth 100000 in
theorem cb_225_213 : mChk 225 213 bk_225_213 220 = true := by decide +kernel
def bk_225_220 : List mO := [(.aload_n 0, 0, 0, .null), (.getfield 16, 9, 2, .null), (.iload 9, 9, 0, .null), (.aload_n 0, 0, 0, .null), (.getfield 148, 9, 58, .null), (.iload 9, 9, 0, .null), (.iaload, 0, 0, .null), (.iastore, 0, 0, .null), (.iinc 9 1, 9, 0, .int 1), (.goto (-24), 213, 0, .null)]
set_option maxRecDepth 100000 in
theorem cb_225_220 : mChk 225 220 bk_225_220 240 = true := by decide +kernel
def bk_225_240 : List mO := [(.aload_n 0, 0, 0, .null), (.iload 5, 5, 0, .null), (.bipush 32, 0, 0, .int 32), (.invokevirtual 190, 146, 2, .ref 9), (.bipush 32, 0, 0, .int 32), (.ireturn, 0, 0, .int 0)]
set_option maxRecDepth 100000 in
theorem cb_225_240 : mChk 225 240 bk_225_240 251 = true := by decide +kernel
-- method 226: KeySealerModel.receiver(IIIIII)I, locals 8, room (9, 249)
def bk_226_0 : List mO := [(.iload_n 1, 1, 0, .null), (.iload_n 2, 2, 0, .null), (.iload_n 3, 3, 0, .null), (.iload 4, 4, 0, .null), (.invokestatic 524, 223, 4, .null), (.ifCond .eq 36, 44, 0, .null)]
set_option maxRecDepth 100000 in
theorem cb_226_0 : mChk 226 0 bk_226_0 11 = true := by decide +kernel
def bk_226_11 : List mO := [(.aload_n 0, 0, 0, .null), (.iload 5, 5, 0, .null), (.invokevirtual 312, 179, 1, .ref 9), (.ifCond .eq 27, 44, 0, .null)]
set_option maxRecDepth 100000 in
theorem cb_226_11 : mChk 226 11 bk_226_11 20 = true := by decide +kernel
def bk_226_20 : List mO := [(.aload_n 0, 0, 0, .null), (.iload 6, 6, 0, .null), (.invokevirtual 312, 179, 1, .ref 9), (.ifCond .eq 18, 44, 0, .null)]
set_option maxRecDepth 100000 in
theorem cb_226_20 : mChk 226 20 bk_226_20 29 = true := by decide +kernel
def bk_226_29 : List mO := [(.iload_n 2, 2, 0, .null), (.iconst 1, 0, 0, .int 1), (.if_icmp .le 16, 47, 0, .null)]
set_option maxRecDepth 100000 in
theorem cb_226_29 : mChk 226 29 bk_226_29 34 = true := by decide +kernel
def bk_226_34 : List mO := [(.aload_n 0, 0, 0, .null), (.iconst 4, 0, 0, .int 4), (.invokevirtual 521, 215, 1, .ref 9), (.bipush 32, 0, 0, .int 32), (.if_icmp .eq 6, 47, 0, .null)]
set_option maxRecDepth 100000 in
theorem cb_226_34 : mChk 226 34 bk_226_34 44 = true := by decide +kernel
def bk_226_44 : List mO := [(.bipush (-2), 0, 0, .int (-2)), (.ireturn, 0, 0, .int 0)]
set_option maxRecDepth 100000 in
theorem cb_226_44 : mChk 226 44 bk_226_44 47 = true := by decide +kernel
def bk_226_47 : List mO := [(.aload_n 0, 0, 0, .null), (.iload_n 2, 2, 0, .null), (.invokevirtual 528, 224, 1, .ref 9), (.ifCond .ne 6, 58, 0, .null)]
set_option maxRecDepth 100000 in
theorem cb_226_47 : mChk 226 47 bk_226_47 55 = true := by decide +kernel
def bk_226_55 : List mO := [(.bipush (-12), 0, 0, .int (-12)), (.ireturn, 0, 0, .int 0)]
set_option maxRecDepth 100000 in
theorem cb_226_55 : mChk 226 55 bk_226_55 58 = true := by decide +kernel
def bk_226_58 : List mO := [(.aload_n 0, 0, 0, .null), (.iconst 0, 0, 0, .int 0), (.putfield 472, 9, 57, .int 0), (.aload_n 0, 0, 0, .null), (.iconst 0, 0, 0, .int 0), (.putfield 475, 9, 59, .int 0), (.aload_n 0, 0, 0, .null), (.aload_n 0, 0, 0, .null), (.getfield 7, 9, 0, .null), (.sipush 300, 0, 0, .int 300), (.iload 6, 6, 0, .null), (.imul, 0, 0, .null), (.invokevirtual 315, 175, 2, .ref 9), (.aload_n 0, 0, 0, .null), (.aload_n 0, 0, 0, .null), (.getfield 7, 9, 0, .null), (.sipush 300, 0, 0, .int 300), (.iload 5, 5, 0, .null), (.imul, 0, 0, .null), (.invokevirtual 531, 217, 2, .ref 9), (.aload_n 0, 0, 0, .null), (.invokevirtual 329, 177, 0, .ref 9), (.aload_n 0, 0, 0, .null), (.aload_n 0, 0, 0, .null), (.getfield 88, 9, 29, .null), (.iconst 0, 0, 0, .int 0), (.invokevirtual 531, 217, 2, .ref 9), (.aload_n 0, 0, 0, .null), (.aload_n 0, 0, 0, .null), (.getfield 7, 9, 0, .null), (.sipush 300, 0, 0, .int 300), (.iload 5, 5, 0, .null), (.imul, 0, 0, .null), (.invokevirtual 319, 176, 2, .ref 9), (.aload_n 0, 0, 0, .null), (.invokevirtual 534, 216, 0, .ref 9), (.istore 7, 7, 0, .null), (.iload_n 2, 2, 0, .null), (.iconst 1, 0, 0, .int 1), (.if_icmp .le 58, 189, 0, .null)]
set_option maxRecDepth 100000 in
theorem cb_226_58 : mChk 226 58 bk_226_58 134 = true := by decide +kernel
def bk_226_134 : List mO := [(.aload_n 0, 0, 0, .null), (.aload_n 0, 0, 0, .null), (.getfield 7, 9, 0, .null), (.sipush 300, 0, 0, .int 300), (.aload_n 0, 0, 0, .null), (.getfield 142, 9, 55, .null), (.iconst 4, 0, 0, .int 4), (.iaload, 0, 0, .null), (.imul, 0, 0, .null), (.invokevirtual 319, 176, 2, .ref 9), (.aload_n 0, 0, 0, .null), (.invokevirtual 534, 216, 0, .ref 9), (.ifCond .eq 12, 168, 0, .null)]
set_option maxRecDepth 100000 in
theorem cb_226_134 : mChk 226 134 bk_226_134 159 = true := by decide +kernel
def bk_226_159 : List mO := [(.iload 7, 7, 0, .null), (.ifCond .eq 7, 168, 0, .null)]
set_option maxRecDepth 100000 in
theorem cb_226_159 : mChk 226 159 bk_226_159 164 = true := by decide +kernel
def bk_226_164 : List mO := [(.iconst 1, 0, 0, .int 1), (.goto 4, 169, 0, .null)]
set_option maxRecDepth 100000 in
theorem cb_226_164 : mChk 226 164 bk_226_164 168 = true := by decide +kernel
def bk_226_168 : List mO := [(.iconst 0, 0, 0, .int 0)]
set_option maxRecDepth 100000 in
theorem cb_226_168 : mChk 226 168 bk_226_168 169 = true := by decide +kernel
def bk_226_169 : List mO := [(.istore 7, 7, 0, .null), (.aload_n 0, 0, 0, .null), (.aload_n 0, 0, 0, .null), (.getfield 7, 9, 0, .null), (.sipush 300, 0, 0, .int 300), (.aload_n 0, 0, 0, .null), (.getfield 142, 9, 55, .null), (.iconst 4, 0, 0, .int 4), (.iaload, 0, 0, .null), (.imul, 0, 0, .null), (.invokevirtual 531, 217, 2, .ref 9)]
set_option maxRecDepth 100000 in
theorem cb_226_169 : mChk 226 169 bk_226_169 189 = true := by decide +kernel
def bk_226_189 : List mO := [(.iload 7, 7, 0, .null), (.ifCond .ne 6, 197, 0, .null)]
set_option maxRecDepth 100000 in
theorem cb_226_189 : mChk 226 189 bk_226_189 194 = true := by decide +kernel
def bk_226_194 : List mO := [(.bipush (-11), 0, 0, .int (-11)), (.ireturn, 0, 0, .int 0)]
set_option maxRecDepth 100000 in
theorem cb_226_194 : mChk 226 194 bk_226_194 197 = true := by decide +kernel
def bk_226_197 : List mO := [(.aload_n 0, 0, 0, .null), (.iload_n 1, 1, 0, .null), (.iconst 2, 0, 0, .int 2), (.iload_n 2, 2, 0, .null), (.iload_n 3, 3, 0, .null), (.iload 4, 4, 0, .null), (.invokevirtual 537, 219, 5, .ref 9), (.iconst 0, 0, 0, .int 0), (.ireturn, 0, 0, .int 0)]
set_option maxRecDepth 100000 in
theorem cb_226_197 : mChk 226 197 bk_226_197 209 = true := by decide +kernel
-- method 227: KeySealerModel.isLast(I)Z, locals 2, room (0, 0)
def bk_227_0 : List mO := [(.aload_n 0, 0, 0, .null), (.getfield 166, 9, 65, .null), (.iconst 3, 0, 0, .int 3), (.iload_n 1, 1, 0, .null), (.imul, 0, 0, .null), (.laload, 0, 0, .null), (.ldc2_w 194, 0, 0, .long 4294967295), (.lcmp, 0, 0, .null), (.ifCond .ne 41, 53, 0, .null)]
set_option maxRecDepth 100000 in
theorem cb_227_0 : mChk 227 0 bk_227_0 15 = true := by decide +kernel
def bk_227_15 : List mO := [(.aload_n 0, 0, 0, .null), (.getfield 166, 9, 65, .null), (.iconst 3, 0, 0, .int 3), (.iload_n 1, 1, 0, .null), (.imul, 0, 0, .null), (.iconst 1, 0, 0, .int 1), (.iadd, 0, 0, .null), (.laload, 0, 0, .null), (.ldc2_w 194, 0, 0, .long 4294967295), (.lcmp, 0, 0, .null), (.ifCond .ne 24, 53, 0, .null)]
set_option maxRecDepth 100000 in
theorem cb_227_15 : mChk 227 15 bk_227_15 32 = true := by decide +kernel
def bk_227_32 : List mO := [(.aload_n 0, 0, 0, .null), (.getfield 166, 9, 65, .null), (.iconst 3, 0, 0, .int 3), (.iload_n 1, 1, 0, .null), (.imul, 0, 0, .null), (.iconst 2, 0, 0, .int 2), (.iadd, 0, 0, .null), (.laload, 0, 0, .null), (.ldc2_w 194, 0, 0, .long 4294967295), (.lcmp, 0, 0, .null), (.ifCond .ne 7, 53, 0, .null)]
set_option maxRecDepth 100000 in
theorem cb_227_32 : mChk 227 32 bk_227_32 49 = true := by decide +kernel
def bk_227_49 : List mO := [(.iconst 1, 0, 0, .int 1), (.goto 4, 54, 0, .null)]
set_option maxRecDepth 100000 in
theorem cb_227_49 : mChk 227 49 bk_227_49 53 = true := by decide +kernel
def bk_227_53 : List mO := [(.iconst 0, 0, 0, .int 0)]
set_option maxRecDepth 100000 in
theorem cb_227_53 : mChk 227 53 bk_227_53 54 = true := by decide +kernel
def bk_227_54 : List mO := [(.ireturn, 0, 0, .int 1)]
set_option maxRecDepth 100000 in
theorem cb_227_54 : mChk 227 54 bk_227_54 55 = true := by decide +kernel
-- method 228: KeySealerModel.keyOf(I)V, locals 3, room (0, 0)
def bk_228_0 : List mO := [(.iconst 0, 0, 0, .int 0), (.istore_n 2, 2, 0, .null)]
set_option maxRecDepth 100000 in
theorem cb_228_0 : mChk 228 0 bk_228_0 2 = true := by decide +kernel
def bk_228_2 : List mO := [(.iload_n 2, 2, 0, .null), (.bipush 32, 0, 0, .int 32), (.if_icmp .ge 26, 31, 0, .null)]
set_option maxRecDepth 100000 in
theorem cb_228_2 : mChk 228 2 bk_228_2 8 = true := by decide +kernel
def bk_228_8 : List mO := [(.aload_n 0, 0, 0, .null), (.getfield 103, 9, 35, .null), (.iload_n 2, 2, 0, .null), (.aload_n 0, 0, 0, .null), (.getfield 169, 9, 66, .null), (.bipush 32, 0, 0, .int 32), (.iload_n 1, 1, 0, .null), (.imul, 0, 0, .null), (.iload_n 2, 2, 0, .null), (.iadd, 0, 0, .null), (.iaload, 0, 0, .null), (.iastore, 0, 0, .null), (.iinc 2 1, 2, 0, .int 1), (.goto (-26), 2, 0, .null)]
set_option maxRecDepth 100000 in
theorem cb_228_8 : mChk 228 8 bk_228_8 31 = true := by decide +kernel
def bk_228_31 : List mO := [(.iconst 0, 0, 0, .int 0), (.istore_n 2, 2, 0, .null)]
set_option maxRecDepth 100000 in
theorem cb_228_31 : mChk 228 31 bk_228_31 33 = true := by decide +kernel
def bk_228_33 : List mO := [(.iload_n 2, 2, 0, .null), (.bipush 12, 0, 0, .int 12), (.if_icmp .ge 54, 90, 0, .null)]
set_option maxRecDepth 100000 in
theorem cb_228_33 : mChk 228 33 bk_228_33 39 = true := by decide +kernel
def bk_228_39 : List mO := [(.aload_n 0, 0, 0, .null), (.getfield 106, 9, 36, .null), (.iload_n 2, 2, 0, .null), (.aload_n 0, 0, 0, .null), (.getfield 172, 9, 67, .null), (.bipush 12, 0, 0, .int 12), (.iload_n 1, 1, 0, .null), (.imul, 0, 0, .null), (.iload_n 2, 2, 0, .null), (.iadd, 0, 0, .null), (.iaload, 0, 0, .null), (.aload_n 0, 0, 0, .null), (.getfield 166, 9, 65, .null), (.iconst 3, 0, 0, .int 3), (.iload_n 1, 1, 0, .null), (.imul, 0, 0, .null), (.iload_n 2, 2, 0, .null), (.iconst 4, 0, 0, .int 4), (.idiv, 0, 0, .null), (.iadd, 0, 0, .null), (.laload, 0, 0, .null), (.bipush 24, 0, 0, .int 24), (.bipush 8, 0, 0, .int 8), (.iload_n 2, 2, 0, .null), (.iconst 4, 0, 0, .int 4), (.irem, 0, 0, .null), (.imul, 0, 0, .null), (.isub, 0, 0, .null), (.lshr, 0, 0, .null), (.ldc2_w 188, 0, 0, .long 255), (.land, 0, 0, .null), (.l2i, 0, 0, .null), (.ixor, 0, 0, .null), (.iastore, 0, 0, .null), (.iinc 2 1, 2, 0, .int 1), (.goto (-54), 33, 0, .null)]
set_option maxRecDepth 100000 in
theorem cb_228_39 : mChk 228 39 bk_228_39 90 = true := by decide +kernel
def bk_228_90 : List mO := [(.return_, 0, 0, .null)]
set_option maxRecDepth 100000 in
theorem cb_228_90 : mChk 228 90 bk_228_90 91 = true := by decide +kernel
-- method 229: KeySealerModel.goesOn(I)V, locals 4, room (0, 0)
def bk_229_0 : List mO := [(.iconst 1, 0, 0, .int 1), (.istore_n 2, 2, 0, .null), (.iconst 2, 0, 0, .int 2), (.istore_n 3, 3, 0, .null)]
set_option maxRecDepth 100000 in
theorem cb_229_0 : mChk 229 0 bk_229_0 4 = true := by decide +kernel
def bk_229_4 : List mO := [(.iload_n 3, 3, 0, .null), (.ifCond .lt 60, 65, 0, .null)]
set_option maxRecDepth 100000 in
theorem cb_229_4 : mChk 229 4 bk_229_4 8 = true := by decide +kernel
def bk_229_8 : List mO := [(.iload_n 2, 2, 0, .null), (.ifCond .eq 56, 65, 0, .null)]
set_option maxRecDepth 100000 in
theorem cb_229_8 : mChk 229 8 bk_229_8 12 = true := by decide +kernel
def bk_229_12 : List mO := [(.aload_n 0, 0, 0, .null), (.getfield 166, 9, 65, .null), (.iconst 3, 0, 0, .int 3), (.iload_n 1, 1, 0, .null), (.imul, 0, 0, .null), (.iload_n 3, 3, 0, .null), (.iadd, 0, 0, .null), (.aload_n 0, 0, 0, .null), (.getfield 166, 9, 65, .null), (.iconst 3, 0, 0, .int 3), (.iload_n 1, 1, 0, .null), (.imul, 0, 0, .null), (.iload_n 3, 3, 0, .null), (.iadd, 0, 0, .null), (.laload, 0, 0, .null), (.lconst 1, 0, 0, .long 1), (.ladd, 0, 0, .null), (.ldc2_w 194, 0, 0, .long 4294967295), (.land, 0, 0, .null), (.lastore, 0, 0, .null), (.aload_n 0, 0, 0, .null), (.getfield 166, 9, 65, .null), (.iconst 3, 0, 0, .int 3), (.iload_n 1, 1, 0, .null), (.imul, 0, 0, .null), (.iload_n 3, 3, 0, .null), (.iadd, 0, 0, .null), (.laload, 0, 0, .null), (.lconst 0, 0, 0, .long 0), (.lcmp, 0, 0, .null), (.ifCond .ne 7, 57, 0, .null)]
set_option maxRecDepth 100000 in
theorem cb_229_12 : mChk 229 12 bk_229_12 53 = true := by decide +kernel
def bk_229_53 : List mO := [(.iconst 1, 0, 0, .int 1), (.goto 4, 58, 0, .null)]
set_option maxRecDepth 100000 in
theorem cb_229_53 : mChk 229 53 bk_229_53 57 = true := by decide +kernel
def bk_229_57 : List mO := [(.iconst 0, 0, 0, .int 0)]
set_option maxRecDepth 100000 in
theorem cb_229_57 : mChk 229 57 bk_229_57 58 = true := by decide +kernel
def bk_229_58 : List mO := [(.istore_n 2, 2, 0, .null), (.iinc 3 (-1), 3, 0, .int (-1)), (.goto (-58), 4, 0, .null)]
set_option maxRecDepth 100000 in
theorem cb_229_58 : mChk 229 58 bk_229_58 65 = true := by decide +kernel
def bk_229_65 : List mO := [(.return_, 0, 0, .null)]
set_option maxRecDepth 100000 in
theorem cb_229_65 : mChk 229 65 bk_229_65 66 = true := by decide +kernel
-- method 230: KeySealerModel.seal(IIII)I, locals 6, room (6, 137)
def bk_230_0 : List mO := [(.iload_n 1, 1, 0, .null), (.invokestatic 518, 222, 1, .null), (.ifCond .eq 35, 39, 0, .null)]
set_option maxRecDepth 100000 in
theorem cb_230_0 : mChk 230 0 bk_230_0 7 = true := by decide +kernel
def bk_230_7 : List mO := [(.aload_n 0, 0, 0, .null), (.getfield 154, 9, 61, .null), (.iload_n 1, 1, 0, .null), (.iaload, 0, 0, .null), (.iconst 1, 0, 0, .int 1), (.if_icmp .ne 25, 39, 0, .null)]
set_option maxRecDepth 100000 in
theorem cb_230_7 : mChk 230 7 bk_230_7 17 = true := by decide +kernel
def bk_230_17 : List mO := [(.aload_n 0, 0, 0, .null), (.getfield 163, 9, 64, .null), (.iload_n 1, 1, 0, .null), (.iaload, 0, 0, .null), (.sipush 255, 0, 0, .int 255), (.if_icmp .eq 13, 39, 0, .null)]
set_option maxRecDepth 100000 in
theorem cb_230_17 : mChk 230 17 bk_230_17 29 = true := by decide +kernel
def bk_230_29 : List mO := [(.iload_n 2, 2, 0, .null), (.iload_n 3, 3, 0, .null), (.iload 4, 4, 0, .null), (.invokestatic 253, 138, 3, .null), (.ifCond .ne 6, 42, 0, .null)]
set_option maxRecDepth 100000 in
theorem cb_230_29 : mChk 230 29 bk_230_29 39 = true := by decide +kernel
def bk_230_39 : List mO := [(.bipush (-2), 0, 0, .int (-2)), (.ireturn, 0, 0, .int 0)]
set_option maxRecDepth 100000 in
theorem cb_230_39 : mChk 230 39 bk_230_39 42 = true := by decide +kernel
def bk_230_42 : List mO := [(.aload_n 0, 0, 0, .null), (.iload_n 1, 1, 0, .null), (.invokevirtual 541, 227, 1, .ref 9), (.ifCond .eq 6, 53, 0, .null)]
set_option maxRecDepth 100000 in
theorem cb_230_42 : mChk 230 42 bk_230_42 50 = true := by decide +kernel
def bk_230_50 : List mO := [(.bipush (-13), 0, 0, .int (-13)), (.ireturn, 0, 0, .int 0)]
set_option maxRecDepth 100000 in
theorem cb_230_50 : mChk 230 50 bk_230_50 53 = true := by decide +kernel
def bk_230_53 : List mO := [(.aload_n 0, 0, 0, .null), (.getfield 13, 9, 1, .null), (.iload 4, 4, 0, .null), (.iaload, 0, 0, .null), (.sipush 284, 0, 0, .int 284), (.if_icmp .le 6, 69, 0, .null)]
set_option maxRecDepth 100000 in
theorem cb_230_53 : mChk 230 53 bk_230_53 66 = true := by decide +kernel
def bk_230_66 : List mO := [(.bipush (-3), 0, 0, .int (-3)), (.ireturn, 0, 0, .int 0)]
set_option maxRecDepth 100000 in
theorem cb_230_66 : mChk 230 66 bk_230_66 69 = true := by decide +kernel
def bk_230_69 : List mO := [(.aload_n 0, 0, 0, .null), (.iload_n 1, 1, 0, .null), (.invokevirtual 544, 228, 1, .ref 9), (.aload_n 0, 0, 0, .null), (.aload_n 0, 0, 0, .null), (.getfield 163, 9, 64, .null), (.iload_n 1, 1, 0, .null), (.iaload, 0, 0, .null), (.iload_n 2, 2, 0, .null), (.iload_n 3, 3, 0, .null), (.iload 4, 4, 0, .null), (.invokevirtual 431, 201, 4, .ref 9), (.istore 5, 5, 0, .null), (.aload_n 0, 0, 0, .null), (.iload_n 1, 1, 0, .null), (.invokevirtual 547, 229, 1, .ref 9), (.iload 5, 5, 0, .null), (.ireturn, 0, 0, .int 0)]
set_option maxRecDepth 100000 in
theorem cb_230_69 : mChk 230 69 bk_230_69 98 = true := by decide +kernel
-- method 231: KeySealerModel.unseal(IIII)I, locals 6, room (6, 138)
def bk_231_0 : List mO := [(.iload_n 1, 1, 0, .null), (.invokestatic 518, 222, 1, .null), (.ifCond .eq 35, 39, 0, .null)]
set_option maxRecDepth 100000 in
theorem cb_231_0 : mChk 231 0 bk_231_0 7 = true := by decide +kernel
def bk_231_7 : List mO := [(.aload_n 0, 0, 0, .null), (.getfield 154, 9, 61, .null), (.iload_n 1, 1, 0, .null), (.iaload, 0, 0, .null), (.iconst 2, 0, 0, .int 2), (.if_icmp .ne 25, 39, 0, .null)]
set_option maxRecDepth 100000 in
theorem cb_231_7 : mChk 231 7 bk_231_7 17 = true := by decide +kernel
def bk_231_17 : List mO := [(.aload_n 0, 0, 0, .null), (.getfield 163, 9, 64, .null), (.iload_n 1, 1, 0, .null), (.iaload, 0, 0, .null), (.sipush 255, 0, 0, .int 255), (.if_icmp .eq 13, 39, 0, .null)]
set_option maxRecDepth 100000 in
theorem cb_231_17 : mChk 231 17 bk_231_17 29 = true := by decide +kernel
def bk_231_29 : List mO := [(.iload_n 2, 2, 0, .null), (.iload_n 3, 3, 0, .null), (.iload 4, 4, 0, .null), (.invokestatic 253, 138, 3, .null), (.ifCond .ne 6, 42, 0, .null)]
set_option maxRecDepth 100000 in
theorem cb_231_29 : mChk 231 29 bk_231_29 39 = true := by decide +kernel
def bk_231_39 : List mO := [(.bipush (-2), 0, 0, .int (-2)), (.ireturn, 0, 0, .int 0)]
set_option maxRecDepth 100000 in
theorem cb_231_39 : mChk 231 39 bk_231_39 42 = true := by decide +kernel
def bk_231_42 : List mO := [(.aload_n 0, 0, 0, .null), (.iload_n 1, 1, 0, .null), (.invokevirtual 541, 227, 1, .ref 9), (.ifCond .eq 6, 53, 0, .null)]
set_option maxRecDepth 100000 in
theorem cb_231_42 : mChk 231 42 bk_231_42 50 = true := by decide +kernel
def bk_231_50 : List mO := [(.bipush (-13), 0, 0, .int (-13)), (.ireturn, 0, 0, .int 0)]
set_option maxRecDepth 100000 in
theorem cb_231_50 : mChk 231 50 bk_231_50 53 = true := by decide +kernel
def bk_231_53 : List mO := [(.aload_n 0, 0, 0, .null), (.iload_n 1, 1, 0, .null), (.invokevirtual 544, 228, 1, .ref 9), (.aload_n 0, 0, 0, .null), (.aload_n 0, 0, 0, .null), (.getfield 163, 9, 64, .null), (.iload_n 1, 1, 0, .null), (.iaload, 0, 0, .null), (.iload_n 2, 2, 0, .null), (.iload_n 3, 3, 0, .null), (.iload 4, 4, 0, .null), (.invokevirtual 435, 203, 4, .ref 9), (.istore 5, 5, 0, .null), (.iload 5, 5, 0, .null), (.ifCond .lt 8, 84, 0, .null)]
set_option maxRecDepth 100000 in
theorem cb_231_53 : mChk 231 53 bk_231_53 79 = true := by decide +kernel
def bk_231_79 : List mO := [(.aload_n 0, 0, 0, .null), (.iload_n 1, 1, 0, .null), (.invokevirtual 547, 229, 1, .ref 9)]
set_option maxRecDepth 100000 in
theorem cb_231_79 : mChk 231 79 bk_231_79 84 = true := by decide +kernel
def bk_231_84 : List mO := [(.iload 5, 5, 0, .null), (.ireturn, 0, 0, .int 0)]
set_option maxRecDepth 100000 in
theorem cb_231_84 : mChk 231 84 bk_231_84 87 = true := by decide +kernel
-- method 232: KeySealerModel.export(IIII)I, locals 5, room (7, 196)
def bk_232_0 : List mO := [(.iload_n 1, 1, 0, .null), (.invokestatic 518, 222, 1, .null), (.ifCond .eq 39, 43, 0, .null)]
set_option maxRecDepth 100000 in
theorem cb_232_0 : mChk 232 0 bk_232_0 7 = true := by decide +kernel
def bk_232_7 : List mO := [(.aload_n 0, 0, 0, .null), (.getfield 154, 9, 61, .null), (.iload_n 1, 1, 0, .null), (.iaload, 0, 0, .null), (.ifCond .eq 30, 43, 0, .null)]
set_option maxRecDepth 100000 in
theorem cb_232_7 : mChk 232 7 bk_232_7 16 = true := by decide +kernel
def bk_232_16 : List mO := [(.iload_n 2, 2, 0, .null), (.invokestatic 184, 137, 1, .null), (.ifCond .eq 23, 43, 0, .null)]
set_option maxRecDepth 100000 in
theorem cb_232_16 : mChk 232 16 bk_232_16 23 = true := by decide +kernel
def bk_232_23 : List mO := [(.iload_n 3, 3, 0, .null), (.invokestatic 184, 137, 1, .null), (.ifCond .eq 16, 43, 0, .null)]
set_option maxRecDepth 100000 in
theorem cb_232_23 : mChk 232 23 bk_232_23 30 = true := by decide +kernel
def bk_232_30 : List mO := [(.iload 4, 4, 0, .null), (.ifCond .lt 11, 43, 0, .null)]
set_option maxRecDepth 100000 in
theorem cb_232_30 : mChk 232 30 bk_232_30 35 = true := by decide +kernel
def bk_232_35 : List mO := [(.iload 4, 4, 0, .null), (.sipush 300, 0, 0, .int 300), (.if_icmp .le 6, 46, 0, .null)]
set_option maxRecDepth 100000 in
theorem cb_232_35 : mChk 232 35 bk_232_35 43 = true := by decide +kernel
def bk_232_43 : List mO := [(.bipush (-2), 0, 0, .int (-2)), (.ireturn, 0, 0, .int 0)]
set_option maxRecDepth 100000 in
theorem cb_232_43 : mChk 232 43 bk_232_43 46 = true := by decide +kernel
def bk_232_46 : List mO := [(.aload_n 0, 0, 0, .null), (.aload_n 0, 0, 0, .null), (.getfield 160, 9, 63, .null), (.iload_n 1, 1, 0, .null), (.iaload, 0, 0, .null), (.aload_n 0, 0, 0, .null), (.getfield 163, 9, 64, .null), (.iload_n 1, 1, 0, .null), (.iaload, 0, 0, .null), (.invokevirtual 487, 208, 2, .ref 9), (.aload_n 0, 0, 0, .null), (.aload_n 0, 0, 0, .null), (.getfield 160, 9, 63, .null), (.iload_n 1, 1, 0, .null), (.iaload, 0, 0, .null), (.aload_n 0, 0, 0, .null), (.getfield 175, 9, 68, .null), (.bipush 64, 0, 0, .int 64), (.iload_n 1, 1, 0, .null), (.imul, 0, 0, .null), (.aload_n 0, 0, 0, .null), (.getfield 160, 9, 63, .null), (.iload_n 1, 1, 0, .null), (.iaload, 0, 0, .null), (.invokestatic 227, 147, 1, .null), (.invokevirtual 257, 159, 4, .ref 9), (.aload_n 0, 0, 0, .null), (.getstatic 550, 0, 0, .ref 1000019), (.iload 4, 4, 0, .null), (.invokevirtual 466, 210, 2, .ref 9), (.aload_n 0, 0, 0, .null), (.iload_n 3, 3, 0, .null), (.invokevirtual 261, 158, 1, .ref 9), (.aload_n 0, 0, 0, .null), (.aload_n 0, 0, 0, .null), (.getfield 160, 9, 63, .null), (.iload_n 1, 1, 0, .null), (.iaload, 0, 0, .null), (.iload 4, 4, 0, .null), (.invokevirtual 469, 212, 2, .ref 9), (.aload_n 0, 0, 0, .null), (.iload_n 2, 2, 0, .null), (.iload 4, 4, 0, .null), (.invokevirtual 190, 146, 2, .ref 9), (.iload 4, 4, 0, .null), (.ireturn, 0, 0, .int 0)]
set_option maxRecDepth 100000 in
theorem cb_232_46 : mChk 232 46 bk_232_46 125 = true := by decide +kernel

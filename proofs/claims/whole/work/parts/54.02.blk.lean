/-! PART 54.02: blocks of code and their checks, printed by program (wip/whole/mk13.py) -/
-- method 184: KeySealerModel.makeSubs()V, locals 6, room (1, 24)
def bk_184_0 : List mO := [(.iconst 0, 0, 0, .int 0), (.istore_n 1, 1, 0, .null)]
set_option maxRecDepth 100000 in
theorem cb_184_0 : mChk 184 0 bk_184_0 2 = true := by decide +kernel
def bk_184_2 : List mO := [(.iload_n 1, 1, 0, .null), (.sipush 256, 0, 0, .int 256), (.if_icmp .ge 100, 106, 0, .null)]
set_option maxRecDepth 100000 in
theorem cb_184_2 : mChk 184 2 bk_184_2 9 = true := by decide +kernel
def bk_184_9 : List mO := [(.iconst 0, 0, 0, .int 0), (.istore_n 2, 2, 0, .null), (.iconst 1, 0, 0, .int 1), (.istore_n 3, 3, 0, .null)]
set_option maxRecDepth 100000 in
theorem cb_184_9 : mChk 184 9 bk_184_9 13 = true := by decide +kernel
def bk_184_13 : List mO := [(.iload_n 3, 3, 0, .null), (.sipush 256, 0, 0, .int 256), (.if_icmp .ge 24, 41, 0, .null)]
set_option maxRecDepth 100000 in
theorem cb_184_13 : mChk 184 13 bk_184_13 20 = true := by decide +kernel
def bk_184_20 : List mO := [(.iload_n 1, 1, 0, .null), (.iload_n 3, 3, 0, .null), (.invokestatic 332, 183, 2, .null), (.iconst 1, 0, 0, .int 1), (.if_icmp .ne 7, 33, 0, .null)]
set_option maxRecDepth 100000 in
theorem cb_184_20 : mChk 184 20 bk_184_20 29 = true := by decide +kernel
def bk_184_29 : List mO := [(.iload_n 3, 3, 0, .null), (.goto 4, 34, 0, .null)]
set_option maxRecDepth 100000 in
theorem cb_184_29 : mChk 184 29 bk_184_29 33 = true := by decide +kernel
def bk_184_33 : List mO := [(.iload_n 2, 2, 0, .null)]
set_option maxRecDepth 100000 in
theorem cb_184_33 : mChk 184 33 bk_184_33 34 = true := by decide +kernel
def bk_184_34 : List mO := [(.istore_n 2, 2, 0, .null), (.iinc 3 1, 3, 0, .int 1), (.goto (-25), 13, 0, .null)]
set_option maxRecDepth 100000 in
theorem cb_184_34 : mChk 184 34 bk_184_34 41 = true := by decide +kernel
def bk_184_41 : List mO := [(.bipush 99, 0, 0, .int 99), (.istore_n 3, 3, 0, .null), (.iconst 0, 0, 0, .int 0), (.istore 4, 4, 0, .null)]
set_option maxRecDepth 100000 in
theorem cb_184_41 : mChk 184 41 bk_184_41 47 = true := by decide +kernel
def bk_184_47 : List mO := [(.iload 4, 4, 0, .null), (.iconst 5, 0, 0, .int 5), (.if_icmp .ge 43, 93, 0, .null)]
set_option maxRecDepth 100000 in
theorem cb_184_47 : mChk 184 47 bk_184_47 53 = true := by decide +kernel
def bk_184_53 : List mO := [(.iload 4, 4, 0, .null), (.ifCond .ne 7, 62, 0, .null)]
set_option maxRecDepth 100000 in
theorem cb_184_53 : mChk 184 53 bk_184_53 58 = true := by decide +kernel
def bk_184_58 : List mO := [(.iconst 0, 0, 0, .int 0), (.goto 7, 66, 0, .null)]
set_option maxRecDepth 100000 in
theorem cb_184_58 : mChk 184 58 bk_184_58 62 = true := by decide +kernel
def bk_184_62 : List mO := [(.iload 4, 4, 0, .null), (.iconst 3, 0, 0, .int 3), (.iadd, 0, 0, .null)]
set_option maxRecDepth 100000 in
theorem cb_184_62 : mChk 184 62 bk_184_62 66 = true := by decide +kernel
def bk_184_66 : List mO := [(.istore 5, 5, 0, .null), (.iload_n 3, 3, 0, .null), (.iload_n 2, 2, 0, .null), (.iload 5, 5, 0, .null), (.ishr, 0, 0, .null), (.iload_n 2, 2, 0, .null), (.bipush 8, 0, 0, .int 8), (.iload 5, 5, 0, .null), (.isub, 0, 0, .null), (.ishl, 0, 0, .null), (.ior, 0, 0, .null), (.sipush 255, 0, 0, .int 255), (.iand, 0, 0, .null), (.ixor, 0, 0, .null), (.istore_n 3, 3, 0, .null), (.iinc 4 1, 4, 0, .int 1), (.goto (-43), 47, 0, .null)]
set_option maxRecDepth 100000 in
theorem cb_184_66 : mChk 184 66 bk_184_66 93 = true := by decide +kernel
def bk_184_93 : List mO := [(.aload_n 0, 0, 0, .null), (.getfield 91, 9, 30, .null), (.iload_n 1, 1, 0, .null), (.iload_n 3, 3, 0, .null), (.iastore, 0, 0, .null), (.iinc 1 1, 1, 0, .int 1), (.goto (-101), 2, 0, .null)]
set_option maxRecDepth 100000 in
theorem cb_184_93 : mChk 184 93 bk_184_93 106 = true := by decide +kernel
def bk_184_106 : List mO := [(.return_, 0, 0, .null)]
set_option maxRecDepth 100000 in
theorem cb_184_106 : mChk 184 106 bk_184_106 107 = true := by decide +kernel
-- method 185: KeySealerModel.makeRounds(I)V, locals 7, room (1, 24)
def bk_185_0 : List mO := [(.aload_n 0, 0, 0, .null), (.iload_n 1, 1, 0, .null), (.iconst 4, 0, 0, .int 4), (.idiv, 0, 0, .null), (.bipush 6, 0, 0, .int 6), (.iadd, 0, 0, .null), (.putfield 336, 9, 32, .int 0), (.iconst 0, 0, 0, .int 0), (.istore_n 2, 2, 0, .null)]
set_option maxRecDepth 100000 in
theorem cb_185_0 : mChk 185 0 bk_185_0 12 = true := by decide +kernel
def bk_185_12 : List mO := [(.iload_n 2, 2, 0, .null), (.iload_n 1, 1, 0, .null), (.if_icmp .ge 21, 35, 0, .null)]
set_option maxRecDepth 100000 in
theorem cb_185_12 : mChk 185 12 bk_185_12 17 = true := by decide +kernel
def bk_185_17 : List mO := [(.aload_n 0, 0, 0, .null), (.getfield 94, 9, 31, .null), (.iload_n 2, 2, 0, .null), (.aload_n 0, 0, 0, .null), (.getfield 103, 9, 35, .null), (.iload_n 2, 2, 0, .null), (.iaload, 0, 0, .null), (.iastore, 0, 0, .null), (.iinc 2 1, 2, 0, .int 1), (.goto (-20), 12, 0, .null)]
set_option maxRecDepth 100000 in
theorem cb_185_17 : mChk 185 17 bk_185_17 35 = true := by decide +kernel
def bk_185_35 : List mO := [(.iconst 1, 0, 0, .int 1), (.istore_n 2, 2, 0, .null), (.iload_n 1, 1, 0, .null), (.iconst 4, 0, 0, .int 4), (.idiv, 0, 0, .null), (.istore_n 3, 3, 0, .null)]
set_option maxRecDepth 100000 in
theorem cb_185_35 : mChk 185 35 bk_185_35 41 = true := by decide +kernel
def bk_185_41 : List mO := [(.iload_n 3, 3, 0, .null), (.iconst 4, 0, 0, .int 4), (.aload_n 0, 0, 0, .null), (.getfield 336, 9, 32, .null), (.imul, 0, 0, .null), (.iconst 4, 0, 0, .int 4), (.iadd, 0, 0, .null), (.if_icmp .ge 163, 213, 0, .null)]
set_option maxRecDepth 100000 in
theorem cb_185_41 : mChk 185 41 bk_185_41 53 = true := by decide +kernel
def bk_185_53 : List mO := [(.iconst 4, 0, 0, .int 4), (.iload_n 3, 3, 0, .null), (.imul, 0, 0, .null), (.iload_n 1, 1, 0, .null), (.irem, 0, 0, .null), (.ifCond .ne 7, 65, 0, .null)]
set_option maxRecDepth 100000 in
theorem cb_185_53 : mChk 185 53 bk_185_53 61 = true := by decide +kernel
def bk_185_61 : List mO := [(.iconst 1, 0, 0, .int 1), (.goto 4, 66, 0, .null)]
set_option maxRecDepth 100000 in
theorem cb_185_61 : mChk 185 61 bk_185_61 65 = true := by decide +kernel
def bk_185_65 : List mO := [(.iconst 0, 0, 0, .int 0)]
set_option maxRecDepth 100000 in
theorem cb_185_65 : mChk 185 65 bk_185_65 66 = true := by decide +kernel
def bk_185_66 : List mO := [(.istore 4, 4, 0, .null), (.iconst 0, 0, 0, .int 0), (.istore 5, 5, 0, .null)]
set_option maxRecDepth 100000 in
theorem cb_185_66 : mChk 185 66 bk_185_66 71 = true := by decide +kernel
def bk_185_71 : List mO := [(.iload 5, 5, 0, .null), (.iconst 4, 0, 0, .int 4), (.if_icmp .ge 118, 192, 0, .null)]
set_option maxRecDepth 100000 in
theorem cb_185_71 : mChk 185 71 bk_185_71 77 = true := by decide +kernel
def bk_185_77 : List mO := [(.aload_n 0, 0, 0, .null), (.getfield 94, 9, 31, .null), (.iconst 4, 0, 0, .int 4), (.iload_n 3, 3, 0, .null), (.imul, 0, 0, .null), (.iconst 4, 0, 0, .int 4), (.isub, 0, 0, .null), (.iload 4, 4, 0, .null), (.ifCond .eq 12, 100, 0, .null)]
set_option maxRecDepth 100000 in
theorem cb_185_77 : mChk 185 77 bk_185_77 91 = true := by decide +kernel
def bk_185_91 : List mO := [(.iload 5, 5, 0, .null), (.iconst 1, 0, 0, .int 1), (.iadd, 0, 0, .null), (.iconst 4, 0, 0, .int 4), (.irem, 0, 0, .null), (.goto 5, 102, 0, .null)]
set_option maxRecDepth 100000 in
theorem cb_185_91 : mChk 185 91 bk_185_91 100 = true := by decide +kernel
def bk_185_100 : List mO := [(.iload 5, 5, 0, .null)]
set_option maxRecDepth 100000 in
theorem cb_185_100 : mChk 185 100 bk_185_100 102 = true := by decide +kernel
def bk_185_102 : List mO := [(.iadd, 0, 0, .null), (.iaload, 0, 0, .null), (.istore 6, 6, 0, .null), (.iload 4, 4, 0, .null), (.ifCond .ne 17, 125, 0, .null)]
set_option maxRecDepth 100000 in
theorem cb_185_102 : mChk 185 102 bk_185_102 111 = true := by decide +kernel
def bk_185_111 : List mO := [(.iload_n 1, 1, 0, .null), (.bipush 32, 0, 0, .int 32), (.if_icmp .ne 21, 135, 0, .null)]
set_option maxRecDepth 100000 in
theorem cb_185_111 : mChk 185 111 bk_185_111 117 = true := by decide +kernel
def bk_185_117 : List mO := [(.iload_n 3, 3, 0, .null), (.bipush 8, 0, 0, .int 8), (.irem, 0, 0, .null), (.iconst 4, 0, 0, .int 4), (.if_icmp .ne 13, 135, 0, .null)]
set_option maxRecDepth 100000 in
theorem cb_185_117 : mChk 185 117 bk_185_117 125 = true := by decide +kernel
def bk_185_125 : List mO := [(.aload_n 0, 0, 0, .null), (.getfield 91, 9, 30, .null), (.iload 6, 6, 0, .null), (.iaload, 0, 0, .null), (.goto 5, 137, 0, .null)]
set_option maxRecDepth 100000 in
theorem cb_185_125 : mChk 185 125 bk_185_125 135 = true := by decide +kernel
def bk_185_135 : List mO := [(.iload 6, 6, 0, .null)]
set_option maxRecDepth 100000 in
theorem cb_185_135 : mChk 185 135 bk_185_135 137 = true := by decide +kernel
def bk_185_137 : List mO := [(.istore 6, 6, 0, .null), (.iload 6, 6, 0, .null), (.iload 4, 4, 0, .null), (.ifCond .eq 12, 155, 0, .null)]
set_option maxRecDepth 100000 in
theorem cb_185_137 : mChk 185 137 bk_185_137 146 = true := by decide +kernel
def bk_185_146 : List mO := [(.iload 5, 5, 0, .null), (.ifCond .ne 7, 155, 0, .null)]
set_option maxRecDepth 100000 in
theorem cb_185_146 : mChk 185 146 bk_185_146 151 = true := by decide +kernel
def bk_185_151 : List mO := [(.iload_n 2, 2, 0, .null), (.goto 4, 156, 0, .null)]
set_option maxRecDepth 100000 in
theorem cb_185_151 : mChk 185 151 bk_185_151 155 = true := by decide +kernel
def bk_185_155 : List mO := [(.iconst 0, 0, 0, .int 0)]
set_option maxRecDepth 100000 in
theorem cb_185_155 : mChk 185 155 bk_185_155 156 = true := by decide +kernel
def bk_185_156 : List mO := [(.ixor, 0, 0, .null), (.istore 6, 6, 0, .null), (.aload_n 0, 0, 0, .null), (.getfield 94, 9, 31, .null), (.iconst 4, 0, 0, .int 4), (.iload_n 3, 3, 0, .null), (.imul, 0, 0, .null), (.iload 5, 5, 0, .null), (.iadd, 0, 0, .null), (.aload_n 0, 0, 0, .null), (.getfield 94, 9, 31, .null), (.iconst 4, 0, 0, .int 4), (.iload_n 3, 3, 0, .null), (.imul, 0, 0, .null), (.iload_n 1, 1, 0, .null), (.isub, 0, 0, .null), (.iload 5, 5, 0, .null), (.iadd, 0, 0, .null), (.iaload, 0, 0, .null), (.iload 6, 6, 0, .null), (.ixor, 0, 0, .null), (.iastore, 0, 0, .null), (.iinc 5 1, 5, 0, .int 1), (.goto (-118), 71, 0, .null)]
set_option maxRecDepth 100000 in
theorem cb_185_156 : mChk 185 156 bk_185_156 192 = true := by decide +kernel
def bk_185_192 : List mO := [(.iload 4, 4, 0, .null), (.ifCond .eq 11, 205, 0, .null)]
set_option maxRecDepth 100000 in
theorem cb_185_192 : mChk 185 192 bk_185_192 197 = true := by decide +kernel
def bk_185_197 : List mO := [(.iload_n 2, 2, 0, .null), (.iconst 2, 0, 0, .int 2), (.invokestatic 332, 183, 2, .null), (.goto 4, 206, 0, .null)]
set_option maxRecDepth 100000 in
theorem cb_185_197 : mChk 185 197 bk_185_197 205 = true := by decide +kernel
def bk_185_205 : List mO := [(.iload_n 2, 2, 0, .null)]
set_option maxRecDepth 100000 in
theorem cb_185_205 : mChk 185 205 bk_185_205 206 = true := by decide +kernel
def bk_185_206 : List mO := [(.istore_n 2, 2, 0, .null), (.iinc 3 1, 3, 0, .int 1), (.goto (-169), 41, 0, .null)]
set_option maxRecDepth 100000 in
theorem cb_185_206 : mChk 185 206 bk_185_206 213 = true := by decide +kernel
def bk_185_213 : List mO := [(.return_, 0, 0, .null)]
set_option maxRecDepth 100000 in
theorem cb_185_213 : mChk 185 213 bk_185_213 214 = true := by decide +kernel
-- method 186: KeySealerModel.cipher()V, locals 5, room (1, 24)
def bk_186_0 : List mO := [(.iconst 0, 0, 0, .int 0), (.istore_n 1, 1, 0, .null)]
set_option maxRecDepth 100000 in
theorem cb_186_0 : mChk 186 0 bk_186_0 2 = true := by decide +kernel
def bk_186_2 : List mO := [(.iload_n 1, 1, 0, .null), (.bipush 16, 0, 0, .int 16), (.if_icmp .ge 24, 29, 0, .null)]
set_option maxRecDepth 100000 in
theorem cb_186_2 : mChk 186 2 bk_186_2 8 = true := by decide +kernel
def bk_186_8 : List mO := [(.aload_n 0, 0, 0, .null), (.getfield 97, 9, 33, .null), (.iload_n 1, 1, 0, .null), (.dup2, 0, 0, .null), (.iaload, 0, 0, .null), (.aload_n 0, 0, 0, .null), (.getfield 94, 9, 31, .null), (.iload_n 1, 1, 0, .null), (.iaload, 0, 0, .null), (.ixor, 0, 0, .null), (.iastore, 0, 0, .null), (.iinc 1 1, 1, 0, .int 1), (.goto (-24), 2, 0, .null)]
set_option maxRecDepth 100000 in
theorem cb_186_8 : mChk 186 8 bk_186_8 29 = true := by decide +kernel
def bk_186_29 : List mO := [(.iconst 1, 0, 0, .int 1), (.istore_n 1, 1, 0, .null)]
set_option maxRecDepth 100000 in
theorem cb_186_29 : mChk 186 29 bk_186_29 31 = true := by decide +kernel
def bk_186_31 : List mO := [(.iload_n 1, 1, 0, .null), (.aload_n 0, 0, 0, .null), (.getfield 336, 9, 32, .null), (.if_icmp .gt 169, 205, 0, .null)]
set_option maxRecDepth 100000 in
theorem cb_186_31 : mChk 186 31 bk_186_31 39 = true := by decide +kernel
def bk_186_39 : List mO := [(.iconst 0, 0, 0, .int 0), (.istore_n 2, 2, 0, .null)]
set_option maxRecDepth 100000 in
theorem cb_186_39 : mChk 186 39 bk_186_39 41 = true := by decide +kernel
def bk_186_41 : List mO := [(.iload_n 2, 2, 0, .null), (.bipush 16, 0, 0, .int 16), (.if_icmp .ge 35, 79, 0, .null)]
set_option maxRecDepth 100000 in
theorem cb_186_41 : mChk 186 41 bk_186_41 47 = true := by decide +kernel
def bk_186_47 : List mO := [(.aload_n 0, 0, 0, .null), (.getfield 100, 9, 34, .null), (.iload_n 2, 2, 0, .null), (.aload_n 0, 0, 0, .null), (.getfield 91, 9, 30, .null), (.aload_n 0, 0, 0, .null), (.getfield 97, 9, 33, .null), (.iload_n 2, 2, 0, .null), (.iconst 4, 0, 0, .int 4), (.iload_n 2, 2, 0, .null), (.iconst 4, 0, 0, .int 4), (.irem, 0, 0, .null), (.imul, 0, 0, .null), (.iadd, 0, 0, .null), (.bipush 16, 0, 0, .int 16), (.irem, 0, 0, .null), (.iaload, 0, 0, .null), (.iaload, 0, 0, .null), (.iastore, 0, 0, .null), (.iinc 2 1, 2, 0, .int 1), (.goto (-35), 41, 0, .null)]
set_option maxRecDepth 100000 in
theorem cb_186_47 : mChk 186 47 bk_186_47 79 = true := by decide +kernel
def bk_186_79 : List mO := [(.iconst 0, 0, 0, .int 0), (.istore_n 2, 2, 0, .null)]
set_option maxRecDepth 100000 in
theorem cb_186_79 : mChk 186 79 bk_186_79 81 = true := by decide +kernel
def bk_186_81 : List mO := [(.iload_n 2, 2, 0, .null), (.bipush 16, 0, 0, .int 16), (.if_icmp .ge 115, 199, 0, .null)]
set_option maxRecDepth 100000 in
theorem cb_186_81 : mChk 186 81 bk_186_81 87 = true := by decide +kernel
def bk_186_87 : List mO := [(.iconst 0, 0, 0, .int 0), (.istore_n 3, 3, 0, .null)]
set_option maxRecDepth 100000 in
theorem cb_186_87 : mChk 186 87 bk_186_87 89 = true := by decide +kernel
def bk_186_89 : List mO := [(.iload_n 3, 3, 0, .null), (.iconst 4, 0, 0, .int 4), (.if_icmp .ge 102, 193, 0, .null)]
set_option maxRecDepth 100000 in
theorem cb_186_89 : mChk 186 89 bk_186_89 94 = true := by decide +kernel
def bk_186_94 : List mO := [(.aload_n 0, 0, 0, .null), (.getfield 100, 9, 34, .null), (.iload_n 2, 2, 0, .null), (.iload_n 3, 3, 0, .null), (.iadd, 0, 0, .null), (.iaload, 0, 0, .null), (.istore 4, 4, 0, .null), (.iload_n 1, 1, 0, .null), (.aload_n 0, 0, 0, .null), (.getfield 336, 9, 32, .null), (.if_icmp .ge 54, 163, 0, .null)]
set_option maxRecDepth 100000 in
theorem cb_186_94 : mChk 186 94 bk_186_94 112 = true := by decide +kernel
def bk_186_112 : List mO := [(.iload 4, 4, 0, .null), (.iconst 2, 0, 0, .int 2), (.invokestatic 332, 183, 2, .null), (.aload_n 0, 0, 0, .null), (.getfield 100, 9, 34, .null), (.iload_n 2, 2, 0, .null), (.iload_n 3, 3, 0, .null), (.iconst 1, 0, 0, .int 1), (.iadd, 0, 0, .null), (.iconst 4, 0, 0, .int 4), (.irem, 0, 0, .null), (.iadd, 0, 0, .null), (.iaload, 0, 0, .null), (.iconst 3, 0, 0, .int 3), (.invokestatic 332, 183, 2, .null), (.ixor, 0, 0, .null), (.aload_n 0, 0, 0, .null), (.getfield 100, 9, 34, .null), (.iload_n 2, 2, 0, .null), (.iload_n 3, 3, 0, .null), (.iconst 2, 0, 0, .int 2), (.iadd, 0, 0, .null), (.iconst 4, 0, 0, .int 4), (.irem, 0, 0, .null), (.iadd, 0, 0, .null), (.iaload, 0, 0, .null), (.ixor, 0, 0, .null), (.aload_n 0, 0, 0, .null), (.getfield 100, 9, 34, .null), (.iload_n 2, 2, 0, .null), (.iload_n 3, 3, 0, .null), (.iconst 3, 0, 0, .int 3), (.iadd, 0, 0, .null), (.iconst 4, 0, 0, .int 4), (.irem, 0, 0, .null), (.iadd, 0, 0, .null), (.iaload, 0, 0, .null), (.ixor, 0, 0, .null), (.istore 4, 4, 0, .null)]
set_option maxRecDepth 100000 in
theorem cb_186_112 : mChk 186 112 bk_186_112 163 = true := by decide +kernel
def bk_186_163 : List mO := [(.aload_n 0, 0, 0, .null), (.getfield 97, 9, 33, .null), (.iload_n 2, 2, 0, .null), (.iload_n 3, 3, 0, .null), (.iadd, 0, 0, .null), (.iload 4, 4, 0, .null), (.aload_n 0, 0, 0, .null), (.getfield 94, 9, 31, .null), (.bipush 16, 0, 0, .int 16), (.iload_n 1, 1, 0, .null), (.imul, 0, 0, .null), (.iload_n 2, 2, 0, .null), (.iadd, 0, 0, .null), (.iload_n 3, 3, 0, .null), (.iadd, 0, 0, .null), (.iaload, 0, 0, .null), (.ixor, 0, 0, .null), (.iastore, 0, 0, .null), (.iinc 3 1, 3, 0, .int 1), (.goto (-101), 89, 0, .null)]
set_option maxRecDepth 100000 in
theorem cb_186_163 : mChk 186 163 bk_186_163 193 = true := by decide +kernel
def bk_186_193 : List mO := [(.iinc 2 4, 2, 0, .int 4), (.goto (-115), 81, 0, .null)]
set_option maxRecDepth 100000 in
theorem cb_186_193 : mChk 186 193 bk_186_193 199 = true := by decide +kernel
def bk_186_199 : List mO := [(.iinc 1 1, 1, 0, .int 1), (.goto (-171), 31, 0, .null)]
set_option maxRecDepth 100000 in
theorem cb_186_199 : mChk 186 199 bk_186_199 205 = true := by decide +kernel
def bk_186_205 : List mO := [(.return_, 0, 0, .null)]
set_option maxRecDepth 100000 in
theorem cb_186_205 : mChk 186 205 bk_186_205 206 = true := by decide +kernel
-- method 187: KeySealerModel.counter(I)V, locals 3, room (2, 48)
def bk_187_0 : List mO := [(.iconst 0, 0, 0, .int 0), (.istore_n 2, 2, 0, .null)]
set_option maxRecDepth 100000 in
theorem cb_187_0 : mChk 187 0 bk_187_0 2 = true := by decide +kernel
def bk_187_2 : List mO := [(.iload_n 2, 2, 0, .null), (.bipush 12, 0, 0, .int 12), (.if_icmp .ge 21, 26, 0, .null)]
set_option maxRecDepth 100000 in
theorem cb_187_2 : mChk 187 2 bk_187_2 8 = true := by decide +kernel
def bk_187_8 : List mO := [(.aload_n 0, 0, 0, .null), (.getfield 97, 9, 33, .null), (.iload_n 2, 2, 0, .null), (.aload_n 0, 0, 0, .null), (.getfield 106, 9, 36, .null), (.iload_n 2, 2, 0, .null), (.iaload, 0, 0, .null), (.iastore, 0, 0, .null), (.iinc 2 1, 2, 0, .int 1), (.goto (-21), 2, 0, .null)]
set_option maxRecDepth 100000 in
theorem cb_187_8 : mChk 187 8 bk_187_8 26 = true := by decide +kernel
def bk_187_26 : List mO := [(.bipush 12, 0, 0, .int 12), (.istore_n 2, 2, 0, .null)]
set_option maxRecDepth 100000 in
theorem cb_187_26 : mChk 187 26 bk_187_26 29 = true := by decide +kernel
def bk_187_29 : List mO := [(.iload_n 2, 2, 0, .null), (.bipush 16, 0, 0, .int 16), (.if_icmp .ge 28, 60, 0, .null)]
set_option maxRecDepth 100000 in
theorem cb_187_29 : mChk 187 29 bk_187_29 35 = true := by decide +kernel
def bk_187_35 : List mO := [(.aload_n 0, 0, 0, .null), (.getfield 97, 9, 33, .null), (.iload_n 2, 2, 0, .null), (.iload_n 1, 1, 0, .null), (.bipush 8, 0, 0, .int 8), (.bipush 15, 0, 0, .int 15), (.iload_n 2, 2, 0, .null), (.isub, 0, 0, .null), (.imul, 0, 0, .null), (.ishr, 0, 0, .null), (.sipush 255, 0, 0, .int 255), (.iand, 0, 0, .null), (.iastore, 0, 0, .null), (.iinc 2 1, 2, 0, .int 1), (.goto (-28), 29, 0, .null)]
set_option maxRecDepth 100000 in
theorem cb_187_35 : mChk 187 35 bk_187_35 60 = true := by decide +kernel
def bk_187_60 : List mO := [(.aload_n 0, 0, 0, .null), (.invokevirtual 339, 186, 0, .ref 9), (.return_, 0, 0, .null)]
set_option maxRecDepth 100000 in
theorem cb_187_60 : mChk 187 60 bk_187_60 65 = true := by decide +kernel
-- method 188: KeySealerModel.eight([II)J, locals 5, room (0, 0)
def bk_188_0 : List mO := [(.lconst 0, 0, 0, .long 0), (.lstore_n 2, 2, 0, .null), (.iconst 0, 0, 0, .int 0), (.istore 4, 4, 0, .null)]
set_option maxRecDepth 100000 in
theorem cb_188_0 : mChk 188 0 bk_188_0 5 = true := by decide +kernel
def bk_188_5 : List mO := [(.iload 4, 4, 0, .null), (.bipush 8, 0, 0, .int 8), (.if_icmp .ge 22, 31, 0, .null)]
set_option maxRecDepth 100000 in
theorem cb_188_5 : mChk 188 5 bk_188_5 12 = true := by decide +kernel
def bk_188_12 : List mO := [(.lload_n 2, 2, 0, .null), (.bipush 8, 0, 0, .int 8), (.lshl, 0, 0, .null), (.aload_n 0, 0, 0, .null), (.iload_n 1, 1, 0, .null), (.iload 4, 4, 0, .null), (.iadd, 0, 0, .null), (.iaload, 0, 0, .null), (.i2l, 0, 0, .null), (.lor, 0, 0, .null), (.lstore_n 2, 2, 0, .null), (.iinc 4 1, 4, 0, .int 1), (.goto (-23), 5, 0, .null)]
set_option maxRecDepth 100000 in
theorem cb_188_12 : mChk 188 12 bk_188_12 31 = true := by decide +kernel
def bk_188_31 : List mO := [(.lload_n 2, 2, 0, .null), (.lreturn, 0, 0, .null)]
set_option maxRecDepth 100000 in
theorem cb_188_31 : mChk 188 31 bk_188_31 33 = true := by decide +kernel
-- method 189: KeySealerModel.gather(JJ)V, locals 17, room (0, 0)
def bk_189_0 : List mO := [(.aload_n 0, 0, 0, .null), (.getfield 342, 9, 44, .null), (.lload_n 1, 1, 0, .null), (.lxor, 0, 0, .null), (.lstore 5, 5, 0, .null), (.aload_n 0, 0, 0, .null), (.getfield 346, 9, 45, .null), (.lload_n 3, 3, 0, .null), (.lxor, 0, 0, .null), (.lstore 7, 7, 0, .null), (.aload_n 0, 0, 0, .null), (.getfield 349, 9, 42, .null), (.lstore 9, 9, 0, .null), (.aload_n 0, 0, 0, .null), (.getfield 352, 9, 43, .null), (.lstore 11, 11, 0, .null), (.aload_n 0, 0, 0, .null), (.lconst 0, 0, 0, .long 0), (.putfield 342, 9, 44, .long 0), (.aload_n 0, 0, 0, .null), (.lconst 0, 0, 0, .long 0), (.putfield 346, 9, 45, .long 0), (.iconst 0, 0, 0, .int 0), (.istore 13, 13, 0, .null)]
set_option maxRecDepth 100000 in
theorem cb_189_0 : mChk 189 0 bk_189_0 41 = true := by decide +kernel
def bk_189_41 : List mO := [(.iload 13, 13, 0, .null), (.sipush 128, 0, 0, .int 128), (.if_icmp .ge 117, 163, 0, .null)]
set_option maxRecDepth 100000 in
theorem cb_189_41 : mChk 189 41 bk_189_41 49 = true := by decide +kernel
def bk_189_49 : List mO := [(.iload 13, 13, 0, .null), (.bipush 64, 0, 0, .int 64), (.if_icmp .ge 16, 69, 0, .null)]
set_option maxRecDepth 100000 in
theorem cb_189_49 : mChk 189 49 bk_189_49 56 = true := by decide +kernel
def bk_189_56 : List mO := [(.lload 5, 5, 0, .null), (.bipush 63, 0, 0, .int 63), (.iload 13, 13, 0, .null), (.isub, 0, 0, .null), (.lushr, 0, 0, .null), (.lconst 1, 0, 0, .long 1), (.land, 0, 0, .null), (.goto 13, 79, 0, .null)]
set_option maxRecDepth 100000 in
theorem cb_189_56 : mChk 189 56 bk_189_56 69 = true := by decide +kernel
def bk_189_69 : List mO := [(.lload 7, 7, 0, .null), (.bipush 127, 0, 0, .int 127), (.iload 13, 13, 0, .null), (.isub, 0, 0, .null), (.lushr, 0, 0, .null), (.lconst 1, 0, 0, .long 1), (.land, 0, 0, .null)]
set_option maxRecDepth 100000 in
theorem cb_189_69 : mChk 189 69 bk_189_69 79 = true := by decide +kernel
def bk_189_79 : List mO := [(.lstore 14, 14, 0, .null), (.lload 14, 14, 0, .null), (.lconst 1, 0, 0, .long 1), (.lcmp, 0, 0, .null), (.ifCond .ne 25, 110, 0, .null)]
set_option maxRecDepth 100000 in
theorem cb_189_79 : mChk 189 79 bk_189_79 88 = true := by decide +kernel
def bk_189_88 : List mO := [(.aload_n 0, 0, 0, .null), (.dup, 0, 0, .null), (.getfield 342, 9, 44, .null), (.lload 9, 9, 0, .null), (.lxor, 0, 0, .null), (.putfield 342, 9, 44, .long 0), (.aload_n 0, 0, 0, .null), (.dup, 0, 0, .null), (.getfield 346, 9, 45, .null), (.lload 11, 11, 0, .null), (.lxor, 0, 0, .null), (.putfield 346, 9, 45, .long 0)]
set_option maxRecDepth 100000 in
theorem cb_189_88 : mChk 189 88 bk_189_88 110 = true := by decide +kernel
def bk_189_110 : List mO := [(.lload 11, 11, 0, .null), (.lconst 1, 0, 0, .long 1), (.land, 0, 0, .null), (.lconst 1, 0, 0, .long 1), (.lcmp, 0, 0, .null), (.ifCond .ne 7, 123, 0, .null)]
set_option maxRecDepth 100000 in
theorem cb_189_110 : mChk 189 110 bk_189_110 119 = true := by decide +kernel
def bk_189_119 : List mO := [(.iconst 1, 0, 0, .int 1), (.goto 4, 124, 0, .null)]
set_option maxRecDepth 100000 in
theorem cb_189_119 : mChk 189 119 bk_189_119 123 = true := by decide +kernel
def bk_189_123 : List mO := [(.iconst 0, 0, 0, .int 0)]
set_option maxRecDepth 100000 in
theorem cb_189_123 : mChk 189 123 bk_189_123 124 = true := by decide +kernel
def bk_189_124 : List mO := [(.istore 16, 16, 0, .null), (.lload 11, 11, 0, .null), (.iconst 1, 0, 0, .int 1), (.lushr, 0, 0, .null), (.lload 9, 9, 0, .null), (.bipush 63, 0, 0, .int 63), (.lshl, 0, 0, .null), (.lor, 0, 0, .null), (.lstore 11, 11, 0, .null), (.lload 9, 9, 0, .null), (.iconst 1, 0, 0, .int 1), (.lushr, 0, 0, .null), (.iload 16, 16, 0, .null), (.ifCond .eq 9, 153, 0, .null)]
set_option maxRecDepth 100000 in
theorem cb_189_124 : mChk 189 124 bk_189_124 147 = true := by decide +kernel
def bk_189_147 : List mO := [(.ldc2_w 355, 0, 0, .long (-2233785415175766016)), (.goto 4, 154, 0, .null)]
set_option maxRecDepth 100000 in
theorem cb_189_147 : mChk 189 147 bk_189_147 153 = true := by decide +kernel
def bk_189_153 : List mO := [(.lconst 0, 0, 0, .long 0)]
set_option maxRecDepth 100000 in
theorem cb_189_153 : mChk 189 153 bk_189_153 154 = true := by decide +kernel
def bk_189_154 : List mO := [(.lxor, 0, 0, .null), (.lstore 9, 9, 0, .null), (.iinc 13 1, 13, 0, .int 1), (.goto (-119), 41, 0, .null)]
set_option maxRecDepth 100000 in
theorem cb_189_154 : mChk 189 154 bk_189_154 163 = true := by decide +kernel
def bk_189_163 : List mO := [(.return_, 0, 0, .null)]
set_option maxRecDepth 100000 in
theorem cb_189_163 : mChk 189 163 bk_189_163 164 = true := by decide +kernel
-- method 190: KeySealerModel.gatherAll([II)V, locals 5, room (1, 36)
def bk_190_0 : List mO := [(.iconst 0, 0, 0, .int 0), (.istore_n 3, 3, 0, .null)]
set_option maxRecDepth 100000 in
theorem cb_190_0 : mChk 190 0 bk_190_0 2 = true := by decide +kernel
def bk_190_2 : List mO := [(.iload_n 3, 3, 0, .null), (.iload_n 2, 2, 0, .null), (.if_icmp .ge 71, 75, 0, .null)]
set_option maxRecDepth 100000 in
theorem cb_190_2 : mChk 190 2 bk_190_2 7 = true := by decide +kernel
def bk_190_7 : List mO := [(.iconst 0, 0, 0, .int 0), (.istore 4, 4, 0, .null)]
set_option maxRecDepth 100000 in
theorem cb_190_7 : mChk 190 7 bk_190_7 10 = true := by decide +kernel
def bk_190_10 : List mO := [(.iload 4, 4, 0, .null), (.bipush 16, 0, 0, .int 16), (.if_icmp .ge 34, 48, 0, .null)]
set_option maxRecDepth 100000 in
theorem cb_190_10 : mChk 190 10 bk_190_10 17 = true := by decide +kernel
def bk_190_17 : List mO := [(.aload_n 0, 0, 0, .null), (.getfield 97, 9, 33, .null), (.iload 4, 4, 0, .null), (.iload_n 3, 3, 0, .null), (.iload 4, 4, 0, .null), (.iadd, 0, 0, .null), (.iload_n 2, 2, 0, .null), (.if_icmp .ge 12, 40, 0, .null)]
set_option maxRecDepth 100000 in
theorem cb_190_17 : mChk 190 17 bk_190_17 31 = true := by decide +kernel
def bk_190_31 : List mO := [(.aload_n 1, 1, 0, .null), (.iload_n 3, 3, 0, .null), (.iload 4, 4, 0, .null), (.iadd, 0, 0, .null), (.iaload, 0, 0, .null), (.goto 4, 41, 0, .null)]
set_option maxRecDepth 100000 in
theorem cb_190_31 : mChk 190 31 bk_190_31 40 = true := by decide +kernel
def bk_190_40 : List mO := [(.iconst 0, 0, 0, .int 0)]
set_option maxRecDepth 100000 in
theorem cb_190_40 : mChk 190 40 bk_190_40 41 = true := by decide +kernel
def bk_190_41 : List mO := [(.iastore, 0, 0, .null), (.iinc 4 1, 4, 0, .int 1), (.goto (-35), 10, 0, .null)]
set_option maxRecDepth 100000 in
theorem cb_190_41 : mChk 190 41 bk_190_41 48 = true := by decide +kernel
def bk_190_48 : List mO := [(.aload_n 0, 0, 0, .null), (.aload_n 0, 0, 0, .null), (.getfield 97, 9, 33, .null), (.iconst 0, 0, 0, .int 0), (.invokestatic 357, 188, 2, .null), (.aload_n 0, 0, 0, .null), (.getfield 97, 9, 33, .null), (.bipush 8, 0, 0, .int 8), (.invokestatic 357, 188, 2, .null), (.invokevirtual 361, 189, 2, .ref 9), (.iinc 3 16, 3, 0, .int 16), (.goto (-70), 2, 0, .null)]
set_option maxRecDepth 100000 in
theorem cb_190_48 : mChk 190 48 bk_190_48 75 = true := by decide +kernel
def bk_190_75 : List mO := [(.return_, 0, 0, .null)]
set_option maxRecDepth 100000 in
theorem cb_190_75 : mChk 190 75 bk_190_75 76 = true := by decide +kernel
-- method 191: KeySealerModel.blockTag()V, locals 2, room (3, 70)
def bk_191_0 : List mO := [(.iconst 0, 0, 0, .int 0), (.istore_n 1, 1, 0, .null)]
set_option maxRecDepth 100000 in
theorem cb_191_0 : mChk 191 0 bk_191_0 2 = true := by decide +kernel
def bk_191_2 : List mO := [(.iload_n 1, 1, 0, .null), (.bipush 16, 0, 0, .int 16), (.if_icmp .ge 16, 21, 0, .null)]
set_option maxRecDepth 100000 in
theorem cb_191_2 : mChk 191 2 bk_191_2 8 = true := by decide +kernel
def bk_191_8 : List mO := [(.aload_n 0, 0, 0, .null), (.getfield 97, 9, 33, .null), (.iload_n 1, 1, 0, .null), (.iconst 0, 0, 0, .int 0), (.iastore, 0, 0, .null), (.iinc 1 1, 1, 0, .int 1), (.goto (-16), 2, 0, .null)]
set_option maxRecDepth 100000 in
theorem cb_191_8 : mChk 191 8 bk_191_8 21 = true := by decide +kernel
def bk_191_21 : List mO := [(.aload_n 0, 0, 0, .null), (.invokevirtual 339, 186, 0, .ref 9), (.aload_n 0, 0, 0, .null), (.aload_n 0, 0, 0, .null), (.getfield 97, 9, 33, .null), (.iconst 0, 0, 0, .int 0), (.invokestatic 357, 188, 2, .null), (.putfield 349, 9, 42, .long 0), (.aload_n 0, 0, 0, .null), (.aload_n 0, 0, 0, .null), (.getfield 97, 9, 33, .null), (.bipush 8, 0, 0, .int 8), (.invokestatic 357, 188, 2, .null), (.putfield 352, 9, 43, .long 0), (.aload_n 0, 0, 0, .null), (.lconst 0, 0, 0, .long 0), (.putfield 342, 9, 44, .long 0), (.aload_n 0, 0, 0, .null), (.lconst 0, 0, 0, .long 0), (.putfield 346, 9, 45, .long 0), (.aload_n 0, 0, 0, .null), (.aload_n 0, 0, 0, .null), (.getfield 109, 9, 37, .null), (.aload_n 0, 0, 0, .null), (.getfield 365, 9, 38, .null), (.invokevirtual 368, 190, 2, .ref 9), (.aload_n 0, 0, 0, .null), (.aload_n 0, 0, 0, .null), (.getfield 112, 9, 39, .null), (.aload_n 0, 0, 0, .null), (.getfield 371, 9, 40, .null), (.invokevirtual 368, 190, 2, .ref 9), (.aload_n 0, 0, 0, .null), (.ldc2_w 374, 0, 0, .long 8), (.aload_n 0, 0, 0, .null), (.getfield 365, 9, 38, .null), (.i2l, 0, 0, .null), (.lmul, 0, 0, .null), (.ldc2_w 374, 0, 0, .long 8), (.aload_n 0, 0, 0, .null), (.getfield 371, 9, 40, .null), (.i2l, 0, 0, .null), (.lmul, 0, 0, .null), (.invokevirtual 361, 189, 2, .ref 9), (.aload_n 0, 0, 0, .null), (.iconst 1, 0, 0, .int 1), (.invokevirtual 376, 187, 1, .ref 9), (.iconst 0, 0, 0, .int 0), (.istore_n 1, 1, 0, .null)]
set_option maxRecDepth 100000 in
theorem cb_191_21 : mChk 191 21 bk_191_21 113 = true := by decide +kernel
def bk_191_113 : List mO := [(.iload_n 1, 1, 0, .null), (.bipush 16, 0, 0, .int 16), (.if_icmp .ge 60, 176, 0, .null)]
set_option maxRecDepth 100000 in
theorem cb_191_113 : mChk 191 113 bk_191_113 119 = true := by decide +kernel
def bk_191_119 : List mO := [(.aload_n 0, 0, 0, .null), (.getfield 115, 9, 41, .null), (.iload_n 1, 1, 0, .null), (.aload_n 0, 0, 0, .null), (.getfield 97, 9, 33, .null), (.iload_n 1, 1, 0, .null), (.iaload, 0, 0, .null), (.iload_n 1, 1, 0, .null), (.bipush 8, 0, 0, .int 8), (.if_icmp .ge 18, 151, 0, .null)]
set_option maxRecDepth 100000 in
theorem cb_191_119 : mChk 191 119 bk_191_119 136 = true := by decide +kernel
def bk_191_136 : List mO := [(.aload_n 0, 0, 0, .null), (.getfield 342, 9, 44, .null), (.bipush 56, 0, 0, .int 56), (.bipush 8, 0, 0, .int 8), (.iload_n 1, 1, 0, .null), (.imul, 0, 0, .null), (.isub, 0, 0, .null), (.lushr, 0, 0, .null), (.goto 15, 163, 0, .null)]
set_option maxRecDepth 100000 in
theorem cb_191_136 : mChk 191 136 bk_191_136 151 = true := by decide +kernel
def bk_191_151 : List mO := [(.aload_n 0, 0, 0, .null), (.getfield 346, 9, 45, .null), (.bipush 120, 0, 0, .int 120), (.bipush 8, 0, 0, .int 8), (.iload_n 1, 1, 0, .null), (.imul, 0, 0, .null), (.isub, 0, 0, .null), (.lushr, 0, 0, .null)]
set_option maxRecDepth 100000 in
theorem cb_191_151 : mChk 191 151 bk_191_151 163 = true := by decide +kernel
def bk_191_163 : List mO := [(.ldc2_w 188, 0, 0, .long 255), (.land, 0, 0, .null), (.l2i, 0, 0, .null), (.ixor, 0, 0, .null), (.iastore, 0, 0, .null), (.iinc 1 1, 1, 0, .int 1), (.goto (-60), 113, 0, .null)]
set_option maxRecDepth 100000 in
theorem cb_191_163 : mChk 191 163 bk_191_163 176 = true := by decide +kernel
def bk_191_176 : List mO := [(.return_, 0, 0, .null)]
set_option maxRecDepth 100000 in
theorem cb_191_176 : mChk 191 176 bk_191_176 177 = true := by decide +kernel
-- method 192: KeySealerModel.quarter(IIII)V, locals 5, room (0, 0)
def bk_192_0 : List mO := [(.aload_n 0, 0, 0, .null), (.getfield 121, 9, 47, .null), (.iload_n 1, 1, 0, .null), (.dup2, 0, 0, .null), (.iaload, 0, 0, .null), (.aload_n 0, 0, 0, .null), (.getfield 121, 9, 47, .null), (.iload_n 2, 2, 0, .null), (.iaload, 0, 0, .null), (.iadd, 0, 0, .null), (.iastore, 0, 0, .null), (.aload_n 0, 0, 0, .null), (.getfield 121, 9, 47, .null), (.iload 4, 4, 0, .null), (.dup2, 0, 0, .null), (.iaload, 0, 0, .null), (.aload_n 0, 0, 0, .null), (.getfield 121, 9, 47, .null), (.iload_n 1, 1, 0, .null), (.iaload, 0, 0, .null), (.ixor, 0, 0, .null), (.iastore, 0, 0, .null), (.aload_n 0, 0, 0, .null), (.getfield 121, 9, 47, .null), (.iload 4, 4, 0, .null), (.aload_n 0, 0, 0, .null), (.getfield 121, 9, 47, .null), (.iload 4, 4, 0, .null), (.iaload, 0, 0, .null), (.bipush 16, 0, 0, .int 16), (.ishl, 0, 0, .null), (.aload_n 0, 0, 0, .null), (.getfield 121, 9, 47, .null), (.iload 4, 4, 0, .null), (.iaload, 0, 0, .null), (.bipush 16, 0, 0, .int 16), (.iushr, 0, 0, .null), (.ior, 0, 0, .null), (.iastore, 0, 0, .null), (.aload_n 0, 0, 0, .null), (.getfield 121, 9, 47, .null), (.iload_n 3, 3, 0, .null), (.dup2, 0, 0, .null), (.iaload, 0, 0, .null), (.aload_n 0, 0, 0, .null), (.getfield 121, 9, 47, .null), (.iload 4, 4, 0, .null), (.iaload, 0, 0, .null), (.iadd, 0, 0, .null), (.iastore, 0, 0, .null), (.aload_n 0, 0, 0, .null), (.getfield 121, 9, 47, .null), (.iload_n 2, 2, 0, .null), (.dup2, 0, 0, .null), (.iaload, 0, 0, .null), (.aload_n 0, 0, 0, .null), (.getfield 121, 9, 47, .null), (.iload_n 3, 3, 0, .null), (.iaload, 0, 0, .null), (.ixor, 0, 0, .null), (.iastore, 0, 0, .null), (.aload_n 0, 0, 0, .null), (.getfield 121, 9, 47, .null), (.iload_n 2, 2, 0, .null), (.aload_n 0, 0, 0, .null), (.getfield 121, 9, 47, .null), (.iload_n 2, 2, 0, .null), (.iaload, 0, 0, .null), (.bipush 12, 0, 0, .int 12), (.ishl, 0, 0, .null), (.aload_n 0, 0, 0, .null), (.getfield 121, 9, 47, .null), (.iload_n 2, 2, 0, .null), (.iaload, 0, 0, .null), (.bipush 20, 0, 0, .int 20), (.iushr, 0, 0, .null), (.ior, 0, 0, .null), (.iastore, 0, 0, .null), (.aload_n 0, 0, 0, .null), (.getfield 121, 9, 47, .null), (.iload_n 1, 1, 0, .null), (.dup2, 0, 0, .null), (.iaload, 0, 0, .null), (.aload_n 0, 0, 0, .null), (.getfield 121, 9, 47, .null), (.iload_n 2, 2, 0, .null), (.iaload, 0, 0, .null), (.iadd, 0, 0, .null), (.iastore, 0, 0, .null), (.aload_n 0, 0, 0, .null), (.getfield 121, 9, 47, .null), (.iload 4, 4, 0, .null), (.dup2, 0, 0, .null), (.iaload, 0, 0, .null), (.aload_n 0, 0, 0, .null), (.getfield 121, 9, 47, .null), (.iload_n 1, 1, 0, .null), (.iaload, 0, 0, .null), (.ixor, 0, 0, .null), (.iastore, 0, 0, .null), (.aload_n 0, 0, 0, .null), (.getfield 121, 9, 47, .null), (.iload 4, 4, 0, .null), (.aload_n 0, 0, 0, .null), (.getfield 121, 9, 47, .null), (.iload 4, 4, 0, .null), (.iaload, 0, 0, .null), (.bipush 8, 0, 0, .int 8), (.ishl, 0, 0, .null), (.aload_n 0, 0, 0, .null), (.getfield 121, 9, 47, .null), (.iload 4, 4, 0, .null), (.iaload, 0, 0, .null), (.bipush 24, 0, 0, .int 24), (.iushr, 0, 0, .null), (.ior, 0, 0, .null), (.iastore, 0, 0, .null), (.aload_n 0, 0, 0, .null), (.getfield 121, 9, 47, .null), (.iload_n 3, 3, 0, .null), (.dup2, 0, 0, .null), (.iaload, 0, 0, .null), (.aload_n 0, 0, 0, .null), (.getfield 121, 9, 47, .null), (.iload 4, 4, 0, .null), (.iaload, 0, 0, .null), (.iadd, 0, 0, .null), (.iastore, 0, 0, .null), (.aload_n 0, 0, 0, .null), (.getfield 121, 9, 47, .null), (.iload_n 2, 2, 0, .null), (.dup2, 0, 0, .null), (.iaload, 0, 0, .null), (.aload_n 0, 0, 0, .null), (.getfield 121, 9, 47, .null), (.iload_n 3, 3, 0, .null), (.iaload, 0, 0, .null), (.ixor, 0, 0, .null), (.iastore, 0, 0, .null), (.aload_n 0, 0, 0, .null), (.getfield 121, 9, 47, .null), (.iload_n 2, 2, 0, .null), (.aload_n 0, 0, 0, .null), (.getfield 121, 9, 47, .null), (.iload_n 2, 2, 0, .null), (.iaload, 0, 0, .null), (.bipush 7, 0, 0, .int 7), (.ishl, 0, 0, .null), (.aload_n 0, 0, 0, .null), (.getfield 121, 9, 47, .null), (.iload_n 2, 2, 0, .null), (.iaload, 0, 0, .null), (.bipush 25, 0, 0, .int 25), (.iushr, 0, 0, .null), (.ior, 0, 0, .null), (.iastore, 0, 0, .null), (.return_, 0, 0, .null)]
set_option maxRecDepth 100000 in
theorem cb_192_0 : mChk 192 0 bk_192_0 231 = true := by decide +kernel
-- method 193: KeySealerModel.four([II)I, locals 2, room (0, 0)
def bk_193_0 : List mO := [(.aload_n 0, 0, 0, .null), (.iload_n 1, 1, 0, .null), (.iaload, 0, 0, .null), (.aload_n 0, 0, 0, .null), (.iload_n 1, 1, 0, .null), (.iconst 1, 0, 0, .int 1), (.iadd, 0, 0, .null), (.iaload, 0, 0, .null), (.bipush 8, 0, 0, .int 8), (.ishl, 0, 0, .null), (.ior, 0, 0, .null), (.aload_n 0, 0, 0, .null), (.iload_n 1, 1, 0, .null), (.iconst 2, 0, 0, .int 2), (.iadd, 0, 0, .null), (.iaload, 0, 0, .null), (.bipush 16, 0, 0, .int 16), (.ishl, 0, 0, .null), (.ior, 0, 0, .null), (.aload_n 0, 0, 0, .null), (.iload_n 1, 1, 0, .null), (.iconst 3, 0, 0, .int 3), (.iadd, 0, 0, .null), (.iaload, 0, 0, .null), (.bipush 24, 0, 0, .int 24), (.ishl, 0, 0, .null), (.ior, 0, 0, .null), (.ireturn, 0, 0, .int 0)]
set_option maxRecDepth 100000 in
theorem cb_193_0 : mChk 193 0 bk_193_0 31 = true := by decide +kernel
-- method 194: KeySealerModel.streamOf(I)V, locals 4, room (1, 24)
def bk_194_0 : List mO := [(.iconst 0, 0, 0, .int 0), (.istore_n 2, 2, 0, .null)]
set_option maxRecDepth 100000 in
theorem cb_194_0 : mChk 194 0 bk_194_0 2 = true := by decide +kernel
def bk_194_2 : List mO := [(.iload_n 2, 2, 0, .null), (.bipush 16, 0, 0, .int 16), (.if_icmp .ge 85, 90, 0, .null)]
set_option maxRecDepth 100000 in
theorem cb_194_2 : mChk 194 2 bk_194_2 8 = true := by decide +kernel
def bk_194_8 : List mO := [(.aload_n 0, 0, 0, .null), (.getfield 118, 9, 46, .null), (.iload_n 2, 2, 0, .null), (.iload_n 2, 2, 0, .null), (.iconst 4, 0, 0, .int 4), (.if_icmp .ge 11, 26, 0, .null)]
set_option maxRecDepth 100000 in
theorem cb_194_8 : mChk 194 8 bk_194_8 18 = true := by decide +kernel
def bk_194_18 : List mO := [(.getstatic 379, 0, 0, .ref 1000006), (.iload_n 2, 2, 0, .null), (.iaload, 0, 0, .null), (.goto 48, 71, 0, .null)]
set_option maxRecDepth 100000 in
theorem cb_194_18 : mChk 194 18 bk_194_18 26 = true := by decide +kernel
def bk_194_26 : List mO := [(.iload_n 2, 2, 0, .null), (.bipush 12, 0, 0, .int 12), (.if_icmp .ge 19, 48, 0, .null)]
set_option maxRecDepth 100000 in
theorem cb_194_26 : mChk 194 26 bk_194_26 32 = true := by decide +kernel
def bk_194_32 : List mO := [(.aload_n 0, 0, 0, .null), (.getfield 103, 9, 35, .null), (.iconst 4, 0, 0, .int 4), (.iload_n 2, 2, 0, .null), (.imul, 0, 0, .null), (.bipush 16, 0, 0, .int 16), (.isub, 0, 0, .null), (.invokestatic 382, 193, 2, .null), (.goto 26, 71, 0, .null)]
set_option maxRecDepth 100000 in
theorem cb_194_32 : mChk 194 32 bk_194_32 48 = true := by decide +kernel
def bk_194_48 : List mO := [(.iload_n 2, 2, 0, .null), (.bipush 12, 0, 0, .int 12), (.if_icmp .ne 7, 58, 0, .null)]
set_option maxRecDepth 100000 in
theorem cb_194_48 : mChk 194 48 bk_194_48 54 = true := by decide +kernel
def bk_194_54 : List mO := [(.iload_n 1, 1, 0, .null), (.goto 16, 71, 0, .null)]
set_option maxRecDepth 100000 in
theorem cb_194_54 : mChk 194 54 bk_194_54 58 = true := by decide +kernel
def bk_194_58 : List mO := [(.aload_n 0, 0, 0, .null), (.getfield 106, 9, 36, .null), (.iconst 4, 0, 0, .int 4), (.iload_n 2, 2, 0, .null), (.imul, 0, 0, .null), (.bipush 52, 0, 0, .int 52), (.isub, 0, 0, .null), (.invokestatic 382, 193, 2, .null)]
set_option maxRecDepth 100000 in
theorem cb_194_58 : mChk 194 58 bk_194_58 71 = true := by decide +kernel
def bk_194_71 : List mO := [(.iastore, 0, 0, .null), (.aload_n 0, 0, 0, .null), (.getfield 121, 9, 47, .null), (.iload_n 2, 2, 0, .null), (.aload_n 0, 0, 0, .null), (.getfield 118, 9, 46, .null), (.iload_n 2, 2, 0, .null), (.iaload, 0, 0, .null), (.iastore, 0, 0, .null), (.iinc 2 1, 2, 0, .int 1), (.goto (-85), 2, 0, .null)]
set_option maxRecDepth 100000 in
theorem cb_194_71 : mChk 194 71 bk_194_71 90 = true := by decide +kernel
def bk_194_90 : List mO := [(.iconst 0, 0, 0, .int 0), (.istore_n 2, 2, 0, .null)]
set_option maxRecDepth 100000 in
theorem cb_194_90 : mChk 194 90 bk_194_90 92 = true := by decide +kernel
def bk_194_92 : List mO := [(.iload_n 2, 2, 0, .null), (.bipush 10, 0, 0, .int 10), (.if_icmp .ge 79, 174, 0, .null)]
set_option maxRecDepth 100000 in
theorem cb_194_92 : mChk 194 92 bk_194_92 98 = true := by decide +kernel
def bk_194_98 : List mO := [(.iconst 0, 0, 0, .int 0), (.istore_n 3, 3, 0, .null)]
set_option maxRecDepth 100000 in
theorem cb_194_98 : mChk 194 98 bk_194_98 100 = true := by decide +kernel
def bk_194_100 : List mO := [(.iload_n 3, 3, 0, .null), (.iconst 4, 0, 0, .int 4), (.if_icmp .ge 25, 127, 0, .null)]
set_option maxRecDepth 100000 in
theorem cb_194_100 : mChk 194 100 bk_194_100 105 = true := by decide +kernel
def bk_194_105 : List mO := [(.aload_n 0, 0, 0, .null), (.iload_n 3, 3, 0, .null), (.iload_n 3, 3, 0, .null), (.iconst 4, 0, 0, .int 4), (.iadd, 0, 0, .null), (.iload_n 3, 3, 0, .null), (.bipush 8, 0, 0, .int 8), (.iadd, 0, 0, .null), (.iload_n 3, 3, 0, .null), (.bipush 12, 0, 0, .int 12), (.iadd, 0, 0, .null), (.invokevirtual 386, 192, 4, .ref 9), (.iinc 3 1, 3, 0, .int 1), (.goto (-24), 100, 0, .null)]
set_option maxRecDepth 100000 in
theorem cb_194_105 : mChk 194 105 bk_194_105 127 = true := by decide +kernel
def bk_194_127 : List mO := [(.iconst 0, 0, 0, .int 0), (.istore_n 3, 3, 0, .null)]
set_option maxRecDepth 100000 in
theorem cb_194_127 : mChk 194 127 bk_194_127 129 = true := by decide +kernel
def bk_194_129 : List mO := [(.iload_n 3, 3, 0, .null), (.iconst 4, 0, 0, .int 4), (.if_icmp .ge 37, 168, 0, .null)]
set_option maxRecDepth 100000 in
theorem cb_194_129 : mChk 194 129 bk_194_129 134 = true := by decide +kernel
def bk_194_134 : List mO := [(.aload_n 0, 0, 0, .null), (.iload_n 3, 3, 0, .null), (.iconst 4, 0, 0, .int 4), (.iload_n 3, 3, 0, .null), (.iconst 1, 0, 0, .int 1), (.iadd, 0, 0, .null), (.iconst 4, 0, 0, .int 4), (.irem, 0, 0, .null), (.iadd, 0, 0, .null), (.bipush 8, 0, 0, .int 8), (.iload_n 3, 3, 0, .null), (.iconst 2, 0, 0, .int 2), (.iadd, 0, 0, .null), (.iconst 4, 0, 0, .int 4), (.irem, 0, 0, .null), (.iadd, 0, 0, .null), (.bipush 12, 0, 0, .int 12), (.iload_n 3, 3, 0, .null), (.iconst 3, 0, 0, .int 3), (.iadd, 0, 0, .null), (.iconst 4, 0, 0, .int 4), (.irem, 0, 0, .null), (.iadd, 0, 0, .null), (.invokevirtual 386, 192, 4, .ref 9), (.iinc 3 1, 3, 0, .int 1), (.goto (-36), 129, 0, .null)]
set_option maxRecDepth 100000 in
theorem cb_194_134 : mChk 194 134 bk_194_134 168 = true := by decide +kernel
def bk_194_168 : List mO := [(.iinc 2 1, 2, 0, .int 1), (.goto (-79), 92, 0, .null)]
set_option maxRecDepth 100000 in
theorem cb_194_168 : mChk 194 168 bk_194_168 174 = true := by decide +kernel
def bk_194_174 : List mO := [(.iconst 0, 0, 0, .int 0), (.istore_n 2, 2, 0, .null)]
set_option maxRecDepth 100000 in
theorem cb_194_174 : mChk 194 174 bk_194_174 176 = true := by decide +kernel
def bk_194_176 : List mO := [(.iload_n 2, 2, 0, .null), (.bipush 64, 0, 0, .int 64), (.if_icmp .ge 43, 222, 0, .null)]
set_option maxRecDepth 100000 in
theorem cb_194_176 : mChk 194 176 bk_194_176 182 = true := by decide +kernel
def bk_194_182 : List mO := [(.aload_n 0, 0, 0, .null), (.getfield 124, 9, 48, .null), (.iload_n 2, 2, 0, .null), (.aload_n 0, 0, 0, .null), (.getfield 121, 9, 47, .null), (.iload_n 2, 2, 0, .null), (.iconst 4, 0, 0, .int 4), (.idiv, 0, 0, .null), (.iaload, 0, 0, .null), (.aload_n 0, 0, 0, .null), (.getfield 118, 9, 46, .null), (.iload_n 2, 2, 0, .null), (.iconst 4, 0, 0, .int 4), (.idiv, 0, 0, .null), (.iaload, 0, 0, .null), (.iadd, 0, 0, .null), (.bipush 8, 0, 0, .int 8), (.iload_n 2, 2, 0, .null), (.iconst 4, 0, 0, .int 4), (.irem, 0, 0, .null), (.imul, 0, 0, .null), (.iushr, 0, 0, .null), (.sipush 255, 0, 0, .int 255), (.iand, 0, 0, .null), (.iastore, 0, 0, .null), (.iinc 2 1, 2, 0, .int 1), (.goto (-43), 176, 0, .null)]
set_option maxRecDepth 100000 in
theorem cb_194_182 : mChk 194 182 bk_194_182 222 = true := by decide +kernel
def bk_194_222 : List mO := [(.return_, 0, 0, .null)]
set_option maxRecDepth 100000 in
theorem cb_194_222 : mChk 194 222 bk_194_222 223 = true := by decide +kernel
-- method 195: KeySealerModel.addPoly([III)V, locals 8, room (1, 23)
def bk_195_0 : List mO := [(.iconst 0, 0, 0, .int 0), (.istore 4, 4, 0, .null)]
set_option maxRecDepth 100000 in
theorem cb_195_0 : mChk 195 0 bk_195_0 3 = true := by decide +kernel
def bk_195_3 : List mO := [(.iload 4, 4, 0, .null), (.bipush 17, 0, 0, .int 17), (.if_icmp .ge 107, 114, 0, .null)]
set_option maxRecDepth 100000 in
theorem cb_195_3 : mChk 195 3 bk_195_3 10 = true := by decide +kernel
def bk_195_10 : List mO := [(.iload 4, 4, 0, .null), (.bipush 16, 0, 0, .int 16), (.if_icmp .ne 7, 21, 0, .null)]
set_option maxRecDepth 100000 in
theorem cb_195_10 : mChk 195 10 bk_195_10 17 = true := by decide +kernel
def bk_195_17 : List mO := [(.iconst 1, 0, 0, .int 1), (.goto 19, 37, 0, .null)]
set_option maxRecDepth 100000 in
theorem cb_195_17 : mChk 195 17 bk_195_17 21 = true := by decide +kernel
def bk_195_21 : List mO := [(.iload 4, 4, 0, .null), (.iload_n 3, 3, 0, .null), (.if_icmp .ge 12, 36, 0, .null)]
set_option maxRecDepth 100000 in
theorem cb_195_21 : mChk 195 21 bk_195_21 27 = true := by decide +kernel
def bk_195_27 : List mO := [(.aload_n 1, 1, 0, .null), (.iload_n 2, 2, 0, .null), (.iload 4, 4, 0, .null), (.iadd, 0, 0, .null), (.iaload, 0, 0, .null), (.goto 4, 37, 0, .null)]
set_option maxRecDepth 100000 in
theorem cb_195_27 : mChk 195 27 bk_195_27 36 = true := by decide +kernel
def bk_195_36 : List mO := [(.iconst 0, 0, 0, .int 0)]
set_option maxRecDepth 100000 in
theorem cb_195_36 : mChk 195 36 bk_195_36 37 = true := by decide +kernel
def bk_195_37 : List mO := [(.istore 5, 5, 0, .null), (.iconst 0, 0, 0, .int 0), (.istore 6, 6, 0, .null)]
set_option maxRecDepth 100000 in
theorem cb_195_37 : mChk 195 37 bk_195_37 42 = true := by decide +kernel
def bk_195_42 : List mO := [(.iload 6, 6, 0, .null), (.bipush 8, 0, 0, .int 8), (.if_icmp .ge 62, 108, 0, .null)]
set_option maxRecDepth 100000 in
theorem cb_195_42 : mChk 195 42 bk_195_42 49 = true := by decide +kernel
def bk_195_49 : List mO := [(.iload 5, 5, 0, .null), (.iload 6, 6, 0, .null), (.ishr, 0, 0, .null), (.ifCond .le 54, 108, 0, .null)]
set_option maxRecDepth 100000 in
theorem cb_195_49 : mChk 195 49 bk_195_49 57 = true := by decide +kernel
def bk_195_57 : List mO := [(.bipush 8, 0, 0, .int 8), (.iload 4, 4, 0, .null), (.imul, 0, 0, .null), (.iload 6, 6, 0, .null), (.iadd, 0, 0, .null), (.istore 7, 7, 0, .null), (.aload_n 0, 0, 0, .null), (.getfield 130, 9, 50, .null), (.iload 7, 7, 0, .null), (.bipush 26, 0, 0, .int 26), (.idiv, 0, 0, .null), (.dup2, 0, 0, .null), (.laload, 0, 0, .null), (.iload 5, 5, 0, .null), (.iload 6, 6, 0, .null), (.ishr, 0, 0, .null), (.iconst 1, 0, 0, .int 1), (.iand, 0, 0, .null), (.iconst 1, 0, 0, .int 1), (.if_icmp .ne 13, 99, 0, .null)]
set_option maxRecDepth 100000 in
theorem cb_195_57 : mChk 195 57 bk_195_57 89 = true := by decide +kernel
def bk_195_89 : List mO := [(.lconst 1, 0, 0, .long 1), (.iload 7, 7, 0, .null), (.bipush 26, 0, 0, .int 26), (.irem, 0, 0, .null), (.lshl, 0, 0, .null), (.goto 4, 100, 0, .null)]
set_option maxRecDepth 100000 in
theorem cb_195_89 : mChk 195 89 bk_195_89 99 = true := by decide +kernel
def bk_195_99 : List mO := [(.lconst 0, 0, 0, .long 0)]
set_option maxRecDepth 100000 in
theorem cb_195_99 : mChk 195 99 bk_195_99 100 = true := by decide +kernel
def bk_195_100 : List mO := [(.ladd, 0, 0, .null), (.lastore, 0, 0, .null), (.iinc 6 1, 6, 0, .int 1), (.goto (-63), 42, 0, .null)]
set_option maxRecDepth 100000 in
theorem cb_195_100 : mChk 195 100 bk_195_100 108 = true := by decide +kernel
def bk_195_108 : List mO := [(.iinc 4 1, 4, 0, .int 1), (.goto (-108), 3, 0, .null)]
set_option maxRecDepth 100000 in
theorem cb_195_108 : mChk 195 108 bk_195_108 114 = true := by decide +kernel
def bk_195_114 : List mO := [(.iconst 0, 0, 0, .int 0), (.istore 4, 4, 0, .null)]
set_option maxRecDepth 100000 in
theorem cb_195_114 : mChk 195 114 bk_195_114 117 = true := by decide +kernel
def bk_195_117 : List mO := [(.iload 4, 4, 0, .null), (.iconst 5, 0, 0, .int 5), (.if_icmp .ge 85, 205, 0, .null)]
set_option maxRecDepth 100000 in
theorem cb_195_117 : mChk 195 117 bk_195_117 123 = true := by decide +kernel
def bk_195_123 : List mO := [(.aload_n 0, 0, 0, .null), (.getfield 133, 9, 51, .null), (.iload 4, 4, 0, .null), (.lconst 0, 0, 0, .long 0), (.lastore, 0, 0, .null), (.iconst 0, 0, 0, .int 0), (.istore 5, 5, 0, .null)]
set_option maxRecDepth 100000 in
theorem cb_195_123 : mChk 195 123 bk_195_123 134 = true := by decide +kernel
def bk_195_134 : List mO := [(.iload 5, 5, 0, .null), (.iconst 5, 0, 0, .int 5), (.if_icmp .ge 62, 199, 0, .null)]
set_option maxRecDepth 100000 in
theorem cb_195_134 : mChk 195 134 bk_195_134 140 = true := by decide +kernel
def bk_195_140 : List mO := [(.iload 4, 4, 0, .null), (.iload 5, 5, 0, .null), (.isub, 0, 0, .null), (.iconst 5, 0, 0, .int 5), (.iadd, 0, 0, .null), (.iconst 5, 0, 0, .int 5), (.irem, 0, 0, .null), (.istore 6, 6, 0, .null), (.aload_n 0, 0, 0, .null), (.getfield 133, 9, 51, .null), (.iload 4, 4, 0, .null), (.dup2, 0, 0, .null), (.laload, 0, 0, .null), (.aload_n 0, 0, 0, .null), (.getfield 130, 9, 50, .null), (.iload 5, 5, 0, .null), (.laload, 0, 0, .null), (.aload_n 0, 0, 0, .null), (.getfield 127, 9, 49, .null), (.iload 6, 6, 0, .null), (.laload, 0, 0, .null), (.lmul, 0, 0, .null), (.iload 5, 5, 0, .null), (.iload 6, 6, 0, .null), (.iadd, 0, 0, .null), (.iconst 4, 0, 0, .int 4), (.if_icmp .le 9, 189, 0, .null)]
set_option maxRecDepth 100000 in
theorem cb_195_140 : mChk 195 140 bk_195_140 183 = true := by decide +kernel
def bk_195_183 : List mO := [(.ldc2_w 390, 0, 0, .long 5), (.goto 4, 190, 0, .null)]
set_option maxRecDepth 100000 in
theorem cb_195_183 : mChk 195 183 bk_195_183 189 = true := by decide +kernel
def bk_195_189 : List mO := [(.lconst 1, 0, 0, .long 1)]
set_option maxRecDepth 100000 in
theorem cb_195_189 : mChk 195 189 bk_195_189 190 = true := by decide +kernel
def bk_195_190 : List mO := [(.lmul, 0, 0, .null), (.ladd, 0, 0, .null), (.lastore, 0, 0, .null), (.iinc 5 1, 5, 0, .int 1), (.goto (-62), 134, 0, .null)]
set_option maxRecDepth 100000 in
theorem cb_195_190 : mChk 195 190 bk_195_190 199 = true := by decide +kernel
def bk_195_199 : List mO := [(.iinc 4 1, 4, 0, .int 1), (.goto (-85), 117, 0, .null)]
set_option maxRecDepth 100000 in
theorem cb_195_199 : mChk 195 199 bk_195_199 205 = true := by decide +kernel
def bk_195_205 : List mO := [(.iconst 0, 0, 0, .int 0), (.istore 4, 4, 0, .null)]
set_option maxRecDepth 100000 in
theorem cb_195_205 : mChk 195 205 bk_195_205 208 = true := by decide +kernel
def bk_195_208 : List mO := [(.iload 4, 4, 0, .null), (.iconst 5, 0, 0, .int 5), (.if_icmp .ge 23, 234, 0, .null)]
set_option maxRecDepth 100000 in
theorem cb_195_208 : mChk 195 208 bk_195_208 214 = true := by decide +kernel
def bk_195_214 : List mO := [(.aload_n 0, 0, 0, .null), (.getfield 130, 9, 50, .null), (.iload 4, 4, 0, .null), (.aload_n 0, 0, 0, .null), (.getfield 133, 9, 51, .null), (.iload 4, 4, 0, .null), (.laload, 0, 0, .null), (.lastore, 0, 0, .null), (.iinc 4 1, 4, 0, .int 1), (.goto (-23), 208, 0, .null)]
set_option maxRecDepth 100000 in
theorem cb_195_214 : mChk 195 214 bk_195_214 234 = true := by decide +kernel
def bk_195_234 : List mO := [(.aload_n 0, 0, 0, .null), (.invokevirtual 392, 196, 0, .ref 9), (.aload_n 0, 0, 0, .null), (.invokevirtual 392, 196, 0, .ref 9), (.return_, 0, 0, .null)]
set_option maxRecDepth 100000 in
theorem cb_195_234 : mChk 195 234 bk_195_234 243 = true := by decide +kernel
-- method 196: KeySealerModel.carryPoly()V, locals 4, room (0, 0)
def bk_196_0 : List mO := [(.iconst 0, 0, 0, .int 0), (.istore_n 1, 1, 0, .null)]
set_option maxRecDepth 100000 in
theorem cb_196_0 : mChk 196 0 bk_196_0 2 = true := by decide +kernel
def bk_196_2 : List mO := [(.iload_n 1, 1, 0, .null), (.iconst 5, 0, 0, .int 5), (.if_icmp .ge 66, 70, 0, .null)]
set_option maxRecDepth 100000 in
theorem cb_196_2 : mChk 196 2 bk_196_2 7 = true := by decide +kernel
def bk_196_7 : List mO := [(.aload_n 0, 0, 0, .null), (.getfield 130, 9, 50, .null), (.iload_n 1, 1, 0, .null), (.laload, 0, 0, .null), (.bipush 26, 0, 0, .int 26), (.lshr, 0, 0, .null), (.lstore_n 2, 2, 0, .null), (.aload_n 0, 0, 0, .null), (.getfield 130, 9, 50, .null), (.iload_n 1, 1, 0, .null), (.dup2, 0, 0, .null), (.laload, 0, 0, .null), (.lload_n 2, 2, 0, .null), (.bipush 26, 0, 0, .int 26), (.lshl, 0, 0, .null), (.lsub, 0, 0, .null), (.lastore, 0, 0, .null), (.iload_n 1, 1, 0, .null), (.iconst 4, 0, 0, .int 4), (.if_icmp .ge 18, 50, 0, .null)]
set_option maxRecDepth 100000 in
theorem cb_196_7 : mChk 196 7 bk_196_7 35 = true := by decide +kernel
def bk_196_35 : List mO := [(.aload_n 0, 0, 0, .null), (.getfield 130, 9, 50, .null), (.iload_n 1, 1, 0, .null), (.iconst 1, 0, 0, .int 1), (.iadd, 0, 0, .null), (.dup2, 0, 0, .null), (.laload, 0, 0, .null), (.lload_n 2, 2, 0, .null), (.ladd, 0, 0, .null), (.lastore, 0, 0, .null), (.goto 17, 64, 0, .null)]
set_option maxRecDepth 100000 in
theorem cb_196_35 : mChk 196 35 bk_196_35 50 = true := by decide +kernel
def bk_196_50 : List mO := [(.aload_n 0, 0, 0, .null), (.getfield 130, 9, 50, .null), (.iconst 0, 0, 0, .int 0), (.dup2, 0, 0, .null), (.laload, 0, 0, .null), (.ldc2_w 390, 0, 0, .long 5), (.lload_n 2, 2, 0, .null), (.lmul, 0, 0, .null), (.ladd, 0, 0, .null), (.lastore, 0, 0, .null)]
set_option maxRecDepth 100000 in
theorem cb_196_50 : mChk 196 50 bk_196_50 64 = true := by decide +kernel
def bk_196_64 : List mO := [(.iinc 1 1, 1, 0, .int 1), (.goto (-65), 2, 0, .null)]
set_option maxRecDepth 100000 in
theorem cb_196_64 : mChk 196 64 bk_196_64 70 = true := by decide +kernel
def bk_196_70 : List mO := [(.return_, 0, 0, .null)]
set_option maxRecDepth 100000 in
theorem cb_196_70 : mChk 196 70 bk_196_70 71 = true := by decide +kernel

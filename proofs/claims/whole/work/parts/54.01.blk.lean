/-! PART 54.01: blocks of code and their checks, printed by program (wip/whole/mk13.py) -/
-- method 154: KeySealerModel.giveHash(II)V, locals 4, room (1, 23)
def bk_154_0 : List mO := [(.iconst 0, 0, 0, .int 0), (.istore_n 3, 3, 0, .null)]
set_option maxRecDepth 100000 in
theorem cb_154_0 : mChk 154 0 bk_154_0 2 = true := by decide +kernel
def bk_154_2 : List mO := [(.iload_n 3, 3, 0, .null), (.iload_n 2, 2, 0, .null), (.if_icmp .ge 21, 25, 0, .null)]
set_option maxRecDepth 100000 in
theorem cb_154_2 : mChk 154 2 bk_154_2 7 = true := by decide +kernel
def bk_154_7 : List mO := [(.aload_n 0, 0, 0, .null), (.getfield 16, 9, 2, .null), (.iload_n 3, 3, 0, .null), (.aload_n 0, 0, 0, .null), (.getfield 29, 9, 7, .null), (.iload_n 3, 3, 0, .null), (.iaload, 0, 0, .null), (.iastore, 0, 0, .null), (.iinc 3 1, 3, 0, .int 1), (.goto (-20), 2, 0, .null)]
set_option maxRecDepth 100000 in
theorem cb_154_7 : mChk 154 7 bk_154_7 25 = true := by decide +kernel
def bk_154_25 : List mO := [(.aload_n 0, 0, 0, .null), (.iload_n 1, 1, 0, .null), (.iload_n 2, 2, 0, .null), (.invokevirtual 190, 146, 2, .ref 9), (.return_, 0, 0, .null)]
set_option maxRecDepth 100000 in
theorem cb_154_25 : mChk 154 25 bk_154_25 32 = true := by decide +kernel
-- method 155: KeySealerModel.build(I)V, locals 2, room (0, 0)
def bk_155_0 : List mO := [(.aload_n 0, 0, 0, .null), (.getfield 35, 9, 10, .null), (.aload_n 0, 0, 0, .null), (.getfield 234, 9, 11, .null), (.iload_n 1, 1, 0, .null), (.iastore, 0, 0, .null), (.aload_n 0, 0, 0, .null), (.dup, 0, 0, .null), (.getfield 234, 9, 11, .null), (.iconst 1, 0, 0, .int 1), (.iadd, 0, 0, .null), (.putfield 234, 9, 11, .int 0), (.return_, 0, 0, .null)]
set_option maxRecDepth 100000 in
theorem cb_155_0 : mChk 155 0 bk_155_0 21 = true := by decide +kernel
-- method 156: KeySealerModel.buildAll([I)V, locals 3, room (1, 21)
def bk_156_0 : List mO := [(.iconst 0, 0, 0, .int 0), (.istore_n 2, 2, 0, .null)]
set_option maxRecDepth 100000 in
theorem cb_156_0 : mChk 156 0 bk_156_0 2 = true := by decide +kernel
def bk_156_2 : List mO := [(.iload_n 2, 2, 0, .null), (.aload_n 1, 1, 0, .null), (.arraylength, 0, 0, .null), (.if_icmp .ge 16, 21, 0, .null)]
set_option maxRecDepth 100000 in
theorem cb_156_2 : mChk 156 2 bk_156_2 8 = true := by decide +kernel
def bk_156_8 : List mO := [(.aload_n 0, 0, 0, .null), (.aload_n 1, 1, 0, .null), (.iload_n 2, 2, 0, .null), (.iaload, 0, 0, .null), (.invokevirtual 237, 155, 1, .ref 9), (.iinc 2 1, 2, 0, .int 1), (.goto (-16), 2, 0, .null)]
set_option maxRecDepth 100000 in
theorem cb_156_8 : mChk 156 8 bk_156_8 21 = true := by decide +kernel
def bk_156_21 : List mO := [(.return_, 0, 0, .null)]
set_option maxRecDepth 100000 in
theorem cb_156_21 : mChk 156 21 bk_156_21 22 = true := by decide +kernel
-- method 157: KeySealerModel.buildPart([III)V, locals 5, room (1, 21)
def bk_157_0 : List mO := [(.iconst 0, 0, 0, .int 0), (.istore 4, 4, 0, .null)]
set_option maxRecDepth 100000 in
theorem cb_157_0 : mChk 157 0 bk_157_0 3 = true := by decide +kernel
def bk_157_3 : List mO := [(.iload 4, 4, 0, .null), (.iload_n 3, 3, 0, .null), (.if_icmp .ge 19, 25, 0, .null)]
set_option maxRecDepth 100000 in
theorem cb_157_3 : mChk 157 3 bk_157_3 9 = true := by decide +kernel
def bk_157_9 : List mO := [(.aload_n 0, 0, 0, .null), (.aload_n 1, 1, 0, .null), (.iload_n 2, 2, 0, .null), (.iload 4, 4, 0, .null), (.iadd, 0, 0, .null), (.iaload, 0, 0, .null), (.invokevirtual 237, 155, 1, .ref 9), (.iinc 4 1, 4, 0, .int 1), (.goto (-19), 3, 0, .null)]
set_option maxRecDepth 100000 in
theorem cb_157_9 : mChk 157 9 bk_157_9 25 = true := by decide +kernel
def bk_157_25 : List mO := [(.return_, 0, 0, .null)]
set_option maxRecDepth 100000 in
theorem cb_157_25 : mChk 157 25 bk_157_25 26 = true := by decide +kernel
-- method 158: KeySealerModel.buildReg(I)V, locals 2, room (2, 45)
def bk_158_0 : List mO := [(.aload_n 0, 0, 0, .null), (.aload_n 0, 0, 0, .null), (.getfield 7, 9, 0, .null), (.iload_n 1, 1, 0, .null), (.ifCond .ge 7, 13, 0, .null)]
set_option maxRecDepth 100000 in
theorem cb_158_0 : mChk 158 0 bk_158_0 9 = true := by decide +kernel
def bk_158_9 : List mO := [(.iconst 0, 0, 0, .int 0), (.goto 8, 18, 0, .null)]
set_option maxRecDepth 100000 in
theorem cb_158_9 : mChk 158 9 bk_158_9 13 = true := by decide +kernel
def bk_158_13 : List mO := [(.sipush 300, 0, 0, .int 300), (.iload_n 1, 1, 0, .null), (.imul, 0, 0, .null)]
set_option maxRecDepth 100000 in
theorem cb_158_13 : mChk 158 13 bk_158_13 18 = true := by decide +kernel
def bk_158_18 : List mO := [(.iload_n 1, 1, 0, .null), (.ifCond .ge 7, 26, 0, .null)]
set_option maxRecDepth 100000 in
theorem cb_158_18 : mChk 158 18 bk_158_18 22 = true := by decide +kernel
def bk_158_22 : List mO := [(.iconst 0, 0, 0, .int 0), (.goto 9, 32, 0, .null)]
set_option maxRecDepth 100000 in
theorem cb_158_22 : mChk 158 22 bk_158_22 26 = true := by decide +kernel
def bk_158_26 : List mO := [(.aload_n 0, 0, 0, .null), (.getfield 13, 9, 1, .null), (.iload_n 1, 1, 0, .null), (.iaload, 0, 0, .null)]
set_option maxRecDepth 100000 in
theorem cb_158_26 : mChk 158 26 bk_158_26 32 = true := by decide +kernel
def bk_158_32 : List mO := [(.invokevirtual 240, 157, 3, .ref 9), (.return_, 0, 0, .null)]
set_option maxRecDepth 100000 in
theorem cb_158_32 : mChk 158 32 bk_158_32 36 = true := by decide +kernel
-- method 159: KeySealerModel.keyIs(I[III)V, locals 7, room (4, 125)
def bk_159_0 : List mO := [(.iconst 2, 0, 0, .int 2), (.iload_n 1, 1, 0, .null), (.invokestatic 227, 147, 1, .null), (.imul, 0, 0, .null), (.istore 5, 5, 0, .null), (.aload_n 0, 0, 0, .null), (.iload 4, 4, 0, .null), (.putfield 244, 9, 9, .int 0), (.iload 4, 4, 0, .null), (.iload 5, 5, 0, .null), (.if_icmp .le 86, 104, 0, .null)]
set_option maxRecDepth 100000 in
theorem cb_159_0 : mChk 159 0 bk_159_0 21 = true := by decide +kernel
def bk_159_21 : List mO := [(.iconst 0, 0, 0, .int 0), (.istore 6, 6, 0, .null)]
set_option maxRecDepth 100000 in
theorem cb_159_21 : mChk 159 21 bk_159_21 24 = true := by decide +kernel
def bk_159_24 : List mO := [(.iload 6, 6, 0, .null), (.iload 4, 4, 0, .null), (.if_icmp .ge 22, 50, 0, .null)]
set_option maxRecDepth 100000 in
theorem cb_159_24 : mChk 159 24 bk_159_24 31 = true := by decide +kernel
def bk_159_31 : List mO := [(.aload_n 0, 0, 0, .null), (.getfield 19, 9, 3, .null), (.iload 6, 6, 0, .null), (.aload_n 2, 2, 0, .null), (.iload_n 3, 3, 0, .null), (.iload 6, 6, 0, .null), (.iadd, 0, 0, .null), (.iaload, 0, 0, .null), (.iastore, 0, 0, .null), (.iinc 6 1, 6, 0, .int 1), (.goto (-23), 24, 0, .null)]
set_option maxRecDepth 100000 in
theorem cb_159_31 : mChk 159 31 bk_159_31 50 = true := by decide +kernel
def bk_159_50 : List mO := [(.aload_n 0, 0, 0, .null), (.iload 4, 4, 0, .null), (.putfield 200, 9, 4, .int 0), (.aload_n 0, 0, 0, .null), (.iload_n 1, 1, 0, .null), (.invokevirtual 223, 151, 1, .ref 9), (.aload_n 0, 0, 0, .null), (.iload_n 1, 1, 0, .null), (.invokestatic 227, 147, 1, .null), (.putfield 244, 9, 9, .int 0), (.iconst 0, 0, 0, .int 0), (.istore 6, 6, 0, .null)]
set_option maxRecDepth 100000 in
theorem cb_159_50 : mChk 159 50 bk_159_50 72 = true := by decide +kernel
def bk_159_72 : List mO := [(.iload 6, 6, 0, .null), (.aload_n 0, 0, 0, .null), (.getfield 244, 9, 9, .null), (.if_icmp .ge 23, 101, 0, .null)]
set_option maxRecDepth 100000 in
theorem cb_159_72 : mChk 159 72 bk_159_72 81 = true := by decide +kernel
def bk_159_81 : List mO := [(.aload_n 0, 0, 0, .null), (.getfield 32, 9, 8, .null), (.iload 6, 6, 0, .null), (.aload_n 0, 0, 0, .null), (.getfield 29, 9, 7, .null), (.iload 6, 6, 0, .null), (.iaload, 0, 0, .null), (.iastore, 0, 0, .null), (.iinc 6 1, 6, 0, .int 1), (.goto (-26), 72, 0, .null)]
set_option maxRecDepth 100000 in
theorem cb_159_81 : mChk 159 81 bk_159_81 101 = true := by decide +kernel
def bk_159_101 : List mO := [(.goto 32, 133, 0, .null)]
set_option maxRecDepth 100000 in
theorem cb_159_101 : mChk 159 101 bk_159_101 104 = true := by decide +kernel
def bk_159_104 : List mO := [(.iconst 0, 0, 0, .int 0), (.istore 6, 6, 0, .null)]
set_option maxRecDepth 100000 in
theorem cb_159_104 : mChk 159 104 bk_159_104 107 = true := by decide +kernel
def bk_159_107 : List mO := [(.iload 6, 6, 0, .null), (.iload 4, 4, 0, .null), (.if_icmp .ge 22, 133, 0, .null)]
set_option maxRecDepth 100000 in
theorem cb_159_107 : mChk 159 107 bk_159_107 114 = true := by decide +kernel
def bk_159_114 : List mO := [(.aload_n 0, 0, 0, .null), (.getfield 32, 9, 8, .null), (.iload 6, 6, 0, .null), (.aload_n 2, 2, 0, .null), (.iload_n 3, 3, 0, .null), (.iload 6, 6, 0, .null), (.iadd, 0, 0, .null), (.iaload, 0, 0, .null), (.iastore, 0, 0, .null), (.iinc 6 1, 6, 0, .int 1), (.goto (-23), 107, 0, .null)]
set_option maxRecDepth 100000 in
theorem cb_159_114 : mChk 159 114 bk_159_114 133 = true := by decide +kernel
def bk_159_133 : List mO := [(.aload_n 0, 0, 0, .null), (.getfield 244, 9, 9, .null), (.istore 6, 6, 0, .null)]
set_option maxRecDepth 100000 in
theorem cb_159_133 : mChk 159 133 bk_159_133 139 = true := by decide +kernel
def bk_159_139 : List mO := [(.iload 6, 6, 0, .null), (.sipush 128, 0, 0, .int 128), (.if_icmp .ge 17, 161, 0, .null)]
set_option maxRecDepth 100000 in
theorem cb_159_139 : mChk 159 139 bk_159_139 147 = true := by decide +kernel
def bk_159_147 : List mO := [(.aload_n 0, 0, 0, .null), (.getfield 32, 9, 8, .null), (.iload 6, 6, 0, .null), (.iconst 0, 0, 0, .int 0), (.iastore, 0, 0, .null), (.iinc 6 1, 6, 0, .int 1), (.goto (-19), 139, 0, .null)]
set_option maxRecDepth 100000 in
theorem cb_159_147 : mChk 159 147 bk_159_147 161 = true := by decide +kernel
def bk_159_161 : List mO := [(.return_, 0, 0, .null)]
set_option maxRecDepth 100000 in
theorem cb_159_161 : mChk 159 161 bk_159_161 162 = true := by decide +kernel
-- method 160: KeySealerModel.keyed(I)V, locals 4, room (4, 125)
def bk_160_0 : List mO := [(.iconst 2, 0, 0, .int 2), (.iload_n 1, 1, 0, .null), (.invokestatic 227, 147, 1, .null), (.imul, 0, 0, .null), (.istore_n 2, 2, 0, .null), (.iconst 0, 0, 0, .int 0), (.istore_n 3, 3, 0, .null)]
set_option maxRecDepth 100000 in
theorem cb_160_0 : mChk 160 0 bk_160_0 9 = true := by decide +kernel
def bk_160_9 : List mO := [(.iload_n 3, 3, 0, .null), (.iload_n 2, 2, 0, .null), (.if_icmp .ge 24, 35, 0, .null)]
set_option maxRecDepth 100000 in
theorem cb_160_9 : mChk 160 9 bk_160_9 14 = true := by decide +kernel
def bk_160_14 : List mO := [(.aload_n 0, 0, 0, .null), (.getfield 19, 9, 3, .null), (.iload_n 3, 3, 0, .null), (.aload_n 0, 0, 0, .null), (.getfield 32, 9, 8, .null), (.iload_n 3, 3, 0, .null), (.iaload, 0, 0, .null), (.bipush 54, 0, 0, .int 54), (.ixor, 0, 0, .null), (.iastore, 0, 0, .null), (.iinc 3 1, 3, 0, .int 1), (.goto (-23), 9, 0, .null)]
set_option maxRecDepth 100000 in
theorem cb_160_14 : mChk 160 14 bk_160_14 35 = true := by decide +kernel
def bk_160_35 : List mO := [(.iconst 0, 0, 0, .int 0), (.istore_n 3, 3, 0, .null)]
set_option maxRecDepth 100000 in
theorem cb_160_35 : mChk 160 35 bk_160_35 37 = true := by decide +kernel
def bk_160_37 : List mO := [(.iload_n 3, 3, 0, .null), (.aload_n 0, 0, 0, .null), (.getfield 234, 9, 11, .null), (.if_icmp .ge 23, 65, 0, .null)]
set_option maxRecDepth 100000 in
theorem cb_160_37 : mChk 160 37 bk_160_37 45 = true := by decide +kernel
def bk_160_45 : List mO := [(.aload_n 0, 0, 0, .null), (.getfield 19, 9, 3, .null), (.iload_n 2, 2, 0, .null), (.iload_n 3, 3, 0, .null), (.iadd, 0, 0, .null), (.aload_n 0, 0, 0, .null), (.getfield 35, 9, 10, .null), (.iload_n 3, 3, 0, .null), (.iaload, 0, 0, .null), (.iastore, 0, 0, .null), (.iinc 3 1, 3, 0, .int 1), (.goto (-25), 37, 0, .null)]
set_option maxRecDepth 100000 in
theorem cb_160_45 : mChk 160 45 bk_160_45 65 = true := by decide +kernel
def bk_160_65 : List mO := [(.aload_n 0, 0, 0, .null), (.iload_n 2, 2, 0, .null), (.aload_n 0, 0, 0, .null), (.getfield 234, 9, 11, .null), (.iadd, 0, 0, .null), (.putfield 200, 9, 4, .int 0), (.aload_n 0, 0, 0, .null), (.iload_n 1, 1, 0, .null), (.invokevirtual 223, 151, 1, .ref 9), (.iconst 0, 0, 0, .int 0), (.istore_n 3, 3, 0, .null)]
set_option maxRecDepth 100000 in
theorem cb_160_65 : mChk 160 65 bk_160_65 82 = true := by decide +kernel
def bk_160_82 : List mO := [(.iload_n 3, 3, 0, .null), (.iload_n 2, 2, 0, .null), (.if_icmp .ge 24, 108, 0, .null)]
set_option maxRecDepth 100000 in
theorem cb_160_82 : mChk 160 82 bk_160_82 87 = true := by decide +kernel
def bk_160_87 : List mO := [(.aload_n 0, 0, 0, .null), (.getfield 19, 9, 3, .null), (.iload_n 3, 3, 0, .null), (.aload_n 0, 0, 0, .null), (.getfield 32, 9, 8, .null), (.iload_n 3, 3, 0, .null), (.iaload, 0, 0, .null), (.bipush 92, 0, 0, .int 92), (.ixor, 0, 0, .null), (.iastore, 0, 0, .null), (.iinc 3 1, 3, 0, .int 1), (.goto (-23), 82, 0, .null)]
set_option maxRecDepth 100000 in
theorem cb_160_87 : mChk 160 87 bk_160_87 108 = true := by decide +kernel
def bk_160_108 : List mO := [(.iconst 0, 0, 0, .int 0), (.istore_n 3, 3, 0, .null)]
set_option maxRecDepth 100000 in
theorem cb_160_108 : mChk 160 108 bk_160_108 110 = true := by decide +kernel
def bk_160_110 : List mO := [(.iload_n 3, 3, 0, .null), (.iload_n 1, 1, 0, .null), (.invokestatic 227, 147, 1, .null), (.if_icmp .ge 23, 138, 0, .null)]
set_option maxRecDepth 100000 in
theorem cb_160_110 : mChk 160 110 bk_160_110 118 = true := by decide +kernel
def bk_160_118 : List mO := [(.aload_n 0, 0, 0, .null), (.getfield 19, 9, 3, .null), (.iload_n 2, 2, 0, .null), (.iload_n 3, 3, 0, .null), (.iadd, 0, 0, .null), (.aload_n 0, 0, 0, .null), (.getfield 29, 9, 7, .null), (.iload_n 3, 3, 0, .null), (.iaload, 0, 0, .null), (.iastore, 0, 0, .null), (.iinc 3 1, 3, 0, .int 1), (.goto (-25), 110, 0, .null)]
set_option maxRecDepth 100000 in
theorem cb_160_118 : mChk 160 118 bk_160_118 138 = true := by decide +kernel
def bk_160_138 : List mO := [(.aload_n 0, 0, 0, .null), (.iload_n 2, 2, 0, .null), (.iload_n 1, 1, 0, .null), (.invokestatic 227, 147, 1, .null), (.iadd, 0, 0, .null), (.putfield 200, 9, 4, .int 0), (.aload_n 0, 0, 0, .null), (.iload_n 1, 1, 0, .null), (.invokevirtual 223, 151, 1, .ref 9), (.return_, 0, 0, .null)]
set_option maxRecDepth 100000 in
theorem cb_160_138 : mChk 160 138 bk_160_138 154 = true := by decide +kernel
-- method 161: KeySealerModel.expandTo(II)V, locals 7, room (5, 148)
def bk_161_0 : List mO := [(.iconst 0, 0, 0, .int 0), (.istore_n 3, 3, 0, .null), (.iconst 1, 0, 0, .int 1), (.istore 4, 4, 0, .null)]
set_option maxRecDepth 100000 in
theorem cb_161_0 : mChk 161 0 bk_161_0 5 = true := by decide +kernel
def bk_161_5 : List mO := [(.iload_n 3, 3, 0, .null), (.iload_n 2, 2, 0, .null), (.if_icmp .ge 104, 111, 0, .null)]
set_option maxRecDepth 100000 in
theorem cb_161_5 : mChk 161 5 bk_161_5 10 = true := by decide +kernel
def bk_161_10 : List mO := [(.iload 4, 4, 0, .null), (.iconst 1, 0, 0, .int 1), (.if_icmp .ne 7, 20, 0, .null)]
set_option maxRecDepth 100000 in
theorem cb_161_10 : mChk 161 10 bk_161_10 16 = true := by decide +kernel
def bk_161_16 : List mO := [(.iconst 0, 0, 0, .int 0), (.goto 7, 24, 0, .null)]
set_option maxRecDepth 100000 in
theorem cb_161_16 : mChk 161 16 bk_161_16 20 = true := by decide +kernel
def bk_161_20 : List mO := [(.iload_n 1, 1, 0, .null), (.invokestatic 227, 147, 1, .null)]
set_option maxRecDepth 100000 in
theorem cb_161_20 : mChk 161 20 bk_161_20 24 = true := by decide +kernel
def bk_161_24 : List mO := [(.istore 5, 5, 0, .null), (.aload_n 0, 0, 0, .null), (.iconst 0, 0, 0, .int 0), (.putfield 234, 9, 11, .int 0), (.aload_n 0, 0, 0, .null), (.aload_n 0, 0, 0, .null), (.getfield 29, 9, 7, .null), (.iconst 0, 0, 0, .int 0), (.iload 5, 5, 0, .null), (.invokevirtual 240, 157, 3, .ref 9), (.aload_n 0, 0, 0, .null), (.aload_n 0, 0, 0, .null), (.getfield 38, 9, 12, .null), (.iconst 0, 0, 0, .int 0), (.aload_n 0, 0, 0, .null), (.getfield 247, 9, 13, .null), (.invokevirtual 240, 157, 3, .ref 9), (.aload_n 0, 0, 0, .null), (.iload 4, 4, 0, .null), (.invokevirtual 237, 155, 1, .ref 9), (.aload_n 0, 0, 0, .null), (.iload_n 1, 1, 0, .null), (.invokevirtual 250, 160, 1, .ref 9), (.iconst 0, 0, 0, .int 0), (.istore 6, 6, 0, .null)]
set_option maxRecDepth 100000 in
theorem cb_161_24 : mChk 161 24 bk_161_24 69 = true := by decide +kernel
def bk_161_69 : List mO := [(.iload 6, 6, 0, .null), (.iload_n 1, 1, 0, .null), (.invokestatic 227, 147, 1, .null), (.if_icmp .ge 30, 105, 0, .null)]
set_option maxRecDepth 100000 in
theorem cb_161_69 : mChk 161 69 bk_161_69 78 = true := by decide +kernel
def bk_161_78 : List mO := [(.iload_n 3, 3, 0, .null), (.iload_n 2, 2, 0, .null), (.if_icmp .ge 25, 105, 0, .null)]
set_option maxRecDepth 100000 in
theorem cb_161_78 : mChk 161 78 bk_161_78 83 = true := by decide +kernel
def bk_161_83 : List mO := [(.aload_n 0, 0, 0, .null), (.getfield 16, 9, 2, .null), (.iload_n 3, 3, 0, .null), (.aload_n 0, 0, 0, .null), (.getfield 29, 9, 7, .null), (.iload 6, 6, 0, .null), (.iaload, 0, 0, .null), (.iastore, 0, 0, .null), (.iinc 3 1, 3, 0, .int 1), (.iinc 6 1, 6, 0, .int 1), (.goto (-33), 69, 0, .null)]
set_option maxRecDepth 100000 in
theorem cb_161_83 : mChk 161 83 bk_161_83 105 = true := by decide +kernel
def bk_161_105 : List mO := [(.iinc 4 1, 4, 0, .int 1), (.goto (-103), 5, 0, .null)]
set_option maxRecDepth 100000 in
theorem cb_161_105 : mChk 161 105 bk_161_105 111 = true := by decide +kernel
def bk_161_111 : List mO := [(.return_, 0, 0, .null)]
set_option maxRecDepth 100000 in
theorem cb_161_111 : mChk 161 111 bk_161_111 112 = true := by decide +kernel
-- method 162: KeySealerModel.mac(IIII)I, locals 5, room (5, 151)
def bk_162_0 : List mO := [(.iload_n 1, 1, 0, .null), (.iconst 1, 0, 0, .int 1), (.if_icmp .eq 8, 10, 0, .null)]
set_option maxRecDepth 100000 in
theorem cb_162_0 : mChk 162 0 bk_162_0 5 = true := by decide +kernel
def bk_162_5 : List mO := [(.iload_n 1, 1, 0, .null), (.iconst 3, 0, 0, .int 3), (.if_icmp .ne 13, 20, 0, .null)]
set_option maxRecDepth 100000 in
theorem cb_162_5 : mChk 162 5 bk_162_5 10 = true := by decide +kernel
def bk_162_10 : List mO := [(.iload_n 2, 2, 0, .null), (.iload_n 3, 3, 0, .null), (.iload 4, 4, 0, .null), (.invokestatic 253, 138, 3, .null), (.ifCond .ne 6, 23, 0, .null)]
set_option maxRecDepth 100000 in
theorem cb_162_10 : mChk 162 10 bk_162_10 20 = true := by decide +kernel
def bk_162_20 : List mO := [(.bipush (-2), 0, 0, .int (-2)), (.ireturn, 0, 0, .int 0)]
set_option maxRecDepth 100000 in
theorem cb_162_20 : mChk 162 20 bk_162_20 23 = true := by decide +kernel
def bk_162_23 : List mO := [(.aload_n 0, 0, 0, .null), (.iload_n 1, 1, 0, .null), (.aload_n 0, 0, 0, .null), (.getfield 7, 9, 0, .null), (.sipush 300, 0, 0, .int 300), (.iload_n 3, 3, 0, .null), (.imul, 0, 0, .null), (.aload_n 0, 0, 0, .null), (.getfield 13, 9, 1, .null), (.iload_n 3, 3, 0, .null), (.iaload, 0, 0, .null), (.invokevirtual 257, 159, 4, .ref 9), (.aload_n 0, 0, 0, .null), (.iconst 0, 0, 0, .int 0), (.putfield 234, 9, 11, .int 0), (.aload_n 0, 0, 0, .null), (.iload 4, 4, 0, .null), (.invokevirtual 261, 158, 1, .ref 9), (.aload_n 0, 0, 0, .null), (.iload_n 1, 1, 0, .null), (.invokevirtual 250, 160, 1, .ref 9), (.aload_n 0, 0, 0, .null), (.iload_n 2, 2, 0, .null), (.iload_n 1, 1, 0, .null), (.invokestatic 227, 147, 1, .null), (.invokevirtual 231, 154, 2, .ref 9), (.iload_n 1, 1, 0, .null), (.invokestatic 227, 147, 1, .null), (.ireturn, 0, 0, .int 0)]
set_option maxRecDepth 100000 in
theorem cb_162_23 : mChk 162 23 bk_162_23 73 = true := by decide +kernel
-- method 163: KeySealerModel.aboutIsBuilt()V, locals 2, room (0, 0)
def bk_163_0 : List mO := [(.iconst 0, 0, 0, .int 0), (.istore_n 1, 1, 0, .null)]
set_option maxRecDepth 100000 in
theorem cb_163_0 : mChk 163 0 bk_163_0 2 = true := by decide +kernel
def bk_163_2 : List mO := [(.iload_n 1, 1, 0, .null), (.aload_n 0, 0, 0, .null), (.getfield 234, 9, 11, .null), (.if_icmp .ge 21, 28, 0, .null)]
set_option maxRecDepth 100000 in
theorem cb_163_2 : mChk 163 2 bk_163_2 10 = true := by decide +kernel
def bk_163_10 : List mO := [(.aload_n 0, 0, 0, .null), (.getfield 38, 9, 12, .null), (.iload_n 1, 1, 0, .null), (.aload_n 0, 0, 0, .null), (.getfield 35, 9, 10, .null), (.iload_n 1, 1, 0, .null), (.iaload, 0, 0, .null), (.iastore, 0, 0, .null), (.iinc 1 1, 1, 0, .int 1), (.goto (-23), 2, 0, .null)]
set_option maxRecDepth 100000 in
theorem cb_163_10 : mChk 163 10 bk_163_10 28 = true := by decide +kernel
def bk_163_28 : List mO := [(.aload_n 0, 0, 0, .null), (.aload_n 0, 0, 0, .null), (.getfield 234, 9, 11, .null), (.putfield 247, 9, 13, .int 0), (.return_, 0, 0, .null)]
set_option maxRecDepth 100000 in
theorem cb_163_28 : mChk 163 28 bk_163_28 37 = true := by decide +kernel
-- method 164: KeySealerModel.expand(IIIII)I, locals 6, room (6, 174)
def bk_164_0 : List mO := [(.iload_n 1, 1, 0, .null), (.iconst 1, 0, 0, .int 1), (.if_icmp .eq 8, 10, 0, .null)]
set_option maxRecDepth 100000 in
theorem cb_164_0 : mChk 164 0 bk_164_0 5 = true := by decide +kernel
def bk_164_5 : List mO := [(.iload_n 1, 1, 0, .null), (.iconst 3, 0, 0, .int 3), (.if_icmp .ne 26, 33, 0, .null)]
set_option maxRecDepth 100000 in
theorem cb_164_5 : mChk 164 5 bk_164_5 10 = true := by decide +kernel
def bk_164_10 : List mO := [(.iload_n 2, 2, 0, .null), (.iload_n 3, 3, 0, .null), (.iload 4, 4, 0, .null), (.invokestatic 253, 138, 3, .null), (.ifCond .eq 16, 33, 0, .null)]
set_option maxRecDepth 100000 in
theorem cb_164_10 : mChk 164 10 bk_164_10 20 = true := by decide +kernel
def bk_164_20 : List mO := [(.iload 5, 5, 0, .null), (.ifCond .lt 11, 33, 0, .null)]
set_option maxRecDepth 100000 in
theorem cb_164_20 : mChk 164 20 bk_164_20 25 = true := by decide +kernel
def bk_164_25 : List mO := [(.iload 5, 5, 0, .null), (.sipush 300, 0, 0, .int 300), (.if_icmp .le 6, 36, 0, .null)]
set_option maxRecDepth 100000 in
theorem cb_164_25 : mChk 164 25 bk_164_25 33 = true := by decide +kernel
def bk_164_33 : List mO := [(.bipush (-2), 0, 0, .int (-2)), (.ireturn, 0, 0, .int 0)]
set_option maxRecDepth 100000 in
theorem cb_164_33 : mChk 164 33 bk_164_33 36 = true := by decide +kernel
def bk_164_36 : List mO := [(.aload_n 0, 0, 0, .null), (.iconst 0, 0, 0, .int 0), (.putfield 234, 9, 11, .int 0), (.aload_n 0, 0, 0, .null), (.iload 4, 4, 0, .null), (.invokevirtual 261, 158, 1, .ref 9), (.aload_n 0, 0, 0, .null), (.invokevirtual 264, 163, 0, .ref 9), (.aload_n 0, 0, 0, .null), (.iload_n 1, 1, 0, .null), (.aload_n 0, 0, 0, .null), (.getfield 7, 9, 0, .null), (.sipush 300, 0, 0, .int 300), (.iload_n 3, 3, 0, .null), (.imul, 0, 0, .null), (.aload_n 0, 0, 0, .null), (.getfield 13, 9, 1, .null), (.iload_n 3, 3, 0, .null), (.iaload, 0, 0, .null), (.invokevirtual 257, 159, 4, .ref 9), (.aload_n 0, 0, 0, .null), (.iload_n 1, 1, 0, .null), (.iload 5, 5, 0, .null), (.invokevirtual 267, 161, 2, .ref 9), (.aload_n 0, 0, 0, .null), (.iload_n 2, 2, 0, .null), (.iload 5, 5, 0, .null), (.invokevirtual 190, 146, 2, .ref 9), (.iload 5, 5, 0, .null), (.ireturn, 0, 0, .int 0)]
set_option maxRecDepth 100000 in
theorem cb_164_36 : mChk 164 36 bk_164_36 88 = true := by decide +kernel
-- method 165: KeySealerModel.carry([J)V, locals 4, room (0, 0)
def bk_165_0 : List mO := [(.iconst 0, 0, 0, .int 0), (.istore_n 1, 1, 0, .null)]
set_option maxRecDepth 100000 in
theorem cb_165_0 : mChk 165 0 bk_165_0 2 = true := by decide +kernel
def bk_165_2 : List mO := [(.iload_n 1, 1, 0, .null), (.bipush 16, 0, 0, .int 16), (.if_icmp .ge 55, 60, 0, .null)]
set_option maxRecDepth 100000 in
theorem cb_165_2 : mChk 165 2 bk_165_2 8 = true := by decide +kernel
def bk_165_8 : List mO := [(.aload_n 0, 0, 0, .null), (.iload_n 1, 1, 0, .null), (.laload, 0, 0, .null), (.bipush 16, 0, 0, .int 16), (.lshr, 0, 0, .null), (.lstore_n 2, 2, 0, .null), (.aload_n 0, 0, 0, .null), (.iload_n 1, 1, 0, .null), (.dup2, 0, 0, .null), (.laload, 0, 0, .null), (.lload_n 2, 2, 0, .null), (.bipush 16, 0, 0, .int 16), (.lshl, 0, 0, .null), (.lsub, 0, 0, .null), (.lastore, 0, 0, .null), (.iload_n 1, 1, 0, .null), (.bipush 15, 0, 0, .int 15), (.if_icmp .ge 15, 43, 0, .null)]
set_option maxRecDepth 100000 in
theorem cb_165_8 : mChk 165 8 bk_165_8 31 = true := by decide +kernel
def bk_165_31 : List mO := [(.aload_n 0, 0, 0, .null), (.iload_n 1, 1, 0, .null), (.iconst 1, 0, 0, .int 1), (.iadd, 0, 0, .null), (.dup2, 0, 0, .null), (.laload, 0, 0, .null), (.lload_n 2, 2, 0, .null), (.ladd, 0, 0, .null), (.lastore, 0, 0, .null), (.goto 14, 54, 0, .null)]
set_option maxRecDepth 100000 in
theorem cb_165_31 : mChk 165 31 bk_165_31 43 = true := by decide +kernel
def bk_165_43 : List mO := [(.aload_n 0, 0, 0, .null), (.iconst 0, 0, 0, .int 0), (.dup2, 0, 0, .null), (.laload, 0, 0, .null), (.ldc2_w 270, 0, 0, .long 38), (.lload_n 2, 2, 0, .null), (.lmul, 0, 0, .null), (.ladd, 0, 0, .null), (.lastore, 0, 0, .null)]
set_option maxRecDepth 100000 in
theorem cb_165_43 : mChk 165 43 bk_165_43 54 = true := by decide +kernel
def bk_165_54 : List mO := [(.iinc 1 1, 1, 0, .int 1), (.goto (-55), 2, 0, .null)]
set_option maxRecDepth 100000 in
theorem cb_165_54 : mChk 165 54 bk_165_54 60 = true := by decide +kernel
def bk_165_60 : List mO := [(.return_, 0, 0, .null)]
set_option maxRecDepth 100000 in
theorem cb_165_60 : mChk 165 60 bk_165_60 61 = true := by decide +kernel
-- method 166: KeySealerModel.plus([J[J[J)V, locals 4, room (0, 0)
def bk_166_0 : List mO := [(.iconst 0, 0, 0, .int 0), (.istore_n 3, 3, 0, .null)]
set_option maxRecDepth 100000 in
theorem cb_166_0 : mChk 166 0 bk_166_0 2 = true := by decide +kernel
def bk_166_2 : List mO := [(.iload_n 3, 3, 0, .null), (.bipush 16, 0, 0, .int 16), (.if_icmp .ge 19, 24, 0, .null)]
set_option maxRecDepth 100000 in
theorem cb_166_2 : mChk 166 2 bk_166_2 8 = true := by decide +kernel
def bk_166_8 : List mO := [(.aload_n 0, 0, 0, .null), (.iload_n 3, 3, 0, .null), (.aload_n 1, 1, 0, .null), (.iload_n 3, 3, 0, .null), (.laload, 0, 0, .null), (.aload_n 2, 2, 0, .null), (.iload_n 3, 3, 0, .null), (.laload, 0, 0, .null), (.ladd, 0, 0, .null), (.lastore, 0, 0, .null), (.iinc 3 1, 3, 0, .int 1), (.goto (-19), 2, 0, .null)]
set_option maxRecDepth 100000 in
theorem cb_166_8 : mChk 166 8 bk_166_8 24 = true := by decide +kernel
def bk_166_24 : List mO := [(.return_, 0, 0, .null)]
set_option maxRecDepth 100000 in
theorem cb_166_24 : mChk 166 24 bk_166_24 25 = true := by decide +kernel
-- method 167: KeySealerModel.minus([J[J[J)V, locals 4, room (0, 0)
def bk_167_0 : List mO := [(.iconst 0, 0, 0, .int 0), (.istore_n 3, 3, 0, .null)]
set_option maxRecDepth 100000 in
theorem cb_167_0 : mChk 167 0 bk_167_0 2 = true := by decide +kernel
def bk_167_2 : List mO := [(.iload_n 3, 3, 0, .null), (.bipush 16, 0, 0, .int 16), (.if_icmp .ge 19, 24, 0, .null)]
set_option maxRecDepth 100000 in
theorem cb_167_2 : mChk 167 2 bk_167_2 8 = true := by decide +kernel
def bk_167_8 : List mO := [(.aload_n 0, 0, 0, .null), (.iload_n 3, 3, 0, .null), (.aload_n 1, 1, 0, .null), (.iload_n 3, 3, 0, .null), (.laload, 0, 0, .null), (.aload_n 2, 2, 0, .null), (.iload_n 3, 3, 0, .null), (.laload, 0, 0, .null), (.lsub, 0, 0, .null), (.lastore, 0, 0, .null), (.iinc 3 1, 3, 0, .int 1), (.goto (-19), 2, 0, .null)]
set_option maxRecDepth 100000 in
theorem cb_167_8 : mChk 167 8 bk_167_8 24 = true := by decide +kernel
def bk_167_24 : List mO := [(.return_, 0, 0, .null)]
set_option maxRecDepth 100000 in
theorem cb_167_24 : mChk 167 24 bk_167_24 25 = true := by decide +kernel
-- method 168: KeySealerModel.times([J[J[J)V, locals 6, room (1, 23)
def bk_168_0 : List mO := [(.iconst 0, 0, 0, .int 0), (.istore 4, 4, 0, .null)]
set_option maxRecDepth 100000 in
theorem cb_168_0 : mChk 168 0 bk_168_0 3 = true := by decide +kernel
def bk_168_3 : List mO := [(.iload 4, 4, 0, .null), (.bipush 31, 0, 0, .int 31), (.if_icmp .ge 17, 24, 0, .null)]
set_option maxRecDepth 100000 in
theorem cb_168_3 : mChk 168 3 bk_168_3 10 = true := by decide +kernel
def bk_168_10 : List mO := [(.aload_n 0, 0, 0, .null), (.getfield 74, 9, 25, .null), (.iload 4, 4, 0, .null), (.lconst 0, 0, 0, .long 0), (.lastore, 0, 0, .null), (.iinc 4 1, 4, 0, .int 1), (.goto (-18), 3, 0, .null)]
set_option maxRecDepth 100000 in
theorem cb_168_10 : mChk 168 10 bk_168_10 24 = true := by decide +kernel
def bk_168_24 : List mO := [(.iconst 0, 0, 0, .int 0), (.istore 4, 4, 0, .null)]
set_option maxRecDepth 100000 in
theorem cb_168_24 : mChk 168 24 bk_168_24 27 = true := by decide +kernel
def bk_168_27 : List mO := [(.iload 4, 4, 0, .null), (.bipush 16, 0, 0, .int 16), (.if_icmp .ge 47, 78, 0, .null)]
set_option maxRecDepth 100000 in
theorem cb_168_27 : mChk 168 27 bk_168_27 34 = true := by decide +kernel
def bk_168_34 : List mO := [(.iconst 0, 0, 0, .int 0), (.istore 5, 5, 0, .null)]
set_option maxRecDepth 100000 in
theorem cb_168_34 : mChk 168 34 bk_168_34 37 = true := by decide +kernel
def bk_168_37 : List mO := [(.iload 5, 5, 0, .null), (.bipush 16, 0, 0, .int 16), (.if_icmp .ge 31, 72, 0, .null)]
set_option maxRecDepth 100000 in
theorem cb_168_37 : mChk 168 37 bk_168_37 44 = true := by decide +kernel
def bk_168_44 : List mO := [(.aload_n 0, 0, 0, .null), (.getfield 74, 9, 25, .null), (.iload 4, 4, 0, .null), (.iload 5, 5, 0, .null), (.iadd, 0, 0, .null), (.dup2, 0, 0, .null), (.laload, 0, 0, .null), (.aload_n 2, 2, 0, .null), (.iload 4, 4, 0, .null), (.laload, 0, 0, .null), (.aload_n 3, 3, 0, .null), (.iload 5, 5, 0, .null), (.laload, 0, 0, .null), (.lmul, 0, 0, .null), (.ladd, 0, 0, .null), (.lastore, 0, 0, .null), (.iinc 5 1, 5, 0, .int 1), (.goto (-32), 37, 0, .null)]
set_option maxRecDepth 100000 in
theorem cb_168_44 : mChk 168 44 bk_168_44 72 = true := by decide +kernel
def bk_168_72 : List mO := [(.iinc 4 1, 4, 0, .int 1), (.goto (-48), 27, 0, .null)]
set_option maxRecDepth 100000 in
theorem cb_168_72 : mChk 168 72 bk_168_72 78 = true := by decide +kernel
def bk_168_78 : List mO := [(.iconst 0, 0, 0, .int 0), (.istore 4, 4, 0, .null)]
set_option maxRecDepth 100000 in
theorem cb_168_78 : mChk 168 78 bk_168_78 81 = true := by decide +kernel
def bk_168_81 : List mO := [(.iload 4, 4, 0, .null), (.bipush 16, 0, 0, .int 16), (.if_icmp .ge 46, 131, 0, .null)]
set_option maxRecDepth 100000 in
theorem cb_168_81 : mChk 168 81 bk_168_81 88 = true := by decide +kernel
def bk_168_88 : List mO := [(.aload_n 1, 1, 0, .null), (.iload 4, 4, 0, .null), (.aload_n 0, 0, 0, .null), (.getfield 74, 9, 25, .null), (.iload 4, 4, 0, .null), (.laload, 0, 0, .null), (.iload 4, 4, 0, .null), (.bipush 15, 0, 0, .int 15), (.if_icmp .ge 20, 122, 0, .null)]
set_option maxRecDepth 100000 in
theorem cb_168_88 : mChk 168 88 bk_168_88 105 = true := by decide +kernel
def bk_168_105 : List mO := [(.ldc2_w 270, 0, 0, .long 38), (.aload_n 0, 0, 0, .null), (.getfield 74, 9, 25, .null), (.iload 4, 4, 0, .null), (.bipush 16, 0, 0, .int 16), (.iadd, 0, 0, .null), (.laload, 0, 0, .null), (.lmul, 0, 0, .null), (.goto 4, 123, 0, .null)]
set_option maxRecDepth 100000 in
theorem cb_168_105 : mChk 168 105 bk_168_105 122 = true := by decide +kernel
def bk_168_122 : List mO := [(.lconst 0, 0, 0, .long 0)]
set_option maxRecDepth 100000 in
theorem cb_168_122 : mChk 168 122 bk_168_122 123 = true := by decide +kernel
def bk_168_123 : List mO := [(.ladd, 0, 0, .null), (.lastore, 0, 0, .null), (.iinc 4 1, 4, 0, .int 1), (.goto (-47), 81, 0, .null)]
set_option maxRecDepth 100000 in
theorem cb_168_123 : mChk 168 123 bk_168_123 131 = true := by decide +kernel
def bk_168_131 : List mO := [(.aload_n 1, 1, 0, .null), (.invokestatic 272, 165, 1, .null), (.aload_n 1, 1, 0, .null), (.invokestatic 272, 165, 1, .null), (.return_, 0, 0, .null)]
set_option maxRecDepth 100000 in
theorem cb_168_131 : mChk 168 131 bk_168_131 140 = true := by decide +kernel
-- method 169: KeySealerModel.is([J[J)V, locals 3, room (0, 0)
def bk_169_0 : List mO := [(.iconst 0, 0, 0, .int 0), (.istore_n 2, 2, 0, .null)]
set_option maxRecDepth 100000 in
theorem cb_169_0 : mChk 169 0 bk_169_0 2 = true := by decide +kernel
def bk_169_2 : List mO := [(.iload_n 2, 2, 0, .null), (.bipush 16, 0, 0, .int 16), (.if_icmp .ge 15, 20, 0, .null)]
set_option maxRecDepth 100000 in
theorem cb_169_2 : mChk 169 2 bk_169_2 8 = true := by decide +kernel
def bk_169_8 : List mO := [(.aload_n 0, 0, 0, .null), (.iload_n 2, 2, 0, .null), (.aload_n 1, 1, 0, .null), (.iload_n 2, 2, 0, .null), (.laload, 0, 0, .null), (.lastore, 0, 0, .null), (.iinc 2 1, 2, 0, .int 1), (.goto (-15), 2, 0, .null)]
set_option maxRecDepth 100000 in
theorem cb_169_8 : mChk 169 8 bk_169_8 20 = true := by decide +kernel
def bk_169_20 : List mO := [(.return_, 0, 0, .null)]
set_option maxRecDepth 100000 in
theorem cb_169_20 : mChk 169 20 bk_169_20 21 = true := by decide +kernel
-- method 170: KeySealerModel.isNumber([JJ)V, locals 4, room (0, 0)
def bk_170_0 : List mO := [(.iconst 0, 0, 0, .int 0), (.istore_n 3, 3, 0, .null)]
set_option maxRecDepth 100000 in
theorem cb_170_0 : mChk 170 0 bk_170_0 2 = true := by decide +kernel
def bk_170_2 : List mO := [(.iload_n 3, 3, 0, .null), (.bipush 16, 0, 0, .int 16), (.if_icmp .ge 21, 26, 0, .null)]
set_option maxRecDepth 100000 in
theorem cb_170_2 : mChk 170 2 bk_170_2 8 = true := by decide +kernel
def bk_170_8 : List mO := [(.aload_n 0, 0, 0, .null), (.iload_n 3, 3, 0, .null), (.iload_n 3, 3, 0, .null), (.ifCond .ne 7, 18, 0, .null)]
set_option maxRecDepth 100000 in
theorem cb_170_8 : mChk 170 8 bk_170_8 14 = true := by decide +kernel
def bk_170_14 : List mO := [(.lload_n 1, 1, 0, .null), (.goto 4, 19, 0, .null)]
set_option maxRecDepth 100000 in
theorem cb_170_14 : mChk 170 14 bk_170_14 18 = true := by decide +kernel
def bk_170_18 : List mO := [(.lconst 0, 0, 0, .long 0)]
set_option maxRecDepth 100000 in
theorem cb_170_18 : mChk 170 18 bk_170_18 19 = true := by decide +kernel
def bk_170_19 : List mO := [(.lastore, 0, 0, .null), (.iinc 3 1, 3, 0, .int 1), (.goto (-21), 2, 0, .null)]
set_option maxRecDepth 100000 in
theorem cb_170_19 : mChk 170 19 bk_170_19 26 = true := by decide +kernel
def bk_170_26 : List mO := [(.return_, 0, 0, .null)]
set_option maxRecDepth 100000 in
theorem cb_170_26 : mChk 170 26 bk_170_26 27 = true := by decide +kernel
-- method 171: KeySealerModel.swap([J[J)V, locals 5, room (0, 0)
def bk_171_0 : List mO := [(.iconst 0, 0, 0, .int 0), (.istore_n 2, 2, 0, .null)]
set_option maxRecDepth 100000 in
theorem cb_171_0 : mChk 171 0 bk_171_0 2 = true := by decide +kernel
def bk_171_2 : List mO := [(.iload_n 2, 2, 0, .null), (.bipush 16, 0, 0, .int 16), (.if_icmp .ge 23, 28, 0, .null)]
set_option maxRecDepth 100000 in
theorem cb_171_2 : mChk 171 2 bk_171_2 8 = true := by decide +kernel
def bk_171_8 : List mO := [(.aload_n 0, 0, 0, .null), (.iload_n 2, 2, 0, .null), (.laload, 0, 0, .null), (.lstore_n 3, 3, 0, .null), (.aload_n 0, 0, 0, .null), (.iload_n 2, 2, 0, .null), (.aload_n 1, 1, 0, .null), (.iload_n 2, 2, 0, .null), (.laload, 0, 0, .null), (.lastore, 0, 0, .null), (.aload_n 1, 1, 0, .null), (.iload_n 2, 2, 0, .null), (.lload_n 3, 3, 0, .null), (.lastore, 0, 0, .null), (.iinc 2 1, 2, 0, .int 1), (.goto (-23), 2, 0, .null)]
set_option maxRecDepth 100000 in
theorem cb_171_8 : mChk 171 8 bk_171_8 28 = true := by decide +kernel
def bk_171_28 : List mO := [(.return_, 0, 0, .null)]
set_option maxRecDepth 100000 in
theorem cb_171_28 : mChk 171 28 bk_171_28 29 = true := by decide +kernel
-- method 172: KeySealerModel.invert()V, locals 2, room (2, 48)
def bk_172_0 : List mO := [(.aload_n 0, 0, 0, .null), (.getfield 56, 9, 19, .null), (.aload_n 0, 0, 0, .null), (.getfield 47, 9, 16, .null), (.invokestatic 276, 169, 2, .null), (.sipush 253, 0, 0, .int 253), (.istore_n 1, 1, 0, .null)]
set_option maxRecDepth 100000 in
theorem cb_172_0 : mChk 172 0 bk_172_0 15 = true := by decide +kernel
def bk_172_15 : List mO := [(.iload_n 1, 1, 0, .null), (.ifCond .lt 51, 67, 0, .null)]
set_option maxRecDepth 100000 in
theorem cb_172_15 : mChk 172 15 bk_172_15 19 = true := by decide +kernel
def bk_172_19 : List mO := [(.aload_n 0, 0, 0, .null), (.aload_n 0, 0, 0, .null), (.getfield 56, 9, 19, .null), (.aload_n 0, 0, 0, .null), (.getfield 56, 9, 19, .null), (.aload_n 0, 0, 0, .null), (.getfield 56, 9, 19, .null), (.invokevirtual 280, 168, 3, .ref 9), (.iload_n 1, 1, 0, .null), (.iconst 2, 0, 0, .int 2), (.if_icmp .eq 24, 61, 0, .null)]
set_option maxRecDepth 100000 in
theorem cb_172_19 : mChk 172 19 bk_172_19 40 = true := by decide +kernel
def bk_172_40 : List mO := [(.iload_n 1, 1, 0, .null), (.iconst 4, 0, 0, .int 4), (.if_icmp .eq 19, 61, 0, .null)]
set_option maxRecDepth 100000 in
theorem cb_172_40 : mChk 172 40 bk_172_40 45 = true := by decide +kernel
def bk_172_45 : List mO := [(.aload_n 0, 0, 0, .null), (.aload_n 0, 0, 0, .null), (.getfield 56, 9, 19, .null), (.aload_n 0, 0, 0, .null), (.getfield 56, 9, 19, .null), (.aload_n 0, 0, 0, .null), (.getfield 47, 9, 16, .null), (.invokevirtual 280, 168, 3, .ref 9)]
set_option maxRecDepth 100000 in
theorem cb_172_45 : mChk 172 45 bk_172_45 61 = true := by decide +kernel
def bk_172_61 : List mO := [(.iinc 1 (-1), 1, 0, .int (-1)), (.goto (-49), 15, 0, .null)]
set_option maxRecDepth 100000 in
theorem cb_172_61 : mChk 172 61 bk_172_61 67 = true := by decide +kernel
def bk_172_67 : List mO := [(.aload_n 0, 0, 0, .null), (.getfield 47, 9, 16, .null), (.aload_n 0, 0, 0, .null), (.getfield 56, 9, 19, .null), (.invokestatic 276, 169, 2, .null), (.return_, 0, 0, .null)]
set_option maxRecDepth 100000 in
theorem cb_172_67 : mChk 172 67 bk_172_67 79 = true := by decide +kernel
-- method 173: KeySealerModel.agreed()V, locals 3, room (3, 69)
def bk_173_0 : List mO := [(.iconst 0, 0, 0, .int 0), (.istore_n 1, 1, 0, .null)]
set_option maxRecDepth 100000 in
theorem cb_173_0 : mChk 173 0 bk_173_0 2 = true := by decide +kernel
def bk_173_2 : List mO := [(.iload_n 1, 1, 0, .null), (.bipush 16, 0, 0, .int 16), (.if_icmp .ge 57, 62, 0, .null)]
set_option maxRecDepth 100000 in
theorem cb_173_2 : mChk 173 2 bk_173_2 8 = true := by decide +kernel
def bk_173_8 : List mO := [(.aload_n 0, 0, 0, .null), (.getfield 41, 9, 14, .null), (.iload_n 1, 1, 0, .null), (.aload_n 0, 0, 0, .null), (.getfield 85, 9, 28, .null), (.iconst 2, 0, 0, .int 2), (.iload_n 1, 1, 0, .null), (.imul, 0, 0, .null), (.iaload, 0, 0, .null), (.iload_n 1, 1, 0, .null), (.bipush 15, 0, 0, .int 15), (.if_icmp .ne 16, 40, 0, .null)]
set_option maxRecDepth 100000 in
theorem cb_173_8 : mChk 173 8 bk_173_8 27 = true := by decide +kernel
def bk_173_27 : List mO := [(.aload_n 0, 0, 0, .null), (.getfield 85, 9, 28, .null), (.bipush 31, 0, 0, .int 31), (.iaload, 0, 0, .null), (.bipush 127, 0, 0, .int 127), (.iand, 0, 0, .null), (.goto 13, 50, 0, .null)]
set_option maxRecDepth 100000 in
theorem cb_173_27 : mChk 173 27 bk_173_27 40 = true := by decide +kernel
def bk_173_40 : List mO := [(.aload_n 0, 0, 0, .null), (.getfield 85, 9, 28, .null), (.iconst 2, 0, 0, .int 2), (.iload_n 1, 1, 0, .null), (.imul, 0, 0, .null), (.iconst 1, 0, 0, .int 1), (.iadd, 0, 0, .null), (.iaload, 0, 0, .null)]
set_option maxRecDepth 100000 in
theorem cb_173_40 : mChk 173 40 bk_173_40 50 = true := by decide +kernel
def bk_173_50 : List mO := [(.bipush 8, 0, 0, .int 8), (.ishl, 0, 0, .null), (.ior, 0, 0, .null), (.i2l, 0, 0, .null), (.lastore, 0, 0, .null), (.iinc 1 1, 1, 0, .int 1), (.goto (-57), 2, 0, .null)]
set_option maxRecDepth 100000 in
theorem cb_173_50 : mChk 173 50 bk_173_50 62 = true := by decide +kernel
def bk_173_62 : List mO := [(.aload_n 0, 0, 0, .null), (.getfield 44, 9, 15, .null), (.lconst 1, 0, 0, .long 1), (.invokestatic 284, 170, 2, .null), (.aload_n 0, 0, 0, .null), (.getfield 47, 9, 16, .null), (.lconst 0, 0, 0, .long 0), (.invokestatic 284, 170, 2, .null), (.aload_n 0, 0, 0, .null), (.getfield 50, 9, 17, .null), (.aload_n 0, 0, 0, .null), (.getfield 41, 9, 14, .null), (.invokestatic 276, 169, 2, .null), (.aload_n 0, 0, 0, .null), (.getfield 53, 9, 18, .null), (.lconst 1, 0, 0, .long 1), (.invokestatic 284, 170, 2, .null), (.sipush 254, 0, 0, .int 254), (.istore_n 1, 1, 0, .null)]
set_option maxRecDepth 100000 in
theorem cb_173_62 : mChk 173 62 bk_173_62 101 = true := by decide +kernel
def bk_173_101 : List mO := [(.iload_n 1, 1, 0, .null), (.ifCond .lt 380, 482, 0, .null)]
set_option maxRecDepth 100000 in
theorem cb_173_101 : mChk 173 101 bk_173_101 105 = true := by decide +kernel
def bk_173_105 : List mO := [(.iload_n 1, 1, 0, .null), (.iconst 3, 0, 0, .int 3), (.if_icmp .ge 7, 114, 0, .null)]
set_option maxRecDepth 100000 in
theorem cb_173_105 : mChk 173 105 bk_173_105 110 = true := by decide +kernel
def bk_173_110 : List mO := [(.iconst 0, 0, 0, .int 0), (.goto 30, 141, 0, .null)]
set_option maxRecDepth 100000 in
theorem cb_173_110 : mChk 173 110 bk_173_110 114 = true := by decide +kernel
def bk_173_114 : List mO := [(.iload_n 1, 1, 0, .null), (.sipush 254, 0, 0, .int 254), (.if_icmp .ne 7, 125, 0, .null)]
set_option maxRecDepth 100000 in
theorem cb_173_114 : mChk 173 114 bk_173_114 121 = true := by decide +kernel
def bk_173_121 : List mO := [(.iconst 1, 0, 0, .int 1), (.goto 19, 141, 0, .null)]
set_option maxRecDepth 100000 in
theorem cb_173_121 : mChk 173 121 bk_173_121 125 = true := by decide +kernel
def bk_173_125 : List mO := [(.aload_n 0, 0, 0, .null), (.getfield 82, 9, 27, .null), (.iload_n 1, 1, 0, .null), (.bipush 8, 0, 0, .int 8), (.idiv, 0, 0, .null), (.iaload, 0, 0, .null), (.iload_n 1, 1, 0, .null), (.bipush 8, 0, 0, .int 8), (.irem, 0, 0, .null), (.ishr, 0, 0, .null), (.iconst 1, 0, 0, .int 1), (.iand, 0, 0, .null)]
set_option maxRecDepth 100000 in
theorem cb_173_125 : mChk 173 125 bk_173_125 141 = true := by decide +kernel
def bk_173_141 : List mO := [(.istore_n 2, 2, 0, .null), (.iload_n 2, 2, 0, .null), (.iconst 1, 0, 0, .int 1), (.if_icmp .ne 25, 169, 0, .null)]
set_option maxRecDepth 100000 in
theorem cb_173_141 : mChk 173 141 bk_173_141 147 = true := by decide +kernel
def bk_173_147 : List mO := [(.aload_n 0, 0, 0, .null), (.getfield 44, 9, 15, .null), (.aload_n 0, 0, 0, .null), (.getfield 50, 9, 17, .null), (.invokestatic 288, 171, 2, .null), (.aload_n 0, 0, 0, .null), (.getfield 47, 9, 16, .null), (.aload_n 0, 0, 0, .null), (.getfield 53, 9, 18, .null), (.invokestatic 288, 171, 2, .null)]
set_option maxRecDepth 100000 in
theorem cb_173_147 : mChk 173 147 bk_173_147 169 = true := by decide +kernel
def bk_173_169 : List mO := [(.aload_n 0, 0, 0, .null), (.getfield 56, 9, 19, .null), (.aload_n 0, 0, 0, .null), (.getfield 44, 9, 15, .null), (.aload_n 0, 0, 0, .null), (.getfield 47, 9, 16, .null), (.invokestatic 291, 166, 3, .null), (.aload_n 0, 0, 0, .null), (.getfield 59, 9, 20, .null), (.aload_n 0, 0, 0, .null), (.getfield 44, 9, 15, .null), (.aload_n 0, 0, 0, .null), (.getfield 47, 9, 16, .null), (.invokestatic 294, 167, 3, .null), (.aload_n 0, 0, 0, .null), (.getfield 62, 9, 21, .null), (.aload_n 0, 0, 0, .null), (.getfield 50, 9, 17, .null), (.aload_n 0, 0, 0, .null), (.getfield 53, 9, 18, .null), (.invokestatic 291, 166, 3, .null), (.aload_n 0, 0, 0, .null), (.getfield 65, 9, 22, .null), (.aload_n 0, 0, 0, .null), (.getfield 50, 9, 17, .null), (.aload_n 0, 0, 0, .null), (.getfield 53, 9, 18, .null), (.invokestatic 294, 167, 3, .null), (.aload_n 0, 0, 0, .null), (.aload_n 0, 0, 0, .null), (.getfield 68, 9, 23, .null), (.aload_n 0, 0, 0, .null), (.getfield 65, 9, 22, .null), (.aload_n 0, 0, 0, .null), (.getfield 56, 9, 19, .null), (.invokevirtual 280, 168, 3, .ref 9), (.aload_n 0, 0, 0, .null), (.aload_n 0, 0, 0, .null), (.getfield 71, 9, 24, .null), (.aload_n 0, 0, 0, .null), (.getfield 62, 9, 21, .null), (.aload_n 0, 0, 0, .null), (.getfield 59, 9, 20, .null), (.invokevirtual 280, 168, 3, .ref 9), (.aload_n 0, 0, 0, .null), (.getfield 50, 9, 17, .null), (.aload_n 0, 0, 0, .null), (.getfield 68, 9, 23, .null), (.aload_n 0, 0, 0, .null), (.getfield 71, 9, 24, .null), (.invokestatic 291, 166, 3, .null), (.aload_n 0, 0, 0, .null), (.aload_n 0, 0, 0, .null), (.getfield 50, 9, 17, .null), (.aload_n 0, 0, 0, .null), (.getfield 50, 9, 17, .null), (.aload_n 0, 0, 0, .null), (.getfield 50, 9, 17, .null), (.invokevirtual 280, 168, 3, .ref 9), (.aload_n 0, 0, 0, .null), (.getfield 53, 9, 18, .null), (.aload_n 0, 0, 0, .null), (.getfield 68, 9, 23, .null), (.aload_n 0, 0, 0, .null), (.getfield 71, 9, 24, .null), (.invokestatic 294, 167, 3, .null), (.aload_n 0, 0, 0, .null), (.aload_n 0, 0, 0, .null), (.getfield 53, 9, 18, .null), (.aload_n 0, 0, 0, .null), (.getfield 53, 9, 18, .null), (.aload_n 0, 0, 0, .null), (.getfield 53, 9, 18, .null), (.invokevirtual 280, 168, 3, .ref 9), (.aload_n 0, 0, 0, .null), (.aload_n 0, 0, 0, .null), (.getfield 53, 9, 18, .null), (.aload_n 0, 0, 0, .null), (.getfield 53, 9, 18, .null), (.aload_n 0, 0, 0, .null), (.getfield 41, 9, 14, .null), (.invokevirtual 280, 168, 3, .ref 9), (.aload_n 0, 0, 0, .null), (.aload_n 0, 0, 0, .null), (.getfield 56, 9, 19, .null), (.aload_n 0, 0, 0, .null), (.getfield 56, 9, 19, .null), (.aload_n 0, 0, 0, .null), (.getfield 56, 9, 19, .null), (.invokevirtual 280, 168, 3, .ref 9), (.aload_n 0, 0, 0, .null), (.aload_n 0, 0, 0, .null), (.getfield 59, 9, 20, .null), (.aload_n 0, 0, 0, .null), (.getfield 59, 9, 20, .null), (.aload_n 0, 0, 0, .null), (.getfield 59, 9, 20, .null), (.invokevirtual 280, 168, 3, .ref 9), (.aload_n 0, 0, 0, .null), (.aload_n 0, 0, 0, .null), (.getfield 44, 9, 15, .null), (.aload_n 0, 0, 0, .null), (.getfield 56, 9, 19, .null), (.aload_n 0, 0, 0, .null), (.getfield 59, 9, 20, .null), (.invokevirtual 280, 168, 3, .ref 9), (.aload_n 0, 0, 0, .null), (.getfield 68, 9, 23, .null), (.aload_n 0, 0, 0, .null), (.getfield 56, 9, 19, .null), (.aload_n 0, 0, 0, .null), (.getfield 59, 9, 20, .null), (.invokestatic 294, 167, 3, .null), (.aload_n 0, 0, 0, .null), (.aload_n 0, 0, 0, .null), (.getfield 71, 9, 24, .null), (.aload_n 0, 0, 0, .null), (.getfield 68, 9, 23, .null), (.aload_n 0, 0, 0, .null), (.getfield 79, 9, 26, .null), (.invokevirtual 280, 168, 3, .ref 9), (.aload_n 0, 0, 0, .null), (.getfield 71, 9, 24, .null), (.aload_n 0, 0, 0, .null), (.getfield 71, 9, 24, .null), (.aload_n 0, 0, 0, .null), (.getfield 56, 9, 19, .null), (.invokestatic 291, 166, 3, .null), (.aload_n 0, 0, 0, .null), (.aload_n 0, 0, 0, .null), (.getfield 47, 9, 16, .null), (.aload_n 0, 0, 0, .null), (.getfield 68, 9, 23, .null), (.aload_n 0, 0, 0, .null), (.getfield 71, 9, 24, .null), (.invokevirtual 280, 168, 3, .ref 9), (.iload_n 2, 2, 0, .null), (.iconst 1, 0, 0, .int 1), (.if_icmp .ne 25, 476, 0, .null)]
set_option maxRecDepth 100000 in
theorem cb_173_169 : mChk 173 169 bk_173_169 454 = true := by decide +kernel
def bk_173_454 : List mO := [(.aload_n 0, 0, 0, .null), (.getfield 44, 9, 15, .null), (.aload_n 0, 0, 0, .null), (.getfield 50, 9, 17, .null), (.invokestatic 288, 171, 2, .null), (.aload_n 0, 0, 0, .null), (.getfield 47, 9, 16, .null), (.aload_n 0, 0, 0, .null), (.getfield 53, 9, 18, .null), (.invokestatic 288, 171, 2, .null)]
set_option maxRecDepth 100000 in
theorem cb_173_454 : mChk 173 454 bk_173_454 476 = true := by decide +kernel
def bk_173_476 : List mO := [(.iinc 1 (-1), 1, 0, .int (-1)), (.goto (-378), 101, 0, .null)]
set_option maxRecDepth 100000 in
theorem cb_173_476 : mChk 173 476 bk_173_476 482 = true := by decide +kernel
def bk_173_482 : List mO := [(.aload_n 0, 0, 0, .null), (.invokevirtual 297, 172, 0, .ref 9), (.aload_n 0, 0, 0, .null), (.aload_n 0, 0, 0, .null), (.getfield 44, 9, 15, .null), (.aload_n 0, 0, 0, .null), (.getfield 44, 9, 15, .null), (.aload_n 0, 0, 0, .null), (.getfield 47, 9, 16, .null), (.invokevirtual 280, 168, 3, .ref 9), (.aload_n 0, 0, 0, .null), (.invokevirtual 300, 174, 0, .ref 9), (.return_, 0, 0, .null)]
set_option maxRecDepth 100000 in
theorem cb_173_482 : mChk 173 482 bk_173_482 507 = true := by decide +kernel
-- method 174: KeySealerModel.pack()V, locals 3, room (1, 23)
def bk_174_0 : List mO := [(.aload_n 0, 0, 0, .null), (.getfield 44, 9, 15, .null), (.invokestatic 272, 165, 1, .null), (.aload_n 0, 0, 0, .null), (.getfield 44, 9, 15, .null), (.invokestatic 272, 165, 1, .null), (.aload_n 0, 0, 0, .null), (.getfield 44, 9, 15, .null), (.invokestatic 272, 165, 1, .null), (.iconst 0, 0, 0, .int 0), (.istore_n 1, 1, 0, .null)]
set_option maxRecDepth 100000 in
theorem cb_174_0 : mChk 174 0 bk_174_0 23 = true := by decide +kernel
def bk_174_23 : List mO := [(.iload_n 1, 1, 0, .null), (.iconst 2, 0, 0, .int 2), (.if_icmp .ge 165, 190, 0, .null)]
set_option maxRecDepth 100000 in
theorem cb_174_23 : mChk 174 23 bk_174_23 28 = true := by decide +kernel
def bk_174_28 : List mO := [(.aload_n 0, 0, 0, .null), (.getfield 56, 9, 19, .null), (.iconst 0, 0, 0, .int 0), (.aload_n 0, 0, 0, .null), (.getfield 44, 9, 15, .null), (.iconst 0, 0, 0, .int 0), (.laload, 0, 0, .null), (.ldc2_w 303, 0, 0, .long 65517), (.lsub, 0, 0, .null), (.lastore, 0, 0, .null), (.iconst 1, 0, 0, .int 1), (.istore_n 2, 2, 0, .null)]
set_option maxRecDepth 100000 in
theorem cb_174_28 : mChk 174 28 bk_174_28 46 = true := by decide +kernel
def bk_174_46 : List mO := [(.iload_n 2, 2, 0, .null), (.bipush 15, 0, 0, .int 15), (.if_icmp .ge 53, 102, 0, .null)]
set_option maxRecDepth 100000 in
theorem cb_174_46 : mChk 174 46 bk_174_46 52 = true := by decide +kernel
def bk_174_52 : List mO := [(.aload_n 0, 0, 0, .null), (.getfield 56, 9, 19, .null), (.iload_n 2, 2, 0, .null), (.aload_n 0, 0, 0, .null), (.getfield 44, 9, 15, .null), (.iload_n 2, 2, 0, .null), (.laload, 0, 0, .null), (.ldc2_w 305, 0, 0, .long 65535), (.lsub, 0, 0, .null), (.aload_n 0, 0, 0, .null), (.getfield 56, 9, 19, .null), (.iload_n 2, 2, 0, .null), (.iconst 1, 0, 0, .int 1), (.isub, 0, 0, .null), (.laload, 0, 0, .null), (.bipush 16, 0, 0, .int 16), (.lshr, 0, 0, .null), (.lconst 1, 0, 0, .long 1), (.land, 0, 0, .null), (.lsub, 0, 0, .null), (.lastore, 0, 0, .null), (.aload_n 0, 0, 0, .null), (.getfield 56, 9, 19, .null), (.iload_n 2, 2, 0, .null), (.iconst 1, 0, 0, .int 1), (.isub, 0, 0, .null), (.dup2, 0, 0, .null), (.laload, 0, 0, .null), (.ldc2_w 305, 0, 0, .long 65535), (.land, 0, 0, .null), (.lastore, 0, 0, .null), (.iinc 2 1, 2, 0, .int 1), (.goto (-53), 46, 0, .null)]
set_option maxRecDepth 100000 in
theorem cb_174_52 : mChk 174 52 bk_174_52 102 = true := by decide +kernel
def bk_174_102 : List mO := [(.aload_n 0, 0, 0, .null), (.getfield 56, 9, 19, .null), (.bipush 15, 0, 0, .int 15), (.aload_n 0, 0, 0, .null), (.getfield 44, 9, 15, .null), (.bipush 15, 0, 0, .int 15), (.laload, 0, 0, .null), (.ldc2_w 307, 0, 0, .long 32767), (.lsub, 0, 0, .null), (.aload_n 0, 0, 0, .null), (.getfield 56, 9, 19, .null), (.bipush 14, 0, 0, .int 14), (.laload, 0, 0, .null), (.bipush 16, 0, 0, .int 16), (.lshr, 0, 0, .null), (.lconst 1, 0, 0, .long 1), (.land, 0, 0, .null), (.lsub, 0, 0, .null), (.lastore, 0, 0, .null), (.aload_n 0, 0, 0, .null), (.getfield 56, 9, 19, .null), (.bipush 15, 0, 0, .int 15), (.laload, 0, 0, .null), (.bipush 16, 0, 0, .int 16), (.lshr, 0, 0, .null), (.lconst 1, 0, 0, .long 1), (.land, 0, 0, .null), (.lconst 1, 0, 0, .long 1), (.lcmp, 0, 0, .null), (.ifCond .ne 7, 154, 0, .null)]
set_option maxRecDepth 100000 in
theorem cb_174_102 : mChk 174 102 bk_174_102 150 = true := by decide +kernel
def bk_174_150 : List mO := [(.iconst 1, 0, 0, .int 1), (.goto 4, 155, 0, .null)]
set_option maxRecDepth 100000 in
theorem cb_174_150 : mChk 174 150 bk_174_150 154 = true := by decide +kernel
def bk_174_154 : List mO := [(.iconst 0, 0, 0, .int 0)]
set_option maxRecDepth 100000 in
theorem cb_174_154 : mChk 174 154 bk_174_154 155 = true := by decide +kernel
def bk_174_155 : List mO := [(.istore_n 2, 2, 0, .null), (.aload_n 0, 0, 0, .null), (.getfield 56, 9, 19, .null), (.bipush 14, 0, 0, .int 14), (.dup2, 0, 0, .null), (.laload, 0, 0, .null), (.ldc2_w 305, 0, 0, .long 65535), (.land, 0, 0, .null), (.lastore, 0, 0, .null), (.iload_n 2, 2, 0, .null), (.ifCond .ne 14, 184, 0, .null)]
set_option maxRecDepth 100000 in
theorem cb_174_155 : mChk 174 155 bk_174_155 173 = true := by decide +kernel
def bk_174_173 : List mO := [(.aload_n 0, 0, 0, .null), (.getfield 44, 9, 15, .null), (.aload_n 0, 0, 0, .null), (.getfield 56, 9, 19, .null), (.invokestatic 276, 169, 2, .null)]
set_option maxRecDepth 100000 in
theorem cb_174_173 : mChk 174 173 bk_174_173 184 = true := by decide +kernel
def bk_174_184 : List mO := [(.iinc 1 1, 1, 0, .int 1), (.goto (-164), 23, 0, .null)]
set_option maxRecDepth 100000 in
theorem cb_174_184 : mChk 174 184 bk_174_184 190 = true := by decide +kernel
def bk_174_190 : List mO := [(.iconst 0, 0, 0, .int 0), (.istore_n 1, 1, 0, .null)]
set_option maxRecDepth 100000 in
theorem cb_174_190 : mChk 174 190 bk_174_190 192 = true := by decide +kernel
def bk_174_192 : List mO := [(.iload_n 1, 1, 0, .null), (.bipush 16, 0, 0, .int 16), (.if_icmp .ge 52, 247, 0, .null)]
set_option maxRecDepth 100000 in
theorem cb_174_192 : mChk 174 192 bk_174_192 198 = true := by decide +kernel
def bk_174_198 : List mO := [(.aload_n 0, 0, 0, .null), (.getfield 88, 9, 29, .null), (.iconst 2, 0, 0, .int 2), (.iload_n 1, 1, 0, .null), (.imul, 0, 0, .null), (.aload_n 0, 0, 0, .null), (.getfield 44, 9, 15, .null), (.iload_n 1, 1, 0, .null), (.laload, 0, 0, .null), (.ldc2_w 188, 0, 0, .long 255), (.land, 0, 0, .null), (.l2i, 0, 0, .null), (.iastore, 0, 0, .null), (.aload_n 0, 0, 0, .null), (.getfield 88, 9, 29, .null), (.iconst 2, 0, 0, .int 2), (.iload_n 1, 1, 0, .null), (.imul, 0, 0, .null), (.iconst 1, 0, 0, .int 1), (.iadd, 0, 0, .null), (.aload_n 0, 0, 0, .null), (.getfield 44, 9, 15, .null), (.iload_n 1, 1, 0, .null), (.laload, 0, 0, .null), (.bipush 8, 0, 0, .int 8), (.lshr, 0, 0, .null), (.ldc2_w 188, 0, 0, .long 255), (.land, 0, 0, .null), (.l2i, 0, 0, .null), (.iastore, 0, 0, .null), (.iinc 1 1, 1, 0, .int 1), (.goto (-52), 192, 0, .null)]
set_option maxRecDepth 100000 in
theorem cb_174_198 : mChk 174 198 bk_174_198 247 = true := by decide +kernel
def bk_174_247 : List mO := [(.return_, 0, 0, .null)]
set_option maxRecDepth 100000 in
theorem cb_174_247 : mChk 174 247 bk_174_247 248 = true := by decide +kernel
-- method 175: KeySealerModel.first([II)V, locals 4, room (0, 0)
def bk_175_0 : List mO := [(.iconst 0, 0, 0, .int 0), (.istore_n 3, 3, 0, .null)]
set_option maxRecDepth 100000 in
theorem cb_175_0 : mChk 175 0 bk_175_0 2 = true := by decide +kernel
def bk_175_2 : List mO := [(.iload_n 3, 3, 0, .null), (.bipush 32, 0, 0, .int 32), (.if_icmp .ge 20, 25, 0, .null)]
set_option maxRecDepth 100000 in
theorem cb_175_2 : mChk 175 2 bk_175_2 8 = true := by decide +kernel
def bk_175_8 : List mO := [(.aload_n 0, 0, 0, .null), (.getfield 82, 9, 27, .null), (.iload_n 3, 3, 0, .null), (.aload_n 1, 1, 0, .null), (.iload_n 2, 2, 0, .null), (.iload_n 3, 3, 0, .null), (.iadd, 0, 0, .null), (.iaload, 0, 0, .null), (.iastore, 0, 0, .null), (.iinc 3 1, 3, 0, .int 1), (.goto (-20), 2, 0, .null)]
set_option maxRecDepth 100000 in
theorem cb_175_8 : mChk 175 8 bk_175_8 25 = true := by decide +kernel
def bk_175_25 : List mO := [(.return_, 0, 0, .null)]
set_option maxRecDepth 100000 in
theorem cb_175_25 : mChk 175 25 bk_175_25 26 = true := by decide +kernel
-- method 176: KeySealerModel.second([II)V, locals 4, room (0, 0)
def bk_176_0 : List mO := [(.iconst 0, 0, 0, .int 0), (.istore_n 3, 3, 0, .null)]
set_option maxRecDepth 100000 in
theorem cb_176_0 : mChk 176 0 bk_176_0 2 = true := by decide +kernel
def bk_176_2 : List mO := [(.iload_n 3, 3, 0, .null), (.bipush 32, 0, 0, .int 32), (.if_icmp .ge 20, 25, 0, .null)]
set_option maxRecDepth 100000 in
theorem cb_176_2 : mChk 176 2 bk_176_2 8 = true := by decide +kernel
def bk_176_8 : List mO := [(.aload_n 0, 0, 0, .null), (.getfield 85, 9, 28, .null), (.iload_n 3, 3, 0, .null), (.aload_n 1, 1, 0, .null), (.iload_n 2, 2, 0, .null), (.iload_n 3, 3, 0, .null), (.iadd, 0, 0, .null), (.iaload, 0, 0, .null), (.iastore, 0, 0, .null), (.iinc 3 1, 3, 0, .int 1), (.goto (-20), 2, 0, .null)]
set_option maxRecDepth 100000 in
theorem cb_176_8 : mChk 176 8 bk_176_8 25 = true := by decide +kernel
def bk_176_25 : List mO := [(.return_, 0, 0, .null)]
set_option maxRecDepth 100000 in
theorem cb_176_25 : mChk 176 25 bk_176_25 26 = true := by decide +kernel
-- method 177: KeySealerModel.publicOf()V, locals 2, room (4, 91)
def bk_177_0 : List mO := [(.iconst 0, 0, 0, .int 0), (.istore_n 1, 1, 0, .null)]
set_option maxRecDepth 100000 in
theorem cb_177_0 : mChk 177 0 bk_177_0 2 = true := by decide +kernel
def bk_177_2 : List mO := [(.iload_n 1, 1, 0, .null), (.bipush 32, 0, 0, .int 32), (.if_icmp .ge 25, 30, 0, .null)]
set_option maxRecDepth 100000 in
theorem cb_177_2 : mChk 177 2 bk_177_2 8 = true := by decide +kernel
def bk_177_8 : List mO := [(.aload_n 0, 0, 0, .null), (.getfield 85, 9, 28, .null), (.iload_n 1, 1, 0, .null), (.iload_n 1, 1, 0, .null), (.ifCond .ne 8, 22, 0, .null)]
set_option maxRecDepth 100000 in
theorem cb_177_8 : mChk 177 8 bk_177_8 17 = true := by decide +kernel
def bk_177_17 : List mO := [(.bipush 9, 0, 0, .int 9), (.goto 4, 23, 0, .null)]
set_option maxRecDepth 100000 in
theorem cb_177_17 : mChk 177 17 bk_177_17 22 = true := by decide +kernel
def bk_177_22 : List mO := [(.iconst 0, 0, 0, .int 0)]
set_option maxRecDepth 100000 in
theorem cb_177_22 : mChk 177 22 bk_177_22 23 = true := by decide +kernel
def bk_177_23 : List mO := [(.iastore, 0, 0, .null), (.iinc 1 1, 1, 0, .int 1), (.goto (-25), 2, 0, .null)]
set_option maxRecDepth 100000 in
theorem cb_177_23 : mChk 177 23 bk_177_23 30 = true := by decide +kernel
def bk_177_30 : List mO := [(.aload_n 0, 0, 0, .null), (.invokevirtual 309, 173, 0, .ref 9), (.return_, 0, 0, .null)]
set_option maxRecDepth 100000 in
theorem cb_177_30 : mChk 177 30 bk_177_30 35 = true := by decide +kernel
-- method 178: KeySealerModel.isZero()Z, locals 3, room (0, 0)
def bk_178_0 : List mO := [(.iconst 0, 0, 0, .int 0), (.istore_n 1, 1, 0, .null), (.iconst 0, 0, 0, .int 0), (.istore_n 2, 2, 0, .null)]
set_option maxRecDepth 100000 in
theorem cb_178_0 : mChk 178 0 bk_178_0 4 = true := by decide +kernel
def bk_178_4 : List mO := [(.iload_n 2, 2, 0, .null), (.bipush 32, 0, 0, .int 32), (.if_icmp .ge 18, 25, 0, .null)]
set_option maxRecDepth 100000 in
theorem cb_178_4 : mChk 178 4 bk_178_4 10 = true := by decide +kernel
def bk_178_10 : List mO := [(.iload_n 1, 1, 0, .null), (.aload_n 0, 0, 0, .null), (.getfield 88, 9, 29, .null), (.iload_n 2, 2, 0, .null), (.iaload, 0, 0, .null), (.ior, 0, 0, .null), (.istore_n 1, 1, 0, .null), (.iinc 2 1, 2, 0, .int 1), (.goto (-18), 4, 0, .null)]
set_option maxRecDepth 100000 in
theorem cb_178_10 : mChk 178 10 bk_178_10 25 = true := by decide +kernel
def bk_178_25 : List mO := [(.iload_n 1, 1, 0, .null), (.ifCond .ne 7, 33, 0, .null)]
set_option maxRecDepth 100000 in
theorem cb_178_25 : mChk 178 25 bk_178_25 29 = true := by decide +kernel
def bk_178_29 : List mO := [(.iconst 1, 0, 0, .int 1), (.goto 4, 34, 0, .null)]
set_option maxRecDepth 100000 in
theorem cb_178_29 : mChk 178 29 bk_178_29 33 = true := by decide +kernel
def bk_178_33 : List mO := [(.iconst 0, 0, 0, .int 0)]
set_option maxRecDepth 100000 in
theorem cb_178_33 : mChk 178 33 bk_178_33 34 = true := by decide +kernel
def bk_178_34 : List mO := [(.ireturn, 0, 0, .int 1)]
set_option maxRecDepth 100000 in
theorem cb_178_34 : mChk 178 34 bk_178_34 35 = true := by decide +kernel
-- method 179: KeySealerModel.isKey(I)Z, locals 2, room (1, 20)
def bk_179_0 : List mO := [(.iload_n 1, 1, 0, .null), (.invokestatic 184, 137, 1, .null), (.ifCond .eq 18, 22, 0, .null)]
set_option maxRecDepth 100000 in
theorem cb_179_0 : mChk 179 0 bk_179_0 7 = true := by decide +kernel
def bk_179_7 : List mO := [(.aload_n 0, 0, 0, .null), (.getfield 13, 9, 1, .null), (.iload_n 1, 1, 0, .null), (.iaload, 0, 0, .null), (.bipush 32, 0, 0, .int 32), (.if_icmp .ne 7, 22, 0, .null)]
set_option maxRecDepth 100000 in
theorem cb_179_7 : mChk 179 7 bk_179_7 18 = true := by decide +kernel
def bk_179_18 : List mO := [(.iconst 1, 0, 0, .int 1), (.goto 4, 23, 0, .null)]
set_option maxRecDepth 100000 in
theorem cb_179_18 : mChk 179 18 bk_179_18 22 = true := by decide +kernel
def bk_179_22 : List mO := [(.iconst 0, 0, 0, .int 0)]
set_option maxRecDepth 100000 in
theorem cb_179_22 : mChk 179 22 bk_179_22 23 = true := by decide +kernel
def bk_179_23 : List mO := [(.ireturn, 0, 0, .int 1)]
set_option maxRecDepth 100000 in
theorem cb_179_23 : mChk 179 23 bk_179_23 24 = true := by decide +kernel
-- method 180: KeySealerModel.giveKey(I)I, locals 3, room (1, 23)
def bk_180_0 : List mO := [(.iconst 0, 0, 0, .int 0), (.istore_n 2, 2, 0, .null)]
set_option maxRecDepth 100000 in
theorem cb_180_0 : mChk 180 0 bk_180_0 2 = true := by decide +kernel
def bk_180_2 : List mO := [(.iload_n 2, 2, 0, .null), (.bipush 32, 0, 0, .int 32), (.if_icmp .ge 21, 26, 0, .null)]
set_option maxRecDepth 100000 in
theorem cb_180_2 : mChk 180 2 bk_180_2 8 = true := by decide +kernel
def bk_180_8 : List mO := [(.aload_n 0, 0, 0, .null), (.getfield 16, 9, 2, .null), (.iload_n 2, 2, 0, .null), (.aload_n 0, 0, 0, .null), (.getfield 88, 9, 29, .null), (.iload_n 2, 2, 0, .null), (.iaload, 0, 0, .null), (.iastore, 0, 0, .null), (.iinc 2 1, 2, 0, .int 1), (.goto (-21), 2, 0, .null)]
set_option maxRecDepth 100000 in
theorem cb_180_8 : mChk 180 8 bk_180_8 26 = true := by decide +kernel
def bk_180_26 : List mO := [(.aload_n 0, 0, 0, .null), (.iload_n 1, 1, 0, .null), (.bipush 32, 0, 0, .int 32), (.invokevirtual 190, 146, 2, .ref 9), (.bipush 32, 0, 0, .int 32), (.ireturn, 0, 0, .int 0)]
set_option maxRecDepth 100000 in
theorem cb_180_26 : mChk 180 26 bk_180_26 36 = true := by decide +kernel
-- method 181: KeySealerModel.agree(III)I, locals 4, room (4, 91)
def bk_181_0 : List mO := [(.iload_n 1, 1, 0, .null), (.invokestatic 184, 137, 1, .null), (.ifCond .eq 19, 23, 0, .null)]
set_option maxRecDepth 100000 in
theorem cb_181_0 : mChk 181 0 bk_181_0 7 = true := by decide +kernel
def bk_181_7 : List mO := [(.aload_n 0, 0, 0, .null), (.iload_n 2, 2, 0, .null), (.invokevirtual 312, 179, 1, .ref 9), (.ifCond .eq 11, 23, 0, .null)]
set_option maxRecDepth 100000 in
theorem cb_181_7 : mChk 181 7 bk_181_7 15 = true := by decide +kernel
def bk_181_15 : List mO := [(.aload_n 0, 0, 0, .null), (.iload_n 3, 3, 0, .null), (.invokevirtual 312, 179, 1, .ref 9), (.ifCond .ne 6, 26, 0, .null)]
set_option maxRecDepth 100000 in
theorem cb_181_15 : mChk 181 15 bk_181_15 23 = true := by decide +kernel
def bk_181_23 : List mO := [(.bipush (-2), 0, 0, .int (-2)), (.ireturn, 0, 0, .int 0)]
set_option maxRecDepth 100000 in
theorem cb_181_23 : mChk 181 23 bk_181_23 26 = true := by decide +kernel
def bk_181_26 : List mO := [(.aload_n 0, 0, 0, .null), (.aload_n 0, 0, 0, .null), (.getfield 7, 9, 0, .null), (.sipush 300, 0, 0, .int 300), (.iload_n 2, 2, 0, .null), (.imul, 0, 0, .null), (.invokevirtual 315, 175, 2, .ref 9), (.aload_n 0, 0, 0, .null), (.aload_n 0, 0, 0, .null), (.getfield 7, 9, 0, .null), (.sipush 300, 0, 0, .int 300), (.iload_n 3, 3, 0, .null), (.imul, 0, 0, .null), (.invokevirtual 319, 176, 2, .ref 9), (.aload_n 0, 0, 0, .null), (.invokevirtual 309, 173, 0, .ref 9), (.aload_n 0, 0, 0, .null), (.invokevirtual 322, 178, 0, .ref 9), (.ifCond .eq 8, 68, 0, .null)]
set_option maxRecDepth 100000 in
theorem cb_181_26 : mChk 181 26 bk_181_26 63 = true := by decide +kernel
def bk_181_63 : List mO := [(.bipush (-11), 0, 0, .int (-11)), (.goto 8, 73, 0, .null)]
set_option maxRecDepth 100000 in
theorem cb_181_63 : mChk 181 63 bk_181_63 68 = true := by decide +kernel
def bk_181_68 : List mO := [(.aload_n 0, 0, 0, .null), (.iload_n 1, 1, 0, .null), (.invokevirtual 326, 180, 1, .ref 9)]
set_option maxRecDepth 100000 in
theorem cb_181_68 : mChk 181 68 bk_181_68 73 = true := by decide +kernel
def bk_181_73 : List mO := [(.ireturn, 0, 0, .int 0)]
set_option maxRecDepth 100000 in
theorem cb_181_73 : mChk 181 73 bk_181_73 74 = true := by decide +kernel
-- method 182: KeySealerModel.open(II)I, locals 3, room (5, 112)
def bk_182_0 : List mO := [(.iload_n 1, 1, 0, .null), (.invokestatic 184, 137, 1, .null), (.ifCond .eq 11, 15, 0, .null)]
set_option maxRecDepth 100000 in
theorem cb_182_0 : mChk 182 0 bk_182_0 7 = true := by decide +kernel
def bk_182_7 : List mO := [(.aload_n 0, 0, 0, .null), (.iload_n 2, 2, 0, .null), (.invokevirtual 312, 179, 1, .ref 9), (.ifCond .ne 6, 18, 0, .null)]
set_option maxRecDepth 100000 in
theorem cb_182_7 : mChk 182 7 bk_182_7 15 = true := by decide +kernel
def bk_182_15 : List mO := [(.bipush (-2), 0, 0, .int (-2)), (.ireturn, 0, 0, .int 0)]
set_option maxRecDepth 100000 in
theorem cb_182_15 : mChk 182 15 bk_182_15 18 = true := by decide +kernel
def bk_182_18 : List mO := [(.aload_n 0, 0, 0, .null), (.aload_n 0, 0, 0, .null), (.getfield 7, 9, 0, .null), (.sipush 300, 0, 0, .int 300), (.iload_n 2, 2, 0, .null), (.imul, 0, 0, .null), (.invokevirtual 315, 175, 2, .ref 9), (.aload_n 0, 0, 0, .null), (.invokevirtual 329, 177, 0, .ref 9), (.aload_n 0, 0, 0, .null), (.iload_n 1, 1, 0, .null), (.invokevirtual 326, 180, 1, .ref 9), (.ireturn, 0, 0, .int 0)]
set_option maxRecDepth 100000 in
theorem cb_182_18 : mChk 182 18 bk_182_18 41 = true := by decide +kernel
-- method 183: KeySealerModel.times256(II)I, locals 5, room (0, 0)
def bk_183_0 : List mO := [(.iconst 0, 0, 0, .int 0), (.istore_n 2, 2, 0, .null), (.iload_n 0, 0, 0, .null), (.istore_n 3, 3, 0, .null), (.iconst 0, 0, 0, .int 0), (.istore 4, 4, 0, .null)]
set_option maxRecDepth 100000 in
theorem cb_183_0 : mChk 183 0 bk_183_0 7 = true := by decide +kernel
def bk_183_7 : List mO := [(.iload 4, 4, 0, .null), (.bipush 8, 0, 0, .int 8), (.if_icmp .ge 45, 56, 0, .null)]
set_option maxRecDepth 100000 in
theorem cb_183_7 : mChk 183 7 bk_183_7 14 = true := by decide +kernel
def bk_183_14 : List mO := [(.iload_n 2, 2, 0, .null), (.iload_n 1, 1, 0, .null), (.iload 4, 4, 0, .null), (.ishr, 0, 0, .null), (.iconst 1, 0, 0, .int 1), (.iand, 0, 0, .null), (.iconst 1, 0, 0, .int 1), (.if_icmp .ne 7, 29, 0, .null)]
set_option maxRecDepth 100000 in
theorem cb_183_14 : mChk 183 14 bk_183_14 25 = true := by decide +kernel
def bk_183_25 : List mO := [(.iload_n 3, 3, 0, .null), (.goto 4, 30, 0, .null)]
set_option maxRecDepth 100000 in
theorem cb_183_25 : mChk 183 25 bk_183_25 29 = true := by decide +kernel
def bk_183_29 : List mO := [(.iconst 0, 0, 0, .int 0)]
set_option maxRecDepth 100000 in
theorem cb_183_29 : mChk 183 29 bk_183_29 30 = true := by decide +kernel
def bk_183_30 : List mO := [(.ixor, 0, 0, .null), (.istore_n 2, 2, 0, .null), (.iload_n 3, 3, 0, .null), (.iconst 1, 0, 0, .int 1), (.ishl, 0, 0, .null), (.iload_n 3, 3, 0, .null), (.bipush 127, 0, 0, .int 127), (.if_icmp .le 9, 47, 0, .null)]
set_option maxRecDepth 100000 in
theorem cb_183_30 : mChk 183 30 bk_183_30 41 = true := by decide +kernel
def bk_183_41 : List mO := [(.sipush 283, 0, 0, .int 283), (.goto 4, 48, 0, .null)]
set_option maxRecDepth 100000 in
theorem cb_183_41 : mChk 183 41 bk_183_41 47 = true := by decide +kernel
def bk_183_47 : List mO := [(.iconst 0, 0, 0, .int 0)]
set_option maxRecDepth 100000 in
theorem cb_183_47 : mChk 183 47 bk_183_47 48 = true := by decide +kernel
def bk_183_48 : List mO := [(.ixor, 0, 0, .null), (.istore_n 3, 3, 0, .null), (.iinc 4 1, 4, 0, .int 1), (.goto (-46), 7, 0, .null)]
set_option maxRecDepth 100000 in
theorem cb_183_48 : mChk 183 48 bk_183_48 56 = true := by decide +kernel
def bk_183_56 : List mO := [(.iload_n 2, 2, 0, .null), (.ireturn, 0, 0, .int 0)]
set_option maxRecDepth 100000 in
theorem cb_183_56 : mChk 183 56 bk_183_56 58 = true := by decide +kernel

/-! PART 13.05: blocks of code and their checks, printed by program (wip/whole/mk13.py) -/
-- method 143: KeySealerModel.turn(III)I, locals 4, room (1, 20)
def bk_143_0 : List mO := [(.iload_n 1, 1, 0, .null), (.invokestatic 184, 137, 1, .null), (.ifCond .eq 27, 31, 0, .null)]
set_option maxRecDepth 100000 in
theorem cb_143_0 : mChk 143 0 bk_143_0 7 = true := by decide +kernel
def bk_143_7 : List mO := [(.iload_n 2, 2, 0, .null), (.ifCond .lt 23, 31, 0, .null)]
set_option maxRecDepth 100000 in
theorem cb_143_7 : mChk 143 7 bk_143_7 11 = true := by decide +kernel
def bk_143_11 : List mO := [(.iload_n 2, 2, 0, .null), (.aload_n 0, 0, 0, .null), (.getfield 13, 9, 1, .null), (.iload_n 1, 1, 0, .null), (.iaload, 0, 0, .null), (.if_icmp .ge 13, 31, 0, .null)]
set_option maxRecDepth 100000 in
theorem cb_143_11 : mChk 143 11 bk_143_11 21 = true := by decide +kernel
def bk_143_21 : List mO := [(.iload_n 3, 3, 0, .null), (.ifCond .lt 9, 31, 0, .null)]
set_option maxRecDepth 100000 in
theorem cb_143_21 : mChk 143 21 bk_143_21 25 = true := by decide +kernel
def bk_143_25 : List mO := [(.iload_n 3, 3, 0, .null), (.bipush 7, 0, 0, .int 7), (.if_icmp .le 6, 34, 0, .null)]
set_option maxRecDepth 100000 in
theorem cb_143_25 : mChk 143 25 bk_143_25 31 = true := by decide +kernel
def bk_143_31 : List mO := [(.bipush (-2), 0, 0, .int (-2)), (.ireturn, 0, 0, .int 0)]
set_option maxRecDepth 100000 in
theorem cb_143_31 : mChk 143 31 bk_143_31 34 = true := by decide +kernel
def bk_143_34 : List mO := [(.aload_n 0, 0, 0, .null), (.getfield 7, 9, 0, .null), (.sipush 300, 0, 0, .int 300), (.iload_n 1, 1, 0, .null), (.imul, 0, 0, .null), (.iload_n 2, 2, 0, .null), (.iadd, 0, 0, .null), (.dup2, 0, 0, .null), (.iaload, 0, 0, .null), (.iconst 1, 0, 0, .int 1), (.iload_n 3, 3, 0, .null), (.ishl, 0, 0, .null), (.ixor, 0, 0, .null), (.iastore, 0, 0, .null), (.aload_n 0, 0, 0, .null), (.getfield 7, 9, 0, .null), (.sipush 300, 0, 0, .int 300), (.iload_n 1, 1, 0, .null), (.imul, 0, 0, .null), (.iload_n 2, 2, 0, .null), (.iadd, 0, 0, .null), (.iaload, 0, 0, .null), (.ireturn, 0, 0, .int 0)]
set_option maxRecDepth 100000 in
theorem cb_143_34 : mChk 143 34 bk_143_34 65 = true := by decide +kernel
-- method 144: KeySealerModel.size(I)I, locals 2, room (1, 20)
def bk_144_0 : List mO := [(.iload_n 1, 1, 0, .null), (.invokestatic 184, 137, 1, .null), (.ifCond .eq 12, 16, 0, .null)]
set_option maxRecDepth 100000 in
theorem cb_144_0 : mChk 144 0 bk_144_0 7 = true := by decide +kernel
def bk_144_7 : List mO := [(.aload_n 0, 0, 0, .null), (.getfield 13, 9, 1, .null), (.iload_n 1, 1, 0, .null), (.iaload, 0, 0, .null), (.goto 5, 18, 0, .null)]
set_option maxRecDepth 100000 in
theorem cb_144_7 : mChk 144 7 bk_144_7 16 = true := by decide +kernel
def bk_144_16 : List mO := [(.bipush (-2), 0, 0, .int (-2))]
set_option maxRecDepth 100000 in
theorem cb_144_16 : mChk 144 16 bk_144_16 18 = true := by decide +kernel
def bk_144_18 : List mO := [(.ireturn, 0, 0, .int 0)]
set_option maxRecDepth 100000 in
theorem cb_144_18 : mChk 144 18 bk_144_18 19 = true := by decide +kernel
-- method 145: KeySealerModel.at(II)I, locals 3, room (1, 20)
def bk_145_0 : List mO := [(.iload_n 1, 1, 0, .null), (.invokestatic 184, 137, 1, .null), (.ifCond .ne 8, 12, 0, .null)]
set_option maxRecDepth 100000 in
theorem cb_145_0 : mChk 145 0 bk_145_0 7 = true := by decide +kernel
def bk_145_7 : List mO := [(.bipush (-2), 0, 0, .int (-2)), (.goto 33, 42, 0, .null)]
set_option maxRecDepth 100000 in
theorem cb_145_7 : mChk 145 7 bk_145_7 12 = true := by decide +kernel
def bk_145_12 : List mO := [(.iload_n 2, 2, 0, .null), (.ifCond .lt 13, 26, 0, .null)]
set_option maxRecDepth 100000 in
theorem cb_145_12 : mChk 145 12 bk_145_12 16 = true := by decide +kernel
def bk_145_16 : List mO := [(.iload_n 2, 2, 0, .null), (.aload_n 0, 0, 0, .null), (.getfield 13, 9, 1, .null), (.iload_n 1, 1, 0, .null), (.iaload, 0, 0, .null), (.if_icmp .lt 7, 30, 0, .null)]
set_option maxRecDepth 100000 in
theorem cb_145_16 : mChk 145 16 bk_145_16 26 = true := by decide +kernel
def bk_145_26 : List mO := [(.iconst (-1), 0, 0, .int (-1)), (.goto 15, 42, 0, .null)]
set_option maxRecDepth 100000 in
theorem cb_145_26 : mChk 145 26 bk_145_26 30 = true := by decide +kernel
def bk_145_30 : List mO := [(.aload_n 0, 0, 0, .null), (.getfield 7, 9, 0, .null), (.sipush 300, 0, 0, .int 300), (.iload_n 1, 1, 0, .null), (.imul, 0, 0, .null), (.iload_n 2, 2, 0, .null), (.iadd, 0, 0, .null), (.iaload, 0, 0, .null)]
set_option maxRecDepth 100000 in
theorem cb_145_30 : mChk 145 30 bk_145_30 42 = true := by decide +kernel
def bk_145_42 : List mO := [(.ireturn, 0, 0, .int 0)]
set_option maxRecDepth 100000 in
theorem cb_145_42 : mChk 145 42 bk_145_42 43 = true := by decide +kernel
-- method 146: KeySealerModel.give(II)V, locals 4, room (0, 0)
def bk_146_0 : List mO := [(.iconst 0, 0, 0, .int 0), (.istore_n 3, 3, 0, .null)]
set_option maxRecDepth 100000 in
theorem cb_146_0 : mChk 146 0 bk_146_0 2 = true := by decide +kernel
def bk_146_2 : List mO := [(.iload_n 3, 3, 0, .null), (.iload_n 2, 2, 0, .null), (.if_icmp .ge 27, 31, 0, .null)]
set_option maxRecDepth 100000 in
theorem cb_146_2 : mChk 146 2 bk_146_2 7 = true := by decide +kernel
def bk_146_7 : List mO := [(.aload_n 0, 0, 0, .null), (.getfield 7, 9, 0, .null), (.sipush 300, 0, 0, .int 300), (.iload_n 1, 1, 0, .null), (.imul, 0, 0, .null), (.iload_n 3, 3, 0, .null), (.iadd, 0, 0, .null), (.aload_n 0, 0, 0, .null), (.getfield 16, 9, 2, .null), (.iload_n 3, 3, 0, .null), (.iaload, 0, 0, .null), (.iastore, 0, 0, .null), (.iinc 3 1, 3, 0, .int 1), (.goto (-26), 2, 0, .null)]
set_option maxRecDepth 100000 in
theorem cb_146_7 : mChk 146 7 bk_146_7 31 = true := by decide +kernel
def bk_146_31 : List mO := [(.aload_n 0, 0, 0, .null), (.getfield 13, 9, 1, .null), (.iload_n 1, 1, 0, .null), (.iload_n 2, 2, 0, .null), (.iastore, 0, 0, .null), (.return_, 0, 0, .null)]
set_option maxRecDepth 100000 in
theorem cb_146_31 : mChk 146 31 bk_146_31 39 = true := by decide +kernel
-- method 147: KeySealerModel.hashSize(I)I, locals 1, room (0, 0)
def bk_147_0 : List mO := [(.iload_n 0, 0, 0, .null), (.iconst 1, 0, 0, .int 1), (.if_icmp .ne 8, 10, 0, .null)]
set_option maxRecDepth 100000 in
theorem cb_147_0 : mChk 147 0 bk_147_0 5 = true := by decide +kernel
def bk_147_5 : List mO := [(.bipush 32, 0, 0, .int 32), (.goto 5, 12, 0, .null)]
set_option maxRecDepth 100000 in
theorem cb_147_5 : mChk 147 5 bk_147_5 10 = true := by decide +kernel
def bk_147_10 : List mO := [(.bipush 64, 0, 0, .int 64)]
set_option maxRecDepth 100000 in
theorem cb_147_10 : mChk 147 10 bk_147_10 12 = true := by decide +kernel
def bk_147_12 : List mO := [(.ireturn, 0, 0, .int 0)]
set_option maxRecDepth 100000 in
theorem cb_147_12 : mChk 147 12 bk_147_12 13 = true := by decide +kernel
-- method 148: KeySealerModel.turned(JIZ)J, locals 4, room (0, 0)
def bk_148_0 : List mO := [(.iload_n 3, 3, 0, .null), (.ifCond .eq 20, 21, 0, .null)]
set_option maxRecDepth 100000 in
theorem cb_148_0 : mChk 148 0 bk_148_0 4 = true := by decide +kernel
def bk_148_4 : List mO := [(.lload_n 0, 0, 0, .null), (.iload_n 2, 2, 0, .null), (.lushr, 0, 0, .null), (.lload_n 0, 0, 0, .null), (.bipush 32, 0, 0, .int 32), (.iload_n 2, 2, 0, .null), (.isub, 0, 0, .null), (.lshl, 0, 0, .null), (.lor, 0, 0, .null), (.ldc2_w 194, 0, 0, .long 4294967295), (.land, 0, 0, .null), (.goto 13, 31, 0, .null)]
set_option maxRecDepth 100000 in
theorem cb_148_4 : mChk 148 4 bk_148_4 21 = true := by decide +kernel
def bk_148_21 : List mO := [(.lload_n 0, 0, 0, .null), (.iload_n 2, 2, 0, .null), (.lushr, 0, 0, .null), (.lload_n 0, 0, 0, .null), (.bipush 64, 0, 0, .int 64), (.iload_n 2, 2, 0, .null), (.isub, 0, 0, .null), (.lshl, 0, 0, .null), (.lor, 0, 0, .null)]
set_option maxRecDepth 100000 in
theorem cb_148_21 : mChk 148 21 bk_148_21 31 = true := by decide +kernel
def bk_148_31 : List mO := [(.lreturn, 0, 0, .null)]
set_option maxRecDepth 100000 in
theorem cb_148_31 : mChk 148 31 bk_148_31 32 = true := by decide +kernel
-- method 149: KeySealerModel.three(JIIIZ)J, locals 6, room (1, 23)
def bk_149_0 : List mO := [(.lload_n 0, 0, 0, .null), (.iload_n 2, 2, 0, .null), (.iload 5, 5, 0, .null), (.invokestatic 196, 148, 3, .null), (.lload_n 0, 0, 0, .null), (.iload_n 3, 3, 0, .null), (.iload 5, 5, 0, .null), (.invokestatic 196, 148, 3, .null), (.lxor, 0, 0, .null), (.lload_n 0, 0, 0, .null), (.iload 4, 4, 0, .null), (.iload 5, 5, 0, .null), (.invokestatic 196, 148, 3, .null), (.lxor, 0, 0, .null), (.lreturn, 0, 0, .null)]
set_option maxRecDepth 100000 in
theorem cb_149_0 : mChk 149 0 bk_149_0 25 = true := by decide +kernel
-- method 150: KeySealerModel.mixed(JIIIZ)J, locals 6, room (1, 23)
def bk_150_0 : List mO := [(.lload_n 0, 0, 0, .null), (.iload_n 2, 2, 0, .null), (.iload 5, 5, 0, .null), (.invokestatic 196, 148, 3, .null), (.lload_n 0, 0, 0, .null), (.iload_n 3, 3, 0, .null), (.iload 5, 5, 0, .null), (.invokestatic 196, 148, 3, .null), (.lxor, 0, 0, .null), (.lload_n 0, 0, 0, .null), (.iload 4, 4, 0, .null), (.lushr, 0, 0, .null), (.lxor, 0, 0, .null), (.lreturn, 0, 0, .null)]
set_option maxRecDepth 100000 in
theorem cb_150_0 : mChk 150 0 bk_150_0 21 = true := by decide +kernel
-- method 151: KeySealerModel.digest(I)V, locals 9, room (3, 97)
def bk_151_0 : List mO := [(.iload_n 1, 1, 0, .null), (.iconst 1, 0, 0, .int 1), (.if_icmp .ne 7, 9, 0, .null)]
set_option maxRecDepth 100000 in
theorem cb_151_0 : mChk 151 0 bk_151_0 5 = true := by decide +kernel
def bk_151_5 : List mO := [(.iconst 1, 0, 0, .int 1), (.goto 4, 10, 0, .null)]
set_option maxRecDepth 100000 in
theorem cb_151_5 : mChk 151 5 bk_151_5 9 = true := by decide +kernel
def bk_151_9 : List mO := [(.iconst 0, 0, 0, .int 0)]
set_option maxRecDepth 100000 in
theorem cb_151_9 : mChk 151 9 bk_151_9 10 = true := by decide +kernel
def bk_151_10 : List mO := [(.istore_n 2, 2, 0, .null), (.iload_n 2, 2, 0, .null), (.ifCond .eq 7, 19, 0, .null)]
set_option maxRecDepth 100000 in
theorem cb_151_10 : mChk 151 10 bk_151_10 15 = true := by decide +kernel
def bk_151_15 : List mO := [(.iconst 4, 0, 0, .int 4), (.goto 5, 21, 0, .null)]
set_option maxRecDepth 100000 in
theorem cb_151_15 : mChk 151 15 bk_151_15 19 = true := by decide +kernel
def bk_151_19 : List mO := [(.bipush 8, 0, 0, .int 8)]
set_option maxRecDepth 100000 in
theorem cb_151_19 : mChk 151 19 bk_151_19 21 = true := by decide +kernel
def bk_151_21 : List mO := [(.istore_n 3, 3, 0, .null), (.bipush 16, 0, 0, .int 16), (.iload_n 3, 3, 0, .null), (.imul, 0, 0, .null), (.istore 4, 4, 0, .null), (.aload_n 0, 0, 0, .null), (.getfield 200, 9, 4, .null), (.istore 5, 5, 0, .null), (.aload_n 0, 0, 0, .null), (.getfield 19, 9, 3, .null), (.aload_n 0, 0, 0, .null), (.getfield 200, 9, 4, .null), (.sipush 128, 0, 0, .int 128), (.iastore, 0, 0, .null), (.aload_n 0, 0, 0, .null), (.dup, 0, 0, .null), (.getfield 200, 9, 4, .null), (.iconst 1, 0, 0, .int 1), (.iadd, 0, 0, .null), (.putfield 200, 9, 4, .int 0)]
set_option maxRecDepth 100000 in
theorem cb_151_21 : mChk 151 21 bk_151_21 56 = true := by decide +kernel
def bk_151_56 : List mO := [(.aload_n 0, 0, 0, .null), (.getfield 200, 9, 4, .null), (.iload 4, 4, 0, .null), (.irem, 0, 0, .null), (.iload 4, 4, 0, .null), (.iconst 2, 0, 0, .int 2), (.iload_n 3, 3, 0, .null), (.imul, 0, 0, .null), (.isub, 0, 0, .null), (.if_icmp .eq 26, 95, 0, .null)]
set_option maxRecDepth 100000 in
theorem cb_151_56 : mChk 151 56 bk_151_56 72 = true := by decide +kernel
def bk_151_72 : List mO := [(.aload_n 0, 0, 0, .null), (.getfield 19, 9, 3, .null), (.aload_n 0, 0, 0, .null), (.getfield 200, 9, 4, .null), (.iconst 0, 0, 0, .int 0), (.iastore, 0, 0, .null), (.aload_n 0, 0, 0, .null), (.dup, 0, 0, .null), (.getfield 200, 9, 4, .null), (.iconst 1, 0, 0, .int 1), (.iadd, 0, 0, .null), (.putfield 200, 9, 4, .int 0), (.goto (-36), 56, 0, .null)]
set_option maxRecDepth 100000 in
theorem cb_151_72 : mChk 151 72 bk_151_72 95 = true := by decide +kernel
def bk_151_95 : List mO := [(.iconst 2, 0, 0, .int 2), (.iload_n 3, 3, 0, .null), (.imul, 0, 0, .null), (.iconst 1, 0, 0, .int 1), (.isub, 0, 0, .null), (.istore 6, 6, 0, .null)]
set_option maxRecDepth 100000 in
theorem cb_151_95 : mChk 151 95 bk_151_95 102 = true := by decide +kernel
def bk_151_102 : List mO := [(.iload 6, 6, 0, .null), (.ifCond .lt 53, 157, 0, .null)]
set_option maxRecDepth 100000 in
theorem cb_151_102 : mChk 151 102 bk_151_102 107 = true := by decide +kernel
def bk_151_107 : List mO := [(.aload_n 0, 0, 0, .null), (.getfield 19, 9, 3, .null), (.aload_n 0, 0, 0, .null), (.getfield 200, 9, 4, .null), (.iload 6, 6, 0, .null), (.iconst 4, 0, 0, .int 4), (.if_icmp .ge 21, 139, 0, .null)]
set_option maxRecDepth 100000 in
theorem cb_151_107 : mChk 151 107 bk_151_107 121 = true := by decide +kernel
def bk_151_121 : List mO := [(.bipush 8, 0, 0, .int 8), (.iload 5, 5, 0, .null), (.imul, 0, 0, .null), (.bipush 8, 0, 0, .int 8), (.iload 6, 6, 0, .null), (.imul, 0, 0, .null), (.ishr, 0, 0, .null), (.sipush 255, 0, 0, .int 255), (.iand, 0, 0, .null), (.goto 4, 140, 0, .null)]
set_option maxRecDepth 100000 in
theorem cb_151_121 : mChk 151 121 bk_151_121 139 = true := by decide +kernel
def bk_151_139 : List mO := [(.iconst 0, 0, 0, .int 0)]
set_option maxRecDepth 100000 in
theorem cb_151_139 : mChk 151 139 bk_151_139 140 = true := by decide +kernel
def bk_151_140 : List mO := [(.iastore, 0, 0, .null), (.aload_n 0, 0, 0, .null), (.dup, 0, 0, .null), (.getfield 200, 9, 4, .null), (.iconst 1, 0, 0, .int 1), (.iadd, 0, 0, .null), (.putfield 200, 9, 4, .int 0), (.iinc 6 (-1), 6, 0, .int (-1)), (.goto (-52), 102, 0, .null)]
set_option maxRecDepth 100000 in
theorem cb_151_140 : mChk 151 140 bk_151_140 157 = true := by decide +kernel
def bk_151_157 : List mO := [(.iconst 0, 0, 0, .int 0), (.istore 6, 6, 0, .null)]
set_option maxRecDepth 100000 in
theorem cb_151_157 : mChk 151 157 bk_151_157 160 = true := by decide +kernel
def bk_151_160 : List mO := [(.iload 6, 6, 0, .null), (.bipush 8, 0, 0, .int 8), (.if_icmp .ge 38, 202, 0, .null)]
set_option maxRecDepth 100000 in
theorem cb_151_160 : mChk 151 160 bk_151_160 167 = true := by decide +kernel
def bk_151_167 : List mO := [(.aload_n 0, 0, 0, .null), (.getfield 26, 9, 6, .null), (.iload 6, 6, 0, .null), (.iload_n 2, 2, 0, .null), (.ifCond .eq 15, 189, 0, .null)]
set_option maxRecDepth 100000 in
theorem cb_151_167 : mChk 151 167 bk_151_167 177 = true := by decide +kernel
def bk_151_177 : List mO := [(.getstatic 204, 0, 0, .ref 1000004), (.iload 6, 6, 0, .null), (.laload, 0, 0, .null), (.bipush 32, 0, 0, .int 32), (.lushr, 0, 0, .null), (.goto 9, 195, 0, .null)]
set_option maxRecDepth 100000 in
theorem cb_151_177 : mChk 151 177 bk_151_177 189 = true := by decide +kernel
def bk_151_189 : List mO := [(.getstatic 204, 0, 0, .ref 1000004), (.iload 6, 6, 0, .null), (.laload, 0, 0, .null)]
set_option maxRecDepth 100000 in
theorem cb_151_189 : mChk 151 189 bk_151_189 195 = true := by decide +kernel
def bk_151_195 : List mO := [(.lastore, 0, 0, .null), (.iinc 6 1, 6, 0, .int 1), (.goto (-39), 160, 0, .null)]
set_option maxRecDepth 100000 in
theorem cb_151_195 : mChk 151 195 bk_151_195 202 = true := by decide +kernel
def bk_151_202 : List mO := [(.iconst 0, 0, 0, .int 0), (.istore 6, 6, 0, .null)]
set_option maxRecDepth 100000 in
theorem cb_151_202 : mChk 151 202 bk_151_202 205 = true := by decide +kernel
def bk_151_205 : List mO := [(.iload 6, 6, 0, .null), (.aload_n 0, 0, 0, .null), (.getfield 200, 9, 4, .null), (.if_icmp .ge 91, 302, 0, .null)]
set_option maxRecDepth 100000 in
theorem cb_151_205 : mChk 151 205 bk_151_205 214 = true := by decide +kernel
def bk_151_214 : List mO := [(.iconst 0, 0, 0, .int 0), (.istore 7, 7, 0, .null)]
set_option maxRecDepth 100000 in
theorem cb_151_214 : mChk 151 214 bk_151_214 217 = true := by decide +kernel
def bk_151_217 : List mO := [(.iload 7, 7, 0, .null), (.bipush 16, 0, 0, .int 16), (.if_icmp .ge 66, 287, 0, .null)]
set_option maxRecDepth 100000 in
theorem cb_151_217 : mChk 151 217 bk_151_217 224 = true := by decide +kernel
def bk_151_224 : List mO := [(.aload_n 0, 0, 0, .null), (.getfield 22, 9, 5, .null), (.iload 7, 7, 0, .null), (.lconst 0, 0, 0, .long 0), (.lastore, 0, 0, .null), (.iconst 0, 0, 0, .int 0), (.istore 8, 8, 0, .null)]
set_option maxRecDepth 100000 in
theorem cb_151_224 : mChk 151 224 bk_151_224 235 = true := by decide +kernel
def bk_151_235 : List mO := [(.iload 8, 8, 0, .null), (.iload_n 3, 3, 0, .null), (.if_icmp .ge 43, 281, 0, .null)]
set_option maxRecDepth 100000 in
theorem cb_151_235 : mChk 151 235 bk_151_235 241 = true := by decide +kernel
def bk_151_241 : List mO := [(.aload_n 0, 0, 0, .null), (.getfield 22, 9, 5, .null), (.iload 7, 7, 0, .null), (.aload_n 0, 0, 0, .null), (.getfield 22, 9, 5, .null), (.iload 7, 7, 0, .null), (.laload, 0, 0, .null), (.bipush 8, 0, 0, .int 8), (.lshl, 0, 0, .null), (.aload_n 0, 0, 0, .null), (.getfield 19, 9, 3, .null), (.iload 6, 6, 0, .null), (.iload_n 3, 3, 0, .null), (.iload 7, 7, 0, .null), (.imul, 0, 0, .null), (.iadd, 0, 0, .null), (.iload 8, 8, 0, .null), (.iadd, 0, 0, .null), (.iaload, 0, 0, .null), (.i2l, 0, 0, .null), (.lor, 0, 0, .null), (.lastore, 0, 0, .null), (.iinc 8 1, 8, 0, .int 1), (.goto (-43), 235, 0, .null)]
set_option maxRecDepth 100000 in
theorem cb_151_241 : mChk 151 241 bk_151_241 281 = true := by decide +kernel
def bk_151_281 : List mO := [(.iinc 7 1, 7, 0, .int 1), (.goto (-67), 217, 0, .null)]
set_option maxRecDepth 100000 in
theorem cb_151_281 : mChk 151 281 bk_151_281 287 = true := by decide +kernel
def bk_151_287 : List mO := [(.aload_n 0, 0, 0, .null), (.iload_n 2, 2, 0, .null), (.invokevirtual 207, 152, 1, .ref 9), (.iload 6, 6, 0, .null), (.iload 4, 4, 0, .null), (.iadd, 0, 0, .null), (.istore 6, 6, 0, .null), (.goto (-94), 205, 0, .null)]
set_option maxRecDepth 100000 in
theorem cb_151_287 : mChk 151 287 bk_151_287 302 = true := by decide +kernel
def bk_151_302 : List mO := [(.iconst 0, 0, 0, .int 0), (.istore 6, 6, 0, .null)]
set_option maxRecDepth 100000 in
theorem cb_151_302 : mChk 151 302 bk_151_302 305 = true := by decide +kernel
def bk_151_305 : List mO := [(.iload 6, 6, 0, .null), (.bipush 8, 0, 0, .int 8), (.iload_n 3, 3, 0, .null), (.imul, 0, 0, .null), (.if_icmp .ge 42, 353, 0, .null)]
set_option maxRecDepth 100000 in
theorem cb_151_305 : mChk 151 305 bk_151_305 314 = true := by decide +kernel
def bk_151_314 : List mO := [(.aload_n 0, 0, 0, .null), (.getfield 29, 9, 7, .null), (.iload 6, 6, 0, .null), (.aload_n 0, 0, 0, .null), (.getfield 26, 9, 6, .null), (.iload 6, 6, 0, .null), (.iload_n 3, 3, 0, .null), (.idiv, 0, 0, .null), (.laload, 0, 0, .null), (.bipush 8, 0, 0, .int 8), (.iload_n 3, 3, 0, .null), (.iconst 1, 0, 0, .int 1), (.isub, 0, 0, .null), (.iload 6, 6, 0, .null), (.iload_n 3, 3, 0, .null), (.irem, 0, 0, .null), (.isub, 0, 0, .null), (.imul, 0, 0, .null), (.lushr, 0, 0, .null), (.ldc2_w 188, 0, 0, .long 255), (.land, 0, 0, .null), (.l2i, 0, 0, .null), (.iastore, 0, 0, .null), (.iinc 6 1, 6, 0, .int 1), (.goto (-45), 305, 0, .null)]
set_option maxRecDepth 100000 in
theorem cb_151_314 : mChk 151 314 bk_151_314 353 = true := by decide +kernel
def bk_151_353 : List mO := [(.return_, 0, 0, .null)]
set_option maxRecDepth 100000 in
theorem cb_151_353 : mChk 151 353 bk_151_353 354 = true := by decide +kernel
-- method 152: KeySealerModel.doBlock(Z)V, locals 30, room (2, 48)
def bk_152_0 : List mO := [(.iload_n 1, 1, 0, .null), (.ifCond .eq 8, 9, 0, .null)]
set_option maxRecDepth 100000 in
theorem cb_152_0 : mChk 152 0 bk_152_0 4 = true := by decide +kernel
def bk_152_4 : List mO := [(.bipush 64, 0, 0, .int 64), (.goto 5, 11, 0, .null)]
set_option maxRecDepth 100000 in
theorem cb_152_4 : mChk 152 4 bk_152_4 9 = true := by decide +kernel
def bk_152_9 : List mO := [(.bipush 80, 0, 0, .int 80)]
set_option maxRecDepth 100000 in
theorem cb_152_9 : mChk 152 9 bk_152_9 11 = true := by decide +kernel
def bk_152_11 : List mO := [(.istore_n 2, 2, 0, .null), (.iload_n 1, 1, 0, .null), (.ifCond .eq 9, 22, 0, .null)]
set_option maxRecDepth 100000 in
theorem cb_152_11 : mChk 152 11 bk_152_11 16 = true := by decide +kernel
def bk_152_16 : List mO := [(.ldc2_w 194, 0, 0, .long 4294967295), (.goto 6, 25, 0, .null)]
set_option maxRecDepth 100000 in
theorem cb_152_16 : mChk 152 16 bk_152_16 22 = true := by decide +kernel
def bk_152_22 : List mO := [(.ldc2_w 211, 0, 0, .long (-1))]
set_option maxRecDepth 100000 in
theorem cb_152_22 : mChk 152 22 bk_152_22 25 = true := by decide +kernel
def bk_152_25 : List mO := [(.lstore_n 3, 3, 0, .null), (.bipush 16, 0, 0, .int 16), (.istore 5, 5, 0, .null)]
set_option maxRecDepth 100000 in
theorem cb_152_25 : mChk 152 25 bk_152_25 30 = true := by decide +kernel
def bk_152_30 : List mO := [(.iload 5, 5, 0, .null), (.iload_n 2, 2, 0, .null), (.if_icmp .ge 139, 172, 0, .null)]
set_option maxRecDepth 100000 in
theorem cb_152_30 : mChk 152 30 bk_152_30 36 = true := by decide +kernel
def bk_152_36 : List mO := [(.iload_n 1, 1, 0, .null), (.ifCond .eq 25, 62, 0, .null)]
set_option maxRecDepth 100000 in
theorem cb_152_36 : mChk 152 36 bk_152_36 40 = true := by decide +kernel
def bk_152_40 : List mO := [(.aload_n 0, 0, 0, .null), (.getfield 22, 9, 5, .null), (.iload 5, 5, 0, .null), (.bipush 15, 0, 0, .int 15), (.isub, 0, 0, .null), (.laload, 0, 0, .null), (.bipush 7, 0, 0, .int 7), (.bipush 18, 0, 0, .int 18), (.iconst 3, 0, 0, .int 3), (.iconst 1, 0, 0, .int 1), (.invokestatic 213, 150, 5, .null), (.goto 22, 81, 0, .null)]
set_option maxRecDepth 100000 in
theorem cb_152_40 : mChk 152 40 bk_152_40 62 = true := by decide +kernel
def bk_152_62 : List mO := [(.aload_n 0, 0, 0, .null), (.getfield 22, 9, 5, .null), (.iload 5, 5, 0, .null), (.bipush 15, 0, 0, .int 15), (.isub, 0, 0, .null), (.laload, 0, 0, .null), (.iconst 1, 0, 0, .int 1), (.bipush 8, 0, 0, .int 8), (.bipush 7, 0, 0, .int 7), (.iconst 0, 0, 0, .int 0), (.invokestatic 213, 150, 5, .null)]
set_option maxRecDepth 100000 in
theorem cb_152_62 : mChk 152 62 bk_152_62 81 = true := by decide +kernel
def bk_152_81 : List mO := [(.lstore 6, 6, 0, .null), (.iload_n 1, 1, 0, .null), (.ifCond .eq 25, 109, 0, .null)]
set_option maxRecDepth 100000 in
theorem cb_152_81 : mChk 152 81 bk_152_81 87 = true := by decide +kernel
def bk_152_87 : List mO := [(.aload_n 0, 0, 0, .null), (.getfield 22, 9, 5, .null), (.iload 5, 5, 0, .null), (.iconst 2, 0, 0, .int 2), (.isub, 0, 0, .null), (.laload, 0, 0, .null), (.bipush 17, 0, 0, .int 17), (.bipush 19, 0, 0, .int 19), (.bipush 10, 0, 0, .int 10), (.iconst 1, 0, 0, .int 1), (.invokestatic 213, 150, 5, .null), (.goto 22, 128, 0, .null)]
set_option maxRecDepth 100000 in
theorem cb_152_87 : mChk 152 87 bk_152_87 109 = true := by decide +kernel
def bk_152_109 : List mO := [(.aload_n 0, 0, 0, .null), (.getfield 22, 9, 5, .null), (.iload 5, 5, 0, .null), (.iconst 2, 0, 0, .int 2), (.isub, 0, 0, .null), (.laload, 0, 0, .null), (.bipush 19, 0, 0, .int 19), (.bipush 61, 0, 0, .int 61), (.bipush 6, 0, 0, .int 6), (.iconst 0, 0, 0, .int 0), (.invokestatic 213, 150, 5, .null)]
set_option maxRecDepth 100000 in
theorem cb_152_109 : mChk 152 109 bk_152_109 128 = true := by decide +kernel
def bk_152_128 : List mO := [(.lstore 8, 8, 0, .null), (.aload_n 0, 0, 0, .null), (.getfield 22, 9, 5, .null), (.iload 5, 5, 0, .null), (.lload 8, 8, 0, .null), (.aload_n 0, 0, 0, .null), (.getfield 22, 9, 5, .null), (.iload 5, 5, 0, .null), (.bipush 7, 0, 0, .int 7), (.isub, 0, 0, .null), (.laload, 0, 0, .null), (.ladd, 0, 0, .null), (.lload 6, 6, 0, .null), (.ladd, 0, 0, .null), (.aload_n 0, 0, 0, .null), (.getfield 22, 9, 5, .null), (.iload 5, 5, 0, .null), (.bipush 16, 0, 0, .int 16), (.isub, 0, 0, .null), (.laload, 0, 0, .null), (.ladd, 0, 0, .null), (.lload_n 3, 3, 0, .null), (.land, 0, 0, .null), (.lastore, 0, 0, .null), (.iinc 5 1, 5, 0, .int 1), (.goto (-139), 30, 0, .null)]
set_option maxRecDepth 100000 in
theorem cb_152_128 : mChk 152 128 bk_152_128 172 = true := by decide +kernel
def bk_152_172 : List mO := [(.aload_n 0, 0, 0, .null), (.getfield 26, 9, 6, .null), (.iconst 0, 0, 0, .int 0), (.laload, 0, 0, .null), (.lstore 5, 5, 0, .null), (.aload_n 0, 0, 0, .null), (.getfield 26, 9, 6, .null), (.iconst 1, 0, 0, .int 1), (.laload, 0, 0, .null), (.lstore 7, 7, 0, .null), (.aload_n 0, 0, 0, .null), (.getfield 26, 9, 6, .null), (.iconst 2, 0, 0, .int 2), (.laload, 0, 0, .null), (.lstore 9, 9, 0, .null), (.aload_n 0, 0, 0, .null), (.getfield 26, 9, 6, .null), (.iconst 3, 0, 0, .int 3), (.laload, 0, 0, .null), (.lstore 11, 11, 0, .null), (.aload_n 0, 0, 0, .null), (.getfield 26, 9, 6, .null), (.iconst 4, 0, 0, .int 4), (.laload, 0, 0, .null), (.lstore 13, 13, 0, .null), (.aload_n 0, 0, 0, .null), (.getfield 26, 9, 6, .null), (.iconst 5, 0, 0, .int 5), (.laload, 0, 0, .null), (.lstore 15, 15, 0, .null), (.aload_n 0, 0, 0, .null), (.getfield 26, 9, 6, .null), (.bipush 6, 0, 0, .int 6), (.laload, 0, 0, .null), (.lstore 17, 17, 0, .null), (.aload_n 0, 0, 0, .null), (.getfield 26, 9, 6, .null), (.bipush 7, 0, 0, .int 7), (.laload, 0, 0, .null), (.lstore 19, 19, 0, .null), (.iconst 0, 0, 0, .int 0), (.istore 21, 21, 0, .null)]
set_option maxRecDepth 100000 in
theorem cb_152_172 : mChk 152 172 bk_152_172 241 = true := by decide +kernel
def bk_152_241 : List mO := [(.iload 21, 21, 0, .null), (.iload_n 2, 2, 0, .null), (.if_icmp .ge 192, 436, 0, .null)]
set_option maxRecDepth 100000 in
theorem cb_152_241 : mChk 152 241 bk_152_241 247 = true := by decide +kernel
def bk_152_247 : List mO := [(.iload_n 1, 1, 0, .null), (.ifCond .eq 18, 266, 0, .null)]
set_option maxRecDepth 100000 in
theorem cb_152_247 : mChk 152 247 bk_152_247 251 = true := by decide +kernel
def bk_152_251 : List mO := [(.lload 13, 13, 0, .null), (.bipush 6, 0, 0, .int 6), (.bipush 11, 0, 0, .int 11), (.bipush 25, 0, 0, .int 25), (.iconst 1, 0, 0, .int 1), (.invokestatic 217, 149, 5, .null), (.goto 15, 278, 0, .null)]
set_option maxRecDepth 100000 in
theorem cb_152_251 : mChk 152 251 bk_152_251 266 = true := by decide +kernel
def bk_152_266 : List mO := [(.lload 13, 13, 0, .null), (.bipush 14, 0, 0, .int 14), (.bipush 18, 0, 0, .int 18), (.bipush 41, 0, 0, .int 41), (.iconst 0, 0, 0, .int 0), (.invokestatic 217, 149, 5, .null)]
set_option maxRecDepth 100000 in
theorem cb_152_266 : mChk 152 266 bk_152_266 278 = true := by decide +kernel
def bk_152_278 : List mO := [(.lstore 22, 22, 0, .null), (.lload 19, 19, 0, .null), (.lload 22, 22, 0, .null), (.ladd, 0, 0, .null), (.lload 13, 13, 0, .null), (.lload 15, 15, 0, .null), (.land, 0, 0, .null), (.lload 13, 13, 0, .null), (.ldc2_w 211, 0, 0, .long (-1)), (.lxor, 0, 0, .null), (.lload 17, 17, 0, .null), (.land, 0, 0, .null), (.lxor, 0, 0, .null), (.ladd, 0, 0, .null), (.iload_n 1, 1, 0, .null), (.ifCond .eq 15, 317, 0, .null)]
set_option maxRecDepth 100000 in
theorem cb_152_278 : mChk 152 278 bk_152_278 305 = true := by decide +kernel
def bk_152_305 : List mO := [(.getstatic 220, 0, 0, .ref 1000005), (.iload 21, 21, 0, .null), (.laload, 0, 0, .null), (.bipush 32, 0, 0, .int 32), (.lushr, 0, 0, .null), (.goto 9, 323, 0, .null)]
set_option maxRecDepth 100000 in
theorem cb_152_305 : mChk 152 305 bk_152_305 317 = true := by decide +kernel
def bk_152_317 : List mO := [(.getstatic 220, 0, 0, .ref 1000005), (.iload 21, 21, 0, .null), (.laload, 0, 0, .null)]
set_option maxRecDepth 100000 in
theorem cb_152_317 : mChk 152 317 bk_152_317 323 = true := by decide +kernel
def bk_152_323 : List mO := [(.ladd, 0, 0, .null), (.aload_n 0, 0, 0, .null), (.getfield 22, 9, 5, .null), (.iload 21, 21, 0, .null), (.laload, 0, 0, .null), (.ladd, 0, 0, .null), (.lstore 24, 24, 0, .null), (.iload_n 1, 1, 0, .null), (.ifCond .eq 17, 352, 0, .null)]
set_option maxRecDepth 100000 in
theorem cb_152_323 : mChk 152 323 bk_152_323 338 = true := by decide +kernel
def bk_152_338 : List mO := [(.lload 5, 5, 0, .null), (.iconst 2, 0, 0, .int 2), (.bipush 13, 0, 0, .int 13), (.bipush 22, 0, 0, .int 22), (.iconst 1, 0, 0, .int 1), (.invokestatic 217, 149, 5, .null), (.goto 15, 364, 0, .null)]
set_option maxRecDepth 100000 in
theorem cb_152_338 : mChk 152 338 bk_152_338 352 = true := by decide +kernel
def bk_152_352 : List mO := [(.lload 5, 5, 0, .null), (.bipush 28, 0, 0, .int 28), (.bipush 34, 0, 0, .int 34), (.bipush 39, 0, 0, .int 39), (.iconst 0, 0, 0, .int 0), (.invokestatic 217, 149, 5, .null)]
set_option maxRecDepth 100000 in
theorem cb_152_352 : mChk 152 352 bk_152_352 364 = true := by decide +kernel
def bk_152_364 : List mO := [(.lstore 26, 26, 0, .null), (.lload 26, 26, 0, .null), (.lload 5, 5, 0, .null), (.lload 7, 7, 0, .null), (.land, 0, 0, .null), (.lload 5, 5, 0, .null), (.lload 9, 9, 0, .null), (.land, 0, 0, .null), (.lxor, 0, 0, .null), (.lload 7, 7, 0, .null), (.lload 9, 9, 0, .null), (.land, 0, 0, .null), (.lxor, 0, 0, .null), (.ladd, 0, 0, .null), (.lstore 28, 28, 0, .null), (.lload 17, 17, 0, .null), (.lstore 19, 19, 0, .null), (.lload 15, 15, 0, .null), (.lstore 17, 17, 0, .null), (.lload 13, 13, 0, .null), (.lstore 15, 15, 0, .null), (.lload 11, 11, 0, .null), (.lload 24, 24, 0, .null), (.ladd, 0, 0, .null), (.lload_n 3, 3, 0, .null), (.land, 0, 0, .null), (.lstore 13, 13, 0, .null), (.lload 9, 9, 0, .null), (.lstore 11, 11, 0, .null), (.lload 7, 7, 0, .null), (.lstore 9, 9, 0, .null), (.lload 5, 5, 0, .null), (.lstore 7, 7, 0, .null), (.lload 24, 24, 0, .null), (.lload 28, 28, 0, .null), (.ladd, 0, 0, .null), (.lload_n 3, 3, 0, .null), (.land, 0, 0, .null), (.lstore 5, 5, 0, .null), (.iinc 21 1, 21, 0, .int 1), (.goto (-192), 241, 0, .null)]
set_option maxRecDepth 100000 in
theorem cb_152_364 : mChk 152 364 bk_152_364 436 = true := by decide +kernel
def bk_152_436 : List mO := [(.aload_n 0, 0, 0, .null), (.getfield 26, 9, 6, .null), (.iconst 0, 0, 0, .int 0), (.aload_n 0, 0, 0, .null), (.getfield 26, 9, 6, .null), (.iconst 0, 0, 0, .int 0), (.laload, 0, 0, .null), (.lload 5, 5, 0, .null), (.ladd, 0, 0, .null), (.lload_n 3, 3, 0, .null), (.land, 0, 0, .null), (.lastore, 0, 0, .null), (.aload_n 0, 0, 0, .null), (.getfield 26, 9, 6, .null), (.iconst 1, 0, 0, .int 1), (.aload_n 0, 0, 0, .null), (.getfield 26, 9, 6, .null), (.iconst 1, 0, 0, .int 1), (.laload, 0, 0, .null), (.lload 7, 7, 0, .null), (.ladd, 0, 0, .null), (.lload_n 3, 3, 0, .null), (.land, 0, 0, .null), (.lastore, 0, 0, .null), (.aload_n 0, 0, 0, .null), (.getfield 26, 9, 6, .null), (.iconst 2, 0, 0, .int 2), (.aload_n 0, 0, 0, .null), (.getfield 26, 9, 6, .null), (.iconst 2, 0, 0, .int 2), (.laload, 0, 0, .null), (.lload 9, 9, 0, .null), (.ladd, 0, 0, .null), (.lload_n 3, 3, 0, .null), (.land, 0, 0, .null), (.lastore, 0, 0, .null), (.aload_n 0, 0, 0, .null), (.getfield 26, 9, 6, .null), (.iconst 3, 0, 0, .int 3), (.aload_n 0, 0, 0, .null), (.getfield 26, 9, 6, .null), (.iconst 3, 0, 0, .int 3), (.laload, 0, 0, .null), (.lload 11, 11, 0, .null), (.ladd, 0, 0, .null), (.lload_n 3, 3, 0, .null), (.land, 0, 0, .null), (.lastore, 0, 0, .null), (.aload_n 0, 0, 0, .null), (.getfield 26, 9, 6, .null), (.iconst 4, 0, 0, .int 4), (.aload_n 0, 0, 0, .null), (.getfield 26, 9, 6, .null), (.iconst 4, 0, 0, .int 4), (.laload, 0, 0, .null), (.lload 13, 13, 0, .null), (.ladd, 0, 0, .null), (.lload_n 3, 3, 0, .null), (.land, 0, 0, .null), (.lastore, 0, 0, .null), (.aload_n 0, 0, 0, .null), (.getfield 26, 9, 6, .null), (.iconst 5, 0, 0, .int 5), (.aload_n 0, 0, 0, .null), (.getfield 26, 9, 6, .null), (.iconst 5, 0, 0, .int 5), (.laload, 0, 0, .null), (.lload 15, 15, 0, .null), (.ladd, 0, 0, .null), (.lload_n 3, 3, 0, .null), (.land, 0, 0, .null), (.lastore, 0, 0, .null), (.aload_n 0, 0, 0, .null), (.getfield 26, 9, 6, .null), (.bipush 6, 0, 0, .int 6), (.aload_n 0, 0, 0, .null), (.getfield 26, 9, 6, .null), (.bipush 6, 0, 0, .int 6), (.laload, 0, 0, .null), (.lload 17, 17, 0, .null), (.ladd, 0, 0, .null), (.lload_n 3, 3, 0, .null), (.land, 0, 0, .null), (.lastore, 0, 0, .null), (.aload_n 0, 0, 0, .null), (.getfield 26, 9, 6, .null), (.bipush 7, 0, 0, .int 7), (.aload_n 0, 0, 0, .null), (.getfield 26, 9, 6, .null), (.bipush 7, 0, 0, .int 7), (.laload, 0, 0, .null), (.lload 19, 19, 0, .null), (.ladd, 0, 0, .null), (.lload_n 3, 3, 0, .null), (.land, 0, 0, .null), (.lastore, 0, 0, .null), (.return_, 0, 0, .null)]
set_option maxRecDepth 100000 in
theorem cb_152_436 : mChk 152 436 bk_152_436 577 = true := by decide +kernel
-- method 153: KeySealerModel.hash(III)I, locals 5, room (4, 125)
def bk_153_0 : List mO := [(.iload_n 1, 1, 0, .null), (.iconst 1, 0, 0, .int 1), (.if_icmp .eq 8, 10, 0, .null)]
set_option maxRecDepth 100000 in
theorem cb_153_0 : mChk 153 0 bk_153_0 5 = true := by decide +kernel
def bk_153_5 : List mO := [(.iload_n 1, 1, 0, .null), (.iconst 3, 0, 0, .int 3), (.if_icmp .ne 17, 24, 0, .null)]
set_option maxRecDepth 100000 in
theorem cb_153_5 : mChk 153 5 bk_153_5 10 = true := by decide +kernel
def bk_153_10 : List mO := [(.iload_n 2, 2, 0, .null), (.invokestatic 184, 137, 1, .null), (.ifCond .eq 10, 24, 0, .null)]
set_option maxRecDepth 100000 in
theorem cb_153_10 : mChk 153 10 bk_153_10 17 = true := by decide +kernel
def bk_153_17 : List mO := [(.iload_n 3, 3, 0, .null), (.invokestatic 184, 137, 1, .null), (.ifCond .ne 6, 27, 0, .null)]
set_option maxRecDepth 100000 in
theorem cb_153_17 : mChk 153 17 bk_153_17 24 = true := by decide +kernel
def bk_153_24 : List mO := [(.bipush (-2), 0, 0, .int (-2)), (.ireturn, 0, 0, .int 0)]
set_option maxRecDepth 100000 in
theorem cb_153_24 : mChk 153 24 bk_153_24 27 = true := by decide +kernel
def bk_153_27 : List mO := [(.aload_n 0, 0, 0, .null), (.iconst 0, 0, 0, .int 0), (.putfield 200, 9, 4, .int 0), (.iconst 0, 0, 0, .int 0), (.istore 4, 4, 0, .null)]
set_option maxRecDepth 100000 in
theorem cb_153_27 : mChk 153 27 bk_153_27 35 = true := by decide +kernel
def bk_153_35 : List mO := [(.iload 4, 4, 0, .null), (.aload_n 0, 0, 0, .null), (.getfield 13, 9, 1, .null), (.iload_n 3, 3, 0, .null), (.iaload, 0, 0, .null), (.if_icmp .ge 39, 82, 0, .null)]
set_option maxRecDepth 100000 in
theorem cb_153_35 : mChk 153 35 bk_153_35 46 = true := by decide +kernel
def bk_153_46 : List mO := [(.aload_n 0, 0, 0, .null), (.getfield 19, 9, 3, .null), (.iload 4, 4, 0, .null), (.aload_n 0, 0, 0, .null), (.getfield 7, 9, 0, .null), (.sipush 300, 0, 0, .int 300), (.iload_n 3, 3, 0, .null), (.imul, 0, 0, .null), (.iload 4, 4, 0, .null), (.iadd, 0, 0, .null), (.iaload, 0, 0, .null), (.iastore, 0, 0, .null), (.aload_n 0, 0, 0, .null), (.dup, 0, 0, .null), (.getfield 200, 9, 4, .null), (.iconst 1, 0, 0, .int 1), (.iadd, 0, 0, .null), (.putfield 200, 9, 4, .int 0), (.iinc 4 1, 4, 0, .int 1), (.goto (-44), 35, 0, .null)]
set_option maxRecDepth 100000 in
theorem cb_153_46 : mChk 153 46 bk_153_46 82 = true := by decide +kernel
def bk_153_82 : List mO := [(.aload_n 0, 0, 0, .null), (.iload_n 1, 1, 0, .null), (.invokevirtual 223, 151, 1, .ref 9), (.aload_n 0, 0, 0, .null), (.iload_n 2, 2, 0, .null), (.iload_n 1, 1, 0, .null), (.invokestatic 227, 147, 1, .null), (.invokevirtual 231, 154, 2, .ref 9), (.iload_n 1, 1, 0, .null), (.invokestatic 227, 147, 1, .null), (.ireturn, 0, 0, .int 0)]
set_option maxRecDepth 100000 in
theorem cb_153_82 : mChk 153 82 bk_153_82 101 = true := by decide +kernel
-- method 154: KeySealerModel.giveHash(II)V, locals 4, room (1, 23)
def bk_154_0 : List mO := [(.iconst 0, 0, 0, .int 0), (.istore_n 3, 3, 0, .null)]
set_option maxRecDepth 100000 in
theorem cb_154_0 : mChk 154 0 bk_154_0 2 = true := by decide +kernel
def bk_154_2 : List mO := [(.iload_n 3, 3, 0, .null), (.iload_n 2, 2, 0, .null), (.if_icmp .ge 21, 25, 0, .null)]
set_option maxRecDepth 100000 in
theorem cb_154_2 : mChk 154 2 bk_154_2 7 = true := by decide +kernel
def bk_154_7 : List mO := [(.aload_n 0, 0, 0, .null), (.getfield 16, 9, 2, .null), (.iload_n 3, 3, 0, .null), (.aload_n 0, 0, 0, .null), (.getfield 29, 9, 7, .null), (.iload_n 3, 3, 0, .null), (.iaload, 0, 0, .null), (.iastore, 0, 0, .null), (.iinc 3 1, 3, 0, .int 1), (.goto (-20), 2, 0, .null)]
set_option maxRecDepth 100000 in
theorem cb_154_7 : mChk 154 7 bk_154_7 25 = true := by decide +kernel
def bk_154_25 : List mO := [(.aload_n 0, 0, 0, .null), (.iload_n 1, 1, 0, .null), (.iload_n 2, 2, 0, .null), (.invokevirtual 190, 146, 2, .ref 9), (.return_, 0, 0, .null)]
set_option maxRecDepth 100000 in
theorem cb_154_25 : mChk 154 25 bk_154_25 32 = true := by decide +kernel
-- method 155: KeySealerModel.build(I)V, locals 2, room (0, 0)
def bk_155_0 : List mO := [(.aload_n 0, 0, 0, .null), (.getfield 35, 9, 10, .null), (.aload_n 0, 0, 0, .null), (.getfield 234, 9, 11, .null), (.iload_n 1, 1, 0, .null), (.iastore, 0, 0, .null), (.aload_n 0, 0, 0, .null), (.dup, 0, 0, .null), (.getfield 234, 9, 11, .null), (.iconst 1, 0, 0, .int 1), (.iadd, 0, 0, .null), (.putfield 234, 9, 11, .int 0), (.return_, 0, 0, .null)]
set_option maxRecDepth 100000 in
theorem cb_155_0 : mChk 155 0 bk_155_0 21 = true := by decide +kernel
-- method 156: KeySealerModel.buildAll([I)V, locals 3, room (1, 21)
def bk_156_0 : List mO := [(.iconst 0, 0, 0, .int 0), (.istore_n 2, 2, 0, .null)]
set_option maxRecDepth 100000 in
theorem cb_156_0 : mChk 156 0 bk_156_0 2 = true := by decide +kernel
def bk_156_2 : List mO := [(.iload_n 2, 2, 0, .null), (.aload_n 1, 1, 0, .null), (.arraylength, 0, 0, .null), (.if_icmp .ge 16, 21, 0, .null)]
set_option maxRecDepth 100000 in
theorem cb_156_2 : mChk 156 2 bk_156_2 8 = true := by decide +kernel
def bk_156_8 : List mO := [(.aload_n 0, 0, 0, .null), (.aload_n 1, 1, 0, .null), (.iload_n 2, 2, 0, .null), (.iaload, 0, 0, .null), (.invokevirtual 237, 155, 1, .ref 9), (.iinc 2 1, 2, 0, .int 1), (.goto (-16), 2, 0, .null)]
set_option maxRecDepth 100000 in
theorem cb_156_8 : mChk 156 8 bk_156_8 21 = true := by decide +kernel
def bk_156_21 : List mO := [(.return_, 0, 0, .null)]
set_option maxRecDepth 100000 in
theorem cb_156_21 : mChk 156 21 bk_156_21 22 = true := by decide +kernel
-- method 157: KeySealerModel.buildPart([III)V, locals 5, room (1, 21)
def bk_157_0 : List mO := [(.iconst 0, 0, 0, .int 0), (.istore 4, 4, 0, .null)]
set_option maxRecDepth 100000 in
theorem cb_157_0 : mChk 157 0 bk_157_0 3 = true := by decide +kernel
def bk_157_3 : List mO := [(.iload 4, 4, 0, .null), (.iload_n 3, 3, 0, .null), (.if_icmp .ge 19, 25, 0, .null)]
set_option maxRecDepth 100000 in
theorem cb_157_3 : mChk 157 3 bk_157_3 9 = true := by decide +kernel
def bk_157_9 : List mO := [(.aload_n 0, 0, 0, .null), (.aload_n 1, 1, 0, .null), (.iload_n 2, 2, 0, .null), (.iload 4, 4, 0, .null), (.iadd, 0, 0, .null), (.iaload, 0, 0, .null), (.invokevirtual 237, 155, 1, .ref 9), (.iinc 4 1, 4, 0, .int 1), (.goto (-19), 3, 0, .null)]
set_option maxRecDepth 100000 in
theorem cb_157_9 : mChk 157 9 bk_157_9 25 = true := by decide +kernel
def bk_157_25 : List mO := [(.return_, 0, 0, .null)]
set_option maxRecDepth 100000 in
theorem cb_157_25 : mChk 157 25 bk_157_25 26 = true := by decide +kernel
-- method 158: KeySealerModel.buildReg(I)V, locals 2, room (2, 45)
def bk_158_0 : List mO := [(.aload_n 0, 0, 0, .null), (.aload_n 0, 0, 0, .null), (.getfield 7, 9, 0, .null), (.iload_n 1, 1, 0, .null), (.ifCond .ge 7, 13, 0, .null)]
set_option maxRecDepth 100000 in
theorem cb_158_0 : mChk 158 0 bk_158_0 9 = true := by decide +kernel
def bk_158_9 : List mO := [(.iconst 0, 0, 0, .int 0), (.goto 8, 18, 0, .null)]
set_option maxRecDepth 100000 in
theorem cb_158_9 : mChk 158 9 bk_158_9 13 = true := by decide +kernel
def bk_158_13 : List mO := [(.sipush 300, 0, 0, .int 300), (.iload_n 1, 1, 0, .null), (.imul, 0, 0, .null)]
set_option maxRecDepth 100000 in
theorem cb_158_13 : mChk 158 13 bk_158_13 18 = true := by decide +kernel
def bk_158_18 : List mO := [(.iload_n 1, 1, 0, .null), (.ifCond .ge 7, 26, 0, .null)]
set_option maxRecDepth 100000 in
theorem cb_158_18 : mChk 158 18 bk_158_18 22 = true := by decide +kernel
def bk_158_22 : List mO := [(.iconst 0, 0, 0, .int 0), (.goto 9, 32, 0, .null)]
set_option maxRecDepth 100000 in
theorem cb_158_22 : mChk 158 22 bk_158_22 26 = true := by decide +kernel
def bk_158_26 : List mO := [(.aload_n 0, 0, 0, .null), (.getfield 13, 9, 1, .null), (.iload_n 1, 1, 0, .null), (.iaload, 0, 0, .null)]
set_option maxRecDepth 100000 in
theorem cb_158_26 : mChk 158 26 bk_158_26 32 = true := by decide +kernel
def bk_158_32 : List mO := [(.invokevirtual 240, 157, 3, .ref 9), (.return_, 0, 0, .null)]
set_option maxRecDepth 100000 in
theorem cb_158_32 : mChk 158 32 bk_158_32 36 = true := by decide +kernel
-- method 159: KeySealerModel.keyIs(I[III)V, locals 7, room (4, 125)
def bk_159_0 : List mO := [(.iconst 2, 0, 0, .int 2), (.iload_n 1, 1, 0, .null), (.invokestatic 227, 147, 1, .null), (.imul, 0, 0, .null), (.istore 5, 5, 0, .null), (.aload_n 0, 0, 0, .null), (.iload 4, 4, 0, .null), (.putfield 244, 9, 9, .int 0), (.iload 4, 4, 0, .null), (.iload 5, 5, 0, .null), (.if_icmp .le 86, 104, 0, .null)]
set_option maxRecDepth 100000 in
theorem cb_159_0 : mChk 159 0 bk_159_0 21 = true := by decide +kernel
def bk_159_21 : List mO := [(.iconst 0, 0, 0, .int 0), (.istore 6, 6, 0, .null)]
set_option maxRecDepth 100000 in
theorem cb_159_21 : mChk 159 21 bk_159_21 24 = true := by decide +kernel
def bk_159_24 : List mO := [(.iload 6, 6, 0, .null), (.iload 4, 4, 0, .null), (.if_icmp .ge 22, 50, 0, .null)]
set_option maxRecDepth 100000 in
theorem cb_159_24 : mChk 159 24 bk_159_24 31 = true := by decide +kernel
def bk_159_31 : List mO := [(.aload_n 0, 0, 0, .null), (.getfield 19, 9, 3, .null), (.iload 6, 6, 0, .null), (.aload_n 2, 2, 0, .null), (.iload_n 3, 3, 0, .null), (.iload 6, 6, 0, .null), (.iadd, 0, 0, .null), (.iaload, 0, 0, .null), (.iastore, 0, 0, .null), (.iinc 6 1, 6, 0, .int 1), (.goto (-23), 24, 0, .null)]
set_option maxRecDepth 100000 in
theorem cb_159_31 : mChk 159 31 bk_159_31 50 = true := by decide +kernel
def bk_159_50 : List mO := [(.aload_n 0, 0, 0, .null), (.iload 4, 4, 0, .null), (.putfield 200, 9, 4, .int 0), (.aload_n 0, 0, 0, .null), (.iload_n 1, 1, 0, .null), (.invokevirtual 223, 151, 1, .ref 9), (.aload_n 0, 0, 0, .null), (.iload_n 1, 1, 0, .null), (.invokestatic 227, 147, 1, .null), (.putfield 244, 9, 9, .int 0), (.iconst 0, 0, 0, .int 0), (.istore 6, 6, 0, .null)]
set_option maxRecDepth 100000 in
theorem cb_159_50 : mChk 159 50 bk_159_50 72 = true := by decide +kernel
def bk_159_72 : List mO := [(.iload 6, 6, 0, .null), (.aload_n 0, 0, 0, .null), (.getfield 244, 9, 9, .null), (.if_icmp .ge 23, 101, 0, .null)]
set_option maxRecDepth 100000 in
theorem cb_159_72 : mChk 159 72 bk_159_72 81 = true := by decide +kernel
def bk_159_81 : List mO := [(.aload_n 0, 0, 0, .null), (.getfield 32, 9, 8, .null), (.iload 6, 6, 0, .null), (.aload_n 0, 0, 0, .null), (.getfield 29, 9, 7, .null), (.iload 6, 6, 0, .null), (.iaload, 0, 0, .null), (.iastore, 0, 0, .null), (.iinc 6 1, 6, 0, .int 1), (.goto (-26), 72, 0, .null)]
set_option maxRecDepth 100000 in
theorem cb_159_81 : mChk 159 81 bk_159_81 101 = true := by decide +kernel
def bk_159_101 : List mO := [(.goto 32, 133, 0, .null)]
set_option maxRecDepth 100000 in
theorem cb_159_101 : mChk 159 101 bk_159_101 104 = true := by decide +kernel
def bk_159_104 : List mO := [(.iconst 0, 0, 0, .int 0), (.istore 6, 6, 0, .null)]
set_option maxRecDepth 100000 in
theorem cb_159_104 : mChk 159 104 bk_159_104 107 = true := by decide +kernel
def bk_159_107 : List mO := [(.iload 6, 6, 0, .null), (.iload 4, 4, 0, .null), (.if_icmp .ge 22, 133, 0, .null)]
set_option maxRecDepth 100000 in
theorem cb_159_107 : mChk 159 107 bk_159_107 114 = true := by decide +kernel
def bk_159_114 : List mO := [(.aload_n 0, 0, 0, .null), (.getfield 32, 9, 8, .null), (.iload 6, 6, 0, .null), (.aload_n 2, 2, 0, .null), (.iload_n 3, 3, 0, .null), (.iload 6, 6, 0, .null), (.iadd, 0, 0, .null), (.iaload, 0, 0, .null), (.iastore, 0, 0, .null), (.iinc 6 1, 6, 0, .int 1), (.goto (-23), 107, 0, .null)]
set_option maxRecDepth 100000 in
theorem cb_159_114 : mChk 159 114 bk_159_114 133 = true := by decide +kernel
def bk_159_133 : List mO := [(.aload_n 0, 0, 0, .null), (.getfield 244, 9, 9, .null), (.istore 6, 6, 0, .null)]
set_option maxRecDepth 100000 in
theorem cb_159_133 : mChk 159 133 bk_159_133 139 = true := by decide +kernel
def bk_159_139 : List mO := [(.iload 6, 6, 0, .null), (.sipush 128, 0, 0, .int 128), (.if_icmp .ge 17, 161, 0, .null)]
set_option maxRecDepth 100000 in
theorem cb_159_139 : mChk 159 139 bk_159_139 147 = true := by decide +kernel
def bk_159_147 : List mO := [(.aload_n 0, 0, 0, .null), (.getfield 32, 9, 8, .null), (.iload 6, 6, 0, .null), (.iconst 0, 0, 0, .int 0), (.iastore, 0, 0, .null), (.iinc 6 1, 6, 0, .int 1), (.goto (-19), 139, 0, .null)]
set_option maxRecDepth 100000 in
theorem cb_159_147 : mChk 159 147 bk_159_147 161 = true := by decide +kernel
def bk_159_161 : List mO := [(.return_, 0, 0, .null)]
set_option maxRecDepth 100000 in
theorem cb_159_161 : mChk 159 161 bk_159_161 162 = true := by decide +kernel
-- method 160: KeySealerModel.keyed(I)V, locals 4, room (4, 125)
def bk_160_0 : List mO := [(.iconst 2, 0, 0, .int 2), (.iload_n 1, 1, 0, .null), (.invokestatic 227, 147, 1, .null), (.imul, 0, 0, .null), (.istore_n 2, 2, 0, .null), (.iconst 0, 0, 0, .int 0), (.istore_n 3, 3, 0, .null)]
set_option maxRecDepth 100000 in
theorem cb_160_0 : mChk 160 0 bk_160_0 9 = true := by decide +kernel
def bk_160_9 : List mO := [(.iload_n 3, 3, 0, .null), (.iload_n 2, 2, 0, .null), (.if_icmp .ge 24, 35, 0, .null)]
set_option maxRecDepth 100000 in
theorem cb_160_9 : mChk 160 9 bk_160_9 14 = true := by decide +kernel
def bk_160_14 : List mO := [(.aload_n 0, 0, 0, .null), (.getfield 19, 9, 3, .null), (.iload_n 3, 3, 0, .null), (.aload_n 0, 0, 0, .null), (.getfield 32, 9, 8, .null), (.iload_n 3, 3, 0, .null), (.iaload, 0, 0, .null), (.bipush 54, 0, 0, .int 54), (.ixor, 0, 0, .null), (.iastore, 0, 0, .null), (.iinc 3 1, 3, 0, .int 1), (.goto (-23), 9, 0, .null)]
set_option maxRecDepth 100000 in
theorem cb_160_14 : mChk 160 14 bk_160_14 35 = true := by decide +kernel
def bk_160_35 : List mO := [(.iconst 0, 0, 0, .int 0), (.istore_n 3, 3, 0, .null)]
set_option maxRecDepth 100000 in
theorem cb_160_35 : mChk 160 35 bk_160_35 37 = true := by decide +kernel
def bk_160_37 : List mO := [(.iload_n 3, 3, 0, .null), (.aload_n 0, 0, 0, .null), (.getfield 234, 9, 11, .null), (.if_icmp .ge 23, 65, 0, .null)]
set_option maxRecDepth 100000 in
theorem cb_160_37 : mChk 160 37 bk_160_37 45 = true := by decide +kernel
def bk_160_45 : List mO := [(.aload_n 0, 0, 0, .null), (.getfield 19, 9, 3, .null), (.iload_n 2, 2, 0, .null), (.iload_n 3, 3, 0, .null), (.iadd, 0, 0, .null), (.aload_n 0, 0, 0, .null), (.getfield 35, 9, 10, .null), (.iload_n 3, 3, 0, .null), (.iaload, 0, 0, .null), (.iastore, 0, 0, .null), (.iinc 3 1, 3, 0, .int 1), (.goto (-25), 37, 0, .null)]
set_option maxRecDepth 100000 in
theorem cb_160_45 : mChk 160 45 bk_160_45 65 = true := by decide +kernel
def bk_160_65 : List mO := [(.aload_n 0, 0, 0, .null), (.iload_n 2, 2, 0, .null), (.aload_n 0, 0, 0, .null), (.getfield 234, 9, 11, .null), (.iadd, 0, 0, .null), (.putfield 200, 9, 4, .int 0), (.aload_n 0, 0, 0, .null), (.iload_n 1, 1, 0, .null), (.invokevirtual 223, 151, 1, .ref 9), (.iconst 0, 0, 0, .int 0), (.istore_n 3, 3, 0, .null)]
set_option maxRecDepth 100000 in
theorem cb_160_65 : mChk 160 65 bk_160_65 82 = true := by decide +kernel
def bk_160_82 : List mO := [(.iload_n 3, 3, 0, .null), (.iload_n 2, 2, 0, .null), (.if_icmp .ge 24, 108, 0, .null)]
set_option maxRecDepth 100000 in
theorem cb_160_82 : mChk 160 82 bk_160_82 87 = true := by decide +kernel
def bk_160_87 : List mO := [(.aload_n 0, 0, 0, .null), (.getfield 19, 9, 3, .null), (.iload_n 3, 3, 0, .null), (.aload_n 0, 0, 0, .null), (.getfield 32, 9, 8, .null), (.iload_n 3, 3, 0, .null), (.iaload, 0, 0, .null), (.bipush 92, 0, 0, .int 92), (.ixor, 0, 0, .null), (.iastore, 0, 0, .null), (.iinc 3 1, 3, 0, .int 1), (.goto (-23), 82, 0, .null)]
set_option maxRecDepth 100000 in
theorem cb_160_87 : mChk 160 87 bk_160_87 108 = true := by decide +kernel
def bk_160_108 : List mO := [(.iconst 0, 0, 0, .int 0), (.istore_n 3, 3, 0, .null)]
set_option maxRecDepth 100000 in
theorem cb_160_108 : mChk 160 108 bk_160_108 110 = true := by decide +kernel
def bk_160_110 : List mO := [(.iload_n 3, 3, 0, .null), (.iload_n 1, 1, 0, .null), (.invokestatic 227, 147, 1, .null), (.if_icmp .ge 23, 138, 0, .null)]
set_option maxRecDepth 100000 in
theorem cb_160_110 : mChk 160 110 bk_160_110 118 = true := by decide +kernel
def bk_160_118 : List mO := [(.aload_n 0, 0, 0, .null), (.getfield 19, 9, 3, .null), (.iload_n 2, 2, 0, .null), (.iload_n 3, 3, 0, .null), (.iadd, 0, 0, .null), (.aload_n 0, 0, 0, .null), (.getfield 29, 9, 7, .null), (.iload_n 3, 3, 0, .null), (.iaload, 0, 0, .null), (.iastore, 0, 0, .null), (.iinc 3 1, 3, 0, .int 1), (.goto (-25), 110, 0, .null)]
set_option maxRecDepth 100000 in
theorem cb_160_118 : mChk 160 118 bk_160_118 138 = true := by decide +kernel
def bk_160_138 : List mO := [(.aload_n 0, 0, 0, .null), (.iload_n 2, 2, 0, .null), (.iload_n 1, 1, 0, .null), (.invokestatic 227, 147, 1, .null), (.iadd, 0, 0, .null), (.putfield 200, 9, 4, .int 0), (.aload_n 0, 0, 0, .null), (.iload_n 1, 1, 0, .null), (.invokevirtual 223, 151, 1, .ref 9), (.return_, 0, 0, .null)]
set_option maxRecDepth 100000 in
theorem cb_160_138 : mChk 160 138 bk_160_138 154 = true := by decide +kernel
-- method 161: KeySealerModel.expandTo(II)V, locals 7, room (5, 148)
def bk_161_0 : List mO := [(.iconst 0, 0, 0, .int 0), (.istore_n 3, 3, 0, .null), (.iconst 1, 0, 0, .int 1), (.istore 4, 4, 0, .null)]
set_option maxRecDepth 100000 in
theorem cb_161_0 : mChk 161 0 bk_161_0 5 = true := by decide +kernel
def bk_161_5 : List mO := [(.iload_n 3, 3, 0, .null), (.iload_n 2, 2, 0, .null), (.if_icmp .ge 104, 111, 0, .null)]
set_option maxRecDepth 100000 in
theorem cb_161_5 : mChk 161 5 bk_161_5 10 = true := by decide +kernel
def bk_161_10 : List mO := [(.iload 4, 4, 0, .null), (.iconst 1, 0, 0, .int 1), (.if_icmp .ne 7, 20, 0, .null)]
set_option maxRecDepth 100000 in
theorem cb_161_10 : mChk 161 10 bk_161_10 16 = true := by decide +kernel
def bk_161_16 : List mO := [(.iconst 0, 0, 0, .int 0), (.goto 7, 24, 0, .null)]
set_option maxRecDepth 100000 in
theorem cb_161_16 : mChk 161 16 bk_161_16 20 = true := by decide +kernel
def bk_161_20 : List mO := [(.iload_n 1, 1, 0, .null), (.invokestatic 227, 147, 1, .null)]
set_option maxRecDepth 100000 in
theorem cb_161_20 : mChk 161 20 bk_161_20 24 = true := by decide +kernel
def bk_161_24 : List mO := [(.istore 5, 5, 0, .null), (.aload_n 0, 0, 0, .null), (.iconst 0, 0, 0, .int 0), (.putfield 234, 9, 11, .int 0), (.aload_n 0, 0, 0, .null), (.aload_n 0, 0, 0, .null), (.getfield 29, 9, 7, .null), (.iconst 0, 0, 0, .int 0), (.iload 5, 5, 0, .null), (.invokevirtual 240, 157, 3, .ref 9), (.aload_n 0, 0, 0, .null), (.aload_n 0, 0, 0, .null), (.getfield 38, 9, 12, .null), (.iconst 0, 0, 0, .int 0), (.aload_n 0, 0, 0, .null), (.getfield 247, 9, 13, .null), (.invokevirtual 240, 157, 3, .ref 9), (.aload_n 0, 0, 0, .null), (.iload 4, 4, 0, .null), (.invokevirtual 237, 155, 1, .ref 9), (.aload_n 0, 0, 0, .null), (.iload_n 1, 1, 0, .null), (.invokevirtual 250, 160, 1, .ref 9), (.iconst 0, 0, 0, .int 0), (.istore 6, 6, 0, .null)]
set_option maxRecDepth 100000 in
theorem cb_161_24 : mChk 161 24 bk_161_24 69 = true := by decide +kernel
def bk_161_69 : List mO := [(.iload 6, 6, 0, .null), (.iload_n 1, 1, 0, .null), (.invokestatic 227, 147, 1, .null), (.if_icmp .ge 30, 105, 0, .null)]
set_option maxRecDepth 100000 in
theorem cb_161_69 : mChk 161 69 bk_161_69 78 = true := by decide +kernel
def bk_161_78 : List mO := [(.iload_n 3, 3, 0, .null), (.iload_n 2, 2, 0, .null), (.if_icmp .ge 25, 105, 0, .null)]
set_option maxRecDepth 100000 in
theorem cb_161_78 : mChk 161 78 bk_161_78 83 = true := by decide +kernel
def bk_161_83 : List mO := [(.aload_n 0, 0, 0, .null), (.getfield 16, 9, 2, .null), (.iload_n 3, 3, 0, .null), (.aload_n 0, 0, 0, .null), (.getfield 29, 9, 7, .null), (.iload 6, 6, 0, .null), (.iaload, 0, 0, .null), (.iastore, 0, 0, .null), (.iinc 3 1, 3, 0, .int 1), (.iinc 6 1, 6, 0, .int 1), (.goto (-33), 69, 0, .null)]
set_option maxRecDepth 100000 in
theorem cb_161_83 : mChk 161 83 bk_161_83 105 = true := by decide +kernel
def bk_161_105 : List mO := [(.iinc 4 1, 4, 0, .int 1), (.goto (-103), 5, 0, .null)]
set_option maxRecDepth 100000 in
theorem cb_161_105 : mChk 161 105 bk_161_105 111 = true := by decide +kernel
def bk_161_111 : List mO := [(.return_, 0, 0, .null)]
set_option maxRecDepth 100000 in
theorem cb_161_111 : mChk 161 111 bk_161_111 112 = true := by decide +kernel
-- method 162: KeySealerModel.mac(IIII)I, locals 5, room (5, 151)
def bk_162_0 : List mO := [(.iload_n 1, 1, 0, .null), (.iconst 1, 0, 0, .int 1), (.if_icmp .eq 8, 10, 0, .null)]
set_option maxRecDepth 100000 in
theorem cb_162_0 : mChk 162 0 bk_162_0 5 = true := by decide +kernel
def bk_162_5 : List mO := [(.iload_n 1, 1, 0, .null), (.iconst 3, 0, 0, .int 3), (.if_icmp .ne 13, 20, 0, .null)]
set_option maxRecDepth 100000 in
theorem cb_162_5 : mChk 162 5 bk_162_5 10 = true := by decide +kernel
def bk_162_10 : List mO := [(.iload_n 2, 2, 0, .null), (.iload_n 3, 3, 0, .null), (.iload 4, 4, 0, .null), (.invokestatic 253, 138, 3, .null), (.ifCond .ne 6, 23, 0, .null)]
set_option maxRecDepth 100000 in
theorem cb_162_10 : mChk 162 10 bk_162_10 20 = true := by decide +kernel
def bk_162_20 : List mO := [(.bipush (-2), 0, 0, .int (-2)), (.ireturn, 0, 0, .int 0)]
set_option maxRecDepth 100000 in
theorem cb_162_20 : mChk 162 20 bk_162_20 23 = true := by decide +kernel
def bk_162_23 : List mO := [(.aload_n 0, 0, 0, .null), (.iload_n 1, 1, 0, .null), (.aload_n 0, 0, 0, .null), (.getfield 7, 9, 0, .null), (.sipush 300, 0, 0, .int 300), (.iload_n 3, 3, 0, .null), (.imul, 0, 0, .null), (.aload_n 0, 0, 0, .null), (.getfield 13, 9, 1, .null), (.iload_n 3, 3, 0, .null), (.iaload, 0, 0, .null), (.invokevirtual 257, 159, 4, .ref 9), (.aload_n 0, 0, 0, .null), (.iconst 0, 0, 0, .int 0), (.putfield 234, 9, 11, .int 0), (.aload_n 0, 0, 0, .null), (.iload 4, 4, 0, .null), (.invokevirtual 261, 158, 1, .ref 9), (.aload_n 0, 0, 0, .null), (.iload_n 1, 1, 0, .null), (.invokevirtual 250, 160, 1, .ref 9), (.aload_n 0, 0, 0, .null), (.iload_n 2, 2, 0, .null), (.iload_n 1, 1, 0, .null), (.invokestatic 227, 147, 1, .null), (.invokevirtual 231, 154, 2, .ref 9), (.iload_n 1, 1, 0, .null), (.invokestatic 227, 147, 1, .null), (.ireturn, 0, 0, .int 0)]
set_option maxRecDepth 100000 in
theorem cb_162_23 : mChk 162 23 bk_162_23 73 = true := by decide +kernel
-- method 163: KeySealerModel.aboutIsBuilt()V, locals 2, room (0, 0)
def bk_163_0 : List mO := [(.iconst 0, 0, 0, .int 0), (.istore_n 1, 1, 0, .null)]
set_option maxRecDepth 100000 in
theorem cb_163_0 : mChk 163 0 bk_163_0 2 = true := by decide +kernel
def bk_163_2 : List mO := [(.iload_n 1, 1, 0, .null), (.aload_n 0, 0, 0, .null), (.getfield 234, 9, 11, .null), (.if_icmp .ge 21, 28, 0, .null)]
set_option maxRecDepth 100000 in
theorem cb_163_2 : mChk 163 2 bk_163_2 10 = true := by decide +kernel
def bk_163_10 : List mO := [(.aload_n 0, 0, 0, .null), (.getfield 38, 9, 12, .null), (.iload_n 1, 1, 0, .null), (.aload_n 0, 0, 0, .null), (.getfield 35, 9, 10, .null), (.iload_n 1, 1, 0, .null), (.iaload, 0, 0, .null), (.iastore, 0, 0, .null), (.iinc 1 1, 1, 0, .int 1), (.goto (-23), 2, 0, .null)]
set_option maxRecDepth 100000 in
theorem cb_163_10 : mChk 163 10 bk_163_10 28 = true := by decide +kernel
def bk_163_28 : List mO := [(.aload_n 0, 0, 0, .null), (.aload_n 0, 0, 0, .null), (.getfield 234, 9, 11, .null), (.putfield 247, 9, 13, .int 0), (.return_, 0, 0, .null)]
set_option maxRecDepth 100000 in
theorem cb_163_28 : mChk 163 28 bk_163_28 37 = true := by decide +kernel
-- method 164: KeySealerModel.expand(IIIII)I, locals 6, room (6, 174)
def bk_164_0 : List mO := [(.iload_n 1, 1, 0, .null), (.iconst 1, 0, 0, .int 1), (.if_icmp .eq 8, 10, 0, .null)]
set_option maxRecDepth 100000 in
theorem cb_164_0 : mChk 164 0 bk_164_0 5 = true := by decide +kernel
def bk_164_5 : List mO := [(.iload_n 1, 1, 0, .null), (.iconst 3, 0, 0, .int 3), (.if_icmp .ne 26, 33, 0, .null)]
set_option maxRecDepth 100000 in
theorem cb_164_5 : mChk 164 5 bk_164_5 10 = true := by decide +kernel
def bk_164_10 : List mO := [(.iload_n 2, 2, 0, .null), (.iload_n 3, 3, 0, .null), (.iload 4, 4, 0, .null), (.invokestatic 253, 138, 3, .null), (.ifCond .eq 16, 33, 0, .null)]
set_option maxRecDepth 100000 in
theorem cb_164_10 : mChk 164 10 bk_164_10 20 = true := by decide +kernel
def bk_164_20 : List mO := [(.iload 5, 5, 0, .null), (.ifCond .lt 11, 33, 0, .null)]
set_option maxRecDepth 100000 in
theorem cb_164_20 : mChk 164 20 bk_164_20 25 = true := by decide +kernel
def bk_164_25 : List mO := [(.iload 5, 5, 0, .null), (.sipush 300, 0, 0, .int 300), (.if_icmp .le 6, 36, 0, .null)]
set_option maxRecDepth 100000 in
theorem cb_164_25 : mChk 164 25 bk_164_25 33 = true := by decide +kernel
def bk_164_33 : List mO := [(.bipush (-2), 0, 0, .int (-2)), (.ireturn, 0, 0, .int 0)]
set_option maxRecDepth 100000 in
theorem cb_164_33 : mChk 164 33 bk_164_33 36 = true := by decide +kernel
def bk_164_36 : List mO := [(.aload_n 0, 0, 0, .null), (.iconst 0, 0, 0, .int 0), (.putfield 234, 9, 11, .int 0), (.aload_n 0, 0, 0, .null), (.iload 4, 4, 0, .null), (.invokevirtual 261, 158, 1, .ref 9), (.aload_n 0, 0, 0, .null), (.invokevirtual 264, 163, 0, .ref 9), (.aload_n 0, 0, 0, .null), (.iload_n 1, 1, 0, .null), (.aload_n 0, 0, 0, .null), (.getfield 7, 9, 0, .null), (.sipush 300, 0, 0, .int 300), (.iload_n 3, 3, 0, .null), (.imul, 0, 0, .null), (.aload_n 0, 0, 0, .null), (.getfield 13, 9, 1, .null), (.iload_n 3, 3, 0, .null), (.iaload, 0, 0, .null), (.invokevirtual 257, 159, 4, .ref 9), (.aload_n 0, 0, 0, .null), (.iload_n 1, 1, 0, .null), (.iload 5, 5, 0, .null), (.invokevirtual 267, 161, 2, .ref 9), (.aload_n 0, 0, 0, .null), (.iload_n 2, 2, 0, .null), (.iload 5, 5, 0, .null), (.invokevirtual 190, 146, 2, .ref 9), (.iload 5, 5, 0, .null), (.ireturn, 0, 0, .int 0)]
set_option maxRecDepth 100000 in
theorem cb_164_36 : mChk 164 36 bk_164_36 88 = true := by decide +kernel
-- method 165: KeySealerModel.carry([J)V, locals 4, room (0, 0)
def bk_165_0 : List mO := [(.iconst 0, 0, 0, .int 0), (.istore_n 1, 1, 0, .null)]
set_option maxRecDepth 100000 in
theorem cb_165_0 : mChk 165 0 bk_165_0 2 = true := by decide +kernel
def bk_165_2 : List mO := [(.iload_n 1, 1, 0, .null), (.bipush 16, 0, 0, .int 16), (.if_icmp .ge 55, 60, 0, .null)]
set_option maxRecDepth 100000 in
theorem cb_165_2 : mChk 165 2 bk_165_2 8 = true := by decide +kernel
def bk_165_8 : List mO := [(.aload_n 0, 0, 0, .null), (.iload_n 1, 1, 0, .null), (.laload, 0, 0, .null), (.bipush 16, 0, 0, .int 16), (.lshr, 0, 0, .null), (.lstore_n 2, 2, 0, .null), (.aload_n 0, 0, 0, .null), (.iload_n 1, 1, 0, .null), (.dup2, 0, 0, .null), (.laload, 0, 0, .null), (.lload_n 2, 2, 0, .null), (.bipush 16, 0, 0, .int 16), (.lshl, 0, 0, .null), (.lsub, 0, 0, .null), (.lastore, 0, 0, .null), (.iload_n 1, 1, 0, .null), (.bipush 15, 0, 0, .int 15), (.if_icmp .ge 15, 43, 0, .null)]
set_option maxRecDepth 100000 in
theorem cb_165_8 : mChk 165 8 bk_165_8 31 = true := by decide +kernel
def bk_165_31 : List mO := [(.aload_n 0, 0, 0, .null), (.iload_n 1, 1, 0, .null), (.iconst 1, 0, 0, .int 1), (.iadd, 0, 0, .null), (.dup2, 0, 0, .null), (.laload, 0, 0, .null), (.lload_n 2, 2, 0, .null), (.ladd, 0, 0, .null), (.lastore, 0, 0, .null), (.goto 14, 54, 0, .null)]
set_option maxRecDepth 100000 in
theorem cb_165_31 : mChk 165 31 bk_165_31 43 = true := by decide +kernel
def bk_165_43 : List mO := [(.aload_n 0, 0, 0, .null), (.iconst 0, 0, 0, .int 0), (.dup2, 0, 0, .null), (.laload, 0, 0, .null), (.ldc2_w 270, 0, 0, .long 38), (.lload_n 2, 2, 0, .null), (.lmul, 0, 0, .null), (.ladd, 0, 0, .null), (.lastore, 0, 0, .null)]
set_option maxRecDepth 100000 in
theorem cb_165_43 : mChk 165 43 bk_165_43 54 = true := by decide +kernel
def bk_165_54 : List mO := [(.iinc 1 1, 1, 0, .int 1), (.goto (-55), 2, 0, .null)]
set_option maxRecDepth 100000 in
theorem cb_165_54 : mChk 165 54 bk_165_54 60 = true := by decide +kernel
def bk_165_60 : List mO := [(.return_, 0, 0, .null)]
set_option maxRecDepth 100000 in
theorem cb_165_60 : mChk 165 60 bk_165_60 61 = true := by decide +kernel
-- method 166: KeySealerModel.plus([J[J[J)V, locals 4, room (0, 0)
def bk_166_0 : List mO := [(.iconst 0, 0, 0, .int 0), (.istore_n 3, 3, 0, .null)]
set_option maxRecDepth 100000 in
theorem cb_166_0 : mChk 166 0 bk_166_0 2 = true := by decide +kernel
def bk_166_2 : List mO := [(.iload_n 3, 3, 0, .null), (.bipush 16, 0, 0, .int 16), (.if_icmp .ge 19, 24, 0, .null)]
set_option maxRecDepth 100000 in
theorem cb_166_2 : mChk 166 2 bk_166_2 8 = true := by decide +kernel
def bk_166_8 : List mO := [(.aload_n 0, 0, 0, .null), (.iload_n 3, 3, 0, .null), (.aload_n 1, 1, 0, .null), (.iload_n 3, 3, 0, .null), (.laload, 0, 0, .null), (.aload_n 2, 2, 0, .null), (.iload_n 3, 3, 0, .null), (.laload, 0, 0, .null), (.ladd, 0, 0, .null), (.lastore, 0, 0, .null), (.iinc 3 1, 3, 0, .int 1), (.goto (-19), 2, 0, .null)]
set_option maxRecDepth 100000 in
theorem cb_166_8 : mChk 166 8 bk_166_8 24 = true := by decide +kernel
def bk_166_24 : List mO := [(.return_, 0, 0, .null)]
set_option maxRecDepth 100000 in
theorem cb_166_24 : mChk 166 24 bk_166_24 25 = true := by decide +kernel
-- method 167: KeySealerModel.minus([J[J[J)V, locals 4, room (0, 0)
def bk_167_0 : List mO := [(.iconst 0, 0, 0, .int 0), (.istore_n 3, 3, 0, .null)]
set_option maxRecDepth 100000 in
theorem cb_167_0 : mChk 167 0 bk_167_0 2 = true := by decide +kernel
def bk_167_2 : List mO := [(.iload_n 3, 3, 0, .null), (.bipush 16, 0, 0, .int 16), (.if_icmp .ge 19, 24, 0, .null)]
set_option maxRecDepth 100000 in
theorem cb_167_2 : mChk 167 2 bk_167_2 8 = true := by decide +kernel
def bk_167_8 : List mO := [(.aload_n 0, 0, 0, .null), (.iload_n 3, 3, 0, .null), (.aload_n 1, 1, 0, .null), (.iload_n 3, 3, 0, .null), (.laload, 0, 0, .null), (.aload_n 2, 2, 0, .null), (.iload_n 3, 3, 0, .null), (.laload, 0, 0, .null), (.lsub, 0, 0, .null), (.lastore, 0, 0, .null), (.iinc 3 1, 3, 0, .int 1), (.goto (-19), 2, 0, .null)]
set_option maxRecDepth 100000 in
theorem cb_167_8 : mChk 167 8 bk_167_8 24 = true := by decide +kernel
def bk_167_24 : List mO := [(.return_, 0, 0, .null)]
set_option maxRecDepth 100000 in
theorem cb_167_24 : mChk 167 24 bk_167_24 25 = true := by decide +kernel

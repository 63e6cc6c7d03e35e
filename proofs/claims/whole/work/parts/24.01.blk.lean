/-! PART 24.01: blocks of code and their checks, printed by program (wip/whole/mk13.py) -/
-- method 42: KeySealer$Curve.writeLimbs([J)V, locals 11, room (1, 21)
def bk_42_0 : List mO := [(.lconst 0, 0, 0, .long 0), (.lstore_n 2, 2, 0, .null), (.iconst 0, 0, 0, .int 0), (.istore 4, 4, 0, .null)]
set_option maxRecDepth 100000 in
theorem cb_42_0 : mChk 42 0 bk_42_0 5 = true := by decide +kernel
def bk_42_5 : List mO := [(.iload 4, 4, 0, .null), (.bipush 10, 0, 0, .int 10), (.if_icmp .ge 24, 33, 0, .null)]
set_option maxRecDepth 100000 in
theorem cb_42_5 : mChk 42 5 bk_42_5 12 = true := by decide +kernel
def bk_42_12 : List mO := [(.aload_n 1, 1, 0, .null), (.iload 4, 4, 0, .null), (.laload, 0, 0, .null), (.lload_n 2, 2, 0, .null), (.ladd, 0, 0, .null), (.bipush 26, 0, 0, .int 26), (.iload 4, 4, 0, .null), (.iconst 1, 0, 0, .int 1), (.iand, 0, 0, .null), (.isub, 0, 0, .null), (.lshr, 0, 0, .null), (.lstore_n 2, 2, 0, .null), (.iinc 4 1, 4, 0, .int 1), (.goto (-25), 5, 0, .null)]
set_option maxRecDepth 100000 in
theorem cb_42_12 : mChk 42 12 bk_42_12 33 = true := by decide +kernel
def bk_42_33 : List mO := [(.lload_n 2, 2, 0, .null), (.lconst 0, 0, 0, .long 0), (.lcmp, 0, 0, .null), (.ifCond .ge 9, 45, 0, .null)]
set_option maxRecDepth 100000 in
theorem cb_42_33 : mChk 42 33 bk_42_33 39 = true := by decide +kernel
def bk_42_39 : List mO := [(.ldc2_w 121, 0, 0, .long (-19)), (.goto 4, 46, 0, .null)]
set_option maxRecDepth 100000 in
theorem cb_42_39 : mChk 42 39 bk_42_39 45 = true := by decide +kernel
def bk_42_45 : List mO := [(.lconst 0, 0, 0, .long 0)]
set_option maxRecDepth 100000 in
theorem cb_42_45 : mChk 42 45 bk_42_45 46 = true := by decide +kernel
def bk_42_46 : List mO := [(.lstore_n 2, 2, 0, .null), (.lconst 0, 0, 0, .long 0), (.lstore 4, 4, 0, .null), (.iconst 0, 0, 0, .int 0), (.istore 6, 6, 0, .null), (.aload_n 0, 0, 0, .null), (.getfield 47, 2, 10, .null), (.invokevirtual 123, 63, 0, .ref 6), (.iconst 0, 0, 0, .int 0), (.istore 7, 7, 0, .null)]
set_option maxRecDepth 100000 in
theorem cb_42_46 : mChk 42 46 bk_42_46 63 = true := by decide +kernel
def bk_42_63 : List mO := [(.iload 7, 7, 0, .null), (.bipush 10, 0, 0, .int 10), (.if_icmp .ge 84, 151, 0, .null)]
set_option maxRecDepth 100000 in
theorem cb_42_63 : mChk 42 63 bk_42_63 70 = true := by decide +kernel
def bk_42_70 : List mO := [(.bipush 26, 0, 0, .int 26), (.iload 7, 7, 0, .null), (.iconst 1, 0, 0, .int 1), (.iand, 0, 0, .null), (.isub, 0, 0, .null), (.istore 8, 8, 0, .null), (.aload_n 1, 1, 0, .null), (.iload 7, 7, 0, .null), (.laload, 0, 0, .null), (.lload_n 2, 2, 0, .null), (.ladd, 0, 0, .null), (.lstore 9, 9, 0, .null), (.lload 9, 9, 0, .null), (.iload 8, 8, 0, .null), (.lshr, 0, 0, .null), (.lstore_n 2, 2, 0, .null), (.lload 4, 4, 0, .null), (.lload 9, 9, 0, .null), (.lload_n 2, 2, 0, .null), (.iload 8, 8, 0, .null), (.lshl, 0, 0, .null), (.lsub, 0, 0, .null), (.iload 6, 6, 0, .null), (.lshl, 0, 0, .null), (.lor, 0, 0, .null), (.lstore 4, 4, 0, .null), (.iload 6, 6, 0, .null), (.iload 8, 8, 0, .null), (.iadd, 0, 0, .null), (.istore 6, 6, 0, .null)]
set_option maxRecDepth 100000 in
theorem cb_42_70 : mChk 42 70 bk_42_70 115 = true := by decide +kernel
def bk_42_115 : List mO := [(.iload 6, 6, 0, .null), (.bipush 8, 0, 0, .int 8), (.if_icmp .lt 26, 145, 0, .null)]
set_option maxRecDepth 100000 in
theorem cb_42_115 : mChk 42 115 bk_42_115 122 = true := by decide +kernel
def bk_42_122 : List mO := [(.aload_n 0, 0, 0, .null), (.getfield 47, 2, 10, .null), (.lload 4, 4, 0, .null), (.l2i, 0, 0, .null), (.invokevirtual 126, 68, 1, .ref 6), (.lload 4, 4, 0, .null), (.bipush 8, 0, 0, .int 8), (.lushr, 0, 0, .null), (.lstore 4, 4, 0, .null), (.iinc 6 (-8), 6, 0, .int (-8)), (.goto (-27), 115, 0, .null)]
set_option maxRecDepth 100000 in
theorem cb_42_122 : mChk 42 122 bk_42_122 145 = true := by decide +kernel
def bk_42_145 : List mO := [(.iinc 7 1, 7, 0, .int 1), (.goto (-85), 63, 0, .null)]
set_option maxRecDepth 100000 in
theorem cb_42_145 : mChk 42 145 bk_42_145 151 = true := by decide +kernel
def bk_42_151 : List mO := [(.aload_n 0, 0, 0, .null), (.getfield 47, 2, 10, .null), (.lload 4, 4, 0, .null), (.l2i, 0, 0, .null), (.invokevirtual 126, 68, 1, .ref 6), (.return_, 0, 0, .null)]
set_option maxRecDepth 100000 in
theorem cb_42_151 : mChk 42 151 bk_42_151 162 = true := by decide +kernel

/-! PART 44.00: blocks of code and their checks, printed by program (wip/whole/mk13.py) -/
-- method 89: KeySealer.<init>()V, locals 2, room (4, 83)
def bk_89_0 : List mO := [(.aload_n 0, 0, 0, .null), (.invokespecial 1, 9000, 0, .null), (.aload_n 0, 0, 0, .null), (.bipush 16, 0, 0, .int 16), (.anewarray 9, 6, 0, .null), (.putfield 11, 8, 0, .ref 0), (.aload_n 0, 0, 0, .null), (.iconst 4, 0, 0, .int 4), (.anewarray 15, 1, 0, .null), (.putfield 17, 8, 1, .ref 0), (.aload_n 0, 0, 0, .null), (.iconst 5, 0, 0, .int 5), (.newarray .int, 0, 0, .null), (.putfield 21, 8, 2, .ref 0), (.aload_n 0, 0, 0, .null), (.new 25, 5, 4, .null), (.dup, 0, 0, .null), (.invokespecial 27, 56, 0, .int 1), (.putfield 28, 8, 3, .ref 0), (.aload_n 0, 0, 0, .null), (.new 32, 2, 11, .null), (.dup, 0, 0, .null), (.invokespecial 34, 28, 0, .int 1), (.putfield 35, 8, 4, .ref 0), (.aload_n 0, 0, 0, .null), (.new 39, 0, 12, .null), (.dup, 0, 0, .null), (.invokespecial 41, 0, 0, .int 0), (.putfield 42, 8, 5, .ref 0), (.aload_n 0, 0, 0, .null), (.new 46, 7, 9, .null), (.dup, 0, 0, .null), (.invokespecial 48, 75, 0, .int 0), (.putfield 49, 8, 6, .ref 0), (.aload_n 0, 0, 0, .null), (.new 9, 6, 2, .null), (.dup, 0, 0, .null), (.iconst 0, 0, 0, .int 0), (.invokespecial 53, 62, 1, .int 0), (.putfield 56, 8, 7, .ref 0), (.aload_n 0, 0, 0, .null), (.new 9, 6, 2, .null), (.dup, 0, 0, .null), (.sipush 300, 0, 0, .int 300), (.invokespecial 53, 62, 1, .int 0), (.putfield 60, 8, 8, .ref 0), (.aload_n 0, 0, 0, .null), (.new 9, 6, 2, .null), (.dup, 0, 0, .null), (.bipush 12, 0, 0, .int 12), (.invokespecial 53, 62, 1, .int 0), (.putfield 63, 8, 9, .ref 0), (.aload_n 0, 0, 0, .null), (.new 9, 6, 2, .null), (.dup, 0, 0, .null), (.bipush 64, 0, 0, .int 64), (.invokespecial 53, 62, 1, .int 0), (.putfield 66, 8, 10, .ref 0), (.aload_n 0, 0, 0, .null), (.new 9, 6, 2, .null), (.dup, 0, 0, .null), (.bipush 96, 0, 0, .int 96), (.invokespecial 53, 62, 1, .int 0), (.putfield 69, 8, 11, .ref 0), (.aload_n 0, 0, 0, .null), (.new 9, 6, 2, .null), (.dup, 0, 0, .null), (.bipush 64, 0, 0, .int 64), (.invokespecial 53, 62, 1, .int 0), (.putfield 72, 8, 12, .ref 0), (.aload_n 0, 0, 0, .null), (.new 9, 6, 2, .null), (.dup, 0, 0, .null), (.bipush 32, 0, 0, .int 32), (.invokespecial 53, 62, 1, .int 0), (.putfield 75, 8, 13, .ref 0), (.aload_n 0, 0, 0, .null), (.new 9, 6, 2, .null), (.dup, 0, 0, .null), (.sipush 129, 0, 0, .int 129), (.invokespecial 53, 62, 1, .int 0), (.putfield 78, 8, 14, .ref 0), (.iconst 0, 0, 0, .int 0), (.istore_n 1, 1, 0, .null)]
set_option maxRecDepth 100000 in
theorem cb_89_0 : mChk 89 0 bk_89_0 179 = true := by decide +kernel
def bk_89_179 : List mO := [(.iload_n 1, 1, 0, .null), (.bipush 16, 0, 0, .int 16), (.if_icmp .ge 25, 207, 0, .null)]
set_option maxRecDepth 100000 in
theorem cb_89_179 : mChk 89 179 bk_89_179 185 = true := by decide +kernel
def bk_89_185 : List mO := [(.aload_n 0, 0, 0, .null), (.getfield 11, 8, 0, .null), (.iload_n 1, 1, 0, .null), (.new 9, 6, 2, .null), (.dup, 0, 0, .null), (.sipush 300, 0, 0, .int 300), (.invokespecial 53, 62, 1, .int 0), (.aastore, 0, 0, .null), (.iinc 1 1, 1, 0, .int 1), (.goto (-25), 179, 0, .null)]
set_option maxRecDepth 100000 in
theorem cb_89_185 : mChk 89 185 bk_89_185 207 = true := by decide +kernel
def bk_89_207 : List mO := [(.iconst 0, 0, 0, .int 0), (.istore_n 1, 1, 0, .null)]
set_option maxRecDepth 100000 in
theorem cb_89_207 : mChk 89 207 bk_89_207 209 = true := by decide +kernel
def bk_89_209 : List mO := [(.iload_n 1, 1, 0, .null), (.iconst 4, 0, 0, .int 4), (.if_icmp .ge 22, 233, 0, .null)]
set_option maxRecDepth 100000 in
theorem cb_89_209 : mChk 89 209 bk_89_209 214 = true := by decide +kernel
def bk_89_214 : List mO := [(.aload_n 0, 0, 0, .null), (.getfield 17, 8, 1, .null), (.iload_n 1, 1, 0, .null), (.new 15, 1, 10, .null), (.dup, 0, 0, .null), (.invokespecial 81, 22, 0, .int 1), (.aastore, 0, 0, .null), (.iinc 1 1, 1, 0, .int 1), (.goto (-21), 209, 0, .null)]
set_option maxRecDepth 100000 in
theorem cb_89_214 : mChk 89 214 bk_89_214 233 = true := by decide +kernel
def bk_89_233 : List mO := [(.iconst 0, 0, 0, .int 0), (.istore_n 1, 1, 0, .null)]
set_option maxRecDepth 100000 in
theorem cb_89_233 : mChk 89 233 bk_89_233 235 = true := by decide +kernel
def bk_89_235 : List mO := [(.iload_n 1, 1, 0, .null), (.iconst 5, 0, 0, .int 5), (.if_icmp .ge 16, 253, 0, .null)]
set_option maxRecDepth 100000 in
theorem cb_89_235 : mChk 89 235 bk_89_235 240 = true := by decide +kernel
def bk_89_240 : List mO := [(.aload_n 0, 0, 0, .null), (.getfield 21, 8, 2, .null), (.iload_n 1, 1, 0, .null), (.iconst (-1), 0, 0, .int (-1)), (.iastore, 0, 0, .null), (.iinc 1 1, 1, 0, .int 1), (.goto (-15), 235, 0, .null)]
set_option maxRecDepth 100000 in
theorem cb_89_240 : mChk 89 240 bk_89_240 253 = true := by decide +kernel
def bk_89_253 : List mO := [(.return_, 0, 0, .null)]
set_option maxRecDepth 100000 in
theorem cb_89_253 : mChk 89 253 bk_89_253 254 = true := by decide +kernel
-- method 90: KeySealer.add(IIJ)I, locals 6, room (2, 45)
def bk_90_0 : List mO := [(.iload_n 1, 1, 0, .null), (.invokestatic 82, 114, 1, .null), (.ifCond .eq 14, 18, 0, .null)]
set_option maxRecDepth 100000 in
theorem cb_90_0 : mChk 90 0 bk_90_0 7 = true := by decide +kernel
def bk_90_7 : List mO := [(.iload_n 2, 2, 0, .null), (.iconst 1, 0, 0, .int 1), (.if_icmp .lt 9, 18, 0, .null)]
set_option maxRecDepth 100000 in
theorem cb_90_7 : mChk 90 7 bk_90_7 12 = true := by decide +kernel
def bk_90_12 : List mO := [(.iload_n 2, 2, 0, .null), (.bipush 8, 0, 0, .int 8), (.if_icmp .le 6, 21, 0, .null)]
set_option maxRecDepth 100000 in
theorem cb_90_12 : mChk 90 12 bk_90_12 18 = true := by decide +kernel
def bk_90_18 : List mO := [(.bipush (-2), 0, 0, .int (-2)), (.ireturn, 0, 0, .int 0)]
set_option maxRecDepth 100000 in
theorem cb_90_18 : mChk 90 18 bk_90_18 21 = true := by decide +kernel
def bk_90_21 : List mO := [(.aload_n 0, 0, 0, .null), (.getfield 11, 8, 0, .null), (.iload_n 1, 1, 0, .null), (.aaload, 0, 0, .null), (.astore 5, 5, 0, .null), (.aload 5, 5, 0, .null), (.iload_n 2, 2, 0, .null), (.invokevirtual 86, 64, 1, .ref 6), (.ifCond .ne 6, 41, 0, .null)]
set_option maxRecDepth 100000 in
theorem cb_90_21 : mChk 90 21 bk_90_21 38 = true := by decide +kernel
def bk_90_38 : List mO := [(.bipush (-3), 0, 0, .int (-3)), (.ireturn, 0, 0, .int 0)]
set_option maxRecDepth 100000 in
theorem cb_90_38 : mChk 90 38 bk_90_38 41 = true := by decide +kernel
def bk_90_41 : List mO := [(.aload 5, 5, 0, .null), (.lload_n 3, 3, 0, .null), (.iload_n 2, 2, 0, .null), (.invokevirtual 89, 69, 2, .ref 6), (.aload 5, 5, 0, .null), (.getfield 93, 6, 1, .null), (.ireturn, 0, 0, .int 0)]
set_option maxRecDepth 100000 in
theorem cb_90_41 : mChk 90 41 bk_90_41 54 = true := by decide +kernel
-- method 91: KeySealer.clear(I)I, locals 3, room (1, 20)
def bk_91_0 : List mO := [(.iload_n 1, 1, 0, .null), (.invokestatic 82, 114, 1, .null), (.ifCond .ne 6, 10, 0, .null)]
set_option maxRecDepth 100000 in
theorem cb_91_0 : mChk 91 0 bk_91_0 7 = true := by decide +kernel
def bk_91_7 : List mO := [(.bipush (-2), 0, 0, .int (-2)), (.ireturn, 0, 0, .int 0)]
set_option maxRecDepth 100000 in
theorem cb_91_7 : mChk 91 7 bk_91_7 10 = true := by decide +kernel
def bk_91_10 : List mO := [(.aload_n 0, 0, 0, .null), (.getfield 11, 8, 0, .null), (.iload_n 1, 1, 0, .null), (.aaload, 0, 0, .null), (.getfield 93, 6, 1, .null), (.istore_n 2, 2, 0, .null), (.aload_n 0, 0, 0, .null), (.getfield 11, 8, 0, .null), (.iload_n 1, 1, 0, .null), (.aaload, 0, 0, .null), (.invokevirtual 97, 63, 0, .ref 6), (.iload_n 2, 2, 0, .null), (.ireturn, 0, 0, .int 0)]
set_option maxRecDepth 100000 in
theorem cb_91_10 : mChk 91 10 bk_91_10 31 = true := by decide +kernel
-- method 92: KeySealer.copy(IIII)I, locals 5, room (4, 92)
def bk_92_0 : List mO := [(.iload_n 1, 1, 0, .null), (.invokestatic 82, 114, 1, .null), (.ifCond .eq 25, 29, 0, .null)]
set_option maxRecDepth 100000 in
theorem cb_92_0 : mChk 92 0 bk_92_0 7 = true := by decide +kernel
def bk_92_7 : List mO := [(.iload_n 2, 2, 0, .null), (.invokestatic 82, 114, 1, .null), (.ifCond .eq 18, 29, 0, .null)]
set_option maxRecDepth 100000 in
theorem cb_92_7 : mChk 92 7 bk_92_7 14 = true := by decide +kernel
def bk_92_14 : List mO := [(.aload_n 0, 0, 0, .null), (.getfield 11, 8, 0, .null), (.iload_n 2, 2, 0, .null), (.aaload, 0, 0, .null), (.iload_n 3, 3, 0, .null), (.iload 4, 4, 0, .null), (.invokevirtual 100, 65, 2, .ref 6), (.ifCond .ne 6, 32, 0, .null)]
set_option maxRecDepth 100000 in
theorem cb_92_14 : mChk 92 14 bk_92_14 29 = true := by decide +kernel
def bk_92_29 : List mO := [(.bipush (-2), 0, 0, .int (-2)), (.ireturn, 0, 0, .int 0)]
set_option maxRecDepth 100000 in
theorem cb_92_29 : mChk 92 29 bk_92_29 32 = true := by decide +kernel
def bk_92_32 : List mO := [(.aload_n 0, 0, 0, .null), (.getfield 60, 8, 8, .null), (.invokevirtual 97, 63, 0, .ref 6), (.aload_n 0, 0, 0, .null), (.getfield 60, 8, 8, .null), (.aload_n 0, 0, 0, .null), (.getfield 11, 8, 0, .null), (.iload_n 2, 2, 0, .null), (.aaload, 0, 0, .null), (.iload_n 3, 3, 0, .null), (.iload 4, 4, 0, .null), (.invokevirtual 104, 71, 3, .ref 6), (.aload_n 0, 0, 0, .null), (.iload_n 1, 1, 0, .null), (.invokevirtual 108, 130, 1, .ref 8), (.ireturn, 0, 0, .int 0)]
set_option maxRecDepth 100000 in
theorem cb_92_32 : mChk 92 32 bk_92_32 61 = true := by decide +kernel
-- method 93: KeySealer.join(II)I, locals 3, room (3, 71)
def bk_93_0 : List mO := [(.iload_n 1, 1, 0, .null), (.invokestatic 82, 114, 1, .null), (.ifCond .eq 10, 14, 0, .null)]
set_option maxRecDepth 100000 in
theorem cb_93_0 : mChk 93 0 bk_93_0 7 = true := by decide +kernel
def bk_93_7 : List mO := [(.iload_n 2, 2, 0, .null), (.invokestatic 82, 114, 1, .null), (.ifCond .ne 6, 17, 0, .null)]
set_option maxRecDepth 100000 in
theorem cb_93_7 : mChk 93 7 bk_93_7 14 = true := by decide +kernel
def bk_93_14 : List mO := [(.bipush (-2), 0, 0, .int (-2)), (.ireturn, 0, 0, .int 0)]
set_option maxRecDepth 100000 in
theorem cb_93_14 : mChk 93 14 bk_93_14 17 = true := by decide +kernel
def bk_93_17 : List mO := [(.aload_n 0, 0, 0, .null), (.getfield 11, 8, 0, .null), (.iload_n 1, 1, 0, .null), (.aaload, 0, 0, .null), (.aload_n 0, 0, 0, .null), (.getfield 11, 8, 0, .null), (.iload_n 2, 2, 0, .null), (.aaload, 0, 0, .null), (.getfield 93, 6, 1, .null), (.invokevirtual 86, 64, 1, .ref 6), (.ifCond .ne 6, 41, 0, .null)]
set_option maxRecDepth 100000 in
theorem cb_93_17 : mChk 93 17 bk_93_17 38 = true := by decide +kernel
def bk_93_38 : List mO := [(.bipush (-3), 0, 0, .int (-3)), (.ireturn, 0, 0, .int 0)]
set_option maxRecDepth 100000 in
theorem cb_93_38 : mChk 93 38 bk_93_38 41 = true := by decide +kernel
def bk_93_41 : List mO := [(.aload_n 0, 0, 0, .null), (.getfield 11, 8, 0, .null), (.iload_n 1, 1, 0, .null), (.aaload, 0, 0, .null), (.aload_n 0, 0, 0, .null), (.getfield 11, 8, 0, .null), (.iload_n 2, 2, 0, .null), (.aaload, 0, 0, .null), (.invokevirtual 112, 72, 1, .ref 6), (.aload_n 0, 0, 0, .null), (.getfield 11, 8, 0, .null), (.iload_n 1, 1, 0, .null), (.aaload, 0, 0, .null), (.getfield 93, 6, 1, .null), (.ireturn, 0, 0, .int 0)]
set_option maxRecDepth 100000 in
theorem cb_93_41 : mChk 93 41 bk_93_41 66 = true := by decide +kernel
-- method 94: KeySealer.turn(III)I, locals 4, room (2, 43)
def bk_94_0 : List mO := [(.iload_n 1, 1, 0, .null), (.invokestatic 82, 114, 1, .null), (.ifCond .eq 27, 31, 0, .null)]
set_option maxRecDepth 100000 in
theorem cb_94_0 : mChk 94 0 bk_94_0 7 = true := by decide +kernel
def bk_94_7 : List mO := [(.aload_n 0, 0, 0, .null), (.getfield 11, 8, 0, .null), (.iload_n 1, 1, 0, .null), (.aaload, 0, 0, .null), (.iload_n 2, 2, 0, .null), (.iconst 1, 0, 0, .int 1), (.invokevirtual 100, 65, 2, .ref 6), (.ifCond .eq 13, 31, 0, .null)]
set_option maxRecDepth 100000 in
theorem cb_94_7 : mChk 94 7 bk_94_7 21 = true := by decide +kernel
def bk_94_21 : List mO := [(.iload_n 3, 3, 0, .null), (.ifCond .lt 9, 31, 0, .null)]
set_option maxRecDepth 100000 in
theorem cb_94_21 : mChk 94 21 bk_94_21 25 = true := by decide +kernel
def bk_94_25 : List mO := [(.iload_n 3, 3, 0, .null), (.bipush 7, 0, 0, .int 7), (.if_icmp .le 6, 34, 0, .null)]
set_option maxRecDepth 100000 in
theorem cb_94_25 : mChk 94 25 bk_94_25 31 = true := by decide +kernel
def bk_94_31 : List mO := [(.bipush (-2), 0, 0, .int (-2)), (.ireturn, 0, 0, .int 0)]
set_option maxRecDepth 100000 in
theorem cb_94_31 : mChk 94 31 bk_94_31 34 = true := by decide +kernel
def bk_94_34 : List mO := [(.aload_n 0, 0, 0, .null), (.getfield 11, 8, 0, .null), (.iload_n 1, 1, 0, .null), (.aaload, 0, 0, .null), (.iload_n 2, 2, 0, .null), (.iload_n 3, 3, 0, .null), (.invokevirtual 116, 67, 2, .ref 6), (.ireturn, 0, 0, .int 0)]
set_option maxRecDepth 100000 in
theorem cb_94_34 : mChk 94 34 bk_94_34 46 = true := by decide +kernel
-- method 95: KeySealer.size(I)I, locals 2, room (1, 20)
def bk_95_0 : List mO := [(.iload_n 1, 1, 0, .null), (.invokestatic 82, 114, 1, .null), (.ifCond .eq 15, 19, 0, .null)]
set_option maxRecDepth 100000 in
theorem cb_95_0 : mChk 95 0 bk_95_0 7 = true := by decide +kernel
def bk_95_7 : List mO := [(.aload_n 0, 0, 0, .null), (.getfield 11, 8, 0, .null), (.iload_n 1, 1, 0, .null), (.aaload, 0, 0, .null), (.getfield 93, 6, 1, .null), (.goto 5, 21, 0, .null)]
set_option maxRecDepth 100000 in
theorem cb_95_7 : mChk 95 7 bk_95_7 19 = true := by decide +kernel
def bk_95_19 : List mO := [(.bipush (-2), 0, 0, .int (-2))]
set_option maxRecDepth 100000 in
theorem cb_95_19 : mChk 95 19 bk_95_19 21 = true := by decide +kernel
def bk_95_21 : List mO := [(.ireturn, 0, 0, .int 0)]
set_option maxRecDepth 100000 in
theorem cb_95_21 : mChk 95 21 bk_95_21 22 = true := by decide +kernel
-- method 96: KeySealer.at(II)I, locals 3, room (1, 22)
def bk_96_0 : List mO := [(.iload_n 1, 1, 0, .null), (.invokestatic 82, 114, 1, .null), (.ifCond .ne 6, 10, 0, .null)]
set_option maxRecDepth 100000 in
theorem cb_96_0 : mChk 96 0 bk_96_0 7 = true := by decide +kernel
def bk_96_7 : List mO := [(.bipush (-2), 0, 0, .int (-2)), (.ireturn, 0, 0, .int 0)]
set_option maxRecDepth 100000 in
theorem cb_96_7 : mChk 96 7 bk_96_7 10 = true := by decide +kernel
def bk_96_10 : List mO := [(.aload_n 0, 0, 0, .null), (.getfield 11, 8, 0, .null), (.iload_n 1, 1, 0, .null), (.aaload, 0, 0, .null), (.iload_n 2, 2, 0, .null), (.iconst 1, 0, 0, .int 1), (.invokevirtual 100, 65, 2, .ref 6), (.ifCond .eq 16, 37, 0, .null)]
set_option maxRecDepth 100000 in
theorem cb_96_10 : mChk 96 10 bk_96_10 24 = true := by decide +kernel
def bk_96_24 : List mO := [(.aload_n 0, 0, 0, .null), (.getfield 11, 8, 0, .null), (.iload_n 1, 1, 0, .null), (.aaload, 0, 0, .null), (.iload_n 2, 2, 0, .null), (.invokevirtual 120, 66, 1, .ref 6), (.goto 4, 38, 0, .null)]
set_option maxRecDepth 100000 in
theorem cb_96_24 : mChk 96 24 bk_96_24 37 = true := by decide +kernel
def bk_96_37 : List mO := [(.iconst (-1), 0, 0, .int (-1))]
set_option maxRecDepth 100000 in
theorem cb_96_37 : mChk 96 37 bk_96_37 38 = true := by decide +kernel
def bk_96_38 : List mO := [(.ireturn, 0, 0, .int 0)]
set_option maxRecDepth 100000 in
theorem cb_96_38 : mChk 96 38 bk_96_38 39 = true := by decide +kernel
-- method 97: KeySealer.hash(III)I, locals 4, room (4, 101)
def bk_97_0 : List mO := [(.iload_n 2, 2, 0, .null), (.invokestatic 82, 114, 1, .null), (.ifCond .eq 17, 21, 0, .null)]
set_option maxRecDepth 100000 in
theorem cb_97_0 : mChk 97 0 bk_97_0 7 = true := by decide +kernel
def bk_97_7 : List mO := [(.iload_n 3, 3, 0, .null), (.invokestatic 82, 114, 1, .null), (.ifCond .eq 10, 21, 0, .null)]
set_option maxRecDepth 100000 in
theorem cb_97_7 : mChk 97 7 bk_97_7 14 = true := by decide +kernel
def bk_97_14 : List mO := [(.iload_n 1, 1, 0, .null), (.invokestatic 123, 116, 1, .null), (.ifCond .ne 6, 24, 0, .null)]
set_option maxRecDepth 100000 in
theorem cb_97_14 : mChk 97 14 bk_97_14 21 = true := by decide +kernel
def bk_97_21 : List mO := [(.bipush (-2), 0, 0, .int (-2)), (.ireturn, 0, 0, .int 0)]
set_option maxRecDepth 100000 in
theorem cb_97_21 : mChk 97 21 bk_97_21 24 = true := by decide +kernel
def bk_97_24 : List mO := [(.aload_n 0, 0, 0, .null), (.getfield 28, 8, 3, .null), (.getfield 126, 5, 0, .null), (.getfield 130, 4, 0, .null), (.iload_n 1, 1, 0, .null), (.invokevirtual 136, 44, 1, .ref 3), (.aload_n 0, 0, 0, .null), (.getfield 28, 8, 3, .null), (.getfield 126, 5, 0, .null), (.getfield 130, 4, 0, .null), (.aload_n 0, 0, 0, .null), (.getfield 11, 8, 0, .null), (.iload_n 3, 3, 0, .null), (.aaload, 0, 0, .null), (.invokevirtual 141, 47, 1, .ref 3), (.aload_n 0, 0, 0, .null), (.getfield 28, 8, 3, .null), (.getfield 126, 5, 0, .null), (.getfield 130, 4, 0, .null), (.aload_n 0, 0, 0, .null), (.getfield 60, 8, 8, .null), (.invokevirtual 144, 48, 1, .ref 3), (.aload_n 0, 0, 0, .null), (.iload_n 2, 2, 0, .null), (.invokevirtual 108, 130, 1, .ref 8), (.ireturn, 0, 0, .int 0)]
set_option maxRecDepth 100000 in
theorem cb_97_24 : mChk 97 24 bk_97_24 80 = true := by decide +kernel
-- method 98: KeySealer.mac(IIII)I, locals 5, room (4, 123)
def bk_98_0 : List mO := [(.iload_n 2, 2, 0, .null), (.invokestatic 82, 114, 1, .null), (.ifCond .eq 25, 29, 0, .null)]
set_option maxRecDepth 100000 in
theorem cb_98_0 : mChk 98 0 bk_98_0 7 = true := by decide +kernel
def bk_98_7 : List mO := [(.iload_n 3, 3, 0, .null), (.invokestatic 82, 114, 1, .null), (.ifCond .eq 18, 29, 0, .null)]
set_option maxRecDepth 100000 in
theorem cb_98_7 : mChk 98 7 bk_98_7 14 = true := by decide +kernel
def bk_98_14 : List mO := [(.iload 4, 4, 0, .null), (.invokestatic 82, 114, 1, .null), (.ifCond .eq 10, 29, 0, .null)]
set_option maxRecDepth 100000 in
theorem cb_98_14 : mChk 98 14 bk_98_14 22 = true := by decide +kernel
def bk_98_22 : List mO := [(.iload_n 1, 1, 0, .null), (.invokestatic 123, 116, 1, .null), (.ifCond .ne 6, 32, 0, .null)]
set_option maxRecDepth 100000 in
theorem cb_98_22 : mChk 98 22 bk_98_22 29 = true := by decide +kernel
def bk_98_29 : List mO := [(.bipush (-2), 0, 0, .int (-2)), (.ireturn, 0, 0, .int 0)]
set_option maxRecDepth 100000 in
theorem cb_98_29 : mChk 98 29 bk_98_29 32 = true := by decide +kernel
def bk_98_32 : List mO := [(.aload_n 0, 0, 0, .null), (.getfield 28, 8, 3, .null), (.getfield 126, 5, 0, .null), (.iload_n 1, 1, 0, .null), (.aload_n 0, 0, 0, .null), (.getfield 11, 8, 0, .null), (.iload_n 3, 3, 0, .null), (.aaload, 0, 0, .null), (.invokevirtual 147, 52, 2, .ref 4), (.aload_n 0, 0, 0, .null), (.getfield 28, 8, 3, .null), (.getfield 126, 5, 0, .null), (.getfield 130, 4, 0, .null), (.aload_n 0, 0, 0, .null), (.getfield 11, 8, 0, .null), (.iload 4, 4, 0, .null), (.aaload, 0, 0, .null), (.invokevirtual 141, 47, 1, .ref 3), (.aload_n 0, 0, 0, .null), (.getfield 28, 8, 3, .null), (.getfield 126, 5, 0, .null), (.aload_n 0, 0, 0, .null), (.getfield 60, 8, 8, .null), (.invokevirtual 150, 53, 1, .ref 4), (.aload_n 0, 0, 0, .null), (.iload_n 2, 2, 0, .null), (.invokevirtual 108, 130, 1, .ref 8), (.ireturn, 0, 0, .int 0)]
set_option maxRecDepth 100000 in
theorem cb_98_32 : mChk 98 32 bk_98_32 89 = true := by decide +kernel
-- method 99: KeySealer.expand(IIIII)I, locals 6, room (5, 149)
def bk_99_0 : List mO := [(.iload_n 2, 2, 0, .null), (.invokestatic 82, 114, 1, .null), (.ifCond .eq 33, 37, 0, .null)]
set_option maxRecDepth 100000 in
theorem cb_99_0 : mChk 99 0 bk_99_0 7 = true := by decide +kernel
def bk_99_7 : List mO := [(.iload_n 3, 3, 0, .null), (.invokestatic 82, 114, 1, .null), (.ifCond .eq 26, 37, 0, .null)]
set_option maxRecDepth 100000 in
theorem cb_99_7 : mChk 99 7 bk_99_7 14 = true := by decide +kernel
def bk_99_14 : List mO := [(.iload 4, 4, 0, .null), (.invokestatic 82, 114, 1, .null), (.ifCond .eq 18, 37, 0, .null)]
set_option maxRecDepth 100000 in
theorem cb_99_14 : mChk 99 14 bk_99_14 22 = true := by decide +kernel
def bk_99_22 : List mO := [(.iload_n 1, 1, 0, .null), (.invokestatic 123, 116, 1, .null), (.ifCond .eq 11, 37, 0, .null)]
set_option maxRecDepth 100000 in
theorem cb_99_22 : mChk 99 22 bk_99_22 29 = true := by decide +kernel
def bk_99_29 : List mO := [(.iload 5, 5, 0, .null), (.invokestatic 151, 117, 1, .null), (.ifCond .ne 6, 40, 0, .null)]
set_option maxRecDepth 100000 in
theorem cb_99_29 : mChk 99 29 bk_99_29 37 = true := by decide +kernel
def bk_99_37 : List mO := [(.bipush (-2), 0, 0, .int (-2)), (.ireturn, 0, 0, .int 0)]
set_option maxRecDepth 100000 in
theorem cb_99_37 : mChk 99 37 bk_99_37 40 = true := by decide +kernel
def bk_99_40 : List mO := [(.aload_n 0, 0, 0, .null), (.getfield 28, 8, 3, .null), (.getfield 126, 5, 0, .null), (.iload_n 1, 1, 0, .null), (.aload_n 0, 0, 0, .null), (.getfield 11, 8, 0, .null), (.iload_n 3, 3, 0, .null), (.aaload, 0, 0, .null), (.aload_n 0, 0, 0, .null), (.getfield 11, 8, 0, .null), (.iload 4, 4, 0, .null), (.aaload, 0, 0, .null), (.iload 5, 5, 0, .null), (.aload_n 0, 0, 0, .null), (.getfield 60, 8, 8, .null), (.invokevirtual 154, 54, 5, .ref 4), (.aload_n 0, 0, 0, .null), (.iload_n 2, 2, 0, .null), (.invokevirtual 108, 130, 1, .ref 8), (.ireturn, 0, 0, .int 0)]
set_option maxRecDepth 100000 in
theorem cb_99_40 : mChk 99 40 bk_99_40 76 = true := by decide +kernel
-- method 100: KeySealer.agree(III)I, locals 4, room (6, 209)
def bk_100_0 : List mO := [(.iload_n 1, 1, 0, .null), (.invokestatic 82, 114, 1, .null), (.ifCond .eq 19, 23, 0, .null)]
set_option maxRecDepth 100000 in
theorem cb_100_0 : mChk 100 0 bk_100_0 7 = true := by decide +kernel
def bk_100_7 : List mO := [(.aload_n 0, 0, 0, .null), (.iload_n 2, 2, 0, .null), (.invokevirtual 158, 124, 1, .ref 8), (.ifCond .eq 11, 23, 0, .null)]
set_option maxRecDepth 100000 in
theorem cb_100_7 : mChk 100 7 bk_100_7 15 = true := by decide +kernel
def bk_100_15 : List mO := [(.aload_n 0, 0, 0, .null), (.iload_n 3, 3, 0, .null), (.invokevirtual 158, 124, 1, .ref 8), (.ifCond .ne 6, 26, 0, .null)]
set_option maxRecDepth 100000 in
theorem cb_100_15 : mChk 100 15 bk_100_15 23 = true := by decide +kernel
def bk_100_23 : List mO := [(.bipush (-2), 0, 0, .int (-2)), (.ireturn, 0, 0, .int 0)]
set_option maxRecDepth 100000 in
theorem cb_100_23 : mChk 100 23 bk_100_23 26 = true := by decide +kernel
def bk_100_26 : List mO := [(.aload_n 0, 0, 0, .null), (.getfield 60, 8, 8, .null), (.invokevirtual 97, 63, 0, .ref 6), (.aload_n 0, 0, 0, .null), (.getfield 35, 8, 4, .null), (.aload_n 0, 0, 0, .null), (.getfield 11, 8, 0, .null), (.iload_n 2, 2, 0, .null), (.aaload, 0, 0, .null), (.aload_n 0, 0, 0, .null), (.getfield 11, 8, 0, .null), (.iload_n 3, 3, 0, .null), (.aaload, 0, 0, .null), (.aload_n 0, 0, 0, .null), (.getfield 60, 8, 8, .null), (.invokevirtual 161, 29, 3, .ref 2), (.ifCond .eq 11, 67, 0, .null)]
set_option maxRecDepth 100000 in
theorem cb_100_26 : mChk 100 26 bk_100_26 59 = true := by decide +kernel
def bk_100_59 : List mO := [(.aload_n 0, 0, 0, .null), (.iload_n 1, 1, 0, .null), (.invokevirtual 108, 130, 1, .ref 8), (.goto 5, 69, 0, .null)]
set_option maxRecDepth 100000 in
theorem cb_100_59 : mChk 100 59 bk_100_59 67 = true := by decide +kernel
def bk_100_67 : List mO := [(.bipush (-11), 0, 0, .int (-11))]
set_option maxRecDepth 100000 in
theorem cb_100_67 : mChk 100 67 bk_100_67 69 = true := by decide +kernel
def bk_100_69 : List mO := [(.ireturn, 0, 0, .int 0)]
set_option maxRecDepth 100000 in
theorem cb_100_69 : mChk 100 69 bk_100_69 70 = true := by decide +kernel
-- method 101: KeySealer.open(II)I, locals 3, room (6, 208)
def bk_101_0 : List mO := [(.iload_n 1, 1, 0, .null), (.invokestatic 82, 114, 1, .null), (.ifCond .eq 11, 15, 0, .null)]
set_option maxRecDepth 100000 in
theorem cb_101_0 : mChk 101 0 bk_101_0 7 = true := by decide +kernel
def bk_101_7 : List mO := [(.aload_n 0, 0, 0, .null), (.iload_n 2, 2, 0, .null), (.invokevirtual 158, 124, 1, .ref 8), (.ifCond .ne 6, 18, 0, .null)]
set_option maxRecDepth 100000 in
theorem cb_101_7 : mChk 101 7 bk_101_7 15 = true := by decide +kernel
def bk_101_15 : List mO := [(.bipush (-2), 0, 0, .int (-2)), (.ireturn, 0, 0, .int 0)]
set_option maxRecDepth 100000 in
theorem cb_101_15 : mChk 101 15 bk_101_15 18 = true := by decide +kernel
def bk_101_18 : List mO := [(.aload_n 0, 0, 0, .null), (.getfield 60, 8, 8, .null), (.invokevirtual 97, 63, 0, .ref 6), (.aload_n 0, 0, 0, .null), (.getfield 35, 8, 4, .null), (.aload_n 0, 0, 0, .null), (.getfield 11, 8, 0, .null), (.iload_n 2, 2, 0, .null), (.aaload, 0, 0, .null), (.aload_n 0, 0, 0, .null), (.getfield 60, 8, 8, .null), (.invokevirtual 165, 30, 2, .ref 2), (.aload_n 0, 0, 0, .null), (.iload_n 1, 1, 0, .null), (.invokevirtual 108, 130, 1, .ref 8), (.ireturn, 0, 0, .int 0)]
set_option maxRecDepth 100000 in
theorem cb_101_18 : mChk 101 18 bk_101_18 48 = true := by decide +kernel
-- method 102: KeySealer.pair(III)I, locals 4, room (7, 208)
def bk_102_0 : List mO := [(.iload_n 1, 1, 0, .null), (.invokestatic 82, 114, 1, .null), (.ifCond .eq 17, 21, 0, .null)]
set_option maxRecDepth 100000 in
theorem cb_102_0 : mChk 102 0 bk_102_0 7 = true := by decide +kernel
def bk_102_7 : List mO := [(.iload_n 2, 2, 0, .null), (.invokestatic 82, 114, 1, .null), (.ifCond .eq 10, 21, 0, .null)]
set_option maxRecDepth 100000 in
theorem cb_102_7 : mChk 102 7 bk_102_7 14 = true := by decide +kernel
def bk_102_14 : List mO := [(.iload_n 3, 3, 0, .null), (.invokestatic 82, 114, 1, .null), (.ifCond .ne 6, 24, 0, .null)]
set_option maxRecDepth 100000 in
theorem cb_102_14 : mChk 102 14 bk_102_14 21 = true := by decide +kernel
def bk_102_21 : List mO := [(.bipush (-2), 0, 0, .int (-2)), (.ireturn, 0, 0, .int 0)]
set_option maxRecDepth 100000 in
theorem cb_102_21 : mChk 102 21 bk_102_21 24 = true := by decide +kernel
def bk_102_24 : List mO := [(.aload_n 0, 0, 0, .null), (.getfield 28, 8, 3, .null), (.invokevirtual 169, 57, 0, .ref 5), (.aload_n 0, 0, 0, .null), (.getfield 28, 8, 3, .null), (.aload_n 0, 0, 0, .null), (.getfield 56, 8, 7, .null), (.ldc 172, 0, 0, .ref 2000001), (.aload_n 0, 0, 0, .null), (.getfield 11, 8, 0, .null), (.iload_n 3, 3, 0, .null), (.aaload, 0, 0, .null), (.aload_n 0, 0, 0, .null), (.getfield 72, 8, 12, .null), (.invokevirtual 174, 59, 4, .ref 5), (.aload_n 0, 0, 0, .null), (.getfield 28, 8, 3, .null), (.aload_n 0, 0, 0, .null), (.getfield 72, 8, 12, .null), (.ldc 178, 0, 0, .ref 2000003), (.aload_n 0, 0, 0, .null), (.getfield 56, 8, 7, .null), (.bipush 32, 0, 0, .int 32), (.aload_n 0, 0, 0, .null), (.getfield 75, 8, 13, .null), (.invokevirtual 180, 60, 5, .ref 5), (.aload_n 0, 0, 0, .null), (.getfield 60, 8, 8, .null), (.invokevirtual 97, 63, 0, .ref 6), (.aload_n 0, 0, 0, .null), (.getfield 35, 8, 4, .null), (.aload_n 0, 0, 0, .null), (.getfield 75, 8, 13, .null), (.aload_n 0, 0, 0, .null), (.getfield 60, 8, 8, .null), (.invokevirtual 165, 30, 2, .ref 2), (.aload_n 0, 0, 0, .null), (.getfield 11, 8, 0, .null), (.iload_n 1, 1, 0, .null), (.aaload, 0, 0, .null), (.aload_n 0, 0, 0, .null), (.getfield 75, 8, 13, .null), (.invokevirtual 183, 73, 1, .ref 6), (.aload_n 0, 0, 0, .null), (.iload_n 2, 2, 0, .null), (.invokevirtual 108, 130, 1, .ref 8), (.ireturn, 0, 0, .int 0)]
set_option maxRecDepth 100000 in
theorem cb_102_24 : mChk 102 24 bk_102_24 118 = true := by decide +kernel
-- method 103: KeySealer.lock(IIIIII)I, locals 8, room (7, 160)
def bk_103_0 : List mO := [(.aload_n 0, 0, 0, .null), (.iload_n 1, 1, 0, .null), (.iload_n 3, 3, 0, .null), (.iload 4, 4, 0, .null), (.invokevirtual 186, 125, 3, .ref 8), (.ifCond .eq 26, 34, 0, .null)]
set_option maxRecDepth 100000 in
theorem cb_103_0 : mChk 103 0 bk_103_0 11 = true := by decide +kernel
def bk_103_11 : List mO := [(.iload_n 2, 2, 0, .null), (.invokestatic 82, 114, 1, .null), (.ifCond .eq 19, 34, 0, .null)]
set_option maxRecDepth 100000 in
theorem cb_103_11 : mChk 103 11 bk_103_11 18 = true := by decide +kernel
def bk_103_18 : List mO := [(.iload 5, 5, 0, .null), (.invokestatic 82, 114, 1, .null), (.ifCond .eq 11, 34, 0, .null)]
set_option maxRecDepth 100000 in
theorem cb_103_18 : mChk 103 18 bk_103_18 26 = true := by decide +kernel
def bk_103_26 : List mO := [(.iload 6, 6, 0, .null), (.invokestatic 82, 114, 1, .null), (.ifCond .ne 6, 37, 0, .null)]
set_option maxRecDepth 100000 in
theorem cb_103_26 : mChk 103 26 bk_103_26 34 = true := by decide +kernel
def bk_103_34 : List mO := [(.bipush (-2), 0, 0, .int (-2)), (.ireturn, 0, 0, .int 0)]
set_option maxRecDepth 100000 in
theorem cb_103_34 : mChk 103 34 bk_103_34 37 = true := by decide +kernel
def bk_103_37 : List mO := [(.aload_n 0, 0, 0, .null), (.iload 6, 6, 0, .null), (.invokevirtual 190, 126, 1, .ref 8), (.ifCond .ne 6, 49, 0, .null)]
set_option maxRecDepth 100000 in
theorem cb_103_37 : mChk 103 37 bk_103_37 46 = true := by decide +kernel
def bk_103_46 : List mO := [(.bipush (-3), 0, 0, .int (-3)), (.ireturn, 0, 0, .int 0)]
set_option maxRecDepth 100000 in
theorem cb_103_46 : mChk 103 46 bk_103_46 49 = true := by decide +kernel
def bk_103_49 : List mO := [(.aload_n 0, 0, 0, .null), (.iload_n 1, 1, 0, .null), (.invokevirtual 193, 131, 1, .ref 8), (.astore 7, 7, 0, .null), (.aload 7, 7, 0, .null), (.aload_n 0, 0, 0, .null), (.getfield 11, 8, 0, .null), (.iload_n 3, 3, 0, .null), (.aaload, 0, 0, .null), (.aload_n 0, 0, 0, .null), (.getfield 11, 8, 0, .null), (.iload 4, 4, 0, .null), (.aaload, 0, 0, .null), (.invokevirtual 197, 1, 2, .long 76), (.aload 7, 7, 0, .null), (.aload_n 0, 0, 0, .null), (.getfield 11, 8, 0, .null), (.iload 5, 5, 0, .null), (.aaload, 0, 0, .null), (.aload_n 0, 0, 0, .null), (.getfield 11, 8, 0, .null), (.iload 6, 6, 0, .null), (.aaload, 0, 0, .null), (.aload_n 0, 0, 0, .null), (.getfield 60, 8, 8, .null), (.invokevirtual 201, 17, 3, .long 17), (.aload_n 0, 0, 0, .null), (.iload_n 2, 2, 0, .null), (.invokevirtual 108, 130, 1, .ref 8), (.ireturn, 0, 0, .int 0)]
set_option maxRecDepth 100000 in
theorem cb_103_49 : mChk 103 49 bk_103_49 103 = true := by decide +kernel
-- method 104: KeySealer.unlock(IIIIII)I, locals 8, room (7, 162)
def bk_104_0 : List mO := [(.aload_n 0, 0, 0, .null), (.iload_n 1, 1, 0, .null), (.iload_n 3, 3, 0, .null), (.iload 4, 4, 0, .null), (.invokevirtual 186, 125, 3, .ref 8), (.ifCond .eq 26, 34, 0, .null)]
set_option maxRecDepth 100000 in
theorem cb_104_0 : mChk 104 0 bk_104_0 11 = true := by decide +kernel
def bk_104_11 : List mO := [(.iload_n 2, 2, 0, .null), (.invokestatic 82, 114, 1, .null), (.ifCond .eq 19, 34, 0, .null)]
set_option maxRecDepth 100000 in
theorem cb_104_11 : mChk 104 11 bk_104_11 18 = true := by decide +kernel
def bk_104_18 : List mO := [(.iload 5, 5, 0, .null), (.invokestatic 82, 114, 1, .null), (.ifCond .eq 11, 34, 0, .null)]
set_option maxRecDepth 100000 in
theorem cb_104_18 : mChk 104 18 bk_104_18 26 = true := by decide +kernel
def bk_104_26 : List mO := [(.iload 6, 6, 0, .null), (.invokestatic 82, 114, 1, .null), (.ifCond .ne 6, 37, 0, .null)]
set_option maxRecDepth 100000 in
theorem cb_104_26 : mChk 104 26 bk_104_26 34 = true := by decide +kernel
def bk_104_34 : List mO := [(.bipush (-2), 0, 0, .int (-2)), (.ireturn, 0, 0, .int 0)]
set_option maxRecDepth 100000 in
theorem cb_104_34 : mChk 104 34 bk_104_34 37 = true := by decide +kernel
def bk_104_37 : List mO := [(.aload_n 0, 0, 0, .null), (.iload_n 1, 1, 0, .null), (.invokevirtual 193, 131, 1, .ref 8), (.astore 7, 7, 0, .null), (.aload 7, 7, 0, .null), (.aload_n 0, 0, 0, .null), (.getfield 11, 8, 0, .null), (.iload_n 3, 3, 0, .null), (.aaload, 0, 0, .null), (.aload_n 0, 0, 0, .null), (.getfield 11, 8, 0, .null), (.iload 4, 4, 0, .null), (.aaload, 0, 0, .null), (.invokevirtual 197, 1, 2, .long 76), (.aload 7, 7, 0, .null), (.aload_n 0, 0, 0, .null), (.getfield 11, 8, 0, .null), (.iload 5, 5, 0, .null), (.aaload, 0, 0, .null), (.aload_n 0, 0, 0, .null), (.getfield 11, 8, 0, .null), (.iload 6, 6, 0, .null), (.aaload, 0, 0, .null), (.aload_n 0, 0, 0, .null), (.getfield 60, 8, 8, .null), (.invokevirtual 205, 18, 3, .long 18), (.ifCond .eq 11, 96, 0, .null)]
set_option maxRecDepth 100000 in
theorem cb_104_37 : mChk 104 37 bk_104_37 88 = true := by decide +kernel
def bk_104_88 : List mO := [(.aload_n 0, 0, 0, .null), (.iload_n 2, 2, 0, .null), (.invokevirtual 108, 130, 1, .ref 8), (.goto 5, 98, 0, .null)]
set_option maxRecDepth 100000 in
theorem cb_104_88 : mChk 104 88 bk_104_88 96 = true := by decide +kernel
def bk_104_96 : List mO := [(.bipush (-14), 0, 0, .int (-14))]
set_option maxRecDepth 100000 in
theorem cb_104_96 : mChk 104 96 bk_104_96 98 = true := by decide +kernel
def bk_104_98 : List mO := [(.ireturn, 0, 0, .int 0)]
set_option maxRecDepth 100000 in
theorem cb_104_98 : mChk 104 98 bk_104_98 99 = true := by decide +kernel
-- method 105: KeySealer.use(II)I, locals 3, room (1, 20)
def bk_105_0 : List mO := [(.iload_n 1, 1, 0, .null), (.ifCond .lt 20, 21, 0, .null)]
set_option maxRecDepth 100000 in
theorem cb_105_0 : mChk 105 0 bk_105_0 4 = true := by decide +kernel
def bk_105_4 : List mO := [(.iload_n 1, 1, 0, .null), (.iconst 5, 0, 0, .int 5), (.if_icmp .ge 15, 21, 0, .null)]
set_option maxRecDepth 100000 in
theorem cb_105_4 : mChk 105 4 bk_105_4 9 = true := by decide +kernel
def bk_105_9 : List mO := [(.iload_n 2, 2, 0, .null), (.iconst (-1), 0, 0, .int (-1)), (.if_icmp .eq 13, 24, 0, .null)]
set_option maxRecDepth 100000 in
theorem cb_105_9 : mChk 105 9 bk_105_9 14 = true := by decide +kernel
def bk_105_14 : List mO := [(.iload_n 2, 2, 0, .null), (.invokestatic 82, 114, 1, .null), (.ifCond .ne 6, 24, 0, .null)]
set_option maxRecDepth 100000 in
theorem cb_105_14 : mChk 105 14 bk_105_14 21 = true := by decide +kernel
def bk_105_21 : List mO := [(.bipush (-2), 0, 0, .int (-2)), (.ireturn, 0, 0, .int 0)]
set_option maxRecDepth 100000 in
theorem cb_105_21 : mChk 105 21 bk_105_21 24 = true := by decide +kernel
def bk_105_24 : List mO := [(.aload_n 0, 0, 0, .null), (.getfield 21, 8, 2, .null), (.iload_n 1, 1, 0, .null), (.iload_n 2, 2, 0, .null), (.iastore, 0, 0, .null), (.iconst 0, 0, 0, .int 0), (.ireturn, 0, 0, .int 0)]
set_option maxRecDepth 100000 in
theorem cb_105_24 : mChk 105 24 bk_105_24 33 = true := by decide +kernel
-- method 106: KeySealer.sender(IIIIIII)I, locals 8, room (8, 233)
def bk_106_0 : List mO := [(.iload_n 1, 1, 0, .null), (.invokestatic 208, 115, 1, .null), (.ifCond .eq 48, 52, 0, .null)]
set_option maxRecDepth 100000 in
theorem cb_106_0 : mChk 106 0 bk_106_0 7 = true := by decide +kernel
def bk_106_7 : List mO := [(.iload_n 2, 2, 0, .null), (.iload_n 3, 3, 0, .null), (.iload 4, 4, 0, .null), (.invokestatic 211, 120, 3, .null), (.ifCond .eq 38, 52, 0, .null)]
set_option maxRecDepth 100000 in
theorem cb_106_7 : mChk 106 7 bk_106_7 17 = true := by decide +kernel
def bk_106_17 : List mO := [(.iload 5, 5, 0, .null), (.invokestatic 82, 114, 1, .null), (.ifCond .eq 30, 52, 0, .null)]
set_option maxRecDepth 100000 in
theorem cb_106_17 : mChk 106 17 bk_106_17 25 = true := by decide +kernel
def bk_106_25 : List mO := [(.aload_n 0, 0, 0, .null), (.iload 6, 6, 0, .null), (.invokevirtual 158, 124, 1, .ref 8), (.ifCond .eq 21, 52, 0, .null)]
set_option maxRecDepth 100000 in
theorem cb_106_25 : mChk 106 25 bk_106_25 34 = true := by decide +kernel
def bk_106_34 : List mO := [(.aload_n 0, 0, 0, .null), (.iload 7, 7, 0, .null), (.invokevirtual 158, 124, 1, .ref 8), (.ifCond .eq 12, 52, 0, .null)]
set_option maxRecDepth 100000 in
theorem cb_106_34 : mChk 106 34 bk_106_34 43 = true := by decide +kernel
def bk_106_43 : List mO := [(.aload_n 0, 0, 0, .null), (.iload_n 2, 2, 0, .null), (.iconst 3, 0, 0, .int 3), (.invokevirtual 214, 127, 2, .ref 8), (.ifCond .ne 6, 55, 0, .null)]
set_option maxRecDepth 100000 in
theorem cb_106_43 : mChk 106 43 bk_106_43 52 = true := by decide +kernel
def bk_106_52 : List mO := [(.bipush (-2), 0, 0, .int (-2)), (.ireturn, 0, 0, .int 0)]
set_option maxRecDepth 100000 in
theorem cb_106_52 : mChk 106 52 bk_106_52 55 = true := by decide +kernel
def bk_106_55 : List mO := [(.aload_n 0, 0, 0, .null), (.iload_n 2, 2, 0, .null), (.invokevirtual 217, 128, 1, .ref 8), (.ifCond .ne 6, 66, 0, .null)]
set_option maxRecDepth 100000 in
theorem cb_106_55 : mChk 106 55 bk_106_55 63 = true := by decide +kernel
def bk_106_63 : List mO := [(.bipush (-12), 0, 0, .int (-12)), (.ireturn, 0, 0, .int 0)]
set_option maxRecDepth 100000 in
theorem cb_106_63 : mChk 106 63 bk_106_63 66 = true := by decide +kernel
def bk_106_66 : List mO := [(.aload_n 0, 0, 0, .null), (.iload_n 2, 2, 0, .null), (.invokestatic 220, 119, 1, .null), (.aload_n 0, 0, 0, .null), (.getfield 11, 8, 0, .null), (.iload 6, 6, 0, .null), (.aaload, 0, 0, .null), (.aload_n 0, 0, 0, .null), (.getfield 11, 8, 0, .null), (.iload 7, 7, 0, .null), (.aaload, 0, 0, .null), (.invokevirtual 223, 133, 3, .ref 8), (.ifCond .ne 6, 94, 0, .null)]
set_option maxRecDepth 100000 in
theorem cb_106_66 : mChk 106 66 bk_106_66 91 = true := by decide +kernel
def bk_106_91 : List mO := [(.bipush (-11), 0, 0, .int (-11)), (.ireturn, 0, 0, .int 0)]
set_option maxRecDepth 100000 in
theorem cb_106_91 : mChk 106 91 bk_106_91 94 = true := by decide +kernel
def bk_106_94 : List mO := [(.aload_n 0, 0, 0, .null), (.getfield 17, 8, 1, .null), (.iload_n 1, 1, 0, .null), (.aaload, 0, 0, .null), (.iconst 1, 0, 0, .int 1), (.iload_n 2, 2, 0, .null), (.iload_n 3, 3, 0, .null), (.iload 4, 4, 0, .null), (.invokevirtual 227, 23, 4, .ref 1), (.aload_n 0, 0, 0, .null), (.aload_n 0, 0, 0, .null), (.getfield 17, 8, 1, .null), (.iload_n 1, 1, 0, .null), (.aaload, 0, 0, .null), (.invokevirtual 230, 135, 1, .ref 8), (.aload_n 0, 0, 0, .null), (.getfield 60, 8, 8, .null), (.invokevirtual 97, 63, 0, .ref 6), (.aload_n 0, 0, 0, .null), (.getfield 60, 8, 8, .null), (.aload_n 0, 0, 0, .null), (.getfield 69, 8, 11, .null), (.iconst 0, 0, 0, .int 0), (.bipush 32, 0, 0, .int 32), (.invokevirtual 104, 71, 3, .ref 6), (.aload_n 0, 0, 0, .null), (.iload 5, 5, 0, .null), (.invokevirtual 108, 130, 1, .ref 8), (.ireturn, 0, 0, .int 0)]
set_option maxRecDepth 100000 in
theorem cb_106_94 : mChk 106 94 bk_106_94 146 = true := by decide +kernel
-- method 107: KeySealer.receiver(IIIIII)I, locals 7, room (8, 233)
def bk_107_0 : List mO := [(.iload_n 1, 1, 0, .null), (.invokestatic 208, 115, 1, .null), (.ifCond .eq 40, 44, 0, .null)]
set_option maxRecDepth 100000 in
theorem cb_107_0 : mChk 107 0 bk_107_0 7 = true := by decide +kernel
def bk_107_7 : List mO := [(.iload_n 2, 2, 0, .null), (.iload_n 3, 3, 0, .null), (.iload 4, 4, 0, .null), (.invokestatic 211, 120, 3, .null), (.ifCond .eq 30, 44, 0, .null)]
set_option maxRecDepth 100000 in
theorem cb_107_7 : mChk 107 7 bk_107_7 17 = true := by decide +kernel
def bk_107_17 : List mO := [(.aload_n 0, 0, 0, .null), (.iload 5, 5, 0, .null), (.invokevirtual 158, 124, 1, .ref 8), (.ifCond .eq 21, 44, 0, .null)]
set_option maxRecDepth 100000 in
theorem cb_107_17 : mChk 107 17 bk_107_17 26 = true := by decide +kernel
def bk_107_26 : List mO := [(.aload_n 0, 0, 0, .null), (.iload 6, 6, 0, .null), (.invokevirtual 158, 124, 1, .ref 8), (.ifCond .eq 12, 44, 0, .null)]
set_option maxRecDepth 100000 in
theorem cb_107_26 : mChk 107 26 bk_107_26 35 = true := by decide +kernel
def bk_107_35 : List mO := [(.aload_n 0, 0, 0, .null), (.iload_n 2, 2, 0, .null), (.iconst 4, 0, 0, .int 4), (.invokevirtual 214, 127, 2, .ref 8), (.ifCond .ne 6, 47, 0, .null)]
set_option maxRecDepth 100000 in
theorem cb_107_35 : mChk 107 35 bk_107_35 44 = true := by decide +kernel
def bk_107_44 : List mO := [(.bipush (-2), 0, 0, .int (-2)), (.ireturn, 0, 0, .int 0)]
set_option maxRecDepth 100000 in
theorem cb_107_44 : mChk 107 44 bk_107_44 47 = true := by decide +kernel
def bk_107_47 : List mO := [(.aload_n 0, 0, 0, .null), (.iload_n 2, 2, 0, .null), (.invokevirtual 217, 128, 1, .ref 8), (.ifCond .ne 6, 58, 0, .null)]
set_option maxRecDepth 100000 in
theorem cb_107_47 : mChk 107 47 bk_107_47 55 = true := by decide +kernel
def bk_107_55 : List mO := [(.bipush (-12), 0, 0, .int (-12)), (.ireturn, 0, 0, .int 0)]
set_option maxRecDepth 100000 in
theorem cb_107_55 : mChk 107 55 bk_107_55 58 = true := by decide +kernel
def bk_107_58 : List mO := [(.aload_n 0, 0, 0, .null), (.iload_n 2, 2, 0, .null), (.invokestatic 220, 119, 1, .null), (.aload_n 0, 0, 0, .null), (.getfield 11, 8, 0, .null), (.iload 5, 5, 0, .null), (.aaload, 0, 0, .null), (.aload_n 0, 0, 0, .null), (.getfield 11, 8, 0, .null), (.iload 6, 6, 0, .null), (.aaload, 0, 0, .null), (.invokevirtual 234, 134, 3, .ref 8), (.ifCond .ne 6, 86, 0, .null)]
set_option maxRecDepth 100000 in
theorem cb_107_58 : mChk 107 58 bk_107_58 83 = true := by decide +kernel
def bk_107_83 : List mO := [(.bipush (-11), 0, 0, .int (-11)), (.ireturn, 0, 0, .int 0)]
set_option maxRecDepth 100000 in
theorem cb_107_83 : mChk 107 83 bk_107_83 86 = true := by decide +kernel
def bk_107_86 : List mO := [(.aload_n 0, 0, 0, .null), (.getfield 17, 8, 1, .null), (.iload_n 1, 1, 0, .null), (.aaload, 0, 0, .null), (.iconst 2, 0, 0, .int 2), (.iload_n 2, 2, 0, .null), (.iload_n 3, 3, 0, .null), (.iload 4, 4, 0, .null), (.invokevirtual 227, 23, 4, .ref 1), (.aload_n 0, 0, 0, .null), (.aload_n 0, 0, 0, .null), (.getfield 17, 8, 1, .null), (.iload_n 1, 1, 0, .null), (.aaload, 0, 0, .null), (.invokevirtual 230, 135, 1, .ref 8), (.iconst 0, 0, 0, .int 0), (.ireturn, 0, 0, .int 0)]
set_option maxRecDepth 100000 in
theorem cb_107_86 : mChk 107 86 bk_107_86 112 = true := by decide +kernel
-- method 108: KeySealer.seal(IIII)I, locals 7, room (7, 160)
def bk_108_0 : List mO := [(.aload_n 0, 0, 0, .null), (.iload_n 1, 1, 0, .null), (.iconst 1, 0, 0, .int 1), (.invokevirtual 237, 123, 2, .ref 8), (.ifCond .eq 25, 31, 0, .null)]
set_option maxRecDepth 100000 in
theorem cb_108_0 : mChk 108 0 bk_108_0 9 = true := by decide +kernel
def bk_108_9 : List mO := [(.iload_n 2, 2, 0, .null), (.invokestatic 82, 114, 1, .null), (.ifCond .eq 18, 31, 0, .null)]
set_option maxRecDepth 100000 in
theorem cb_108_9 : mChk 108 9 bk_108_9 16 = true := by decide +kernel
def bk_108_16 : List mO := [(.iload_n 3, 3, 0, .null), (.invokestatic 82, 114, 1, .null), (.ifCond .eq 11, 31, 0, .null)]
set_option maxRecDepth 100000 in
theorem cb_108_16 : mChk 108 16 bk_108_16 23 = true := by decide +kernel
def bk_108_23 : List mO := [(.iload 4, 4, 0, .null), (.invokestatic 82, 114, 1, .null), (.ifCond .ne 6, 34, 0, .null)]
set_option maxRecDepth 100000 in
theorem cb_108_23 : mChk 108 23 bk_108_23 31 = true := by decide +kernel
def bk_108_31 : List mO := [(.bipush (-2), 0, 0, .int (-2)), (.ireturn, 0, 0, .int 0)]
set_option maxRecDepth 100000 in
theorem cb_108_31 : mChk 108 31 bk_108_31 34 = true := by decide +kernel
def bk_108_34 : List mO := [(.aload_n 0, 0, 0, .null), (.getfield 17, 8, 1, .null), (.iload_n 1, 1, 0, .null), (.aaload, 0, 0, .null), (.astore 5, 5, 0, .null), (.aload 5, 5, 0, .null), (.invokevirtual 240, 25, 0, .ref 1), (.ifCond .eq 6, 53, 0, .null)]
set_option maxRecDepth 100000 in
theorem cb_108_34 : mChk 108 34 bk_108_34 50 = true := by decide +kernel
def bk_108_50 : List mO := [(.bipush (-13), 0, 0, .int (-13)), (.ireturn, 0, 0, .int 0)]
set_option maxRecDepth 100000 in
theorem cb_108_50 : mChk 108 50 bk_108_50 53 = true := by decide +kernel
def bk_108_53 : List mO := [(.aload_n 0, 0, 0, .null), (.iload 4, 4, 0, .null), (.invokevirtual 190, 126, 1, .ref 8), (.ifCond .ne 6, 65, 0, .null)]
set_option maxRecDepth 100000 in
theorem cb_108_53 : mChk 108 53 bk_108_53 62 = true := by decide +kernel
def bk_108_62 : List mO := [(.bipush (-3), 0, 0, .int (-3)), (.ireturn, 0, 0, .int 0)]
set_option maxRecDepth 100000 in
theorem cb_108_62 : mChk 108 62 bk_108_62 65 = true := by decide +kernel
def bk_108_65 : List mO := [(.aload_n 0, 0, 0, .null), (.aload 5, 5, 0, .null), (.invokevirtual 244, 132, 1, .ref 8), (.astore 6, 6, 0, .null), (.aload 6, 6, 0, .null), (.aload_n 0, 0, 0, .null), (.getfield 11, 8, 0, .null), (.iload_n 3, 3, 0, .null), (.aaload, 0, 0, .null), (.aload_n 0, 0, 0, .null), (.getfield 11, 8, 0, .null), (.iload 4, 4, 0, .null), (.aaload, 0, 0, .null), (.aload_n 0, 0, 0, .null), (.getfield 60, 8, 8, .null), (.invokevirtual 201, 17, 3, .long 17), (.aload 5, 5, 0, .null), (.invokevirtual 248, 26, 0, .ref 1), (.aload_n 0, 0, 0, .null), (.iload_n 2, 2, 0, .null), (.invokevirtual 108, 130, 1, .ref 8), (.ireturn, 0, 0, .int 0)]
set_option maxRecDepth 100000 in
theorem cb_108_65 : mChk 108 65 bk_108_65 106 = true := by decide +kernel
-- method 109: KeySealer.unseal(IIII)I, locals 7, room (7, 162)
def bk_109_0 : List mO := [(.aload_n 0, 0, 0, .null), (.iload_n 1, 1, 0, .null), (.iconst 2, 0, 0, .int 2), (.invokevirtual 237, 123, 2, .ref 8), (.ifCond .eq 25, 31, 0, .null)]
set_option maxRecDepth 100000 in
theorem cb_109_0 : mChk 109 0 bk_109_0 9 = true := by decide +kernel
def bk_109_9 : List mO := [(.iload_n 2, 2, 0, .null), (.invokestatic 82, 114, 1, .null), (.ifCond .eq 18, 31, 0, .null)]
set_option maxRecDepth 100000 in
theorem cb_109_9 : mChk 109 9 bk_109_9 16 = true := by decide +kernel
def bk_109_16 : List mO := [(.iload_n 3, 3, 0, .null), (.invokestatic 82, 114, 1, .null), (.ifCond .eq 11, 31, 0, .null)]
set_option maxRecDepth 100000 in
theorem cb_109_16 : mChk 109 16 bk_109_16 23 = true := by decide +kernel
def bk_109_23 : List mO := [(.iload 4, 4, 0, .null), (.invokestatic 82, 114, 1, .null), (.ifCond .ne 6, 34, 0, .null)]
set_option maxRecDepth 100000 in
theorem cb_109_23 : mChk 109 23 bk_109_23 31 = true := by decide +kernel
def bk_109_31 : List mO := [(.bipush (-2), 0, 0, .int (-2)), (.ireturn, 0, 0, .int 0)]
set_option maxRecDepth 100000 in
theorem cb_109_31 : mChk 109 31 bk_109_31 34 = true := by decide +kernel
def bk_109_34 : List mO := [(.aload_n 0, 0, 0, .null), (.getfield 17, 8, 1, .null), (.iload_n 1, 1, 0, .null), (.aaload, 0, 0, .null), (.astore 5, 5, 0, .null), (.aload 5, 5, 0, .null), (.invokevirtual 240, 25, 0, .ref 1), (.ifCond .eq 6, 53, 0, .null)]
set_option maxRecDepth 100000 in
theorem cb_109_34 : mChk 109 34 bk_109_34 50 = true := by decide +kernel
def bk_109_50 : List mO := [(.bipush (-13), 0, 0, .int (-13)), (.ireturn, 0, 0, .int 0)]
set_option maxRecDepth 100000 in
theorem cb_109_50 : mChk 109 50 bk_109_50 53 = true := by decide +kernel
def bk_109_53 : List mO := [(.aload_n 0, 0, 0, .null), (.aload 5, 5, 0, .null), (.invokevirtual 244, 132, 1, .ref 8), (.astore 6, 6, 0, .null), (.aload 6, 6, 0, .null), (.aload_n 0, 0, 0, .null), (.getfield 11, 8, 0, .null), (.iload_n 3, 3, 0, .null), (.aaload, 0, 0, .null), (.aload_n 0, 0, 0, .null), (.getfield 11, 8, 0, .null), (.iload 4, 4, 0, .null), (.aaload, 0, 0, .null), (.aload_n 0, 0, 0, .null), (.getfield 60, 8, 8, .null), (.invokevirtual 205, 18, 3, .long 18), (.ifCond .ne 6, 89, 0, .null)]
set_option maxRecDepth 100000 in
theorem cb_109_53 : mChk 109 53 bk_109_53 86 = true := by decide +kernel
def bk_109_86 : List mO := [(.bipush (-14), 0, 0, .int (-14)), (.ireturn, 0, 0, .int 0)]
set_option maxRecDepth 100000 in
theorem cb_109_86 : mChk 109 86 bk_109_86 89 = true := by decide +kernel
def bk_109_89 : List mO := [(.aload 5, 5, 0, .null), (.invokevirtual 248, 26, 0, .ref 1), (.aload_n 0, 0, 0, .null), (.iload_n 2, 2, 0, .null), (.invokevirtual 108, 130, 1, .ref 8), (.ireturn, 0, 0, .int 0)]
set_option maxRecDepth 100000 in
theorem cb_109_89 : mChk 109 89 bk_109_89 100 = true := by decide +kernel
-- method 110: KeySealer.export(IIII)I, locals 6, room (7, 174)
def bk_110_0 : List mO := [(.aload_n 0, 0, 0, .null), (.iload_n 1, 1, 0, .null), (.invokevirtual 251, 122, 1, .ref 8), (.ifCond .eq 25, 30, 0, .null)]
set_option maxRecDepth 100000 in
theorem cb_110_0 : mChk 110 0 bk_110_0 8 = true := by decide +kernel
def bk_110_8 : List mO := [(.iload_n 2, 2, 0, .null), (.invokestatic 82, 114, 1, .null), (.ifCond .eq 18, 30, 0, .null)]
set_option maxRecDepth 100000 in
theorem cb_110_8 : mChk 110 8 bk_110_8 15 = true := by decide +kernel
def bk_110_15 : List mO := [(.iload_n 3, 3, 0, .null), (.invokestatic 82, 114, 1, .null), (.ifCond .eq 11, 30, 0, .null)]
set_option maxRecDepth 100000 in
theorem cb_110_15 : mChk 110 15 bk_110_15 22 = true := by decide +kernel
def bk_110_22 : List mO := [(.iload 4, 4, 0, .null), (.invokestatic 151, 117, 1, .null), (.ifCond .ne 6, 33, 0, .null)]
set_option maxRecDepth 100000 in
theorem cb_110_22 : mChk 110 22 bk_110_22 30 = true := by decide +kernel
def bk_110_30 : List mO := [(.bipush (-2), 0, 0, .int (-2)), (.ireturn, 0, 0, .int 0)]
set_option maxRecDepth 100000 in
theorem cb_110_30 : mChk 110 30 bk_110_30 33 = true := by decide +kernel
def bk_110_33 : List mO := [(.aload_n 0, 0, 0, .null), (.getfield 17, 8, 1, .null), (.iload_n 1, 1, 0, .null), (.aaload, 0, 0, .null), (.astore 5, 5, 0, .null), (.aload_n 0, 0, 0, .null), (.getfield 28, 8, 3, .null), (.aload 5, 5, 0, .null), (.getfield 254, 1, 5, .null), (.aload 5, 5, 0, .null), (.getfield 257, 1, 6, .null), (.invokevirtual 260, 58, 2, .ref 5), (.aload_n 0, 0, 0, .null), (.getfield 28, 8, 3, .null), (.aload 5, 5, 0, .null), (.getfield 264, 1, 2, .null), (.ldc_w 267, 0, 0, .ref 2000013), (.aload_n 0, 0, 0, .null), (.getfield 11, 8, 0, .null), (.iload_n 3, 3, 0, .null), (.aaload, 0, 0, .null), (.iload 4, 4, 0, .null), (.aload_n 0, 0, 0, .null), (.getfield 60, 8, 8, .null), (.invokevirtual 180, 60, 5, .ref 5), (.aload_n 0, 0, 0, .null), (.iload_n 2, 2, 0, .null), (.invokevirtual 108, 130, 1, .ref 8), (.ireturn, 0, 0, .int 0)]
set_option maxRecDepth 100000 in
theorem cb_110_33 : mChk 110 33 bk_110_33 91 = true := by decide +kernel
-- method 111: KeySealer.sequence(IIII)I, locals 5, room (2, 41)
def bk_111_0 : List mO := [(.aload_n 0, 0, 0, .null), (.iload_n 1, 1, 0, .null), (.invokevirtual 251, 122, 1, .ref 8), (.ifCond .ne 6, 11, 0, .null)]
set_option maxRecDepth 100000 in
theorem cb_111_0 : mChk 111 0 bk_111_0 8 = true := by decide +kernel
def bk_111_8 : List mO := [(.bipush (-2), 0, 0, .int (-2)), (.ireturn, 0, 0, .int 0)]
set_option maxRecDepth 100000 in
theorem cb_111_8 : mChk 111 8 bk_111_8 11 = true := by decide +kernel
def bk_111_11 : List mO := [(.aload_n 0, 0, 0, .null), (.getfield 17, 8, 1, .null), (.iload_n 1, 1, 0, .null), (.aaload, 0, 0, .null), (.iload_n 2, 2, 0, .null), (.iload_n 3, 3, 0, .null), (.iload 4, 4, 0, .null), (.invokevirtual 269, 24, 3, .ref 1), (.iconst 0, 0, 0, .int 0), (.ireturn, 0, 0, .int 0)]
set_option maxRecDepth 100000 in
theorem cb_111_11 : mChk 111 11 bk_111_11 26 = true := by decide +kernel
-- method 112: KeySealer.told(II)I, locals 4, room (1, 20)
def bk_112_0 : List mO := [(.iload_n 1, 1, 0, .null), (.invokestatic 208, 115, 1, .null), (.ifCond .ne 6, 10, 0, .null)]
set_option maxRecDepth 100000 in
theorem cb_112_0 : mChk 112 0 bk_112_0 7 = true := by decide +kernel
def bk_112_7 : List mO := [(.bipush (-2), 0, 0, .int (-2)), (.ireturn, 0, 0, .int 0)]
set_option maxRecDepth 100000 in
theorem cb_112_7 : mChk 112 7 bk_112_7 10 = true := by decide +kernel
def bk_112_10 : List mO := [(.aload_n 0, 0, 0, .null), (.getfield 17, 8, 1, .null), (.iload_n 1, 1, 0, .null), (.aaload, 0, 0, .null), (.astore_n 3, 3, 0, .null), (.iload_n 2, 2, 0, .null), (.tableswitch 77 0 6 #[42, 47, 52, 57, 62, 67, 72], 18, 0, .null)]
set_option maxRecDepth 100000 in
theorem cb_112_10 : mChk 112 10 bk_112_10 19 = true := by decide +kernel
def bk_112_60 : List mO := [(.aload_n 3, 3, 0, .null), (.getfield 273, 1, 3, .null), (.ireturn, 0, 0, .int 0)]
set_option maxRecDepth 100000 in
theorem cb_112_60 : mChk 112 60 bk_112_60 65 = true := by decide +kernel
def bk_112_65 : List mO := [(.aload_n 3, 3, 0, .null), (.getfield 276, 1, 4, .null), (.ireturn, 0, 0, .int 0)]
set_option maxRecDepth 100000 in
theorem cb_112_65 : mChk 112 65 bk_112_65 70 = true := by decide +kernel
def bk_112_70 : List mO := [(.aload_n 3, 3, 0, .null), (.getfield 254, 1, 5, .null), (.ireturn, 0, 0, .int 0)]
set_option maxRecDepth 100000 in
theorem cb_112_70 : mChk 112 70 bk_112_70 75 = true := by decide +kernel
def bk_112_75 : List mO := [(.aload_n 3, 3, 0, .null), (.getfield 257, 1, 6, .null), (.ireturn, 0, 0, .int 0)]
set_option maxRecDepth 100000 in
theorem cb_112_75 : mChk 112 75 bk_112_75 80 = true := by decide +kernel
def bk_112_80 : List mO := [(.aload_n 3, 3, 0, .null), (.getfield 279, 1, 7, .null), (.ireturn, 0, 0, .int 0)]
set_option maxRecDepth 100000 in
theorem cb_112_80 : mChk 112 80 bk_112_80 85 = true := by decide +kernel
def bk_112_85 : List mO := [(.aload_n 3, 3, 0, .null), (.getfield 282, 1, 8, .null), (.ireturn, 0, 0, .int 0)]
set_option maxRecDepth 100000 in
theorem cb_112_85 : mChk 112 85 bk_112_85 90 = true := by decide +kernel
def bk_112_90 : List mO := [(.aload_n 3, 3, 0, .null), (.getfield 285, 1, 9, .null), (.ireturn, 0, 0, .int 0)]
set_option maxRecDepth 100000 in
theorem cb_112_90 : mChk 112 90 bk_112_90 95 = true := by decide +kernel
def bk_112_95 : List mO := [(.bipush (-2), 0, 0, .int (-2)), (.ireturn, 0, 0, .int 0)]
set_option maxRecDepth 100000 in
theorem cb_112_95 : mChk 112 95 bk_112_95 98 = true := by decide +kernel
-- method 113: KeySealer.secret(III)I, locals 6, room (3, 71)
def bk_113_0 : List mO := [(.aload_n 0, 0, 0, .null), (.iload_n 1, 1, 0, .null), (.invokevirtual 251, 122, 1, .ref 8), (.ifCond .eq 19, 24, 0, .null)]
set_option maxRecDepth 100000 in
theorem cb_113_0 : mChk 113 0 bk_113_0 8 = true := by decide +kernel
def bk_113_8 : List mO := [(.iload_n 2, 2, 0, .null), (.ifCond .lt 15, 24, 0, .null)]
set_option maxRecDepth 100000 in
theorem cb_113_8 : mChk 113 8 bk_113_8 12 = true := by decide +kernel
def bk_113_12 : List mO := [(.iload_n 2, 2, 0, .null), (.iconst 2, 0, 0, .int 2), (.if_icmp .gt 10, 24, 0, .null)]
set_option maxRecDepth 100000 in
theorem cb_113_12 : mChk 113 12 bk_113_12 17 = true := by decide +kernel
def bk_113_17 : List mO := [(.iload_n 3, 3, 0, .null), (.invokestatic 82, 114, 1, .null), (.ifCond .ne 6, 27, 0, .null)]
set_option maxRecDepth 100000 in
theorem cb_113_17 : mChk 113 17 bk_113_17 24 = true := by decide +kernel
def bk_113_24 : List mO := [(.bipush (-2), 0, 0, .int (-2)), (.ireturn, 0, 0, .int 0)]
set_option maxRecDepth 100000 in
theorem cb_113_24 : mChk 113 24 bk_113_24 27 = true := by decide +kernel
def bk_113_27 : List mO := [(.aload_n 0, 0, 0, .null), (.getfield 17, 8, 1, .null), (.iload_n 1, 1, 0, .null), (.aaload, 0, 0, .null), (.astore 4, 4, 0, .null), (.iload_n 2, 2, 0, .null), (.ifCond .ne 11, 47, 0, .null)]
set_option maxRecDepth 100000 in
theorem cb_113_27 : mChk 113 27 bk_113_27 39 = true := by decide +kernel
def bk_113_39 : List mO := [(.aload 4, 4, 0, .null), (.getfield 288, 1, 0, .null), (.goto 21, 65, 0, .null)]
set_option maxRecDepth 100000 in
theorem cb_113_39 : mChk 113 39 bk_113_39 47 = true := by decide +kernel
def bk_113_47 : List mO := [(.iload_n 2, 2, 0, .null), (.iconst 1, 0, 0, .int 1), (.if_icmp .ne 11, 60, 0, .null)]
set_option maxRecDepth 100000 in
theorem cb_113_47 : mChk 113 47 bk_113_47 52 = true := by decide +kernel
def bk_113_52 : List mO := [(.aload 4, 4, 0, .null), (.getfield 291, 1, 1, .null), (.goto 8, 65, 0, .null)]
set_option maxRecDepth 100000 in
theorem cb_113_52 : mChk 113 52 bk_113_52 60 = true := by decide +kernel
def bk_113_60 : List mO := [(.aload 4, 4, 0, .null), (.getfield 264, 1, 2, .null)]
set_option maxRecDepth 100000 in
theorem cb_113_60 : mChk 113 60 bk_113_60 65 = true := by decide +kernel
def bk_113_65 : List mO := [(.astore 5, 5, 0, .null), (.aload_n 0, 0, 0, .null), (.getfield 11, 8, 0, .null), (.iload_n 3, 3, 0, .null), (.aaload, 0, 0, .null), (.aload 5, 5, 0, .null), (.invokevirtual 183, 73, 1, .ref 6), (.aload 5, 5, 0, .null), (.getfield 93, 6, 1, .null), (.ireturn, 0, 0, .int 0)]
set_option maxRecDepth 100000 in
theorem cb_113_65 : mChk 113 65 bk_113_65 84 = true := by decide +kernel
-- method 114: KeySealer.isRegister(I)Z, locals 1, room (0, 0)
def bk_114_0 : List mO := [(.iload_n 0, 0, 0, .null), (.ifCond .lt 13, 14, 0, .null)]
set_option maxRecDepth 100000 in
theorem cb_114_0 : mChk 114 0 bk_114_0 4 = true := by decide +kernel
def bk_114_4 : List mO := [(.iload_n 0, 0, 0, .null), (.bipush 16, 0, 0, .int 16), (.if_icmp .ge 7, 14, 0, .null)]
set_option maxRecDepth 100000 in
theorem cb_114_4 : mChk 114 4 bk_114_4 10 = true := by decide +kernel
def bk_114_10 : List mO := [(.iconst 1, 0, 0, .int 1), (.goto 4, 15, 0, .null)]
set_option maxRecDepth 100000 in
theorem cb_114_10 : mChk 114 10 bk_114_10 14 = true := by decide +kernel
def bk_114_14 : List mO := [(.iconst 0, 0, 0, .int 0)]
set_option maxRecDepth 100000 in
theorem cb_114_14 : mChk 114 14 bk_114_14 15 = true := by decide +kernel
def bk_114_15 : List mO := [(.ireturn, 0, 0, .int 1)]
set_option maxRecDepth 100000 in
theorem cb_114_15 : mChk 114 15 bk_114_15 16 = true := by decide +kernel
-- method 115: KeySealer.isContext(I)Z, locals 1, room (0, 0)
def bk_115_0 : List mO := [(.iload_n 0, 0, 0, .null), (.ifCond .lt 12, 13, 0, .null)]
set_option maxRecDepth 100000 in
theorem cb_115_0 : mChk 115 0 bk_115_0 4 = true := by decide +kernel
def bk_115_4 : List mO := [(.iload_n 0, 0, 0, .null), (.iconst 4, 0, 0, .int 4), (.if_icmp .ge 7, 13, 0, .null)]
set_option maxRecDepth 100000 in
theorem cb_115_4 : mChk 115 4 bk_115_4 9 = true := by decide +kernel
def bk_115_9 : List mO := [(.iconst 1, 0, 0, .int 1), (.goto 4, 14, 0, .null)]
set_option maxRecDepth 100000 in
theorem cb_115_9 : mChk 115 9 bk_115_9 13 = true := by decide +kernel
def bk_115_13 : List mO := [(.iconst 0, 0, 0, .int 0)]
set_option maxRecDepth 100000 in
theorem cb_115_13 : mChk 115 13 bk_115_13 14 = true := by decide +kernel
def bk_115_14 : List mO := [(.ireturn, 0, 0, .int 1)]
set_option maxRecDepth 100000 in
theorem cb_115_14 : mChk 115 14 bk_115_14 15 = true := by decide +kernel
-- method 116: KeySealer.isKind(I)Z, locals 1, room (0, 0)
def bk_116_0 : List mO := [(.iload_n 0, 0, 0, .null), (.iconst 1, 0, 0, .int 1), (.if_icmp .eq 8, 10, 0, .null)]
set_option maxRecDepth 100000 in
theorem cb_116_0 : mChk 116 0 bk_116_0 5 = true := by decide +kernel
def bk_116_5 : List mO := [(.iload_n 0, 0, 0, .null), (.iconst 3, 0, 0, .int 3), (.if_icmp .ne 7, 14, 0, .null)]
set_option maxRecDepth 100000 in
theorem cb_116_5 : mChk 116 5 bk_116_5 10 = true := by decide +kernel
def bk_116_10 : List mO := [(.iconst 1, 0, 0, .int 1), (.goto 4, 15, 0, .null)]
set_option maxRecDepth 100000 in
theorem cb_116_10 : mChk 116 10 bk_116_10 14 = true := by decide +kernel
def bk_116_14 : List mO := [(.iconst 0, 0, 0, .int 0)]
set_option maxRecDepth 100000 in
theorem cb_116_14 : mChk 116 14 bk_116_14 15 = true := by decide +kernel
def bk_116_15 : List mO := [(.ireturn, 0, 0, .int 1)]
set_option maxRecDepth 100000 in
theorem cb_116_15 : mChk 116 15 bk_116_15 16 = true := by decide +kernel
-- method 117: KeySealer.isLength(I)Z, locals 1, room (0, 0)
def bk_117_0 : List mO := [(.iload_n 0, 0, 0, .null), (.ifCond .lt 14, 15, 0, .null)]
set_option maxRecDepth 100000 in
theorem cb_117_0 : mChk 117 0 bk_117_0 4 = true := by decide +kernel
def bk_117_4 : List mO := [(.iload_n 0, 0, 0, .null), (.sipush 300, 0, 0, .int 300), (.if_icmp .gt 7, 15, 0, .null)]
set_option maxRecDepth 100000 in
theorem cb_117_4 : mChk 117 4 bk_117_4 11 = true := by decide +kernel
def bk_117_11 : List mO := [(.iconst 1, 0, 0, .int 1), (.goto 4, 16, 0, .null)]
set_option maxRecDepth 100000 in
theorem cb_117_11 : mChk 117 11 bk_117_11 15 = true := by decide +kernel
def bk_117_15 : List mO := [(.iconst 0, 0, 0, .int 0)]
set_option maxRecDepth 100000 in
theorem cb_117_15 : mChk 117 15 bk_117_15 16 = true := by decide +kernel
def bk_117_16 : List mO := [(.ireturn, 0, 0, .int 1)]
set_option maxRecDepth 100000 in
theorem cb_117_16 : mChk 117 16 bk_117_16 17 = true := by decide +kernel
-- method 118: KeySealer.isCipher(I)Z, locals 1, room (0, 0)
def bk_118_0 : List mO := [(.iload_n 0, 0, 0, .null), (.iconst 1, 0, 0, .int 1), (.if_icmp .lt 12, 14, 0, .null)]
set_option maxRecDepth 100000 in
theorem cb_118_0 : mChk 118 0 bk_118_0 5 = true := by decide +kernel
def bk_118_5 : List mO := [(.iload_n 0, 0, 0, .null), (.iconst 3, 0, 0, .int 3), (.if_icmp .gt 7, 14, 0, .null)]
set_option maxRecDepth 100000 in
theorem cb_118_5 : mChk 118 5 bk_118_5 10 = true := by decide +kernel
def bk_118_10 : List mO := [(.iconst 1, 0, 0, .int 1), (.goto 4, 15, 0, .null)]
set_option maxRecDepth 100000 in
theorem cb_118_10 : mChk 118 10 bk_118_10 14 = true := by decide +kernel
def bk_118_14 : List mO := [(.iconst 0, 0, 0, .int 0)]
set_option maxRecDepth 100000 in
theorem cb_118_14 : mChk 118 14 bk_118_14 15 = true := by decide +kernel
def bk_118_15 : List mO := [(.ireturn, 0, 0, .int 1)]
set_option maxRecDepth 100000 in
theorem cb_118_15 : mChk 118 15 bk_118_15 16 = true := by decide +kernel
-- method 119: KeySealer.isKnown(I)Z, locals 1, room (0, 0)
def bk_119_0 : List mO := [(.iload_n 0, 0, 0, .null), (.iconst 2, 0, 0, .int 2), (.if_icmp .eq 8, 10, 0, .null)]
set_option maxRecDepth 100000 in
theorem cb_119_0 : mChk 119 0 bk_119_0 5 = true := by decide +kernel
def bk_119_5 : List mO := [(.iload_n 0, 0, 0, .null), (.iconst 3, 0, 0, .int 3), (.if_icmp .ne 7, 14, 0, .null)]
set_option maxRecDepth 100000 in
theorem cb_119_5 : mChk 119 5 bk_119_5 10 = true := by decide +kernel
def bk_119_10 : List mO := [(.iconst 1, 0, 0, .int 1), (.goto 4, 15, 0, .null)]
set_option maxRecDepth 100000 in
theorem cb_119_10 : mChk 119 10 bk_119_10 14 = true := by decide +kernel
def bk_119_14 : List mO := [(.iconst 0, 0, 0, .int 0)]
set_option maxRecDepth 100000 in
theorem cb_119_14 : mChk 119 14 bk_119_14 15 = true := by decide +kernel
def bk_119_15 : List mO := [(.ireturn, 0, 0, .int 1)]
set_option maxRecDepth 100000 in
theorem cb_119_15 : mChk 119 15 bk_119_15 16 = true := by decide +kernel
-- method 120: KeySealer.isSuite(III)Z, locals 3, room (1, 20)
def bk_120_0 : List mO := [(.iload_n 0, 0, 0, .null), (.ifCond .lt 33, 34, 0, .null)]
set_option maxRecDepth 100000 in
theorem cb_120_0 : mChk 120 0 bk_120_0 4 = true := by decide +kernel
def bk_120_4 : List mO := [(.iload_n 0, 0, 0, .null), (.iconst 3, 0, 0, .int 3), (.if_icmp .gt 28, 34, 0, .null)]
set_option maxRecDepth 100000 in
theorem cb_120_4 : mChk 120 4 bk_120_4 9 = true := by decide +kernel
def bk_120_9 : List mO := [(.iload_n 1, 1, 0, .null), (.invokestatic 123, 116, 1, .null), (.ifCond .eq 21, 34, 0, .null)]
set_option maxRecDepth 100000 in
theorem cb_120_9 : mChk 120 9 bk_120_9 16 = true := by decide +kernel
def bk_120_16 : List mO := [(.iload_n 2, 2, 0, .null), (.invokestatic 294, 118, 1, .null), (.ifCond .ne 10, 30, 0, .null)]
set_option maxRecDepth 100000 in
theorem cb_120_16 : mChk 120 16 bk_120_16 23 = true := by decide +kernel
def bk_120_23 : List mO := [(.iload_n 2, 2, 0, .null), (.sipush 255, 0, 0, .int 255), (.if_icmp .ne 7, 34, 0, .null)]
set_option maxRecDepth 100000 in
theorem cb_120_23 : mChk 120 23 bk_120_23 30 = true := by decide +kernel
def bk_120_30 : List mO := [(.iconst 1, 0, 0, .int 1), (.goto 4, 35, 0, .null)]
set_option maxRecDepth 100000 in
theorem cb_120_30 : mChk 120 30 bk_120_30 34 = true := by decide +kernel
def bk_120_34 : List mO := [(.iconst 0, 0, 0, .int 0)]
set_option maxRecDepth 100000 in
theorem cb_120_34 : mChk 120 34 bk_120_34 35 = true := by decide +kernel
def bk_120_35 : List mO := [(.ireturn, 0, 0, .int 1)]
set_option maxRecDepth 100000 in
theorem cb_120_35 : mChk 120 35 bk_120_35 36 = true := by decide +kernel
-- method 121: KeySealer.keyBytes(I)I, locals 1, room (0, 0)
def bk_121_0 : List mO := [(.iload_n 0, 0, 0, .null), (.sipush 255, 0, 0, .int 255), (.if_icmp .ne 5, 9, 0, .null)]
set_option maxRecDepth 100000 in
theorem cb_121_0 : mChk 121 0 bk_121_0 7 = true := by decide +kernel
def bk_121_7 : List mO := [(.iconst 0, 0, 0, .int 0), (.ireturn, 0, 0, .int 0)]
set_option maxRecDepth 100000 in
theorem cb_121_7 : mChk 121 7 bk_121_7 9 = true := by decide +kernel
def bk_121_9 : List mO := [(.iload_n 0, 0, 0, .null), (.iconst 1, 0, 0, .int 1), (.if_icmp .ne 8, 19, 0, .null)]
set_option maxRecDepth 100000 in
theorem cb_121_9 : mChk 121 9 bk_121_9 14 = true := by decide +kernel
def bk_121_14 : List mO := [(.bipush 16, 0, 0, .int 16), (.goto 5, 21, 0, .null)]
set_option maxRecDepth 100000 in
theorem cb_121_14 : mChk 121 14 bk_121_14 19 = true := by decide +kernel
def bk_121_19 : List mO := [(.bipush 32, 0, 0, .int 32)]
set_option maxRecDepth 100000 in
theorem cb_121_19 : mChk 121 19 bk_121_19 21 = true := by decide +kernel
def bk_121_21 : List mO := [(.ireturn, 0, 0, .int 0)]
set_option maxRecDepth 100000 in
theorem cb_121_21 : mChk 121 21 bk_121_21 22 = true := by decide +kernel
-- method 122: KeySealer.isBegun(I)Z, locals 2, room (1, 20)
def bk_122_0 : List mO := [(.iload_n 1, 1, 0, .null), (.invokestatic 208, 115, 1, .null), (.ifCond .eq 19, 23, 0, .null)]
set_option maxRecDepth 100000 in
theorem cb_122_0 : mChk 122 0 bk_122_0 7 = true := by decide +kernel
def bk_122_7 : List mO := [(.aload_n 0, 0, 0, .null), (.getfield 17, 8, 1, .null), (.iload_n 1, 1, 0, .null), (.aaload, 0, 0, .null), (.getfield 273, 1, 3, .null), (.ifCond .eq 7, 23, 0, .null)]
set_option maxRecDepth 100000 in
theorem cb_122_7 : mChk 122 7 bk_122_7 19 = true := by decide +kernel
def bk_122_19 : List mO := [(.iconst 1, 0, 0, .int 1), (.goto 4, 24, 0, .null)]
set_option maxRecDepth 100000 in
theorem cb_122_19 : mChk 122 19 bk_122_19 23 = true := by decide +kernel
def bk_122_23 : List mO := [(.iconst 0, 0, 0, .int 0)]
set_option maxRecDepth 100000 in
theorem cb_122_23 : mChk 122 23 bk_122_23 24 = true := by decide +kernel
def bk_122_24 : List mO := [(.ireturn, 0, 0, .int 1)]
set_option maxRecDepth 100000 in
theorem cb_122_24 : mChk 122 24 bk_122_24 25 = true := by decide +kernel
-- method 123: KeySealer.canCipher(II)Z, locals 3, room (1, 20)
def bk_123_0 : List mO := [(.iload_n 1, 1, 0, .null), (.invokestatic 208, 115, 1, .null), (.ifCond .eq 35, 39, 0, .null)]
set_option maxRecDepth 100000 in
theorem cb_123_0 : mChk 123 0 bk_123_0 7 = true := by decide +kernel
def bk_123_7 : List mO := [(.aload_n 0, 0, 0, .null), (.getfield 17, 8, 1, .null), (.iload_n 1, 1, 0, .null), (.aaload, 0, 0, .null), (.getfield 273, 1, 3, .null), (.iload_n 2, 2, 0, .null), (.if_icmp .ne 22, 39, 0, .null)]
set_option maxRecDepth 100000 in
theorem cb_123_7 : mChk 123 7 bk_123_7 20 = true := by decide +kernel
def bk_123_20 : List mO := [(.aload_n 0, 0, 0, .null), (.getfield 17, 8, 1, .null), (.iload_n 1, 1, 0, .null), (.aaload, 0, 0, .null), (.getfield 257, 1, 6, .null), (.sipush 255, 0, 0, .int 255), (.if_icmp .eq 7, 39, 0, .null)]
set_option maxRecDepth 100000 in
theorem cb_123_20 : mChk 123 20 bk_123_20 35 = true := by decide +kernel
def bk_123_35 : List mO := [(.iconst 1, 0, 0, .int 1), (.goto 4, 40, 0, .null)]
set_option maxRecDepth 100000 in
theorem cb_123_35 : mChk 123 35 bk_123_35 39 = true := by decide +kernel
def bk_123_39 : List mO := [(.iconst 0, 0, 0, .int 0)]
set_option maxRecDepth 100000 in
theorem cb_123_39 : mChk 123 39 bk_123_39 40 = true := by decide +kernel
def bk_123_40 : List mO := [(.ireturn, 0, 0, .int 1)]
set_option maxRecDepth 100000 in
theorem cb_123_40 : mChk 123 40 bk_123_40 41 = true := by decide +kernel
-- method 124: KeySealer.holdsKey(I)Z, locals 2, room (1, 20)
def bk_124_0 : List mO := [(.iload_n 1, 1, 0, .null), (.invokestatic 82, 114, 1, .null), (.ifCond .eq 21, 25, 0, .null)]
set_option maxRecDepth 100000 in
theorem cb_124_0 : mChk 124 0 bk_124_0 7 = true := by decide +kernel
def bk_124_7 : List mO := [(.aload_n 0, 0, 0, .null), (.getfield 11, 8, 0, .null), (.iload_n 1, 1, 0, .null), (.aaload, 0, 0, .null), (.getfield 93, 6, 1, .null), (.bipush 32, 0, 0, .int 32), (.if_icmp .ne 7, 25, 0, .null)]
set_option maxRecDepth 100000 in
theorem cb_124_7 : mChk 124 7 bk_124_7 21 = true := by decide +kernel
def bk_124_21 : List mO := [(.iconst 1, 0, 0, .int 1), (.goto 4, 26, 0, .null)]
set_option maxRecDepth 100000 in
theorem cb_124_21 : mChk 124 21 bk_124_21 25 = true := by decide +kernel
def bk_124_25 : List mO := [(.iconst 0, 0, 0, .int 0)]
set_option maxRecDepth 100000 in
theorem cb_124_25 : mChk 124 25 bk_124_25 26 = true := by decide +kernel
def bk_124_26 : List mO := [(.ireturn, 0, 0, .int 1)]
set_option maxRecDepth 100000 in
theorem cb_124_26 : mChk 124 26 bk_124_26 27 = true := by decide +kernel
-- method 125: KeySealer.isLocking(III)Z, locals 4, room (1, 20)
def bk_125_0 : List mO := [(.iload_n 1, 1, 0, .null), (.invokestatic 294, 118, 1, .null), (.ifCond .eq 51, 55, 0, .null)]
set_option maxRecDepth 100000 in
theorem cb_125_0 : mChk 125 0 bk_125_0 7 = true := by decide +kernel
def bk_125_7 : List mO := [(.iload_n 2, 2, 0, .null), (.invokestatic 82, 114, 1, .null), (.ifCond .eq 44, 55, 0, .null)]
set_option maxRecDepth 100000 in
theorem cb_125_7 : mChk 125 7 bk_125_7 14 = true := by decide +kernel
def bk_125_14 : List mO := [(.iload_n 3, 3, 0, .null), (.invokestatic 82, 114, 1, .null), (.ifCond .eq 37, 55, 0, .null)]
set_option maxRecDepth 100000 in
theorem cb_125_14 : mChk 125 14 bk_125_14 21 = true := by decide +kernel
def bk_125_21 : List mO := [(.aload_n 0, 0, 0, .null), (.getfield 11, 8, 0, .null), (.iload_n 2, 2, 0, .null), (.aaload, 0, 0, .null), (.getfield 93, 6, 1, .null), (.iload_n 1, 1, 0, .null), (.invokestatic 297, 121, 1, .null), (.if_icmp .ne 21, 55, 0, .null)]
set_option maxRecDepth 100000 in
theorem cb_125_21 : mChk 125 21 bk_125_21 37 = true := by decide +kernel
def bk_125_37 : List mO := [(.aload_n 0, 0, 0, .null), (.getfield 11, 8, 0, .null), (.iload_n 3, 3, 0, .null), (.aaload, 0, 0, .null), (.getfield 93, 6, 1, .null), (.bipush 12, 0, 0, .int 12), (.if_icmp .ne 7, 55, 0, .null)]
set_option maxRecDepth 100000 in
theorem cb_125_37 : mChk 125 37 bk_125_37 51 = true := by decide +kernel
def bk_125_51 : List mO := [(.iconst 1, 0, 0, .int 1), (.goto 4, 56, 0, .null)]
set_option maxRecDepth 100000 in
theorem cb_125_51 : mChk 125 51 bk_125_51 55 = true := by decide +kernel
def bk_125_55 : List mO := [(.iconst 0, 0, 0, .int 0)]
set_option maxRecDepth 100000 in
theorem cb_125_55 : mChk 125 55 bk_125_55 56 = true := by decide +kernel
def bk_125_56 : List mO := [(.ireturn, 0, 0, .int 1)]
set_option maxRecDepth 100000 in
theorem cb_125_56 : mChk 125 56 bk_125_56 57 = true := by decide +kernel
-- method 126: KeySealer.fitsWithTag(I)Z, locals 2, room (0, 0)
def bk_126_0 : List mO := [(.aload_n 0, 0, 0, .null), (.getfield 11, 8, 0, .null), (.iload_n 1, 1, 0, .null), (.aaload, 0, 0, .null), (.getfield 93, 6, 1, .null), (.sipush 284, 0, 0, .int 284), (.if_icmp .gt 7, 19, 0, .null)]
set_option maxRecDepth 100000 in
theorem cb_126_0 : mChk 126 0 bk_126_0 15 = true := by decide +kernel
def bk_126_15 : List mO := [(.iconst 1, 0, 0, .int 1), (.goto 4, 20, 0, .null)]
set_option maxRecDepth 100000 in
theorem cb_126_15 : mChk 126 15 bk_126_15 19 = true := by decide +kernel
def bk_126_19 : List mO := [(.iconst 0, 0, 0, .int 0)]
set_option maxRecDepth 100000 in
theorem cb_126_19 : mChk 126 19 bk_126_19 20 = true := by decide +kernel
def bk_126_20 : List mO := [(.ireturn, 0, 0, .int 1)]
set_option maxRecDepth 100000 in
theorem cb_126_20 : mChk 126 20 bk_126_20 21 = true := by decide +kernel
-- method 127: KeySealer.lastingFits(II)Z, locals 3, room (2, 42)
def bk_127_0 : List mO := [(.iload_n 1, 1, 0, .null), (.invokestatic 220, 119, 1, .null), (.ifCond .eq 16, 20, 0, .null)]
set_option maxRecDepth 100000 in
theorem cb_127_0 : mChk 127 0 bk_127_0 7 = true := by decide +kernel
def bk_127_7 : List mO := [(.aload_n 0, 0, 0, .null), (.iload_n 2, 2, 0, .null), (.invokevirtual 300, 129, 1, .ref 8), (.getfield 93, 6, 1, .null), (.bipush 32, 0, 0, .int 32), (.if_icmp .ne 7, 24, 0, .null)]
set_option maxRecDepth 100000 in
theorem cb_127_7 : mChk 127 7 bk_127_7 20 = true := by decide +kernel
def bk_127_20 : List mO := [(.iconst 1, 0, 0, .int 1), (.goto 4, 25, 0, .null)]
set_option maxRecDepth 100000 in
theorem cb_127_20 : mChk 127 20 bk_127_20 24 = true := by decide +kernel
def bk_127_24 : List mO := [(.iconst 0, 0, 0, .int 0)]
set_option maxRecDepth 100000 in
theorem cb_127_24 : mChk 127 24 bk_127_24 25 = true := by decide +kernel
def bk_127_25 : List mO := [(.ireturn, 0, 0, .int 1)]
set_option maxRecDepth 100000 in
theorem cb_127_25 : mChk 127 25 bk_127_25 26 = true := by decide +kernel
-- method 128: KeySealer.sharedFits(I)Z, locals 3, room (2, 42)
def bk_128_0 : List mO := [(.iload_n 1, 1, 0, .null), (.iconst 1, 0, 0, .int 1), (.if_icmp .eq 8, 10, 0, .null)]
set_option maxRecDepth 100000 in
theorem cb_128_0 : mChk 128 0 bk_128_0 5 = true := by decide +kernel
def bk_128_5 : List mO := [(.iload_n 1, 1, 0, .null), (.iconst 3, 0, 0, .int 3), (.if_icmp .ne 7, 14, 0, .null)]
set_option maxRecDepth 100000 in
theorem cb_128_5 : mChk 128 5 bk_128_5 10 = true := by decide +kernel
def bk_128_10 : List mO := [(.iconst 1, 0, 0, .int 1), (.goto 4, 15, 0, .null)]
set_option maxRecDepth 100000 in
theorem cb_128_10 : mChk 128 10 bk_128_10 14 = true := by decide +kernel
def bk_128_14 : List mO := [(.iconst 0, 0, 0, .int 0)]
set_option maxRecDepth 100000 in
theorem cb_128_14 : mChk 128 14 bk_128_14 15 = true := by decide +kernel
def bk_128_15 : List mO := [(.istore_n 2, 2, 0, .null), (.aload_n 0, 0, 0, .null), (.iconst 1, 0, 0, .int 1), (.invokevirtual 300, 129, 1, .ref 8), (.getfield 93, 6, 1, .null), (.ifCond .le 7, 31, 0, .null)]
set_option maxRecDepth 100000 in
theorem cb_128_15 : mChk 128 15 bk_128_15 27 = true := by decide +kernel
def bk_128_27 : List mO := [(.iconst 1, 0, 0, .int 1), (.goto 4, 32, 0, .null)]
set_option maxRecDepth 100000 in
theorem cb_128_27 : mChk 128 27 bk_128_27 31 = true := by decide +kernel
def bk_128_31 : List mO := [(.iconst 0, 0, 0, .int 0)]
set_option maxRecDepth 100000 in
theorem cb_128_31 : mChk 128 31 bk_128_31 32 = true := by decide +kernel
def bk_128_32 : List mO := [(.iload_n 2, 2, 0, .null), (.if_icmp .ne 27, 60, 0, .null)]
set_option maxRecDepth 100000 in
theorem cb_128_32 : mChk 128 32 bk_128_32 36 = true := by decide +kernel
def bk_128_36 : List mO := [(.aload_n 0, 0, 0, .null), (.iconst 2, 0, 0, .int 2), (.invokevirtual 300, 129, 1, .ref 8), (.getfield 93, 6, 1, .null), (.ifCond .le 7, 51, 0, .null)]
set_option maxRecDepth 100000 in
theorem cb_128_36 : mChk 128 36 bk_128_36 47 = true := by decide +kernel
def bk_128_47 : List mO := [(.iconst 1, 0, 0, .int 1), (.goto 4, 52, 0, .null)]
set_option maxRecDepth 100000 in
theorem cb_128_47 : mChk 128 47 bk_128_47 51 = true := by decide +kernel
def bk_128_51 : List mO := [(.iconst 0, 0, 0, .int 0)]
set_option maxRecDepth 100000 in
theorem cb_128_51 : mChk 128 51 bk_128_51 52 = true := by decide +kernel
def bk_128_52 : List mO := [(.iload_n 2, 2, 0, .null), (.if_icmp .ne 7, 60, 0, .null)]
set_option maxRecDepth 100000 in
theorem cb_128_52 : mChk 128 52 bk_128_52 56 = true := by decide +kernel
def bk_128_56 : List mO := [(.iconst 1, 0, 0, .int 1), (.goto 4, 61, 0, .null)]
set_option maxRecDepth 100000 in
theorem cb_128_56 : mChk 128 56 bk_128_56 60 = true := by decide +kernel
def bk_128_60 : List mO := [(.iconst 0, 0, 0, .int 0)]
set_option maxRecDepth 100000 in
theorem cb_128_60 : mChk 128 60 bk_128_60 61 = true := by decide +kernel
def bk_128_61 : List mO := [(.ireturn, 0, 0, .int 1)]
set_option maxRecDepth 100000 in
theorem cb_128_61 : mChk 128 61 bk_128_61 62 = true := by decide +kernel
-- method 129: KeySealer.usedRow(I)LKeySealer$Row;, locals 3, room (1, 20)
def bk_129_0 : List mO := [(.aload_n 0, 0, 0, .null), (.getfield 21, 8, 2, .null), (.iload_n 1, 1, 0, .null), (.iaload, 0, 0, .null), (.istore_n 2, 2, 0, .null), (.iload_n 2, 2, 0, .null), (.invokestatic 82, 114, 1, .null), (.ifCond .eq 12, 23, 0, .null)]
set_option maxRecDepth 100000 in
theorem cb_129_0 : mChk 129 0 bk_129_0 14 = true := by decide +kernel
def bk_129_14 : List mO := [(.aload_n 0, 0, 0, .null), (.getfield 11, 8, 0, .null), (.iload_n 2, 2, 0, .null), (.aaload, 0, 0, .null), (.goto 7, 27, 0, .null)]
set_option maxRecDepth 100000 in
theorem cb_129_14 : mChk 129 14 bk_129_14 23 = true := by decide +kernel
def bk_129_23 : List mO := [(.aload_n 0, 0, 0, .null), (.getfield 56, 8, 7, .null)]
set_option maxRecDepth 100000 in
theorem cb_129_23 : mChk 129 23 bk_129_23 27 = true := by decide +kernel
def bk_129_27 : List mO := [(.areturn, 0, 0, .null)]
set_option maxRecDepth 100000 in
theorem cb_129_27 : mChk 129 27 bk_129_27 28 = true := by decide +kernel
-- method 130: KeySealer.give(I)I, locals 2, room (3, 71)
def bk_130_0 : List mO := [(.aload_n 0, 0, 0, .null), (.getfield 11, 8, 0, .null), (.iload_n 1, 1, 0, .null), (.aaload, 0, 0, .null), (.aload_n 0, 0, 0, .null), (.getfield 60, 8, 8, .null), (.invokevirtual 183, 73, 1, .ref 6), (.aload_n 0, 0, 0, .null), (.getfield 60, 8, 8, .null), (.getfield 93, 6, 1, .null), (.ireturn, 0, 0, .int 0)]
set_option maxRecDepth 100000 in
theorem cb_130_0 : mChk 130 0 bk_130_0 21 = true := by decide +kernel
-- method 131: KeySealer.cipherOf(I)LKeySealer$Cipher;, locals 2, room (0, 0)
def bk_131_0 : List mO := [(.iload_n 1, 1, 0, .null), (.iconst 3, 0, 0, .int 3), (.if_icmp .ne 10, 12, 0, .null)]
set_option maxRecDepth 100000 in
theorem cb_131_0 : mChk 131 0 bk_131_0 5 = true := by decide +kernel
def bk_131_5 : List mO := [(.aload_n 0, 0, 0, .null), (.getfield 49, 8, 6, .null), (.goto 7, 16, 0, .null)]
set_option maxRecDepth 100000 in
theorem cb_131_5 : mChk 131 5 bk_131_5 12 = true := by decide +kernel
def bk_131_12 : List mO := [(.aload_n 0, 0, 0, .null), (.getfield 42, 8, 5, .null)]
set_option maxRecDepth 100000 in
theorem cb_131_12 : mChk 131 12 bk_131_12 16 = true := by decide +kernel
def bk_131_16 : List mO := [(.areturn, 0, 0, .null)]
set_option maxRecDepth 100000 in
theorem cb_131_16 : mChk 131 16 bk_131_16 17 = true := by decide +kernel

/-! PART 13.04: blocks of code and their checks, printed by program (wip/whole/mk13.py) -/
-- method 109: KeySealer.unseal(IIII)I, locals 7, room (7, 162)
def bk_109_0 : List mO := [(.aload_n 0, 0, 0, .null), (.iload_n 1, 1, 0, .null), (.iconst 2, 0, 0, .int 2), (.invokevirtual 237, 123, 2, .ref 8), (.ifCond .eq 25, 31, 0, .null)]
set_option maxRecDepth 100000 in
theorem cb_109_0 : mChk 109 0 bk_109_0 9 = true := by decide +kernel
def bk_109_9 : List mO := [(.iload_n 2, 2, 0, .null), (.invokestatic 82, 114, 1, .null), (.ifCond .eq 18, 31, 0, .null)]
set_option maxRecDepth 100000 in
theorem cb_109_9 : mChk 109 9 bk_109_9 16 = true := by decide +kernel
def bk_109_16 : List mO := [(.iload_n 3, 3, 0, .null), (.invokestatic 82, 114, 1, .null), (.ifCond .eq 11, 31, 0, .null)]
set_option maxRecDepth 100000 in
theorem cb_109_16 : mChk 109 16 bk_109_16 23 = true := by decide +kernel
def bk_109_23 : List mO := [(.iload 4, 4, 0, .null), (.invokestatic 82, 114, 1, .null), (.ifCond .ne 6, 34, 0, .null)]
set_option maxRecDepth 100000 in
theorem cb_109_23 : mChk 109 23 bk_109_23 31 = true := by decide +kernel
def bk_109_31 : List mO := [(.bipush (-2), 0, 0, .int (-2)), (.ireturn, 0, 0, .int 0)]
set_option maxRecDepth 100000 in
theorem cb_109_31 : mChk 109 31 bk_109_31 34 = true := by decide +kernel
def bk_109_34 : List mO := [(.aload_n 0, 0, 0, .null), (.getfield 17, 8, 1, .null), (.iload_n 1, 1, 0, .null), (.aaload, 0, 0, .null), (.astore 5, 5, 0, .null), (.aload 5, 5, 0, .null), (.invokevirtual 240, 25, 0, .ref 1), (.ifCond .eq 6, 53, 0, .null)]
set_option maxRecDepth 100000 in
theorem cb_109_34 : mChk 109 34 bk_109_34 50 = true := by decide +kernel
def bk_109_50 : List mO := [(.bipush (-13), 0, 0, .int (-13)), (.ireturn, 0, 0, .int 0)]
set_option maxRecDepth 100000 in
theorem cb_109_50 : mChk 109 50 bk_109_50 53 = true := by decide +kernel
def bk_109_53 : List mO := [(.aload_n 0, 0, 0, .null), (.aload 5, 5, 0, .null), (.invokevirtual 244, 132, 1, .ref 8), (.astore 6, 6, 0, .null), (.aload 6, 6, 0, .null), (.aload_n 0, 0, 0, .null), (.getfield 11, 8, 0, .null), (.iload_n 3, 3, 0, .null), (.aaload, 0, 0, .null), (.aload_n 0, 0, 0, .null), (.getfield 11, 8, 0, .null), (.iload 4, 4, 0, .null), (.aaload, 0, 0, .null), (.aload_n 0, 0, 0, .null), (.getfield 60, 8, 8, .null), (.invokevirtual 205, 18, 3, .long 18), (.ifCond .ne 6, 89, 0, .null)]
set_option maxRecDepth 100000 in
theorem cb_109_53 : mChk 109 53 bk_109_53 86 = true := by decide +kernel
def bk_109_86 : List mO := [(.bipush (-14), 0, 0, .int (-14)), (.ireturn, 0, 0, .int 0)]
set_option maxRecDepth 100000 in
theorem cb_109_86 : mChk 109 86 bk_109_86 89 = true := by decide +kernel
def bk_109_89 : List mO := [(.aload 5, 5, 0, .null), (.invokevirtual 248, 26, 0, .ref 1), (.aload_n 0, 0, 0, .null), (.iload_n 2, 2, 0, .null), (.invokevirtual 108, 130, 1, .ref 8), (.ireturn, 0, 0, .int 0)]
set_option maxRecDepth 100000 in
theorem cb_109_89 : mChk 109 89 bk_109_89 100 = true := by decide +kernel
-- method 110: KeySealer.export(IIII)I, locals 6, room (6, 174)
def bk_110_0 : List mO := [(.aload_n 0, 0, 0, .null), (.iload_n 1, 1, 0, .null), (.invokevirtual 251, 122, 1, .ref 8), (.ifCond .eq 25, 30, 0, .null)]
set_option maxRecDepth 100000 in
theorem cb_110_0 : mChk 110 0 bk_110_0 8 = true := by decide +kernel
def bk_110_8 : List mO := [(.iload_n 2, 2, 0, .null), (.invokestatic 82, 114, 1, .null), (.ifCond .eq 18, 30, 0, .null)]
set_option maxRecDepth 100000 in
theorem cb_110_8 : mChk 110 8 bk_110_8 15 = true := by decide +kernel
def bk_110_15 : List mO := [(.iload_n 3, 3, 0, .null), (.invokestatic 82, 114, 1, .null), (.ifCond .eq 11, 30, 0, .null)]
set_option maxRecDepth 100000 in
theorem cb_110_15 : mChk 110 15 bk_110_15 22 = true := by decide +kernel
def bk_110_22 : List mO := [(.iload 4, 4, 0, .null), (.invokestatic 151, 117, 1, .null), (.ifCond .ne 6, 33, 0, .null)]
set_option maxRecDepth 100000 in
theorem cb_110_22 : mChk 110 22 bk_110_22 30 = true := by decide +kernel
def bk_110_30 : List mO := [(.bipush (-2), 0, 0, .int (-2)), (.ireturn, 0, 0, .int 0)]
set_option maxRecDepth 100000 in
theorem cb_110_30 : mChk 110 30 bk_110_30 33 = true := by decide +kernel
def bk_110_33 : List mO := [(.aload_n 0, 0, 0, .null), (.getfield 17, 8, 1, .null), (.iload_n 1, 1, 0, .null), (.aaload, 0, 0, .null), (.astore 5, 5, 0, .null), (.aload_n 0, 0, 0, .null), (.getfield 28, 8, 3, .null), (.aload 5, 5, 0, .null), (.getfield 254, 1, 5, .null), (.aload 5, 5, 0, .null), (.getfield 257, 1, 6, .null), (.invokevirtual 260, 58, 2, .ref 5), (.aload_n 0, 0, 0, .null), (.getfield 28, 8, 3, .null), (.aload 5, 5, 0, .null), (.getfield 264, 1, 2, .null), (.ldc_w 267, 0, 0, .ref 2000013), (.aload_n 0, 0, 0, .null), (.getfield 11, 8, 0, .null), (.iload_n 3, 3, 0, .null), (.aaload, 0, 0, .null), (.iload 4, 4, 0, .null), (.aload_n 0, 0, 0, .null), (.getfield 60, 8, 8, .null), (.invokevirtual 180, 60, 5, .ref 5), (.aload_n 0, 0, 0, .null), (.iload_n 2, 2, 0, .null), (.invokevirtual 108, 130, 1, .ref 8), (.ireturn, 0, 0, .int 0)]
set_option maxRecDepth 100000 in
theorem cb_110_33 : mChk 110 33 bk_110_33 91 = true := by decide +kernel
-- method 111: KeySealer.sequence(IIII)I, locals 5, room (2, 41)
def bk_111_0 : List mO := [(.aload_n 0, 0, 0, .null), (.iload_n 1, 1, 0, .null), (.invokevirtual 251, 122, 1, .ref 8), (.ifCond .ne 6, 11, 0, .null)]
set_option maxRecDepth 100000 in
theorem cb_111_0 : mChk 111 0 bk_111_0 8 = true := by decide +kernel
def bk_111_8 : List mO := [(.bipush (-2), 0, 0, .int (-2)), (.ireturn, 0, 0, .int 0)]
set_option maxRecDepth 100000 in
theorem cb_111_8 : mChk 111 8 bk_111_8 11 = true := by decide +kernel
def bk_111_11 : List mO := [(.aload_n 0, 0, 0, .null), (.getfield 17, 8, 1, .null), (.iload_n 1, 1, 0, .null), (.aaload, 0, 0, .null), (.iload_n 2, 2, 0, .null), (.iload_n 3, 3, 0, .null), (.iload 4, 4, 0, .null), (.invokevirtual 269, 24, 3, .ref 1), (.iconst 0, 0, 0, .int 0), (.ireturn, 0, 0, .int 0)]
set_option maxRecDepth 100000 in
theorem cb_111_11 : mChk 111 11 bk_111_11 26 = true := by decide +kernel
-- method 112: KeySealer.told(II)I, locals 4, room (1, 20)
def bk_112_0 : List mO := [(.iload_n 1, 1, 0, .null), (.invokestatic 208, 115, 1, .null), (.ifCond .ne 6, 10, 0, .null)]
set_option maxRecDepth 100000 in
theorem cb_112_0 : mChk 112 0 bk_112_0 7 = true := by decide +kernel
def bk_112_7 : List mO := [(.bipush (-2), 0, 0, .int (-2)), (.ireturn, 0, 0, .int 0)]
set_option maxRecDepth 100000 in
theorem cb_112_7 : mChk 112 7 bk_112_7 10 = true := by decide +kernel
def bk_112_10 : List mO := [(.aload_n 0, 0, 0, .null), (.getfield 17, 8, 1, .null), (.iload_n 1, 1, 0, .null), (.aaload, 0, 0, .null), (.astore_n 3, 3, 0, .null), (.iload_n 2, 2, 0, .null), (.tableswitch 77 0 6 #[42, 47, 52, 57, 62, 67, 72], 18, 0, .null)]
set_option maxRecDepth 100000 in
theorem cb_112_10 : mChk 112 10 bk_112_10 19 = true := by decide +kernel
def bk_112_60 : List mO := [(.aload_n 3, 3, 0, .null), (.getfield 273, 1, 3, .null), (.ireturn, 0, 0, .int 0)]
set_option maxRecDepth 100000 in
theorem cb_112_60 : mChk 112 60 bk_112_60 65 = true := by decide +kernel
def bk_112_65 : List mO := [(.aload_n 3, 3, 0, .null), (.getfield 276, 1, 4, .null), (.ireturn, 0, 0, .int 0)]
set_option maxRecDepth 100000 in
theorem cb_112_65 : mChk 112 65 bk_112_65 70 = true := by decide +kernel
def bk_112_70 : List mO := [(.aload_n 3, 3, 0, .null), (.getfield 254, 1, 5, .null), (.ireturn, 0, 0, .int 0)]
set_option maxRecDepth 100000 in
theorem cb_112_70 : mChk 112 70 bk_112_70 75 = true := by decide +kernel
def bk_112_75 : List mO := [(.aload_n 3, 3, 0, .null), (.getfield 257, 1, 6, .null), (.ireturn, 0, 0, .int 0)]
set_option maxRecDepth 100000 in
theorem cb_112_75 : mChk 112 75 bk_112_75 80 = true := by decide +kernel
def bk_112_80 : List mO := [(.aload_n 3, 3, 0, .null), (.getfield 279, 1, 7, .null), (.ireturn, 0, 0, .int 0)]
set_option maxRecDepth 100000 in
theorem cb_112_80 : mChk 112 80 bk_112_80 85 = true := by decide +kernel
def bk_112_85 : List mO := [(.aload_n 3, 3, 0, .null), (.getfield 282, 1, 8, .null), (.ireturn, 0, 0, .int 0)]
set_option maxRecDepth 100000 in
theorem cb_112_85 : mChk 112 85 bk_112_85 90 = true := by decide +kernel
def bk_112_90 : List mO := [(.aload_n 3, 3, 0, .null), (.getfield 285, 1, 9, .null), (.ireturn, 0, 0, .int 0)]
set_option maxRecDepth 100000 in
theorem cb_112_90 : mChk 112 90 bk_112_90 95 = true := by decide +kernel
def bk_112_95 : List mO := [(.bipush (-2), 0, 0, .int (-2)), (.ireturn, 0, 0, .int 0)]
set_option maxRecDepth 100000 in
theorem cb_112_95 : mChk 112 95 bk_112_95 98 = true := by decide +kernel
-- method 113: KeySealer.secret(III)I, locals 6, room (3, 71)
def bk_113_0 : List mO := [(.aload_n 0, 0, 0, .null), (.iload_n 1, 1, 0, .null), (.invokevirtual 251, 122, 1, .ref 8), (.ifCond .eq 19, 24, 0, .null)]
set_option maxRecDepth 100000 in
theorem cb_113_0 : mChk 113 0 bk_113_0 8 = true := by decide +kernel
def bk_113_8 : List mO := [(.iload_n 2, 2, 0, .null), (.ifCond .lt 15, 24, 0, .null)]
set_option maxRecDepth 100000 in
theorem cb_113_8 : mChk 113 8 bk_113_8 12 = true := by decide +kernel
def bk_113_12 : List mO := [(.iload_n 2, 2, 0, .null), (.iconst 2, 0, 0, .int 2), (.if_icmp .gt 10, 24, 0, .null)]
set_option maxRecDepth 100000 in
theorem cb_113_12 : mChk 113 12 bk_113_12 17 = true := by decide +kernel
def bk_113_17 : List mO := [(.iload_n 3, 3, 0, .null), (.invokestatic 82, 114, 1, .null), (.ifCond .ne 6, 27, 0, .null)]
set_option maxRecDepth 100000 in
theorem cb_113_17 : mChk 113 17 bk_113_17 24 = true := by decide +kernel
def bk_113_24 : List mO := [(.bipush (-2), 0, 0, .int (-2)), (.ireturn, 0, 0, .int 0)]
set_option maxRecDepth 100000 in
theorem cb_113_24 : mChk 113 24 bk_113_24 27 = true := by decide +kernel
def bk_113_27 : List mO := [(.aload_n 0, 0, 0, .null), (.getfield 17, 8, 1, .null), (.iload_n 1, 1, 0, .null), (.aaload, 0, 0, .null), (.astore 4, 4, 0, .null), (.iload_n 2, 2, 0, .null), (.ifCond .ne 11, 47, 0, .null)]
set_option maxRecDepth 100000 in
theorem cb_113_27 : mChk 113 27 bk_113_27 39 = true := by decide +kernel
def bk_113_39 : List mO := [(.aload 4, 4, 0, .null), (.getfield 288, 1, 0, .null), (.goto 21, 65, 0, .null)]
set_option maxRecDepth 100000 in
theorem cb_113_39 : mChk 113 39 bk_113_39 47 = true := by decide +kernel
def bk_113_47 : List mO := [(.iload_n 2, 2, 0, .null), (.iconst 1, 0, 0, .int 1), (.if_icmp .ne 11, 60, 0, .null)]
set_option maxRecDepth 100000 in
theorem cb_113_47 : mChk 113 47 bk_113_47 52 = true := by decide +kernel
def bk_113_52 : List mO := [(.aload 4, 4, 0, .null), (.getfield 291, 1, 1, .null), (.goto 8, 65, 0, .null)]
set_option maxRecDepth 100000 in
theorem cb_113_52 : mChk 113 52 bk_113_52 60 = true := by decide +kernel
def bk_113_60 : List mO := [(.aload 4, 4, 0, .null), (.getfield 264, 1, 2, .null)]
set_option maxRecDepth 100000 in
theorem cb_113_60 : mChk 113 60 bk_113_60 65 = true := by decide +kernel
def bk_113_65 : List mO := [(.astore 5, 5, 0, .null), (.aload_n 0, 0, 0, .null), (.getfield 11, 8, 0, .null), (.iload_n 3, 3, 0, .null), (.aaload, 0, 0, .null), (.aload 5, 5, 0, .null), (.invokevirtual 183, 73, 1, .ref 6), (.aload 5, 5, 0, .null), (.getfield 93, 6, 1, .null), (.ireturn, 0, 0, .int 0)]
set_option maxRecDepth 100000 in
theorem cb_113_65 : mChk 113 65 bk_113_65 84 = true := by decide +kernel
-- method 114: KeySealer.isRegister(I)Z, locals 1, room (0, 0)
def bk_114_0 : List mO := [(.iload_n 0, 0, 0, .null), (.ifCond .lt 13, 14, 0, .null)]
set_option maxRecDepth 100000 in
theorem cb_114_0 : mChk 114 0 bk_114_0 4 = true := by decide +kernel
def bk_114_4 : List mO := [(.iload_n 0, 0, 0, .null), (.bipush 16, 0, 0, .int 16), (.if_icmp .ge 7, 14, 0, .null)]
set_option maxRecDepth 100000 in
theorem cb_114_4 : mChk 114 4 bk_114_4 10 = true := by decide +kernel
def bk_114_10 : List mO := [(.iconst 1, 0, 0, .int 1), (.goto 4, 15, 0, .null)]
set_option maxRecDepth 100000 in
theorem cb_114_10 : mChk 114 10 bk_114_10 14 = true := by decide +kernel
def bk_114_14 : List mO := [(.iconst 0, 0, 0, .int 0)]
set_option maxRecDepth 100000 in
theorem cb_114_14 : mChk 114 14 bk_114_14 15 = true := by decide +kernel
def bk_114_15 : List mO := [(.ireturn, 0, 0, .int 1)]
set_option maxRecDepth 100000 in
theorem cb_114_15 : mChk 114 15 bk_114_15 16 = true := by decide +kernel
-- method 115: KeySealer.isContext(I)Z, locals 1, room (0, 0)
def bk_115_0 : List mO := [(.iload_n 0, 0, 0, .null), (.ifCond .lt 12, 13, 0, .null)]
set_option maxRecDepth 100000 in
theorem cb_115_0 : mChk 115 0 bk_115_0 4 = true := by decide +kernel
def bk_115_4 : List mO := [(.iload_n 0, 0, 0, .null), (.iconst 4, 0, 0, .int 4), (.if_icmp .ge 7, 13, 0, .null)]
set_option maxRecDepth 100000 in
theorem cb_115_4 : mChk 115 4 bk_115_4 9 = true := by decide +kernel
def bk_115_9 : List mO := [(.iconst 1, 0, 0, .int 1), (.goto 4, 14, 0, .null)]
set_option maxRecDepth 100000 in
theorem cb_115_9 : mChk 115 9 bk_115_9 13 = true := by decide +kernel
def bk_115_13 : List mO := [(.iconst 0, 0, 0, .int 0)]
set_option maxRecDepth 100000 in
theorem cb_115_13 : mChk 115 13 bk_115_13 14 = true := by decide +kernel
def bk_115_14 : List mO := [(.ireturn, 0, 0, .int 1)]
set_option maxRecDepth 100000 in
theorem cb_115_14 : mChk 115 14 bk_115_14 15 = true := by decide +kernel
-- method 116: KeySealer.isKind(I)Z, locals 1, room (0, 0)
def bk_116_0 : List mO := [(.iload_n 0, 0, 0, .null), (.iconst 1, 0, 0, .int 1), (.if_icmp .eq 8, 10, 0, .null)]
set_option maxRecDepth 100000 in
theorem cb_116_0 : mChk 116 0 bk_116_0 5 = true := by decide +kernel
def bk_116_5 : List mO := [(.iload_n 0, 0, 0, .null), (.iconst 3, 0, 0, .int 3), (.if_icmp .ne 7, 14, 0, .null)]
set_option maxRecDepth 100000 in
theorem cb_116_5 : mChk 116 5 bk_116_5 10 = true := by decide +kernel
def bk_116_10 : List mO := [(.iconst 1, 0, 0, .int 1), (.goto 4, 15, 0, .null)]
set_option maxRecDepth 100000 in
theorem cb_116_10 : mChk 116 10 bk_116_10 14 = true := by decide +kernel
def bk_116_14 : List mO := [(.iconst 0, 0, 0, .int 0)]
set_option maxRecDepth 100000 in
theorem cb_116_14 : mChk 116 14 bk_116_14 15 = true := by decide +kernel
def bk_116_15 : List mO := [(.ireturn, 0, 0, .int 1)]
set_option maxRecDepth 100000 in
theorem cb_116_15 : mChk 116 15 bk_116_15 16 = true := by decide +kernel
-- method 117: KeySealer.isLength(I)Z, locals 1, room (0, 0)
def bk_117_0 : List mO := [(.iload_n 0, 0, 0, .null), (.ifCond .lt 14, 15, 0, .null)]
set_option maxRecDepth 100000 in
theorem cb_117_0 : mChk 117 0 bk_117_0 4 = true := by decide +kernel
def bk_117_4 : List mO := [(.iload_n 0, 0, 0, .null), (.sipush 300, 0, 0, .int 300), (.if_icmp .gt 7, 15, 0, .null)]
set_option maxRecDepth 100000 in
theorem cb_117_4 : mChk 117 4 bk_117_4 11 = true := by decide +kernel
def bk_117_11 : List mO := [(.iconst 1, 0, 0, .int 1), (.goto 4, 16, 0, .null)]
set_option maxRecDepth 100000 in
theorem cb_117_11 : mChk 117 11 bk_117_11 15 = true := by decide +kernel
def bk_117_15 : List mO := [(.iconst 0, 0, 0, .int 0)]
set_option maxRecDepth 100000 in
theorem cb_117_15 : mChk 117 15 bk_117_15 16 = true := by decide +kernel
def bk_117_16 : List mO := [(.ireturn, 0, 0, .int 1)]
set_option maxRecDepth 100000 in
theorem cb_117_16 : mChk 117 16 bk_117_16 17 = true := by decide +kernel
-- method 118: KeySealer.isCipher(I)Z, locals 1, room (0, 0)
def bk_118_0 : List mO := [(.iload_n 0, 0, 0, .null), (.iconst 1, 0, 0, .int 1), (.if_icmp .lt 12, 14, 0, .null)]
set_option maxRecDepth 100000 in
theorem cb_118_0 : mChk 118 0 bk_118_0 5 = true := by decide +kernel
def bk_118_5 : List mO := [(.iload_n 0, 0, 0, .null), (.iconst 3, 0, 0, .int 3), (.if_icmp .gt 7, 14, 0, .null)]
set_option maxRecDepth 100000 in
theorem cb_118_5 : mChk 118 5 bk_118_5 10 = true := by decide +kernel
def bk_118_10 : List mO := [(.iconst 1, 0, 0, .int 1), (.goto 4, 15, 0, .null)]
set_option maxRecDepth 100000 in
theorem cb_118_10 : mChk 118 10 bk_118_10 14 = true := by decide +kernel
def bk_118_14 : List mO := [(.iconst 0, 0, 0, .int 0)]
set_option maxRecDepth 100000 in
theorem cb_118_14 : mChk 118 14 bk_118_14 15 = true := by decide +kernel
def bk_118_15 : List mO := [(.ireturn, 0, 0, .int 1)]
set_option maxRecDepth 100000 in
theorem cb_118_15 : mChk 118 15 bk_118_15 16 = true := by decide +kernel
-- method 119: KeySealer.isKnown(I)Z, locals 1, room (0, 0)
def bk_119_0 : List mO := [(.iload_n 0, 0, 0, .null), (.iconst 2, 0, 0, .int 2), (.if_icmp .eq 8, 10, 0, .null)]
set_option maxRecDepth 100000 in
theorem cb_119_0 : mChk 119 0 bk_119_0 5 = true := by decide +kernel
def bk_119_5 : List mO := [(.iload_n 0, 0, 0, .null), (.iconst 3, 0, 0, .int 3), (.if_icmp .ne 7, 14, 0, .null)]
set_option maxRecDepth 100000 in
theorem cb_119_5 : mChk 119 5 bk_119_5 10 = true := by decide +kernel
def bk_119_10 : List mO := [(.iconst 1, 0, 0, .int 1), (.goto 4, 15, 0, .null)]
set_option maxRecDepth 100000 in
theorem cb_119_10 : mChk 119 10 bk_119_10 14 = true := by decide +kernel
def bk_119_14 : List mO := [(.iconst 0, 0, 0, .int 0)]
set_option maxRecDepth 100000 in
theorem cb_119_14 : mChk 119 14 bk_119_14 15 = true := by decide +kernel
def bk_119_15 : List mO := [(.ireturn, 0, 0, .int 1)]
set_option maxRecDepth 100000 in
theorem cb_119_15 : mChk 119 15 bk_119_15 16 = true := by decide +kernel
-- method 120: KeySealer.isSuite(III)Z, locals 3, room (1, 20)
def bk_120_0 : List mO := [(.iload_n 0, 0, 0, .null), (.ifCond .lt 33, 34, 0, .null)]
set_option maxRecDepth 100000 in
theorem cb_120_0 : mChk 120 0 bk_120_0 4 = true := by decide +kernel
def bk_120_4 : List mO := [(.iload_n 0, 0, 0, .null), (.iconst 3, 0, 0, .int 3), (.if_icmp .gt 28, 34, 0, .null)]
set_option maxRecDepth 100000 in
theorem cb_120_4 : mChk 120 4 bk_120_4 9 = true := by decide +kernel
def bk_120_9 : List mO := [(.iload_n 1, 1, 0, .null), (.invokestatic 123, 116, 1, .null), (.ifCond .eq 21, 34, 0, .null)]
set_option maxRecDepth 100000 in
theorem cb_120_9 : mChk 120 9 bk_120_9 16 = true := by decide +kernel
def bk_120_16 : List mO := [(.iload_n 2, 2, 0, .null), (.invokestatic 294, 118, 1, .null), (.ifCond .ne 10, 30, 0, .null)]
set_option maxRecDepth 100000 in
theorem cb_120_16 : mChk 120 16 bk_120_16 23 = true := by decide +kernel
def bk_120_23 : List mO := [(.iload_n 2, 2, 0, .null), (.sipush 255, 0, 0, .int 255), (.if_icmp .ne 7, 34, 0, .null)]
set_option maxRecDepth 100000 in
theorem cb_120_23 : mChk 120 23 bk_120_23 30 = true := by decide +kernel
def bk_120_30 : List mO := [(.iconst 1, 0, 0, .int 1), (.goto 4, 35, 0, .null)]
set_option maxRecDepth 100000 in
theorem cb_120_30 : mChk 120 30 bk_120_30 34 = true := by decide +kernel
def bk_120_34 : List mO := [(.iconst 0, 0, 0, .int 0)]
set_option maxRecDepth 100000 in
theorem cb_120_34 : mChk 120 34 bk_120_34 35 = true := by decide +kernel
def bk_120_35 : List mO := [(.ireturn, 0, 0, .int 1)]
set_option maxRecDepth 100000 in
theorem cb_120_35 : mChk 120 35 bk_120_35 36 = true := by decide +kernel
-- method 121: KeySealer.keyBytes(I)I, locals 1, room (0, 0)
def bk_121_0 : List mO := [(.iload_n 0, 0, 0, .null), (.sipush 255, 0, 0, .int 255), (.if_icmp .ne 5, 9, 0, .null)]
set_option maxRecDepth 100000 in
theorem cb_121_0 : mChk 121 0 bk_121_0 7 = true := by decide +kernel
def bk_121_7 : List mO := [(.iconst 0, 0, 0, .int 0), (.ireturn, 0, 0, .int 0)]
set_option maxRecDepth 100000 in
theorem cb_121_7 : mChk 121 7 bk_121_7 9 = true := by decide +kernel
def bk_121_9 : List mO := [(.iload_n 0, 0, 0, .null), (.iconst 1, 0, 0, .int 1), (.if_icmp .ne 8, 19, 0, .null)]
set_option maxRecDepth 100000 in
theorem cb_121_9 : mChk 121 9 bk_121_9 14 = true := by decide +kernel
def bk_121_14 : List mO := [(.bipush 16, 0, 0, .int 16), (.goto 5, 21, 0, .null)]
set_option maxRecDepth 100000 in
theorem cb_121_14 : mChk 121 14 bk_121_14 19 = true := by decide +kernel
def bk_121_19 : List mO := [(.bipush 32, 0, 0, .int 32)]
set_option maxRecDepth 100000 in
theorem cb_121_19 : mChk 121 19 bk_121_19 21 = true := by decide +kernel
def bk_121_21 : List mO := [(.ireturn, 0, 0, .int 0)]
set_option maxRecDepth 100000 in
theorem cb_121_21 : mChk 121 21 bk_121_21 22 = true := by decide +kernel
-- method 122: KeySealer.isBegun(I)Z, locals 2, room (1, 20)
def bk_122_0 : List mO := [(.iload_n 1, 1, 0, .null), (.invokestatic 208, 115, 1, .null), (.ifCond .eq 19, 23, 0, .null)]
set_option maxRecDepth 100000 in
theorem cb_122_0 : mChk 122 0 bk_122_0 7 = true := by decide +kernel
def bk_122_7 : List mO := [(.aload_n 0, 0, 0, .null), (.getfield 17, 8, 1, .null), (.iload_n 1, 1, 0, .null), (.aaload, 0, 0, .null), (.getfield 273, 1, 3, .null), (.ifCond .eq 7, 23, 0, .null)]
set_option maxRecDepth 100000 in
theorem cb_122_7 : mChk 122 7 bk_122_7 19 = true := by decide +kernel
def bk_122_19 : List mO := [(.iconst 1, 0, 0, .int 1), (.goto 4, 24, 0, .null)]
set_option maxRecDepth 100000 in
theorem cb_122_19 : mChk 122 19 bk_122_19 23 = true := by decide +kernel
def bk_122_23 : List mO := [(.iconst 0, 0, 0, .int 0)]
set_option maxRecDepth 100000 in
theorem cb_122_23 : mChk 122 23 bk_122_23 24 = true := by decide +kernel
def bk_122_24 : List mO := [(.ireturn, 0, 0, .int 1)]
set_option maxRecDepth 100000 in
theorem cb_122_24 : mChk 122 24 bk_122_24 25 = true := by decide +kernel
-- method 123: KeySealer.canCipher(II)Z, locals 3, room (1, 20)
def bk_123_0 : List mO := [(.iload_n 1, 1, 0, .null), (.invokestatic 208, 115, 1, .null), (.ifCond .eq 35, 39, 0, .null)]
set_option maxRecDepth 100000 in
theorem cb_123_0 : mChk 123 0 bk_123_0 7 = true := by decide +kernel
def bk_123_7 : List mO := [(.aload_n 0, 0, 0, .null), (.getfield 17, 8, 1, .null), (.iload_n 1, 1, 0, .null), (.aaload, 0, 0, .null), (.getfield 273, 1, 3, .null), (.iload_n 2, 2, 0, .null), (.if_icmp .ne 22, 39, 0, .null)]
set_option maxRecDepth 100000 in
theorem cb_123_7 : mChk 123 7 bk_123_7 20 = true := by decide +kernel
def bk_123_20 : List mO := [(.aload_n 0, 0, 0, .null), (.getfield 17, 8, 1, .null), (.iload_n 1, 1, 0, .null), (.aaload, 0, 0, .null), (.getfield 257, 1, 6, .null), (.sipush 255, 0, 0, .int 255), (.if_icmp .eq 7, 39, 0, .null)]
set_option maxRecDepth 100000 in
theorem cb_123_20 : mChk 123 20 bk_123_20 35 = true := by decide +kernel
def bk_123_35 : List mO := [(.iconst 1, 0, 0, .int 1), (.goto 4, 40, 0, .null)]
set_option maxRecDepth 100000 in
theorem cb_123_35 : mChk 123 35 bk_123_35 39 = true := by decide +kernel
def bk_123_39 : List mO := [(.iconst 0, 0, 0, .int 0)]
set_option maxRecDepth 100000 in
theorem cb_123_39 : mChk 123 39 bk_123_39 40 = true := by decide +kernel
def bk_123_40 : List mO := [(.ireturn, 0, 0, .int 1)]
set_option maxRecDepth 100000 in
theorem cb_123_40 : mChk 123 40 bk_123_40 41 = true := by decide +kernel
-- method 124: KeySealer.holdsKey(I)Z, locals 2, room (1, 20)
def bk_124_0 : List mO := [(.iload_n 1, 1, 0, .null), (.invokestatic 82, 114, 1, .null), (.ifCond .eq 21, 25, 0, .null)]
set_option maxRecDepth 100000 in
theorem cb_124_0 : mChk 124 0 bk_124_0 7 = true := by decide +kernel
def bk_124_7 : List mO := [(.aload_n 0, 0, 0, .null), (.getfield 11, 8, 0, .null), (.iload_n 1, 1, 0, .null), (.aaload, 0, 0, .null), (.getfield 93, 6, 1, .null), (.bipush 32, 0, 0, .int 32), (.if_icmp .ne 7, 25, 0, .null)]
set_option maxRecDepth 100000 in
theorem cb_124_7 : mChk 124 7 bk_124_7 21 = true := by decide +kernel
def bk_124_21 : List mO := [(.iconst 1, 0, 0, .int 1), (.goto 4, 26, 0, .null)]
set_option maxRecDepth 100000 in
theorem cb_124_21 : mChk 124 21 bk_124_21 25 = true := by decide +kernel
def bk_124_25 : List mO := [(.iconst 0, 0, 0, .int 0)]
set_option maxRecDepth 100000 in
theorem cb_124_25 : mChk 124 25 bk_124_25 26 = true := by decide +kernel
def bk_124_26 : List mO := [(.ireturn, 0, 0, .int 1)]
set_option maxRecDepth 100000 in
theorem cb_124_26 : mChk 124 26 bk_124_26 27 = true := by decide +kernel
-- method 125: KeySealer.isLocking(III)Z, locals 4, room (1, 20)
def bk_125_0 : List mO := [(.iload_n 1, 1, 0, .null), (.invokestatic 294, 118, 1, .null), (.ifCond .eq 51, 55, 0, .null)]
set_option maxRecDepth 100000 in
theorem cb_125_0 : mChk 125 0 bk_125_0 7 = true := by decide +kernel
def bk_125_7 : List mO := [(.iload_n 2, 2, 0, .null), (.invokestatic 82, 114, 1, .null), (.ifCond .eq 44, 55, 0, .null)]
set_option maxRecDepth 100000 in
theorem cb_125_7 : mChk 125 7 bk_125_7 14 = true := by decide +kernel
def bk_125_14 : List mO := [(.iload_n 3, 3, 0, .null), (.invokestatic 82, 114, 1, .null), (.ifCond .eq 37, 55, 0, .null)]
set_option maxRecDepth 100000 in
theorem cb_125_14 : mChk 125 14 bk_125_14 21 = true := by decide +kernel
def bk_125_21 : List mO := [(.aload_n 0, 0, 0, .null), (.getfield 11, 8, 0, .null), (.iload_n 2, 2, 0, .null), (.aaload, 0, 0, .null), (.getfield 93, 6, 1, .null), (.iload_n 1, 1, 0, .null), (.invokestatic 297, 121, 1, .null), (.if_icmp .ne 21, 55, 0, .null)]
set_option maxRecDepth 100000 in
theorem cb_125_21 : mChk 125 21 bk_125_21 37 = true := by decide +kernel
def bk_125_37 : List mO := [(.aload_n 0, 0, 0, .null), (.getfield 11, 8, 0, .null), (.iload_n 3, 3, 0, .null), (.aaload, 0, 0, .null), (.getfield 93, 6, 1, .null), (.bipush 12, 0, 0, .int 12), (.if_icmp .ne 7, 55, 0, .null)]
set_option maxRecDepth 100000 in
theorem cb_125_37 : mChk 125 37 bk_125_37 51 = true := by decide +kernel
def bk_125_51 : List mO := [(.iconst 1, 0, 0, .int 1), (.goto 4, 56, 0, .null)]
set_option maxRecDepth 100000 in
theorem cb_125_51 : mChk 125 51 bk_125_51 55 = true := by decide +kernel
def bk_125_55 : List mO := [(.iconst 0, 0, 0, .int 0)]
set_option maxRecDepth 100000 in
theorem cb_125_55 : mChk 125 55 bk_125_55 56 = true := by decide +kernel
def bk_125_56 : List mO := [(.ireturn, 0, 0, .int 1)]
set_option maxRecDepth 100000 in
theorem cb_125_56 : mChk 125 56 bk_125_56 57 = true := by decide +kernel
-- method 126: KeySealer.fitsWithTag(I)Z, locals 2, room (0, 0)
def bk_126_0 : List mO := [(.aload_n 0, 0, 0, .null), (.getfield 11, 8, 0, .null), (.iload_n 1, 1, 0, .null), (.aaload, 0, 0, .null), (.getfield 93, 6, 1, .null), (.sipush 284, 0, 0, .int 284), (.if_icmp .gt 7, 19, 0, .null)]
set_option maxRecDepth 100000 in
theorem cb_126_0 : mChk 126 0 bk_126_0 15 = true := by decide +kernel
def bk_126_15 : List mO := [(.iconst 1, 0, 0, .int 1), (.goto 4, 20, 0, .null)]
set_option maxRecDepth 100000 in
theorem cb_126_15 : mChk 126 15 bk_126_15 19 = true := by decide +kernel
def bk_126_19 : List mO := [(.iconst 0, 0, 0, .int 0)]
set_option maxRecDepth 100000 in
theorem cb_126_19 : mChk 126 19 bk_126_19 20 = true := by decide +kernel
def bk_126_20 : List mO := [(.ireturn, 0, 0, .int 1)]
set_option maxRecDepth 100000 in
theorem cb_126_20 : mChk 126 20 bk_126_20 21 = true := by decide +kernel
-- method 127: KeySealer.lastingFits(II)Z, locals 3, room (2, 42)
def bk_127_0 : List mO := [(.iload_n 1, 1, 0, .null), (.invokestatic 220, 119, 1, .null), (.ifCond .eq 16, 20, 0, .null)]
set_option maxRecDepth 100000 in
theorem cb_127_0 : mChk 127 0 bk_127_0 7 = true := by decide +kernel
def bk_127_7 : List mO := [(.aload_n 0, 0, 0, .null), (.iload_n 2, 2, 0, .null), (.invokevirtual 300, 129, 1, .ref 8), (.getfield 93, 6, 1, .null), (.bipush 32, 0, 0, .int 32), (.if_icmp .ne 7, 24, 0, .null)]
set_option maxRecDepth 100000 in
theorem cb_127_7 : mChk 127 7 bk_127_7 20 = true := by decide +kernel
def bk_127_20 : List mO := [(.iconst 1, 0, 0, .int 1), (.goto 4, 25, 0, .null)]
set_option maxRecDepth 100000 in
theorem cb_127_20 : mChk 127 20 bk_127_20 24 = true := by decide +kernel
def bk_127_24 : List mO := [(.iconst 0, 0, 0, .int 0)]
set_option maxRecDepth 100000 in
theorem cb_127_24 : mChk 127 24 bk_127_24 25 = true := by decide +kernel
def bk_127_25 : List mO := [(.ireturn, 0, 0, .int 1)]
set_option maxRecDepth 100000 in
theorem cb_127_25 : mChk 127 25 bk_127_25 26 = true := by decide +kernel
-- method 128: KeySealer.sharedFits(I)Z, locals 3, room (2, 42)
def bk_128_0 : List mO := [(.iload_n 1, 1, 0, .null), (.iconst 1, 0, 0, .int 1), (.if_icmp .eq 8, 10, 0, .null)]
set_option maxRecDepth 100000 in
theorem cb_128_0 : mChk 128 0 bk_128_0 5 = true := by decide +kernel
def bk_128_5 : List mO := [(.iload_n 1, 1, 0, .null), (.iconst 3, 0, 0, .int 3), (.if_icmp .ne 7, 14, 0, .null)]
set_option maxRecDepth 100000 in
theorem cb_128_5 : mChk 128 5 bk_128_5 10 = true := by decide +kernel
def bk_128_10 : List mO := [(.iconst 1, 0, 0, .int 1), (.goto 4, 15, 0, .null)]
set_option maxRecDepth 100000 in
theorem cb_128_10 : mChk 128 10 bk_128_10 14 = true := by decide +kernel
def bk_128_14 : List mO := [(.iconst 0, 0, 0, .int 0)]
set_option maxRecDepth 100000 in
theorem cb_128_14 : mChk 128 14 bk_128_14 15 = true := by decide +kernel
def bk_128_15 : List mO := [(.istore_n 2, 2, 0, .null), (.aload_n 0, 0, 0, .null), (.iconst 1, 0, 0, .int 1), (.invokevirtual 300, 129, 1, .ref 8), (.getfield 93, 6, 1, .null), (.ifCond .le 7, 31, 0, .null)]
set_option maxRecDepth 100000 in
theorem cb_128_15 : mChk 128 15 bk_128_15 27 = true := by decide +kernel
def bk_128_27 : List mO := [(.iconst 1, 0, 0, .int 1), (.goto 4, 32, 0, .null)]
set_option maxRecDepth 100000 in
theorem cb_128_27 : mChk 128 27 bk_128_27 31 = true := by decide +kernel
def bk_128_31 : List mO := [(.iconst 0, 0, 0, .int 0)]
set_option maxRecDepth 100000 in
theorem cb_128_31 : mChk 128 31 bk_128_31 32 = true := by decide +kernel
def bk_128_32 : List mO := [(.iload_n 2, 2, 0, .null), (.if_icmp .ne 27, 60, 0, .null)]
set_option maxRecDepth 100000 in
theorem cb_128_32 : mChk 128 32 bk_128_32 36 = true := by decide +kernel
def bk_128_36 : List mO := [(.aload_n 0, 0, 0, .null), (.iconst 2, 0, 0, .int 2), (.invokevirtual 300, 129, 1, .ref 8), (.getfield 93, 6, 1, .null), (.ifCond .le 7, 51, 0, .null)]
set_option maxRecDepth 100000 in
theorem cb_128_36 : mChk 128 36 bk_128_36 47 = true := by decide +kernel
def bk_128_47 : List mO := [(.iconst 1, 0, 0, .int 1), (.goto 4, 52, 0, .null)]
set_option maxRecDepth 100000 in
theorem cb_128_47 : mChk 128 47 bk_128_47 51 = true := by decide +kernel
def bk_128_51 : List mO := [(.iconst 0, 0, 0, .int 0)]
set_option maxRecDepth 100000 in
theorem cb_128_51 : mChk 128 51 bk_128_51 52 = true := by decide +kernel
def bk_128_52 : List mO := [(.iload_n 2, 2, 0, .null), (.if_icmp .ne 7, 60, 0, .null)]
set_option maxRecDepth 100000 in
theorem cb_128_52 : mChk 128 52 bk_128_52 56 = true := by decide +kernel
def bk_128_56 : List mO := [(.iconst 1, 0, 0, .int 1), (.goto 4, 61, 0, .null)]
set_option maxRecDepth 100000 in
theorem cb_128_56 : mChk 128 56 bk_128_56 60 = true := by decide +kernel
def bk_128_60 : List mO := [(.iconst 0, 0, 0, .int 0)]
set_option maxRecDepth 100000 in
theorem cb_128_60 : mChk 128 60 bk_128_60 61 = true := by decide +kernel
def bk_128_61 : List mO := [(.ireturn, 0, 0, .int 1)]
set_option maxRecDepth 100000 in
theorem cb_128_61 : mChk 128 61 bk_128_61 62 = true := by decide +kernel
-- method 129: KeySealer.usedRow(I)LKeySealer$Row;, locals 3, room (1, 20)
def bk_129_0 : List mO := [(.aload_n 0, 0, 0, .null), (.getfield 21, 8, 2, .null), (.iload_n 1, 1, 0, .null), (.iaload, 0, 0, .null), (.istore_n 2, 2, 0, .null), (.iload_n 2, 2, 0, .null), (.invokestatic 82, 114, 1, .null), (.ifCond .eq 12, 23, 0, .null)]
set_option maxRecDepth 100000 in
theorem cb_129_0 : mChk 129 0 bk_129_0 14 = true := by decide +kernel
def bk_129_14 : List mO := [(.aload_n 0, 0, 0, .null), (.getfield 11, 8, 0, .null), (.iload_n 2, 2, 0, .null), (.aaload, 0, 0, .null), (.goto 7, 27, 0, .null)]
set_option maxRecDepth 100000 in
theorem cb_129_14 : mChk 129 14 bk_129_14 23 = true := by decide +kernel
def bk_129_23 : List mO := [(.aload_n 0, 0, 0, .null), (.getfield 56, 8, 7, .null)]
set_option maxRecDepth 100000 in
theorem cb_129_23 : mChk 129 23 bk_129_23 27 = true := by decide +kernel
def bk_129_27 : List mO := [(.areturn, 0, 0, .null)]
set_option maxRecDepth 100000 in
theorem cb_129_27 : mChk 129 27 bk_129_27 28 = true := by decide +kernel
-- method 130: KeySealer.give(I)I, locals 2, room (3, 71)
def bk_130_0 : List mO := [(.aload_n 0, 0, 0, .null), (.getfield 11, 8, 0, .null), (.iload_n 1, 1, 0, .null), (.aaload, 0, 0, .null), (.aload_n 0, 0, 0, .null), (.getfield 60, 8, 8, .null), (.invokevirtual 183, 73, 1, .ref 6), (.aload_n 0, 0, 0, .null), (.getfield 60, 8, 8, .null), (.getfield 93, 6, 1, .null), (.ireturn, 0, 0, .int 0)]
set_option maxRecDepth 100000 in
theorem cb_130_0 : mChk 130 0 bk_130_0 21 = true := by decide +kernel
-- method 131: KeySealer.cipherOf(I)LKeySealer$Cipher;, locals 2, room (0, 0)
def bk_131_0 : List mO := [(.iload_n 1, 1, 0, .null), (.iconst 3, 0, 0, .int 3), (.if_icmp .ne 10, 12, 0, .null)]
set_option maxRecDepth 100000 in
theorem cb_131_0 : mChk 131 0 bk_131_0 5 = true := by decide +kernel
def bk_131_5 : List mO := [(.aload_n 0, 0, 0, .null), (.getfield 49, 8, 6, .null), (.goto 7, 16, 0, .null)]
set_option maxRecDepth 100000 in
theorem cb_131_5 : mChk 131 5 bk_131_5 12 = true := by decide +kernel
def bk_131_12 : List mO := [(.aload_n 0, 0, 0, .null), (.getfield 42, 8, 5, .null)]
set_option maxRecDepth 100000 in
theorem cb_131_12 : mChk 131 12 bk_131_12 16 = true := by decide +kernel
def bk_131_16 : List mO := [(.areturn, 0, 0, .null)]
set_option maxRecDepth 100000 in
theorem cb_131_16 : mChk 131 16 bk_131_16 17 = true := by decide +kernel
-- method 132: KeySealer.beginCipher(LKeySealer$Context;)LKeySealer$Cipher;, locals 3, room (4, 94)
def bk_132_0 : List mO := [(.aload_n 1, 1, 0, .null), (.aload_n 0, 0, 0, .null), (.getfield 63, 8, 9, .null), (.invokevirtual 304, 27, 1, .ref 1), (.aload_n 0, 0, 0, .null), (.aload_n 1, 1, 0, .null), (.getfield 257, 1, 6, .null), (.invokevirtual 193, 131, 1, .ref 8), (.astore_n 2, 2, 0, .null), (.aload_n 2, 2, 0, .null), (.aload_n 1, 1, 0, .null), (.getfield 288, 1, 0, .null), (.aload_n 0, 0, 0, .null), (.getfield 63, 8, 9, .null), (.invokevirtual 197, 1, 2, .long 76), (.aload_n 2, 2, 0, .null), (.areturn, 0, 0, .null)]
set_option maxRecDepth 100000 in
theorem cb_132_0 : mChk 132 0 bk_132_0 31 = true := by decide +kernel
-- method 133: KeySealer.agreeToSend(ZLKeySealer$Row;LKeySealer$Row;)Z, locals 5, room (6, 209)
def bk_133_0 : List mO := [(.aload_n 0, 0, 0, .null), (.iconst 3, 0, 0, .int 3), (.invokevirtual 300, 129, 1, .ref 8), (.astore 4, 4, 0, .null), (.aload_n 0, 0, 0, .null), (.getfield 66, 8, 10, .null), (.invokevirtual 97, 63, 0, .ref 6), (.aload_n 0, 0, 0, .null), (.getfield 35, 8, 4, .null), (.aload_n 2, 2, 0, .null), (.aload_n 3, 3, 0, .null), (.aload_n 0, 0, 0, .null), (.getfield 66, 8, 10, .null), (.invokevirtual 161, 29, 3, .ref 2), (.ifCond .eq 24, 51, 0, .null)]
set_option maxRecDepth 100000 in
theorem cb_133_0 : mChk 133 0 bk_133_0 30 = true := by decide +kernel
def bk_133_30 : List mO := [(.iload_n 1, 1, 0, .null), (.ifCond .eq 22, 53, 0, .null)]
set_option maxRecDepth 100000 in
theorem cb_133_30 : mChk 133 30 bk_133_30 34 = true := by decide +kernel
def bk_133_34 : List mO := [(.aload_n 0, 0, 0, .null), (.getfield 35, 8, 4, .null), (.aload 4, 4, 0, .null), (.aload_n 3, 3, 0, .null), (.aload_n 0, 0, 0, .null), (.getfield 66, 8, 10, .null), (.invokevirtual 161, 29, 3, .ref 2), (.ifCond .ne 5, 53, 0, .null)]
set_option maxRecDepth 100000 in
theorem cb_133_34 : mChk 133 34 bk_133_34 51 = true := by decide +kernel
def bk_133_51 : List mO := [(.iconst 0, 0, 0, .int 0), (.ireturn, 0, 0, .int 1)]
set_option maxRecDepth 100000 in
theorem cb_133_51 : mChk 133 51 bk_133_51 53 = true := by decide +kernel
def bk_133_53 : List mO := [(.aload_n 0, 0, 0, .null), (.getfield 69, 8, 11, .null), (.invokevirtual 97, 63, 0, .ref 6), (.aload_n 0, 0, 0, .null), (.getfield 35, 8, 4, .null), (.aload_n 2, 2, 0, .null), (.aload_n 0, 0, 0, .null), (.getfield 69, 8, 11, .null), (.invokevirtual 165, 30, 2, .ref 2), (.aload_n 0, 0, 0, .null), (.getfield 69, 8, 11, .null), (.aload_n 3, 3, 0, .null), (.invokevirtual 112, 72, 1, .ref 6), (.iload_n 1, 1, 0, .null), (.ifCond .eq 16, 97, 0, .null)]
set_option maxRecDepth 100000 in
theorem cb_133_53 : mChk 133 53 bk_133_53 84 = true := by decide +kernel
def bk_133_84 : List mO := [(.aload_n 0, 0, 0, .null), (.getfield 35, 8, 4, .null), (.aload 4, 4, 0, .null), (.aload_n 0, 0, 0, .null), (.getfield 69, 8, 11, .null), (.invokevirtual 165, 30, 2, .ref 2)]
set_option maxRecDepth 100000 in
theorem cb_133_84 : mChk 133 84 bk_133_84 97 = true := by decide +kernel
def bk_133_97 : List mO := [(.iconst 1, 0, 0, .int 1), (.ireturn, 0, 0, .int 1)]
set_option maxRecDepth 100000 in
theorem cb_133_97 : mChk 133 97 bk_133_97 99 = true := by decide +kernel
-- method 134: KeySealer.agreeToReceive(ZLKeySealer$Row;LKeySealer$Row;)Z, locals 5, room (6, 209)
def bk_134_0 : List mO := [(.aload_n 0, 0, 0, .null), (.iconst 4, 0, 0, .int 4), (.invokevirtual 300, 129, 1, .ref 8), (.astore 4, 4, 0, .null), (.aload_n 0, 0, 0, .null), (.getfield 66, 8, 10, .null), (.invokevirtual 97, 63, 0, .ref 6), (.aload_n 0, 0, 0, .null), (.getfield 35, 8, 4, .null), (.aload_n 3, 3, 0, .null), (.aload_n 2, 2, 0, .null), (.aload_n 0, 0, 0, .null), (.getfield 66, 8, 10, .null), (.invokevirtual 161, 29, 3, .ref 2), (.ifCond .eq 24, 51, 0, .null)]
set_option maxRecDepth 100000 in
theorem cb_134_0 : mChk 134 0 bk_134_0 30 = true := by decide +kernel
def bk_134_30 : List mO := [(.iload_n 1, 1, 0, .null), (.ifCond .eq 22, 53, 0, .null)]
set_option maxRecDepth 100000 in
theorem cb_134_30 : mChk 134 30 bk_134_30 34 = true := by decide +kernel
def bk_134_34 : List mO := [(.aload_n 0, 0, 0, .null), (.getfield 35, 8, 4, .null), (.aload_n 3, 3, 0, .null), (.aload 4, 4, 0, .null), (.aload_n 0, 0, 0, .null), (.getfield 66, 8, 10, .null), (.invokevirtual 161, 29, 3, .ref 2), (.ifCond .ne 5, 53, 0, .null)]
set_option maxRecDepth 100000 in
theorem cb_134_34 : mChk 134 34 bk_134_34 51 = true := by decide +kernel
def bk_134_51 : List mO := [(.iconst 0, 0, 0, .int 0), (.ireturn, 0, 0, .int 1)]
set_option maxRecDepth 100000 in
theorem cb_134_51 : mChk 134 51 bk_134_51 53 = true := by decide +kernel
def bk_134_53 : List mO := [(.aload_n 0, 0, 0, .null), (.getfield 69, 8, 11, .null), (.invokevirtual 97, 63, 0, .ref 6), (.aload_n 0, 0, 0, .null), (.getfield 69, 8, 11, .null), (.aload_n 2, 2, 0, .null), (.invokevirtual 112, 72, 1, .ref 6), (.aload_n 0, 0, 0, .null), (.getfield 35, 8, 4, .null), (.aload_n 3, 3, 0, .null), (.aload_n 0, 0, 0, .null), (.getfield 69, 8, 11, .null), (.invokevirtual 165, 30, 2, .ref 2), (.iload_n 1, 1, 0, .null), (.ifCond .eq 12, 93, 0, .null)]
set_option maxRecDepth 100000 in
theorem cb_134_53 : mChk 134 53 bk_134_53 84 = true := by decide +kernel
def bk_134_84 : List mO := [(.aload_n 0, 0, 0, .null), (.getfield 69, 8, 11, .null), (.aload 4, 4, 0, .null), (.invokevirtual 112, 72, 1, .ref 6)]
set_option maxRecDepth 100000 in
theorem cb_134_84 : mChk 134 84 bk_134_84 93 = true := by decide +kernel
def bk_134_93 : List mO := [(.iconst 1, 0, 0, .int 1), (.ireturn, 0, 0, .int 1)]
set_option maxRecDepth 100000 in
theorem cb_134_93 : mChk 134 93 bk_134_93 95 = true := by decide +kernel
-- method 135: KeySealer.fillContext(LKeySealer$Context;)V, locals 2, room (6, 174)
def bk_135_0 : List mO := [(.aload_n 0, 0, 0, .null), (.getfield 28, 8, 3, .null), (.invokevirtual 169, 57, 0, .ref 5), (.aload_n 0, 0, 0, .null), (.getfield 28, 8, 3, .null), (.aload_n 0, 0, 0, .null), (.getfield 56, 8, 7, .null), (.ldc_w 307, 0, 0, .ref 2000004), (.aload_n 0, 0, 0, .null), (.getfield 66, 8, 10, .null), (.aload_n 0, 0, 0, .null), (.getfield 72, 8, 12, .null), (.invokevirtual 174, 59, 4, .ref 5), (.aload_n 0, 0, 0, .null), (.getfield 28, 8, 3, .null), (.aload_n 0, 0, 0, .null), (.getfield 72, 8, 12, .null), (.ldc_w 309, 0, 0, .ref 2000005), (.aload_n 0, 0, 0, .null), (.getfield 69, 8, 11, .null), (.bipush 32, 0, 0, .int 32), (.aload_n 0, 0, 0, .null), (.getfield 75, 8, 13, .null), (.invokevirtual 180, 60, 5, .ref 5), (.aload_n 0, 0, 0, .null), (.getfield 28, 8, 3, .null), (.aload_n 1, 1, 0, .null), (.getfield 254, 1, 5, .null), (.aload_n 1, 1, 0, .null), (.getfield 257, 1, 6, .null), (.invokevirtual 260, 58, 2, .ref 5), (.aload_n 0, 0, 0, .null), (.getfield 78, 8, 14, .null), (.invokevirtual 97, 63, 0, .ref 6), (.aload_n 0, 0, 0, .null), (.getfield 78, 8, 14, .null), (.aload_n 1, 1, 0, .null), (.getfield 276, 1, 4, .null), (.i2l, 0, 0, .null), (.iconst 1, 0, 0, .int 1), (.invokevirtual 89, 69, 2, .ref 6), (.aload_n 0, 0, 0, .null), (.getfield 28, 8, 3, .null), (.aload_n 0, 0, 0, .null), (.getfield 56, 8, 7, .null), (.ldc_w 311, 0, 0, .ref 2000007), (.aload_n 0, 0, 0, .null), (.iconst 2, 0, 0, .int 2), (.invokevirtual 300, 129, 1, .ref 8), (.aload_n 0, 0, 0, .null), (.getfield 72, 8, 12, .null), (.invokevirtual 174, 59, 4, .ref 5), (.aload_n 0, 0, 0, .null), (.getfield 78, 8, 14, .null), (.aload_n 0, 0, 0, .null), (.getfield 72, 8, 12, .null), (.invokevirtual 112, 72, 1, .ref 6), (.aload_n 0, 0, 0, .null), (.getfield 28, 8, 3, .null), (.aload_n 0, 0, 0, .null), (.getfield 56, 8, 7, .null), (.ldc_w 313, 0, 0, .ref 2000008), (.aload_n 0, 0, 0, .null), (.iconst 0, 0, 0, .int 0), (.invokevirtual 300, 129, 1, .ref 8), (.aload_n 0, 0, 0, .null), (.getfield 72, 8, 12, .null), (.invokevirtual 174, 59, 4, .ref 5), (.aload_n 0, 0, 0, .null), (.getfield 78, 8, 14, .null), (.aload_n 0, 0, 0, .null), (.getfield 72, 8, 12, .null), (.invokevirtual 112, 72, 1, .ref 6), (.aload_n 0, 0, 0, .null), (.getfield 28, 8, 3, .null), (.aload_n 0, 0, 0, .null), (.getfield 75, 8, 13, .null), (.ldc_w 315, 0, 0, .ref 2000009), (.aload_n 0, 0, 0, .null), (.iconst 1, 0, 0, .int 1), (.invokevirtual 300, 129, 1, .ref 8), (.aload_n 0, 0, 0, .null), (.getfield 72, 8, 12, .null), (.invokevirtual 174, 59, 4, .ref 5), (.aload_n 0, 0, 0, .null), (.getfield 28, 8, 3, .null), (.aload_n 0, 0, 0, .null), (.getfield 72, 8, 12, .null), (.ldc_w 317, 0, 0, .ref 2000010), (.aload_n 0, 0, 0, .null), (.getfield 78, 8, 14, .null), (.aload_n 1, 1, 0, .null), (.getfield 257, 1, 6, .null), (.invokestatic 297, 121, 1, .null), (.aload_n 1, 1, 0, .null), (.getfield 288, 1, 0, .null), (.invokevirtual 180, 60, 5, .ref 5), (.aload_n 0, 0, 0, .null), (.getfield 28, 8, 3, .null), (.aload_n 0, 0, 0, .null), (.getfield 72, 8, 12, .null), (.ldc_w 318, 0, 0, .ref 2000011), (.aload_n 0, 0, 0, .null), (.getfield 78, 8, 14, .null), (.aload_n 1, 1, 0, .null), (.getfield 257, 1, 6, .null), (.sipush 255, 0, 0, .int 255), (.if_icmp .ne 7, 237, 0, .null)]
set_option maxRecDepth 100000 in
theorem cb_135_0 : mChk 135 0 bk_135_0 233 = true := by decide +kernel
def bk_135_233 : List mO := [(.iconst 0, 0, 0, .int 0), (.goto 5, 239, 0, .null)]
set_option maxRecDepth 100000 in
theorem cb_135_233 : mChk 135 233 bk_135_233 237 = true := by decide +kernel
def bk_135_237 : List mO := [(.bipush 12, 0, 0, .int 12)]
set_option maxRecDepth 100000 in
theorem cb_135_237 : mChk 135 237 bk_135_237 239 = true := by decide +kernel
def bk_135_239 : List mO := [(.aload_n 1, 1, 0, .null), (.getfield 291, 1, 1, .null), (.invokevirtual 180, 60, 5, .ref 5), (.aload_n 0, 0, 0, .null), (.getfield 28, 8, 3, .null), (.aload_n 0, 0, 0, .null), (.getfield 72, 8, 12, .null), (.ldc_w 320, 0, 0, .ref 2000012), (.aload_n 0, 0, 0, .null), (.getfield 78, 8, 14, .null), (.aload_n 1, 1, 0, .null), (.getfield 254, 1, 5, .null), (.iconst 3, 0, 0, .int 3), (.if_icmp .ne 8, 274, 0, .null)]
set_option maxRecDepth 100000 in
theorem cb_135_239 : mChk 135 239 bk_135_239 269 = true := by decide +kernel
def bk_135_269 : List mO := [(.bipush 64, 0, 0, .int 64), (.goto 5, 276, 0, .null)]
set_option maxRecDepth 100000 in
theorem cb_135_269 : mChk 135 269 bk_135_269 274 = true := by decide +kernel
def bk_135_274 : List mO := [(.bipush 32, 0, 0, .int 32)]
set_option maxRecDepth 100000 in
theorem cb_135_274 : mChk 135 274 bk_135_274 276 = true := by decide +kernel
def bk_135_276 : List mO := [(.aload_n 1, 1, 0, .null), (.getfield 264, 1, 2, .null), (.invokevirtual 180, 60, 5, .ref 5), (.return_, 0, 0, .null)]
set_option maxRecDepth 100000 in
theorem cb_135_276 : mChk 135 276 bk_135_276 284 = true := by decide +kernel
-- method 236: java/lang/String.length()I, locals 1, room (1, 20)
def bk_236_0 : List mO := [(.aload_n 0, 0, 0, .null), (.getfield 9, 999, 0, .null), (.arraylength, 0, 0, .null), (.aload_n 0, 0, 0, .null), (.invokevirtual 335, 238, 0, .ref 999), (.ishr, 0, 0, .null), (.ireturn, 0, 0, .int 0)]
set_option maxRecDepth 100000 in
theorem cb_236_0 : mChk 236 0 bk_236_0 11 = true := by decide +kernel
-- method 237: java/lang/String.charAt(I)C, locals 2, room (1, 21)
def bk_237_0 : List mO := [(.aload_n 0, 0, 0, .null), (.invokevirtual 492, 239, 0, .ref 999), (.ifCond .eq 12, 16, 0, .null)]
set_option maxRecDepth 100000 in
theorem cb_237_0 : mChk 237 0 bk_237_0 7 = true := by decide +kernel
def bk_237_7 : List mO := [(.aload_n 0, 0, 0, .null), (.getfield 9, 999, 0, .null), (.iload_n 1, 1, 0, .null), (.invokestatic 495, 240, 2, .null), (.ireturn, 0, 0, .int 2)]
set_option maxRecDepth 100000 in
theorem cb_237_7 : mChk 237 7 bk_237_7 16 = true := by decide +kernel
-- method 238: java/lang/String.coder()B, locals 1, room (0, 0)
def bk_238_0 : List mO := [(.getstatic 38, 0, 0, .int 1), (.ifCond .eq 10, 13, 0, .null)]
set_option maxRecDepth 100000 in
theorem cb_238_0 : mChk 238 0 bk_238_0 6 = true := by decide +kernel
def bk_238_6 : List mO := [(.aload_n 0, 0, 0, .null), (.getfield 15, 999, 1, .null), (.goto 4, 14, 0, .null)]
set_option maxRecDepth 100000 in
theorem cb_238_6 : mChk 238 6 bk_238_6 13 = true := by decide +kernel
def bk_238_13 : List mO := [(.iconst 1, 0, 0, .int 1)]
set_option maxRecDepth 100000 in
theorem cb_238_13 : mChk 238 13 bk_238_13 14 = true := by decide +kernel
def bk_238_14 : List mO := [(.ireturn, 0, 0, .int 3)]
set_option maxRecDepth 100000 in
theorem cb_238_14 : mChk 238 14 bk_238_14 15 = true := by decide +kernel
-- method 239: java/lang/String.isLatin1()Z, locals 1, room (0, 0)
def bk_239_0 : List mO := [(.getstatic 38, 0, 0, .int 1), (.ifCond .eq 14, 17, 0, .null)]
set_option maxRecDepth 100000 in
theorem cb_239_0 : mChk 239 0 bk_239_0 6 = true := by decide +kernel
def bk_239_6 : List mO := [(.aload_n 0, 0, 0, .null), (.getfield 15, 999, 1, .null), (.ifCond .ne 7, 17, 0, .null)]
set_option maxRecDepth 100000 in
theorem cb_239_6 : mChk 239 6 bk_239_6 13 = true := by decide +kernel
def bk_239_13 : List mO := [(.iconst 1, 0, 0, .int 1), (.goto 4, 18, 0, .null)]
set_option maxRecDepth 100000 in
theorem cb_239_13 : mChk 239 13 bk_239_13 17 = true := by decide +kernel
def bk_239_17 : List mO := [(.iconst 0, 0, 0, .int 0)]
set_option maxRecDepth 100000 in
theorem cb_239_17 : mChk 239 17 bk_239_17 18 = true := by decide +kernel
def bk_239_18 : List mO := [(.ireturn, 0, 0, .int 1)]
set_option maxRecDepth 100000 in
theorem cb_239_18 : mChk 239 18 bk_239_18 19 = true := by decide +kernel
-- method 240: java/lang/StringLatin1.charAt([BI)C, locals 2, room (0, 0)
-- method 136: KeySealerModel.<init>()V, locals 1, room (2, 49)
def bk_136_0 : List mO := [(.aload_n 0, 0, 0, .null), (.invokespecial 1, 9000, 0, .null), (.aload_n 0, 0, 0, .null), (.sipush 4800, 0, 0, .int 4800), (.newarray .int, 0, 0, .null), (.putfield 7, 9, 0, .ref 0), (.aload_n 0, 0, 0, .null), (.bipush 16, 0, 0, .int 16), (.newarray .int, 0, 0, .null), (.putfield 13, 9, 1, .ref 0), (.aload_n 0, 0, 0, .null), (.sipush 400, 0, 0, .int 400), (.newarray .int, 0, 0, .null), (.putfield 16, 9, 2, .ref 0), (.aload_n 0, 0, 0, .null), (.sipush 3000, 0, 0, .int 3000), (.newarray .int, 0, 0, .null), (.putfield 19, 9, 3, .ref 0), (.aload_n 0, 0, 0, .null), (.bipush 80, 0, 0, .int 80), (.newarray .long, 0, 0, .null), (.putfield 22, 9, 5, .ref 0), (.aload_n 0, 0, 0, .null), (.bipush 8, 0, 0, .int 8), (.newarray .long, 0, 0, .null), (.putfield 26, 9, 6, .ref 0), (.aload_n 0, 0, 0, .null), (.bipush 64, 0, 0, .int 64), (.newarray .int, 0, 0, .null), (.putfield 29, 9, 7, .ref 0), (.aload_n 0, 0, 0, .null), (.sipush 128, 0, 0, .int 128), (.newarray .int, 0, 0, .null), (.putfield 32, 9, 8, .ref 0), (.aload_n 0, 0, 0, .null), (.sipush 2000, 0, 0, .int 2000), (.newarray .int, 0, 0, .null), (.putfield 35, 9, 10, .ref 0), (.aload_n 0, 0, 0, .null), (.sipush 1000, 0, 0, .int 1000), (.newarray .int, 0, 0, .null), (.putfield 38, 9, 12, .ref 0), (.aload_n 0, 0, 0, .null), (.bipush 16, 0, 0, .int 16), (.newarray .long, 0, 0, .null), (.putfield 41, 9, 14, .ref 0), (.aload_n 0, 0, 0, .null), (.bipush 16, 0, 0, .int 16), (.newarray .long, 0, 0, .null), (.putfield 44, 9, 15, .ref 0), (.aload_n 0, 0, 0, .null), (.bipush 16, 0, 0, .int 16), (.newarray .long, 0, 0, .null), (.putfield 47, 9, 16, .ref 0), (.aload_n 0, 0, 0, .null), (.bipush 16, 0, 0, .int 16), (.newarray .long, 0, 0, .null), (.putfield 50, 9, 17, .ref 0), (.aload_n 0, 0, 0, .null), (.bipush 16, 0, 0, .int 16), (.newarray .long, 0, 0, .null), (.putfield 53, 9, 18, .ref 0), (.aload_n 0, 0, 0, .null), (.bipush 16, 0, 0, .int 16), (.newarray .long, 0, 0, .null), (.putfield 56, 9, 19, .ref 0), (.aload_n 0, 0, 0, .null), (.bipush 16, 0, 0, .int 16), (.newarray .long, 0, 0, .null), (.putfield 59, 9, 20, .ref 0), (.aload_n 0, 0, 0, .null), (.bipush 16, 0, 0, .int 16), (.newarray .long, 0, 0, .null), (.putfield 62, 9, 21, .ref 0), (.aload_n 0, 0, 0, .null), (.bipush 16, 0, 0, .int 16), (.newarray .long, 0, 0, .null), (.putfield 65, 9, 22, .ref 0), (.aload_n 0, 0, 0, .null), (.bipush 16, 0, 0, .int 16), (.newarray .long, 0, 0, .null), (.putfield 68, 9, 23, .ref 0), (.aload_n 0, 0, 0, .null), (.bipush 16, 0, 0, .int 16), (.newarray .long, 0, 0, .null), (.putfield 71, 9, 24, .ref 0), (.aload_n 0, 0, 0, .null), (.bipush 31, 0, 0, .int 31), (.newarray .long, 0, 0, .null), (.putfield 74, 9, 25, .ref 0), (.aload_n 0, 0, 0, .null), (.bipush 16, 0, 0, .int 16), (.newarray .long, 0, 0, .null), (.dup, 0, 0, .null), (.iconst 0, 0, 0, .int 0), (.ldc2_w 77, 0, 0, .long 121665), (.lastore, 0, 0, .null), (.dup, 0, 0, .null), (.iconst 1, 0, 0, .int 1), (.lconst 0, 0, 0, .long 0), (.lastore, 0, 0, .null), (.dup, 0, 0, .null), (.iconst 2, 0, 0, .int 2), (.lconst 0, 0, 0, .long 0), (.lastore, 0, 0, .null), (.dup, 0, 0, .null), (.iconst 3, 0, 0, .int 3), (.lconst 0, 0, 0, .long 0), (.lastore, 0, 0, .null), (.dup, 0, 0, .null), (.iconst 4, 0, 0, .int 4), (.lconst 0, 0, 0, .long 0), (.lastore, 0, 0, .null), (.dup, 0, 0, .null), (.iconst 5, 0, 0, .int 5), (.lconst 0, 0, 0, .long 0), (.lastore, 0, 0, .null), (.dup, 0, 0, .null), (.bipush 6, 0, 0, .int 6), (.lconst 0, 0, 0, .long 0), (.lastore, 0, 0, .null), (.dup, 0, 0, .null), (.bipush 7, 0, 0, .int 7), (.lconst 0, 0, 0, .long 0), (.lastore, 0, 0, .null), (.dup, 0, 0, .null), (.bipush 8, 0, 0, .int 8), (.lconst 0, 0, 0, .long 0), (.lastore, 0, 0, .null), (.dup, 0, 0, .null), (.bipush 9, 0, 0, .int 9), (.lconst 0, 0, 0, .long 0), (.lastore, 0, 0, .null), (.dup, 0, 0, .null), (.bipush 10, 0, 0, .int 10), (.lconst 0, 0, 0, .long 0), (.lastore, 0, 0, .null), (.dup, 0, 0, .null), (.bipush 11, 0, 0, .int 11), (.lconst 0, 0, 0, .long 0), (.lastore, 0, 0, .null), (.dup, 0, 0, .null), (.bipush 12, 0, 0, .int 12), (.lconst 0, 0, 0, .long 0), (.lastore, 0, 0, .null), (.dup, 0, 0, .null), (.bipush 13, 0, 0, .int 13), (.lconst 0, 0, 0, .long 0), (.lastore, 0, 0, .null), (.dup, 0, 0, .null), (.bipush 14, 0, 0, .int 14), (.lconst 0, 0, 0, .long 0), (.lastore, 0, 0, .null), (.dup, 0, 0, .null), (.bipush 15, 0, 0, .int 15), (.lconst 0, 0, 0, .long 0), (.lastore, 0, 0, .null), (.putfield 79, 9, 26, .ref 0), (.aload_n 0, 0, 0, .null), (.bipush 32, 0, 0, .int 32), (.newarray .int, 0, 0, .null), (.putfield 82, 9, 27, .ref 0), (.aload_n 0, 0, 0, .null), (.bipush 32, 0, 0, .int 32), (.newarray .int, 0, 0, .null), (.putfield 85, 9, 28, .ref 0), (.aload_n 0, 0, 0, .null), (.bipush 32, 0, 0, .int 32), (.newarray .int, 0, 0, .null), (.putfield 88, 9, 29, .ref 0), (.aload_n 0, 0, 0, .null), (.sipush 256, 0, 0, .int 256), (.newarray .int, 0, 0, .null), (.putfield 91, 9, 30, .ref 0), (.aload_n 0, 0, 0, .null), (.sipush 240, 0, 0, .int 240), (.newarray .int, 0, 0, .null), (.putfield 94, 9, 31, .ref 0), (.aload_n 0, 0, 0, .null), (.bipush 16, 0, 0, .int 16), (.newarray .int, 0, 0, .null), (.putfield 97, 9, 33, .ref 0), (.aload_n 0, 0, 0, .null), (.bipush 16, 0, 0, .int 16), (.newarray .int, 0, 0, .null), (.putfield 100, 9, 34, .ref 0), (.aload_n 0, 0, 0, .null), (.bipush 32, 0, 0, .int 32), (.newarray .int, 0, 0, .null), (.putfield 103, 9, 35, .ref 0), (.aload_n 0, 0, 0, .null), (.bipush 12, 0, 0, .int 12), (.newarray .int, 0, 0, .null), (.putfield 106, 9, 36, .ref 0), (.aload_n 0, 0, 0, .null), (.sipush 300, 0, 0, .int 300), (.newarray .int, 0, 0, .null), (.putfield 109, 9, 37, .ref 0), (.aload_n 0, 0, 0, .null), (.sipush 400, 0, 0, .int 400), (.newarray .int, 0, 0, .null), (.putfield 112, 9, 39, .ref 0), (.aload_n 0, 0, 0, .null), (.bipush 16, 0, 0, .int 16), (.newarray .int, 0, 0, .null), (.putfield 115, 9, 41, .ref 0), (.aload_n 0, 0, 0, .null), (.bipush 16, 0, 0, .int 16), (.newarray .int, 0, 0, .null), (.putfield 118, 9, 46, .ref 0), (.aload_n 0, 0, 0, .null), (.bipush 16, 0, 0, .int 16), (.newarray .int, 0, 0, .null), (.putfield 121, 9, 47, .ref 0), (.aload_n 0, 0, 0, .null), (.bipush 64, 0, 0, .int 64), (.newarray .int, 0, 0, .null), (.putfield 124, 9, 48, .ref 0), (.aload_n 0, 0, 0, .null), (.iconst 5, 0, 0, .int 5), (.newarray .long, 0, 0, .null), (.putfield 127, 9, 49, .ref 0), (.aload_n 0, 0, 0, .null), (.iconst 5, 0, 0, .int 5), (.newarray .long, 0, 0, .null), (.putfield 130, 9, 50, .ref 0), (.aload_n 0, 0, 0, .null), (.iconst 5, 0, 0, .int 5), (.newarray .long, 0, 0, .null), (.putfield 133, 9, 51, .ref 0), (.aload_n 0, 0, 0, .null), (.bipush 16, 0, 0, .int 16), (.newarray .int, 0, 0, .null), (.putfield 136, 9, 52, .ref 0), (.aload_n 0, 0, 0, .null), (.bipush 10, 0, 0, .int 10), (.newarray .int, 0, 0, .null), (.putfield 139, 9, 53, .ref 0), (.aload_n 0, 0, 0, .null), (.iconst 5, 0, 0, .int 5), (.newarray .int, 0, 0, .null), (.dup, 0, 0, .null), (.iconst 0, 0, 0, .int 0), (.iconst (-1), 0, 0, .int (-1)), (.iastore, 0, 0, .null), (.dup, 0, 0, .null), (.iconst 1, 0, 0, .int 1), (.iconst (-1), 0, 0, .int (-1)), (.iastore, 0, 0, .null), (.dup, 0, 0, .null), (.iconst 2, 0, 0, .int 2), (.iconst (-1), 0, 0, .int (-1)), (.iastore, 0, 0, .null), (.dup, 0, 0, .null), (.iconst 3, 0, 0, .int 3), (.iconst (-1), 0, 0, .int (-1)), (.iastore, 0, 0, .null), (.dup, 0, 0, .null), (.iconst 4, 0, 0, .int 4), (.iconst (-1), 0, 0, .int (-1)), (.iastore, 0, 0, .null), (.putfield 142, 9, 55, .ref 0), (.aload_n 0, 0, 0, .null), (.bipush 64, 0, 0, .int 64), (.newarray .int, 0, 0, .null), (.putfield 145, 9, 56, .ref 0), (.aload_n 0, 0, 0, .null), (.bipush 96, 0, 0, .int 96), (.newarray .int, 0, 0, .null), (.putfield 148, 9, 58, .ref 0), (.aload_n 0, 0, 0, .null), (.bipush 32, 0, 0, .int 32), (.newarray .int, 0, 0, .null), (.putfield 151, 9, 60, .ref 0), (.aload_n 0, 0, 0, .null), (.iconst 4, 0, 0, .int 4), (.newarray .int, 0, 0, .null), (.putfield 154, 9, 61, .ref 0), (.aload_n 0, 0, 0, .null), (.iconst 4, 0, 0, .int 4), (.newarray .int, 0, 0, .null), (.putfield 157, 9, 62, .ref 0), (.aload_n 0, 0, 0, .null), (.iconst 4, 0, 0, .int 4), (.newarray .int, 0, 0, .null), (.putfield 160, 9, 63, .ref 0), (.aload_n 0, 0, 0, .null), (.iconst 4, 0, 0, .int 4), (.newarray .int, 0, 0, .null), (.putfield 163, 9, 64, .ref 0), (.aload_n 0, 0, 0, .null), (.bipush 12, 0, 0, .int 12), (.newarray .long, 0, 0, .null), (.putfield 166, 9, 65, .ref 0), (.aload_n 0, 0, 0, .null), (.sipush 128, 0, 0, .int 128), (.newarray .int, 0, 0, .null), (.putfield 169, 9, 66, .ref 0), (.aload_n 0, 0, 0, .null), (.bipush 48, 0, 0, .int 48), (.newarray .int, 0, 0, .null), (.putfield 172, 9, 67, .ref 0), (.aload_n 0, 0, 0, .null), (.sipush 256, 0, 0, .int 256), (.newarray .int, 0, 0, .null), (.putfield 175, 9, 68, .ref 0), (.aload_n 0, 0, 0, .null), (.sipush 129, 0, 0, .int 129), (.newarray .int, 0, 0, .null), (.putfield 178, 9, 69, .ref 0), (.aload_n 0, 0, 0, .null), (.invokevirtual 181, 184, 0, .ref 9), (.return_, 0, 0, .null)]
set_option maxRecDepth 100000 in
theorem cb_136_0 : mChk 136 0 bk_136_0 558 = true := by decide +kernel
-- method 137: KeySealerModel.isReg(I)Z, locals 1, room (0, 0)
def bk_137_0 : List mO := [(.iload_n 0, 0, 0, .null), (.ifCond .lt 13, 14, 0, .null)]
set_option maxRecDepth 100000 in
theorem cb_137_0 : mChk 137 0 bk_137_0 4 = true := by decide +kernel
def bk_137_4 : List mO := [(.iload_n 0, 0, 0, .null), (.bipush 16, 0, 0, .int 16), (.if_icmp .ge 7, 14, 0, .null)]
set_option maxRecDepth 100000 in
theorem cb_137_4 : mChk 137 4 bk_137_4 10 = true := by decide +kernel
def bk_137_10 : List mO := [(.iconst 1, 0, 0, .int 1), (.goto 4, 15, 0, .null)]
set_option maxRecDepth 100000 in
theorem cb_137_10 : mChk 137 10 bk_137_10 14 = true := by decide +kernel
def bk_137_14 : List mO := [(.iconst 0, 0, 0, .int 0)]
set_option maxRecDepth 100000 in
theorem cb_137_14 : mChk 137 14 bk_137_14 15 = true := by decide +kernel
def bk_137_15 : List mO := [(.ireturn, 0, 0, .int 1)]
set_option maxRecDepth 100000 in
theorem cb_137_15 : mChk 137 15 bk_137_15 16 = true := by decide +kernel
-- method 138: KeySealerModel.areRegs(III)Z, locals 3, room (1, 20)
def bk_138_0 : List mO := [(.iload_n 0, 0, 0, .null), (.invokestatic 184, 137, 1, .null), (.ifCond .eq 21, 25, 0, .null)]
set_option maxRecDepth 100000 in
theorem cb_138_0 : mChk 138 0 bk_138_0 7 = true := by decide +kernel
def bk_138_7 : List mO := [(.iload_n 1, 1, 0, .null), (.invokestatic 184, 137, 1, .null), (.ifCond .eq 14, 25, 0, .null)]
set_option maxRecDepth 100000 in
theorem cb_138_7 : mChk 138 7 bk_138_7 14 = true := by decide +kernel
def bk_138_14 : List mO := [(.iload_n 2, 2, 0, .null), (.invokestatic 184, 137, 1, .null), (.ifCond .eq 7, 25, 0, .null)]
set_option maxRecDepth 100000 in
theorem cb_138_14 : mChk 138 14 bk_138_14 21 = true := by decide +kernel
def bk_138_21 : List mO := [(.iconst 1, 0, 0, .int 1), (.goto 4, 26, 0, .null)]
set_option maxRecDepth 100000 in
theorem cb_138_21 : mChk 138 21 bk_138_21 25 = true := by decide +kernel
def bk_138_25 : List mO := [(.iconst 0, 0, 0, .int 0)]
set_option maxRecDepth 100000 in
theorem cb_138_25 : mChk 138 25 bk_138_25 26 = true := by decide +kernel
def bk_138_26 : List mO := [(.ireturn, 0, 0, .int 1)]
set_option maxRecDepth 100000 in
theorem cb_138_26 : mChk 138 26 bk_138_26 27 = true := by decide +kernel
-- method 139: KeySealerModel.add(IIJ)I, locals 6, room (1, 20)
def bk_139_0 : List mO := [(.iload_n 1, 1, 0, .null), (.invokestatic 184, 137, 1, .null), (.ifCond .eq 14, 18, 0, .null)]
set_option maxRecDepth 100000 in
theorem cb_139_0 : mChk 139 0 bk_139_0 7 = true := by decide +kernel
def bk_139_7 : List mO := [(.iload_n 2, 2, 0, .null), (.iconst 1, 0, 0, .int 1), (.if_icmp .lt 9, 18, 0, .null)]
set_option maxRecDepth 100000 in
theorem cb_139_7 : mChk 139 7 bk_139_7 12 = true := by decide +kernel
def bk_139_12 : List mO := [(.iload_n 2, 2, 0, .null), (.bipush 8, 0, 0, .int 8), (.if_icmp .le 6, 21, 0, .null)]
set_option maxRecDepth 100000 in
theorem cb_139_12 : mChk 139 12 bk_139_12 18 = true := by decide +kernel
def bk_139_18 : List mO := [(.bipush (-2), 0, 0, .int (-2)), (.ireturn, 0, 0, .int 0)]
set_option maxRecDepth 100000 in
theorem cb_139_18 : mChk 139 18 bk_139_18 21 = true := by decide +kernel
def bk_139_21 : List mO := [(.aload_n 0, 0, 0, .null), (.getfield 13, 9, 1, .null), (.iload_n 1, 1, 0, .null), (.iaload, 0, 0, .null), (.iload_n 2, 2, 0, .null), (.iadd, 0, 0, .null), (.sipush 300, 0, 0, .int 300), (.if_icmp .le 6, 38, 0, .null)]
set_option maxRecDepth 100000 in
theorem cb_139_21 : mChk 139 21 bk_139_21 35 = true := by decide +kernel
def bk_139_35 : List mO := [(.bipush (-3), 0, 0, .int (-3)), (.ireturn, 0, 0, .int 0)]
set_option maxRecDepth 100000 in
theorem cb_139_35 : mChk 139 35 bk_139_35 38 = true := by decide +kernel
def bk_139_38 : List mO := [(.iload_n 2, 2, 0, .null), (.iconst 1, 0, 0, .int 1), (.isub, 0, 0, .null), (.istore 5, 5, 0, .null)]
set_option maxRecDepth 100000 in
theorem cb_139_38 : mChk 139 38 bk_139_38 43 = true := by decide +kernel
def bk_139_43 : List mO := [(.iload 5, 5, 0, .null), (.ifCond .lt 48, 93, 0, .null)]
set_option maxRecDepth 100000 in
theorem cb_139_43 : mChk 139 43 bk_139_43 48 = true := by decide +kernel
def bk_139_48 : List mO := [(.aload_n 0, 0, 0, .null), (.getfield 7, 9, 0, .null), (.sipush 300, 0, 0, .int 300), (.iload_n 1, 1, 0, .null), (.imul, 0, 0, .null), (.aload_n 0, 0, 0, .null), (.getfield 13, 9, 1, .null), (.iload_n 1, 1, 0, .null), (.iaload, 0, 0, .null), (.iadd, 0, 0, .null), (.lload_n 3, 3, 0, .null), (.bipush 8, 0, 0, .int 8), (.iload 5, 5, 0, .null), (.imul, 0, 0, .null), (.lshr, 0, 0, .null), (.ldc2_w 188, 0, 0, .long 255), (.land, 0, 0, .null), (.l2i, 0, 0, .null), (.iastore, 0, 0, .null), (.aload_n 0, 0, 0, .null), (.getfield 13, 9, 1, .null), (.iload_n 1, 1, 0, .null), (.dup2, 0, 0, .null), (.iaload, 0, 0, .null), (.iconst 1, 0, 0, .int 1), (.iadd, 0, 0, .null), (.iastore, 0, 0, .null), (.iinc 5 (-1), 5, 0, .int (-1)), (.goto (-47), 43, 0, .null)]
set_option maxRecDepth 100000 in
theorem cb_139_48 : mChk 139 48 bk_139_48 93 = true := by decide +kernel
def bk_139_93 : List mO := [(.aload_n 0, 0, 0, .null), (.getfield 13, 9, 1, .null), (.iload_n 1, 1, 0, .null), (.iaload, 0, 0, .null), (.ireturn, 0, 0, .int 0)]
set_option maxRecDepth 100000 in
theorem cb_139_93 : mChk 139 93 bk_139_93 100 = true := by decide +kernel
-- method 140: KeySealerModel.clear(I)I, locals 3, room (1, 20)
def bk_140_0 : List mO := [(.iload_n 1, 1, 0, .null), (.invokestatic 184, 137, 1, .null), (.ifCond .ne 6, 10, 0, .null)]
set_option maxRecDepth 100000 in
theorem cb_140_0 : mChk 140 0 bk_140_0 7 = true := by decide +kernel
def bk_140_7 : List mO := [(.bipush (-2), 0, 0, .int (-2)), (.ireturn, 0, 0, .int 0)]
set_option maxRecDepth 100000 in
theorem cb_140_7 : mChk 140 7 bk_140_7 10 = true := by decide +kernel
def bk_140_10 : List mO := [(.aload_n 0, 0, 0, .null), (.getfield 13, 9, 1, .null), (.iload_n 1, 1, 0, .null), (.iaload, 0, 0, .null), (.istore_n 2, 2, 0, .null), (.aload_n 0, 0, 0, .null), (.getfield 13, 9, 1, .null), (.iload_n 1, 1, 0, .null), (.iconst 0, 0, 0, .int 0), (.iastore, 0, 0, .null), (.iload_n 2, 2, 0, .null), (.ireturn, 0, 0, .int 0)]
set_option maxRecDepth 100000 in
theorem cb_140_10 : mChk 140 10 bk_140_10 26 = true := by decide +kernel
-- method 141: KeySealerModel.copy(IIII)I, locals 6, room (1, 23)
def bk_141_0 : List mO := [(.iload_n 1, 1, 0, .null), (.invokestatic 184, 137, 1, .null), (.ifCond .eq 42, 46, 0, .null)]
set_option maxRecDepth 100000 in
theorem cb_141_0 : mChk 141 0 bk_141_0 7 = true := by decide +kernel
def bk_141_7 : List mO := [(.iload_n 2, 2, 0, .null), (.invokestatic 184, 137, 1, .null), (.ifCond .eq 35, 46, 0, .null)]
set_option maxRecDepth 100000 in
theorem cb_141_7 : mChk 141 7 bk_141_7 14 = true := by decide +kernel
def bk_141_14 : List mO := [(.iload_n 3, 3, 0, .null), (.ifCond .lt 31, 46, 0, .null)]
set_option maxRecDepth 100000 in
theorem cb_141_14 : mChk 141 14 bk_141_14 18 = true := by decide +kernel
def bk_141_18 : List mO := [(.iload 4, 4, 0, .null), (.ifCond .lt 26, 46, 0, .null)]
set_option maxRecDepth 100000 in
theorem cb_141_18 : mChk 141 18 bk_141_18 23 = true := by decide +kernel
def bk_141_23 : List mO := [(.iload_n 3, 3, 0, .null), (.aload_n 0, 0, 0, .null), (.getfield 13, 9, 1, .null), (.iload_n 2, 2, 0, .null), (.iaload, 0, 0, .null), (.if_icmp .gt 16, 46, 0, .null)]
set_option maxRecDepth 100000 in
theorem cb_141_23 : mChk 141 23 bk_141_23 33 = true := by decide +kernel
def bk_141_33 : List mO := [(.iload 4, 4, 0, .null), (.aload_n 0, 0, 0, .null), (.getfield 13, 9, 1, .null), (.iload_n 2, 2, 0, .null), (.iaload, 0, 0, .null), (.iload_n 3, 3, 0, .null), (.isub, 0, 0, .null), (.if_icmp .le 6, 49, 0, .null)]
set_option maxRecDepth 100000 in
theorem cb_141_33 : mChk 141 33 bk_141_33 46 = true := by decide +kernel
def bk_141_46 : List mO := [(.bipush (-2), 0, 0, .int (-2)), (.ireturn, 0, 0, .int 0)]
set_option maxRecDepth 100000 in
theorem cb_141_46 : mChk 141 46 bk_141_46 49 = true := by decide +kernel
def bk_141_49 : List mO := [(.iconst 0, 0, 0, .int 0), (.istore 5, 5, 0, .null)]
set_option maxRecDepth 100000 in
theorem cb_141_49 : mChk 141 49 bk_141_49 52 = true := by decide +kernel
def bk_141_52 : List mO := [(.iload 5, 5, 0, .null), (.iload 4, 4, 0, .null), (.if_icmp .ge 31, 87, 0, .null)]
set_option maxRecDepth 100000 in
theorem cb_141_52 : mChk 141 52 bk_141_52 59 = true := by decide +kernel
def bk_141_59 : List mO := [(.aload_n 0, 0, 0, .null), (.getfield 16, 9, 2, .null), (.iload 5, 5, 0, .null), (.aload_n 0, 0, 0, .null), (.getfield 7, 9, 0, .null), (.sipush 300, 0, 0, .int 300), (.iload_n 2, 2, 0, .null), (.imul, 0, 0, .null), (.iload_n 3, 3, 0, .null), (.iadd, 0, 0, .null), (.iload 5, 5, 0, .null), (.iadd, 0, 0, .null), (.iaload, 0, 0, .null), (.iastore, 0, 0, .null), (.iinc 5 1, 5, 0, .int 1), (.goto (-32), 52, 0, .null)]
set_option maxRecDepth 100000 in
theorem cb_141_59 : mChk 141 59 bk_141_59 87 = true := by decide +kernel
def bk_141_87 : List mO := [(.aload_n 0, 0, 0, .null), (.iload_n 1, 1, 0, .null), (.iload 4, 4, 0, .null), (.invokevirtual 190, 146, 2, .ref 9), (.iload 4, 4, 0, .null), (.ireturn, 0, 0, .int 0)]
set_option maxRecDepth 100000 in
theorem cb_141_87 : mChk 141 87 bk_141_87 97 = true := by decide +kernel
-- method 142: KeySealerModel.join(II)I, locals 5, room (1, 20)
def bk_142_0 : List mO := [(.iload_n 1, 1, 0, .null), (.invokestatic 184, 137, 1, .null), (.ifCond .eq 10, 14, 0, .null)]
set_option maxRecDepth 100000 in
theorem cb_142_0 : mChk 142 0 bk_142_0 7 = true := by decide +kernel
def bk_142_7 : List mO := [(.iload_n 2, 2, 0, .null), (.invokestatic 184, 137, 1, .null), (.ifCond .ne 6, 17, 0, .null)]
set_option maxRecDepth 100000 in
theorem cb_142_7 : mChk 142 7 bk_142_7 14 = true := by decide +kernel
def bk_142_14 : List mO := [(.bipush (-2), 0, 0, .int (-2)), (.ireturn, 0, 0, .int 0)]
set_option maxRecDepth 100000 in
theorem cb_142_14 : mChk 142 14 bk_142_14 17 = true := by decide +kernel
def bk_142_17 : List mO := [(.aload_n 0, 0, 0, .null), (.getfield 13, 9, 1, .null), (.iload_n 2, 2, 0, .null), (.iaload, 0, 0, .null), (.istore_n 3, 3, 0, .null), (.aload_n 0, 0, 0, .null), (.getfield 13, 9, 1, .null), (.iload_n 1, 1, 0, .null), (.iaload, 0, 0, .null), (.iload_n 3, 3, 0, .null), (.iadd, 0, 0, .null), (.sipush 300, 0, 0, .int 300), (.if_icmp .le 6, 41, 0, .null)]
set_option maxRecDepth 100000 in
theorem cb_142_17 : mChk 142 17 bk_142_17 38 = true := by decide +kernel
def bk_142_38 : List mO := [(.bipush (-3), 0, 0, .int (-3)), (.ireturn, 0, 0, .int 0)]
set_option maxRecDepth 100000 in
theorem cb_142_38 : mChk 142 38 bk_142_38 41 = true := by decide +kernel
def bk_142_41 : List mO := [(.iconst 0, 0, 0, .int 0), (.istore 4, 4, 0, .null)]
set_option maxRecDepth 100000 in
theorem cb_142_41 : mChk 142 41 bk_142_41 44 = true := by decide +kernel
def bk_142_44 : List mO := [(.iload 4, 4, 0, .null), (.iload_n 3, 3, 0, .null), (.if_icmp .ge 49, 96, 0, .null)]
set_option maxRecDepth 100000 in
theorem cb_142_44 : mChk 142 44 bk_142_44 50 = true := by decide +kernel
def bk_142_50 : List mO := [(.aload_n 0, 0, 0, .null), (.getfield 7, 9, 0, .null), (.sipush 300, 0, 0, .int 300), (.iload_n 1, 1, 0, .null), (.imul, 0, 0, .null), (.aload_n 0, 0, 0, .null), (.getfield 13, 9, 1, .null), (.iload_n 1, 1, 0, .null), (.iaload, 0, 0, .null), (.iadd, 0, 0, .null), (.aload_n 0, 0, 0, .null), (.getfield 7, 9, 0, .null), (.sipush 300, 0, 0, .int 300), (.iload_n 2, 2, 0, .null), (.imul, 0, 0, .null), (.iload 4, 4, 0, .null), (.iadd, 0, 0, .null), (.iaload, 0, 0, .null), (.iastore, 0, 0, .null), (.aload_n 0, 0, 0, .null), (.getfield 13, 9, 1, .null), (.iload_n 1, 1, 0, .null), (.dup2, 0, 0, .null), (.iaload, 0, 0, .null), (.iconst 1, 0, 0, .int 1), (.iadd, 0, 0, .null), (.iastore, 0, 0, .null), (.iinc 4 1, 4, 0, .int 1), (.goto (-49), 44, 0, .null)]
set_option maxRecDepth 100000 in
theorem cb_142_50 : mChk 142 50 bk_142_50 96 = true := by decide +kernel
def bk_142_96 : List mO := [(.aload_n 0, 0, 0, .null), (.getfield 13, 9, 1, .null), (.iload_n 1, 1, 0, .null), (.iaload, 0, 0, .null), (.ireturn, 0, 0, .int 0)]
set_option maxRecDepth 100000 in
theorem cb_142_96 : mChk 142 96 bk_142_96 103 = true := by decide +kernel

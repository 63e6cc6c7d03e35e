/-! PART 54.03: blocks of code and their checks, printed by program (wip/whole/mk13.py) -/
-- method 197: KeySealerModel.streamTag()V, locals 7, room (2, 50)
def bk_197_0 : List mO := [(.aload_n 0, 0, 0, .null), (.iconst 0, 0, 0, .int 0), (.invokevirtual 395, 194, 1, .ref 9), (.iconst 0, 0, 0, .int 0), (.istore_n 1, 1, 0, .null)]
set_option maxRecDepth 100000 in
theorem cb_197_0 : mChk 197 0 bk_197_0 7 = true := by decide +kernel
def bk_197_7 : List mO := [(.iload_n 1, 1, 0, .null), (.iconst 5, 0, 0, .int 5), (.if_icmp .ge 23, 32, 0, .null)]
set_option maxRecDepth 100000 in
theorem cb_197_7 : mChk 197 7 bk_197_7 12 = true := by decide +kernel
def bk_197_12 : List mO := [(.aload_n 0, 0, 0, .null), (.getfield 127, 9, 49, .null), (.iload_n 1, 1, 0, .null), (.lconst 0, 0, 0, .long 0), (.lastore, 0, 0, .null), (.aload_n 0, 0, 0, .null), (.getfield 130, 9, 50, .null), (.iload_n 1, 1, 0, .null), (.lconst 0, 0, 0, .long 0), (.lastore, 0, 0, .null), (.iinc 1 1, 1, 0, .int 1), (.goto (-22), 7, 0, .null)]
set_option maxRecDepth 100000 in
theorem cb_197_12 : mChk 197 12 bk_197_12 32 = true := by decide +kernel
def bk_197_32 : List mO := [(.iconst 0, 0, 0, .int 0), (.istore_n 1, 1, 0, .null)]
set_option maxRecDepth 100000 in
theorem cb_197_32 : mChk 197 32 bk_197_32 34 = true := by decide +kernel
def bk_197_34 : List mO := [(.iload_n 1, 1, 0, .null), (.bipush 16, 0, 0, .int 16), (.if_icmp .ge 103, 140, 0, .null)]
set_option maxRecDepth 100000 in
theorem cb_197_34 : mChk 197 34 bk_197_34 40 = true := by decide +kernel
def bk_197_40 : List mO := [(.aload_n 0, 0, 0, .null), (.getfield 124, 9, 48, .null), (.iload_n 1, 1, 0, .null), (.iaload, 0, 0, .null), (.iload_n 1, 1, 0, .null), (.iconst 4, 0, 0, .int 4), (.irem, 0, 0, .null), (.iconst 3, 0, 0, .int 3), (.if_icmp .ne 8, 58, 0, .null)]
set_option maxRecDepth 100000 in
theorem cb_197_40 : mChk 197 40 bk_197_40 53 = true := by decide +kernel
def bk_197_53 : List mO := [(.bipush 15, 0, 0, .int 15), (.goto 22, 77, 0, .null)]
set_option maxRecDepth 100000 in
theorem cb_197_53 : mChk 197 53 bk_197_53 58 = true := by decide +kernel
def bk_197_58 : List mO := [(.iload_n 1, 1, 0, .null), (.ifCond .le 15, 74, 0, .null)]
set_option maxRecDepth 100000 in
theorem cb_197_58 : mChk 197 58 bk_197_58 62 = true := by decide +kernel
def bk_197_62 : List mO := [(.iload_n 1, 1, 0, .null), (.iconst 4, 0, 0, .int 4), (.irem, 0, 0, .null), (.ifCond .ne 9, 74, 0, .null)]
set_option maxRecDepth 100000 in
theorem cb_197_62 : mChk 197 62 bk_197_62 68 = true := by decide +kernel
def bk_197_68 : List mO := [(.sipush 252, 0, 0, .int 252), (.goto 6, 77, 0, .null)]
set_option maxRecDepth 100000 in
theorem cb_197_68 : mChk 197 68 bk_197_68 74 = true := by decide +kernel
def bk_197_74 : List mO := [(.sipush 255, 0, 0, .int 255)]
set_option maxRecDepth 100000 in
theorem cb_197_74 : mChk 197 74 bk_197_74 77 = true := by decide +kernel
def bk_197_77 : List mO := [(.iand, 0, 0, .null), (.istore_n 2, 2, 0, .null), (.iconst 0, 0, 0, .int 0), (.istore_n 3, 3, 0, .null)]
set_option maxRecDepth 100000 in
theorem cb_197_77 : mChk 197 77 bk_197_77 81 = true := by decide +kernel
def bk_197_81 : List mO := [(.iload_n 3, 3, 0, .null), (.bipush 8, 0, 0, .int 8), (.if_icmp .ge 50, 134, 0, .null)]
set_option maxRecDepth 100000 in
theorem cb_197_81 : mChk 197 81 bk_197_81 87 = true := by decide +kernel
def bk_197_87 : List mO := [(.bipush 8, 0, 0, .int 8), (.iload_n 1, 1, 0, .null), (.imul, 0, 0, .null), (.iload_n 3, 3, 0, .null), (.iadd, 0, 0, .null), (.istore 4, 4, 0, .null), (.aload_n 0, 0, 0, .null), (.getfield 127, 9, 49, .null), (.iload 4, 4, 0, .null), (.bipush 26, 0, 0, .int 26), (.idiv, 0, 0, .null), (.dup2, 0, 0, .null), (.laload, 0, 0, .null), (.iload_n 2, 2, 0, .null), (.iload_n 3, 3, 0, .null), (.ishr, 0, 0, .null), (.iconst 1, 0, 0, .int 1), (.iand, 0, 0, .null), (.iconst 1, 0, 0, .int 1), (.if_icmp .ne 13, 125, 0, .null)]
set_option maxRecDepth 100000 in
theorem cb_197_87 : mChk 197 87 bk_197_87 115 = true := by decide +kernel
def bk_197_115 : List mO := [(.lconst 1, 0, 0, .long 1), (.iload 4, 4, 0, .null), (.bipush 26, 0, 0, .int 26), (.irem, 0, 0, .null), (.lshl, 0, 0, .null), (.goto 4, 126, 0, .null)]
set_option maxRecDepth 100000 in
theorem cb_197_115 : mChk 197 115 bk_197_115 125 = true := by decide +kernel
def bk_197_125 : List mO := [(.lconst 0, 0, 0, .long 0)]
set_option maxRecDepth 100000 in
theorem cb_197_125 : mChk 197 125 bk_197_125 126 = true := by decide +kernel
def bk_197_126 : List mO := [(.ladd, 0, 0, .null), (.lastore, 0, 0, .null), (.iinc 3 1, 3, 0, .int 1), (.goto (-50), 81, 0, .null)]
set_option maxRecDepth 100000 in
theorem cb_197_126 : mChk 197 126 bk_197_126 134 = true := by decide +kernel
def bk_197_134 : List mO := [(.iinc 1 1, 1, 0, .int 1), (.goto (-103), 34, 0, .null)]
set_option maxRecDepth 100000 in
theorem cb_197_134 : mChk 197 134 bk_197_134 140 = true := by decide +kernel
def bk_197_140 : List mO := [(.iconst 0, 0, 0, .int 0), (.istore_n 1, 1, 0, .null)]
set_option maxRecDepth 100000 in
theorem cb_197_140 : mChk 197 140 bk_197_140 142 = true := by decide +kernel
def bk_197_142 : List mO := [(.iload_n 1, 1, 0, .null), (.aload_n 0, 0, 0, .null), (.getfield 365, 9, 38, .null), (.if_icmp .ge 24, 171, 0, .null)]
set_option maxRecDepth 100000 in
theorem cb_197_142 : mChk 197 142 bk_197_142 150 = true := by decide +kernel
def bk_197_150 : List mO := [(.aload_n 0, 0, 0, .null), (.aload_n 0, 0, 0, .null), (.getfield 109, 9, 37, .null), (.iload_n 1, 1, 0, .null), (.aload_n 0, 0, 0, .null), (.getfield 365, 9, 38, .null), (.iload_n 1, 1, 0, .null), (.isub, 0, 0, .null), (.invokevirtual 398, 195, 3, .ref 9), (.iinc 1 16, 1, 0, .int 16), (.goto (-26), 142, 0, .null)]
set_option maxRecDepth 100000 in
theorem cb_197_150 : mChk 197 150 bk_197_150 171 = true := by decide +kernel
def bk_197_171 : List mO := [(.iconst 0, 0, 0, .int 0), (.istore_n 1, 1, 0, .null)]
set_option maxRecDepth 100000 in
theorem cb_197_171 : mChk 197 171 bk_197_171 173 = true := by decide +kernel
def bk_197_173 : List mO := [(.iload_n 1, 1, 0, .null), (.aload_n 0, 0, 0, .null), (.getfield 371, 9, 40, .null), (.if_icmp .ge 24, 202, 0, .null)]
set_option maxRecDepth 100000 in
theorem cb_197_173 : mChk 197 173 bk_197_173 181 = true := by decide +kernel
def bk_197_181 : List mO := [(.aload_n 0, 0, 0, .null), (.aload_n 0, 0, 0, .null), (.getfield 112, 9, 39, .null), (.iload_n 1, 1, 0, .null), (.aload_n 0, 0, 0, .null), (.getfield 371, 9, 40, .null), (.iload_n 1, 1, 0, .null), (.isub, 0, 0, .null), (.invokevirtual 398, 195, 3, .ref 9), (.iinc 1 16, 1, 0, .int 16), (.goto (-26), 173, 0, .null)]
set_option maxRecDepth 100000 in
theorem cb_197_181 : mChk 197 181 bk_197_181 202 = true := by decide +kernel
def bk_197_202 : List mO := [(.iconst 0, 0, 0, .int 0), (.istore_n 1, 1, 0, .null)]
set_option maxRecDepth 100000 in
theorem cb_197_202 : mChk 197 202 bk_197_202 204 = true := by decide +kernel
def bk_197_204 : List mO := [(.iload_n 1, 1, 0, .null), (.bipush 16, 0, 0, .int 16), (.if_icmp .ge 56, 263, 0, .null)]
set_option maxRecDepth 100000 in
theorem cb_197_204 : mChk 197 204 bk_197_204 210 = true := by decide +kernel
def bk_197_210 : List mO := [(.aload_n 0, 0, 0, .null), (.getfield 136, 9, 52, .null), (.iload_n 1, 1, 0, .null), (.iload_n 1, 1, 0, .null), (.bipush 8, 0, 0, .int 8), (.irem, 0, 0, .null), (.iconst 1, 0, 0, .int 1), (.if_icmp .le 7, 227, 0, .null)]
set_option maxRecDepth 100000 in
theorem cb_197_210 : mChk 197 210 bk_197_210 223 = true := by decide +kernel
def bk_197_223 : List mO := [(.iconst 0, 0, 0, .int 0), (.goto 32, 256, 0, .null)]
set_option maxRecDepth 100000 in
theorem cb_197_223 : mChk 197 223 bk_197_223 227 = true := by decide +kernel
def bk_197_227 : List mO := [(.iload_n 1, 1, 0, .null), (.bipush 8, 0, 0, .int 8), (.if_icmp .ge 10, 240, 0, .null)]
set_option maxRecDepth 100000 in
theorem cb_197_227 : mChk 197 227 bk_197_227 233 = true := by decide +kernel
def bk_197_233 : List mO := [(.aload_n 0, 0, 0, .null), (.getfield 365, 9, 38, .null), (.goto 7, 244, 0, .null)]
set_option maxRecDepth 100000 in
theorem cb_197_233 : mChk 197 233 bk_197_233 240 = true := by decide +kernel
def bk_197_240 : List mO := [(.aload_n 0, 0, 0, .null), (.getfield 371, 9, 40, .null)]
set_option maxRecDepth 100000 in
theorem cb_197_240 : mChk 197 240 bk_197_240 244 = true := by decide +kernel
def bk_197_244 : List mO := [(.bipush 8, 0, 0, .int 8), (.iload_n 1, 1, 0, .null), (.bipush 8, 0, 0, .int 8), (.irem, 0, 0, .null), (.imul, 0, 0, .null), (.ishr, 0, 0, .null), (.sipush 255, 0, 0, .int 255), (.iand, 0, 0, .null)]
set_option maxRecDepth 100000 in
theorem cb_197_244 : mChk 197 244 bk_197_244 256 = true := by decide +kernel
def bk_197_256 : List mO := [(.iastore, 0, 0, .null), (.iinc 1 1, 1, 0, .int 1), (.goto (-56), 204, 0, .null)]
set_option maxRecDepth 100000 in
theorem cb_197_256 : mChk 197 256 bk_197_256 263 = true := by decide +kernel
def bk_197_263 : List mO := [(.aload_n 0, 0, 0, .null), (.aload_n 0, 0, 0, .null), (.getfield 136, 9, 52, .null), (.iconst 0, 0, 0, .int 0), (.bipush 16, 0, 0, .int 16), (.invokevirtual 398, 195, 3, .ref 9), (.aload_n 0, 0, 0, .null), (.invokevirtual 392, 196, 0, .ref 9), (.aload_n 0, 0, 0, .null), (.getfield 130, 9, 50, .null), (.iconst 0, 0, 0, .int 0), (.laload, 0, 0, .null), (.ldc2_w 401, 0, 0, .long 67108859), (.lcmp, 0, 0, .null), (.ifCond .lt 59, 347, 0, .null)]
set_option maxRecDepth 100000 in
theorem cb_197_263 : mChk 197 263 bk_197_263 291 = true := by decide +kernel
def bk_197_291 : List mO := [(.aload_n 0, 0, 0, .null), (.getfield 130, 9, 50, .null), (.iconst 1, 0, 0, .int 1), (.laload, 0, 0, .null), (.ldc2_w 403, 0, 0, .long 67108863), (.lcmp, 0, 0, .null), (.ifCond .ne 46, 347, 0, .null)]
set_option maxRecDepth 100000 in
theorem cb_197_291 : mChk 197 291 bk_197_291 304 = true := by decide +kernel
def bk_197_304 : List mO := [(.aload_n 0, 0, 0, .null), (.getfield 130, 9, 50, .null), (.iconst 2, 0, 0, .int 2), (.laload, 0, 0, .null), (.ldc2_w 403, 0, 0, .long 67108863), (.lcmp, 0, 0, .null), (.ifCond .ne 33, 347, 0, .null)]
set_option maxRecDepth 100000 in
theorem cb_197_304 : mChk 197 304 bk_197_304 317 = true := by decide +kernel
def bk_197_317 : List mO := [(.aload_n 0, 0, 0, .null), (.getfield 130, 9, 50, .null), (.iconst 3, 0, 0, .int 3), (.laload, 0, 0, .null), (.ldc2_w 403, 0, 0, .long 67108863), (.lcmp, 0, 0, .null), (.ifCond .ne 20, 347, 0, .null)]
set_option maxRecDepth 100000 in
theorem cb_197_317 : mChk 197 317 bk_197_317 330 = true := by decide +kernel
def bk_197_330 : List mO := [(.aload_n 0, 0, 0, .null), (.getfield 130, 9, 50, .null), (.iconst 4, 0, 0, .int 4), (.laload, 0, 0, .null), (.ldc2_w 403, 0, 0, .long 67108863), (.lcmp, 0, 0, .null), (.ifCond .ne 7, 347, 0, .null)]
set_option maxRecDepth 100000 in
theorem cb_197_330 : mChk 197 330 bk_197_330 343 = true := by decide +kernel
def bk_197_343 : List mO := [(.iconst 1, 0, 0, .int 1), (.goto 4, 348, 0, .null)]
set_option maxRecDepth 100000 in
theorem cb_197_343 : mChk 197 343 bk_197_343 347 = true := by decide +kernel
def bk_197_347 : List mO := [(.iconst 0, 0, 0, .int 0)]
set_option maxRecDepth 100000 in
theorem cb_197_347 : mChk 197 347 bk_197_347 348 = true := by decide +kernel
def bk_197_348 : List mO := [(.istore_n 1, 1, 0, .null), (.iload_n 1, 1, 0, .null), (.ifCond .eq 35, 385, 0, .null)]
set_option maxRecDepth 100000 in
theorem cb_197_348 : mChk 197 348 bk_197_348 353 = true := by decide +kernel
def bk_197_353 : List mO := [(.aload_n 0, 0, 0, .null), (.getfield 130, 9, 50, .null), (.iconst 0, 0, 0, .int 0), (.dup2, 0, 0, .null), (.laload, 0, 0, .null), (.ldc2_w 401, 0, 0, .long 67108859), (.lsub, 0, 0, .null), (.lastore, 0, 0, .null), (.iconst 1, 0, 0, .int 1), (.istore_n 2, 2, 0, .null)]
set_option maxRecDepth 100000 in
theorem cb_197_353 : mChk 197 353 bk_197_353 367 = true := by decide +kernel
def bk_197_367 : List mO := [(.iload_n 2, 2, 0, .null), (.iconst 5, 0, 0, .int 5), (.if_icmp .ge 16, 385, 0, .null)]
set_option maxRecDepth 100000 in
theorem cb_197_367 : mChk 197 367 bk_197_367 372 = true := by decide +kernel
def bk_197_372 : List mO := [(.aload_n 0, 0, 0, .null), (.getfield 130, 9, 50, .null), (.iload_n 2, 2, 0, .null), (.lconst 0, 0, 0, .long 0), (.lastore, 0, 0, .null), (.iinc 2 1, 2, 0, .int 1), (.goto (-15), 367, 0, .null)]
set_option maxRecDepth 100000 in
theorem cb_197_372 : mChk 197 372 bk_197_372 385 = true := by decide +kernel
def bk_197_385 : List mO := [(.iconst 0, 0, 0, .int 0), (.istore_n 2, 2, 0, .null), (.iconst 0, 0, 0, .int 0), (.istore_n 3, 3, 0, .null)]
set_option maxRecDepth 100000 in
theorem cb_197_385 : mChk 197 385 bk_197_385 389 = true := by decide +kernel
def bk_197_389 : List mO := [(.iload_n 3, 3, 0, .null), (.bipush 16, 0, 0, .int 16), (.if_icmp .ge 95, 487, 0, .null)]
set_option maxRecDepth 100000 in
theorem cb_197_389 : mChk 197 389 bk_197_389 395 = true := by decide +kernel
def bk_197_395 : List mO := [(.iconst 0, 0, 0, .int 0), (.istore 4, 4, 0, .null), (.iconst 0, 0, 0, .int 0), (.istore 5, 5, 0, .null)]
set_option maxRecDepth 100000 in
theorem cb_197_395 : mChk 197 395 bk_197_395 401 = true := by decide +kernel
def bk_197_401 : List mO := [(.iload 5, 5, 0, .null), (.bipush 8, 0, 0, .int 8), (.if_icmp .ge 45, 450, 0, .null)]
set_option maxRecDepth 100000 in
theorem cb_197_401 : mChk 197 401 bk_197_401 408 = true := by decide +kernel
def bk_197_408 : List mO := [(.bipush 8, 0, 0, .int 8), (.iload_n 3, 3, 0, .null), (.imul, 0, 0, .null), (.iload 5, 5, 0, .null), (.iadd, 0, 0, .null), (.istore 6, 6, 0, .null), (.iload 4, 4, 0, .null), (.aload_n 0, 0, 0, .null), (.getfield 130, 9, 50, .null), (.iload 6, 6, 0, .null), (.bipush 26, 0, 0, .int 26), (.idiv, 0, 0, .null), (.laload, 0, 0, .null), (.iload 6, 6, 0, .null), (.bipush 26, 0, 0, .int 26), (.irem, 0, 0, .null), (.lshr, 0, 0, .null), (.lconst 1, 0, 0, .long 1), (.land, 0, 0, .null), (.l2i, 0, 0, .null), (.iload 5, 5, 0, .null), (.ishl, 0, 0, .null), (.ior, 0, 0, .null), (.istore 4, 4, 0, .null), (.iinc 5 1, 5, 0, .int 1), (.goto (-46), 401, 0, .null)]
set_option maxRecDepth 100000 in
theorem cb_197_408 : mChk 197 408 bk_197_408 450 = true := by decide +kernel
def bk_197_450 : List mO := [(.iload_n 2, 2, 0, .null), (.iload 4, 4, 0, .null), (.aload_n 0, 0, 0, .null), (.getfield 124, 9, 48, .null), (.bipush 16, 0, 0, .int 16), (.iload_n 3, 3, 0, .null), (.iadd, 0, 0, .null), (.iaload, 0, 0, .null), (.iadd, 0, 0, .null), (.iadd, 0, 0, .null), (.istore_n 2, 2, 0, .null), (.aload_n 0, 0, 0, .null), (.getfield 115, 9, 41, .null), (.iload_n 3, 3, 0, .null), (.iload_n 2, 2, 0, .null), (.sipush 255, 0, 0, .int 255), (.iand, 0, 0, .null), (.iastore, 0, 0, .null), (.iload_n 2, 2, 0, .null), (.bipush 8, 0, 0, .int 8), (.ishr, 0, 0, .null), (.istore_n 2, 2, 0, .null), (.iinc 3 1, 3, 0, .int 1), (.goto (-95), 389, 0, .null)]
set_option maxRecDepth 100000 in
theorem cb_197_450 : mChk 197 450 bk_197_450 487 = true := by decide +kernel
def bk_197_487 : List mO := [(.return_, 0, 0, .null)]
set_option maxRecDepth 100000 in
theorem cb_197_487 : mChk 197 487 bk_197_487 488 = true := by decide +kernel
-- method 198: KeySealerModel.keySize(I)I, locals 1, room (0, 0)
def bk_198_0 : List mO := [(.iload_n 0, 0, 0, .null), (.iconst 1, 0, 0, .int 1), (.if_icmp .ne 8, 10, 0, .null)]
set_option maxRecDepth 100000 in
theorem cb_198_0 : mChk 198 0 bk_198_0 5 = true := by decide +kernel
def bk_198_5 : List mO := [(.bipush 16, 0, 0, .int 16), (.goto 16, 23, 0, .null)]
set_option maxRecDepth 100000 in
theorem cb_198_5 : mChk 198 5 bk_198_5 10 = true := by decide +kernel
def bk_198_10 : List mO := [(.iload_n 0, 0, 0, .null), (.sipush 255, 0, 0, .int 255), (.if_icmp .ne 7, 21, 0, .null)]
set_option maxRecDepth 100000 in
theorem cb_198_10 : mChk 198 10 bk_198_10 17 = true := by decide +kernel
def bk_198_17 : List mO := [(.iconst 0, 0, 0, .int 0), (.goto 5, 23, 0, .null)]
set_option maxRecDepth 100000 in
theorem cb_198_17 : mChk 198 17 bk_198_17 21 = true := by decide +kernel
def bk_198_21 : List mO := [(.bipush 32, 0, 0, .int 32)]
set_option maxRecDepth 100000 in
theorem cb_198_21 : mChk 198 21 bk_198_21 23 = true := by decide +kernel
def bk_198_23 : List mO := [(.ireturn, 0, 0, .int 0)]
set_option maxRecDepth 100000 in
theorem cb_198_23 : mChk 198 23 bk_198_23 24 = true := by decide +kernel
-- method 199: KeySealerModel.mask(I)V, locals 4, room (3, 70)
def bk_199_0 : List mO := [(.iconst 0, 0, 0, .int 0), (.istore_n 2, 2, 0, .null)]
set_option maxRecDepth 100000 in
theorem cb_199_0 : mChk 199 0 bk_199_0 2 = true := by decide +kernel
def bk_199_2 : List mO := [(.iload_n 1, 1, 0, .null), (.iconst 3, 0, 0, .int 3), (.if_icmp .ne 68, 72, 0, .null)]
set_option maxRecDepth 100000 in
theorem cb_199_2 : mChk 199 2 bk_199_2 7 = true := by decide +kernel
def bk_199_7 : List mO := [(.iload_n 2, 2, 0, .null), (.aload_n 0, 0, 0, .null), (.getfield 371, 9, 40, .null), (.if_icmp .ge 60, 72, 0, .null)]
set_option maxRecDepth 100000 in
theorem cb_199_7 : mChk 199 7 bk_199_7 15 = true := by decide +kernel
def bk_199_15 : List mO := [(.aload_n 0, 0, 0, .null), (.iconst 1, 0, 0, .int 1), (.iload_n 2, 2, 0, .null), (.bipush 64, 0, 0, .int 64), (.idiv, 0, 0, .null), (.iadd, 0, 0, .null), (.invokevirtual 395, 194, 1, .ref 9), (.iconst 0, 0, 0, .int 0), (.istore_n 3, 3, 0, .null)]
set_option maxRecDepth 100000 in
theorem cb_199_15 : mChk 199 15 bk_199_15 27 = true := by decide +kernel
def bk_199_27 : List mO := [(.iload_n 3, 3, 0, .null), (.bipush 64, 0, 0, .int 64), (.if_icmp .ge 36, 66, 0, .null)]
set_option maxRecDepth 100000 in
theorem cb_199_27 : mChk 199 27 bk_199_27 33 = true := by decide +kernel
def bk_199_33 : List mO := [(.iload_n 2, 2, 0, .null), (.iload_n 3, 3, 0, .null), (.iadd, 0, 0, .null), (.aload_n 0, 0, 0, .null), (.getfield 371, 9, 40, .null), (.if_icmp .ge 26, 66, 0, .null)]
set_option maxRecDepth 100000 in
theorem cb_199_33 : mChk 199 33 bk_199_33 43 = true := by decide +kernel
def bk_199_43 : List mO := [(.aload_n 0, 0, 0, .null), (.getfield 112, 9, 39, .null), (.iload_n 2, 2, 0, .null), (.iload_n 3, 3, 0, .null), (.iadd, 0, 0, .null), (.dup2, 0, 0, .null), (.iaload, 0, 0, .null), (.aload_n 0, 0, 0, .null), (.getfield 124, 9, 48, .null), (.iload_n 3, 3, 0, .null), (.iaload, 0, 0, .null), (.ixor, 0, 0, .null), (.iastore, 0, 0, .null), (.iinc 3 1, 3, 0, .int 1), (.goto (-36), 27, 0, .null)]
set_option maxRecDepth 100000 in
theorem cb_199_43 : mChk 199 43 bk_199_43 66 = true := by decide +kernel
def bk_199_66 : List mO := [(.iinc 2 64, 2, 0, .int 64), (.goto (-67), 2, 0, .null)]
set_option maxRecDepth 100000 in
theorem cb_199_66 : mChk 199 66 bk_199_66 72 = true := by decide +kernel
def bk_199_72 : List mO := [(.iconst 0, 0, 0, .int 0), (.istore_n 2, 2, 0, .null)]
set_option maxRecDepth 100000 in
theorem cb_199_72 : mChk 199 72 bk_199_72 74 = true := by decide +kernel
def bk_199_74 : List mO := [(.iload_n 1, 1, 0, .null), (.iconst 3, 0, 0, .int 3), (.if_icmp .ge 68, 144, 0, .null)]
set_option maxRecDepth 100000 in
theorem cb_199_74 : mChk 199 74 bk_199_74 79 = true := by decide +kernel
def bk_199_79 : List mO := [(.iload_n 2, 2, 0, .null), (.aload_n 0, 0, 0, .null), (.getfield 371, 9, 40, .null), (.if_icmp .ge 60, 144, 0, .null)]
set_option maxRecDepth 100000 in
theorem cb_199_79 : mChk 199 79 bk_199_79 87 = true := by decide +kernel
def bk_199_87 : List mO := [(.aload_n 0, 0, 0, .null), (.iconst 2, 0, 0, .int 2), (.iload_n 2, 2, 0, .null), (.bipush 16, 0, 0, .int 16), (.idiv, 0, 0, .null), (.iadd, 0, 0, .null), (.invokevirtual 376, 187, 1, .ref 9), (.iconst 0, 0, 0, .int 0), (.istore_n 3, 3, 0, .null)]
set_option maxRecDepth 100000 in
theorem cb_199_87 : mChk 199 87 bk_199_87 99 = true := by decide +kernel
def bk_199_99 : List mO := [(.iload_n 3, 3, 0, .null), (.bipush 16, 0, 0, .int 16), (.if_icmp .ge 36, 138, 0, .null)]
set_option maxRecDepth 100000 in
theorem cb_199_99 : mChk 199 99 bk_199_99 105 = true := by decide +kernel
def bk_199_105 : List mO := [(.iload_n 2, 2, 0, .null), (.iload_n 3, 3, 0, .null), (.iadd, 0, 0, .null), (.aload_n 0, 0, 0, .null), (.getfield 371, 9, 40, .null), (.if_icmp .ge 26, 138, 0, .null)]
set_option maxRecDepth 100000 in
theorem cb_199_105 : mChk 199 105 bk_199_105 115 = true := by decide +kernel
def bk_199_115 : List mO := [(.aload_n 0, 0, 0, .null), (.getfield 112, 9, 39, .null), (.iload_n 2, 2, 0, .null), (.iload_n 3, 3, 0, .null), (.iadd, 0, 0, .null), (.dup2, 0, 0, .null), (.iaload, 0, 0, .null), (.aload_n 0, 0, 0, .null), (.getfield 97, 9, 33, .null), (.iload_n 3, 3, 0, .null), (.iaload, 0, 0, .null), (.ixor, 0, 0, .null), (.iastore, 0, 0, .null), (.iinc 3 1, 3, 0, .int 1), (.goto (-36), 99, 0, .null)]
set_option maxRecDepth 100000 in
theorem cb_199_115 : mChk 199 115 bk_199_115 138 = true := by decide +kernel
def bk_199_138 : List mO := [(.iinc 2 16, 2, 0, .int 16), (.goto (-67), 74, 0, .null)]
set_option maxRecDepth 100000 in
theorem cb_199_138 : mChk 199 138 bk_199_138 144 = true := by decide +kernel
def bk_199_144 : List mO := [(.return_, 0, 0, .null)]
set_option maxRecDepth 100000 in
theorem cb_199_144 : mChk 199 144 bk_199_144 145 = true := by decide +kernel
-- method 200: KeySealerModel.makeTag(I)V, locals 2, room (4, 91)
def bk_200_0 : List mO := [(.iload_n 1, 1, 0, .null), (.iconst 3, 0, 0, .int 3), (.if_icmp .ne 10, 12, 0, .null)]
set_option maxRecDepth 100000 in
theorem cb_200_0 : mChk 200 0 bk_200_0 5 = true := by decide +kernel
def bk_200_5 : List mO := [(.aload_n 0, 0, 0, .null), (.invokevirtual 405, 197, 0, .ref 9), (.goto 7, 16, 0, .null)]
set_option maxRecDepth 100000 in
theorem cb_200_5 : mChk 200 5 bk_200_5 12 = true := by decide +kernel
def bk_200_12 : List mO := [(.aload_n 0, 0, 0, .null), (.invokevirtual 408, 191, 0, .ref 9)]
set_option maxRecDepth 100000 in
theorem cb_200_12 : mChk 200 12 bk_200_12 16 = true := by decide +kernel
def bk_200_16 : List mO := [(.return_, 0, 0, .null)]
set_option maxRecDepth 100000 in
theorem cb_200_16 : mChk 200 16 bk_200_16 17 = true := by decide +kernel
-- method 201: KeySealerModel.locked(IIII)I, locals 6, room (5, 112)
def bk_201_0 : List mO := [(.aload_n 0, 0, 0, .null), (.iload_n 1, 1, 0, .null), (.iload_n 3, 3, 0, .null), (.iload 4, 4, 0, .null), (.invokevirtual 411, 202, 3, .ref 9), (.aload_n 0, 0, 0, .null), (.aload_n 0, 0, 0, .null), (.getfield 13, 9, 1, .null), (.iload 4, 4, 0, .null), (.iaload, 0, 0, .null), (.putfield 371, 9, 40, .int 0), (.aload_n 0, 0, 0, .null), (.iload_n 1, 1, 0, .null), (.invokevirtual 415, 199, 1, .ref 9), (.aload_n 0, 0, 0, .null), (.iload_n 1, 1, 0, .null), (.invokevirtual 418, 200, 1, .ref 9), (.iconst 0, 0, 0, .int 0), (.istore 5, 5, 0, .null)]
set_option maxRecDepth 100000 in
theorem cb_201_0 : mChk 201 0 bk_201_0 32 = true := by decide +kernel
def bk_201_32 : List mO := [(.iload 5, 5, 0, .null), (.aload_n 0, 0, 0, .null), (.getfield 371, 9, 40, .null), (.bipush 16, 0, 0, .int 16), (.iadd, 0, 0, .null), (.if_icmp .ge 47, 88, 0, .null)]
set_option maxRecDepth 100000 in
theorem cb_201_32 : mChk 201 32 bk_201_32 44 = true := by decide +kernel
def bk_201_44 : List mO := [(.aload_n 0, 0, 0, .null), (.getfield 16, 9, 2, .null), (.iload 5, 5, 0, .null), (.iload 5, 5, 0, .null), (.aload_n 0, 0, 0, .null), (.getfield 371, 9, 40, .null), (.if_icmp .ge 13, 69, 0, .null)]
set_option maxRecDepth 100000 in
theorem cb_201_44 : mChk 201 44 bk_201_44 59 = true := by decide +kernel
def bk_201_59 : List mO := [(.aload_n 0, 0, 0, .null), (.getfield 112, 9, 39, .null), (.iload 5, 5, 0, .null), (.iaload, 0, 0, .null), (.goto 15, 81, 0, .null)]
set_option maxRecDepth 100000 in
theorem cb_201_59 : mChk 201 59 bk_201_59 69 = true := by decide +kernel
def bk_201_69 : List mO := [(.aload_n 0, 0, 0, .null), (.getfield 115, 9, 41, .null), (.iload 5, 5, 0, .null), (.aload_n 0, 0, 0, .null), (.getfield 371, 9, 40, .null), (.isub, 0, 0, .null), (.iaload, 0, 0, .null)]
set_option maxRecDepth 100000 in
theorem cb_201_69 : mChk 201 69 bk_201_69 81 = true := by decide +kernel
def bk_201_81 : List mO := [(.iastore, 0, 0, .null), (.iinc 5 1, 5, 0, .int 1), (.goto (-53), 32, 0, .null)]
set_option maxRecDepth 100000 in
theorem cb_201_81 : mChk 201 81 bk_201_81 88 = true := by decide +kernel
def bk_201_88 : List mO := [(.aload_n 0, 0, 0, .null), (.iload_n 2, 2, 0, .null), (.aload_n 0, 0, 0, .null), (.getfield 371, 9, 40, .null), (.bipush 16, 0, 0, .int 16), (.iadd, 0, 0, .null), (.invokevirtual 190, 146, 2, .ref 9), (.aload_n 0, 0, 0, .null), (.getfield 371, 9, 40, .null), (.bipush 16, 0, 0, .int 16), (.iadd, 0, 0, .null), (.ireturn, 0, 0, .int 0)]
set_option maxRecDepth 100000 in
theorem cb_201_88 : mChk 201 88 bk_201_88 108 = true := by decide +kernel
-- method 202: KeySealerModel.take(III)V, locals 5, room (2, 50)
def bk_202_0 : List mO := [(.iload_n 1, 1, 0, .null), (.iconst 3, 0, 0, .int 3), (.if_icmp .ge 11, 13, 0, .null)]
set_option maxRecDepth 100000 in
theorem cb_202_0 : mChk 202 0 bk_202_0 5 = true := by decide +kernel
def bk_202_5 : List mO := [(.aload_n 0, 0, 0, .null), (.iload_n 1, 1, 0, .null), (.invokestatic 421, 198, 1, .null), (.invokevirtual 424, 185, 1, .ref 9)]
set_option maxRecDepth 100000 in
theorem cb_202_5 : mChk 202 5 bk_202_5 13 = true := by decide +kernel
def bk_202_13 : List mO := [(.aload_n 0, 0, 0, .null), (.aload_n 0, 0, 0, .null), (.getfield 13, 9, 1, .null), (.iload_n 2, 2, 0, .null), (.iaload, 0, 0, .null), (.putfield 365, 9, 38, .int 0), (.iconst 0, 0, 0, .int 0), (.istore 4, 4, 0, .null)]
set_option maxRecDepth 100000 in
theorem cb_202_13 : mChk 202 13 bk_202_13 26 = true := by decide +kernel
def bk_202_26 : List mO := [(.iload 4, 4, 0, .null), (.aload_n 0, 0, 0, .null), (.getfield 365, 9, 38, .null), (.if_icmp .ge 29, 61, 0, .null)]
set_option maxRecDepth 100000 in
theorem cb_202_26 : mChk 202 26 bk_202_26 35 = true := by decide +kernel
def bk_202_35 : List mO := [(.aload_n 0, 0, 0, .null), (.getfield 109, 9, 37, .null), (.iload 4, 4, 0, .null), (.aload_n 0, 0, 0, .null), (.getfield 7, 9, 0, .null), (.sipush 300, 0, 0, .int 300), (.iload_n 2, 2, 0, .null), (.imul, 0, 0, .null), (.iload 4, 4, 0, .null), (.iadd, 0, 0, .null), (.iaload, 0, 0, .null), (.iastore, 0, 0, .null), (.iinc 4 1, 4, 0, .int 1), (.goto (-32), 26, 0, .null)]
set_option maxRecDepth 100000 in
theorem cb_202_35 : mChk 202 35 bk_202_35 61 = true := by decide +kernel
def bk_202_61 : List mO := [(.iconst 0, 0, 0, .int 0), (.istore 4, 4, 0, .null)]
set_option maxRecDepth 100000 in
theorem cb_202_61 : mChk 202 61 bk_202_61 64 = true := by decide +kernel
def bk_202_64 : List mO := [(.iload 4, 4, 0, .null), (.aload_n 0, 0, 0, .null), (.getfield 13, 9, 1, .null), (.iload_n 3, 3, 0, .null), (.iaload, 0, 0, .null), (.if_icmp .ge 29, 101, 0, .null)]
set_option maxRecDepth 100000 in
theorem cb_202_64 : mChk 202 64 bk_202_64 75 = true := by decide +kernel
def bk_202_75 : List mO := [(.aload_n 0, 0, 0, .null), (.getfield 112, 9, 39, .null), (.iload 4, 4, 0, .null), (.aload_n 0, 0, 0, .null), (.getfield 7, 9, 0, .null), (.sipush 300, 0, 0, .int 300), (.iload_n 3, 3, 0, .null), (.imul, 0, 0, .null), (.iload 4, 4, 0, .null), (.iadd, 0, 0, .null), (.iaload, 0, 0, .null), (.iastore, 0, 0, .null), (.iinc 4 1, 4, 0, .int 1), (.goto (-34), 64, 0, .null)]
set_option maxRecDepth 100000 in
theorem cb_202_75 : mChk 202 75 bk_202_75 101 = true := by decide +kernel
def bk_202_101 : List mO := [(.return_, 0, 0, .null)]
set_option maxRecDepth 100000 in
theorem cb_202_101 : mChk 202 101 bk_202_101 102 = true := by decide +kernel
-- method 203: KeySealerModel.unlocked(IIII)I, locals 7, room (5, 112)
def bk_203_0 : List mO := [(.aload_n 0, 0, 0, .null), (.getfield 13, 9, 1, .null), (.iload 4, 4, 0, .null), (.iaload, 0, 0, .null), (.bipush 16, 0, 0, .int 16), (.if_icmp .ge 6, 15, 0, .null)]
set_option maxRecDepth 100000 in
theorem cb_203_0 : mChk 203 0 bk_203_0 12 = true := by decide +kernel
def bk_203_12 : List mO := [(.bipush (-14), 0, 0, .int (-14)), (.ireturn, 0, 0, .int 0)]
set_option maxRecDepth 100000 in
theorem cb_203_12 : mChk 203 12 bk_203_12 15 = true := by decide +kernel
def bk_203_15 : List mO := [(.aload_n 0, 0, 0, .null), (.iload_n 1, 1, 0, .null), (.iload_n 3, 3, 0, .null), (.iload 4, 4, 0, .null), (.invokevirtual 411, 202, 3, .ref 9), (.aload_n 0, 0, 0, .null), (.aload_n 0, 0, 0, .null), (.getfield 13, 9, 1, .null), (.iload 4, 4, 0, .null), (.iaload, 0, 0, .null), (.bipush 16, 0, 0, .int 16), (.isub, 0, 0, .null), (.putfield 371, 9, 40, .int 0), (.aload_n 0, 0, 0, .null), (.iload_n 1, 1, 0, .null), (.invokevirtual 418, 200, 1, .ref 9), (.iconst 1, 0, 0, .int 1), (.istore 5, 5, 0, .null), (.iconst 0, 0, 0, .int 0), (.istore 6, 6, 0, .null)]
set_option maxRecDepth 100000 in
theorem cb_203_15 : mChk 203 15 bk_203_15 48 = true := by decide +kernel
def bk_203_48 : List mO := [(.iload 6, 6, 0, .null), (.bipush 16, 0, 0, .int 16), (.if_icmp .ge 43, 95, 0, .null)]
set_option maxRecDepth 100000 in
theorem cb_203_48 : mChk 203 48 bk_203_48 55 = true := by decide +kernel
def bk_203_55 : List mO := [(.iload 5, 5, 0, .null), (.ifCond .eq 29, 86, 0, .null)]
set_option maxRecDepth 100000 in
theorem cb_203_55 : mChk 203 55 bk_203_55 60 = true := by decide +kernel
def bk_203_60 : List mO := [(.aload_n 0, 0, 0, .null), (.getfield 115, 9, 41, .null), (.iload 6, 6, 0, .null), (.iaload, 0, 0, .null), (.aload_n 0, 0, 0, .null), (.getfield 112, 9, 39, .null), (.aload_n 0, 0, 0, .null), (.getfield 371, 9, 40, .null), (.iload 6, 6, 0, .null), (.iadd, 0, 0, .null), (.iaload, 0, 0, .null), (.if_icmp .ne 7, 86, 0, .null)]
set_option maxRecDepth 100000 in
theorem cb_203_60 : mChk 203 60 bk_203_60 82 = true := by decide +kernel
def bk_203_82 : List mO := [(.iconst 1, 0, 0, .int 1), (.goto 4, 87, 0, .null)]
set_option maxRecDepth 100000 in
theorem cb_203_82 : mChk 203 82 bk_203_82 86 = true := by decide +kernel
def bk_203_86 : List mO := [(.iconst 0, 0, 0, .int 0)]
set_option maxRecDepth 100000 in
theorem cb_203_86 : mChk 203 86 bk_203_86 87 = true := by decide +kernel
def bk_203_87 : List mO := [(.istore 5, 5, 0, .null), (.iinc 6 1, 6, 0, .int 1), (.goto (-44), 48, 0, .null)]
set_option maxRecDepth 100000 in
theorem cb_203_87 : mChk 203 87 bk_203_87 95 = true := by decide +kernel
def bk_203_95 : List mO := [(.iload 5, 5, 0, .null), (.ifCond .ne 6, 103, 0, .null)]
set_option maxRecDepth 100000 in
theorem cb_203_95 : mChk 203 95 bk_203_95 100 = true := by decide +kernel
def bk_203_100 : List mO := [(.bipush (-14), 0, 0, .int (-14)), (.ireturn, 0, 0, .int 0)]
set_option maxRecDepth 100000 in
theorem cb_203_100 : mChk 203 100 bk_203_100 103 = true := by decide +kernel
def bk_203_103 : List mO := [(.aload_n 0, 0, 0, .null), (.iload_n 1, 1, 0, .null), (.invokevirtual 415, 199, 1, .ref 9), (.iconst 0, 0, 0, .int 0), (.istore 6, 6, 0, .null)]
set_option maxRecDepth 100000 in
theorem cb_203_103 : mChk 203 103 bk_203_103 111 = true := by decide +kernel
def bk_203_111 : List mO := [(.iload 6, 6, 0, .null), (.aload_n 0, 0, 0, .null), (.getfield 371, 9, 40, .null), (.if_icmp .ge 23, 140, 0, .null)]
set_option maxRecDepth 100000 in
theorem cb_203_111 : mChk 203 111 bk_203_111 120 = true := by decide +kernel
def bk_203_120 : List mO := [(.aload_n 0, 0, 0, .null), (.getfield 16, 9, 2, .null), (.iload 6, 6, 0, .null), (.aload_n 0, 0, 0, .null), (.getfield 112, 9, 39, .null), (.iload 6, 6, 0, .null), (.iaload, 0, 0, .null), (.iastore, 0, 0, .null), (.iinc 6 1, 6, 0, .int 1), (.goto (-26), 111, 0, .null)]
set_option maxRecDepth 100000 in
theorem cb_203_120 : mChk 203 120 bk_203_120 140 = true := by decide +kernel
def bk_203_140 : List mO := [(.aload_n 0, 0, 0, .null), (.iload_n 2, 2, 0, .null), (.aload_n 0, 0, 0, .null), (.getfield 371, 9, 40, .null), (.invokevirtual 190, 146, 2, .ref 9), (.aload_n 0, 0, 0, .null), (.getfield 371, 9, 40, .null), (.ireturn, 0, 0, .int 0)]
set_option maxRecDepth 100000 in
theorem cb_203_140 : mChk 203 140 bk_203_140 154 = true := by decide +kernel
-- method 204: KeySealerModel.isLock(IIIIII)Z, locals 9, room (2, 42)
def bk_204_0 : List mO := [(.iload_n 1, 1, 0, .null), (.iconst 1, 0, 0, .int 1), (.if_icmp .lt 38, 40, 0, .null)]
set_option maxRecDepth 100000 in
theorem cb_204_0 : mChk 204 0 bk_204_0 5 = true := by decide +kernel
def bk_204_5 : List mO := [(.iload_n 1, 1, 0, .null), (.iconst 3, 0, 0, .int 3), (.if_icmp .gt 33, 40, 0, .null)]
set_option maxRecDepth 100000 in
theorem cb_204_5 : mChk 204 5 bk_204_5 10 = true := by decide +kernel
def bk_204_10 : List mO := [(.iload_n 2, 2, 0, .null), (.iload_n 3, 3, 0, .null), (.iload 4, 4, 0, .null), (.invokestatic 253, 138, 3, .null), (.ifCond .eq 23, 40, 0, .null)]
set_option maxRecDepth 100000 in
theorem cb_204_10 : mChk 204 10 bk_204_10 20 = true := by decide +kernel
def bk_204_20 : List mO := [(.iload 5, 5, 0, .null), (.invokestatic 184, 137, 1, .null), (.ifCond .eq 15, 40, 0, .null)]
set_option maxRecDepth 100000 in
theorem cb_204_20 : mChk 204 20 bk_204_20 28 = true := by decide +kernel
def bk_204_28 : List mO := [(.iload 6, 6, 0, .null), (.invokestatic 184, 137, 1, .null), (.ifCond .eq 7, 40, 0, .null)]
set_option maxRecDepth 100000 in
theorem cb_204_28 : mChk 204 28 bk_204_28 36 = true := by decide +kernel
def bk_204_36 : List mO := [(.iconst 1, 0, 0, .int 1), (.goto 4, 41, 0, .null)]
set_option maxRecDepth 100000 in
theorem cb_204_36 : mChk 204 36 bk_204_36 40 = true := by decide +kernel
def bk_204_40 : List mO := [(.iconst 0, 0, 0, .int 0)]
set_option maxRecDepth 100000 in
theorem cb_204_40 : mChk 204 40 bk_204_40 41 = true := by decide +kernel
def bk_204_41 : List mO := [(.istore 7, 7, 0, .null), (.iload 7, 7, 0, .null), (.ifCond .eq 32, 77, 0, .null)]
set_option maxRecDepth 100000 in
theorem cb_204_41 : mChk 204 41 bk_204_41 48 = true := by decide +kernel
def bk_204_48 : List mO := [(.aload_n 0, 0, 0, .null), (.getfield 13, 9, 1, .null), (.iload_n 3, 3, 0, .null), (.iaload, 0, 0, .null), (.iload_n 1, 1, 0, .null), (.invokestatic 421, 198, 1, .null), (.if_icmp .ne 19, 77, 0, .null)]
set_option maxRecDepth 100000 in
theorem cb_204_48 : mChk 204 48 bk_204_48 61 = true := by decide +kernel
def bk_204_61 : List mO := [(.aload_n 0, 0, 0, .null), (.getfield 13, 9, 1, .null), (.iload 4, 4, 0, .null), (.iaload, 0, 0, .null), (.bipush 12, 0, 0, .int 12), (.if_icmp .ne 7, 77, 0, .null)]
set_option maxRecDepth 100000 in
theorem cb_204_61 : mChk 204 61 bk_204_61 73 = true := by decide +kernel
def bk_204_73 : List mO := [(.iconst 1, 0, 0, .int 1), (.goto 4, 78, 0, .null)]
set_option maxRecDepth 100000 in
theorem cb_204_73 : mChk 204 73 bk_204_73 77 = true := by decide +kernel
def bk_204_77 : List mO := [(.iconst 0, 0, 0, .int 0)]
set_option maxRecDepth 100000 in
theorem cb_204_77 : mChk 204 77 bk_204_77 78 = true := by decide +kernel
def bk_204_78 : List mO := [(.istore 7, 7, 0, .null), (.iconst 0, 0, 0, .int 0), (.istore 8, 8, 0, .null)]
set_option maxRecDepth 100000 in
theorem cb_204_78 : mChk 204 78 bk_204_78 83 = true := by decide +kernel
def bk_204_83 : List mO := [(.iload 7, 7, 0, .null), (.ifCond .eq 40, 125, 0, .null)]
set_option maxRecDepth 100000 in
theorem cb_204_83 : mChk 204 83 bk_204_83 88 = true := by decide +kernel
def bk_204_88 : List mO := [(.iload 8, 8, 0, .null), (.aload_n 0, 0, 0, .null), (.getfield 13, 9, 1, .null), (.iload_n 3, 3, 0, .null), (.iaload, 0, 0, .null), (.if_icmp .ge 29, 125, 0, .null)]
set_option maxRecDepth 100000 in
theorem cb_204_88 : mChk 204 88 bk_204_88 99 = true := by decide +kernel
def bk_204_99 : List mO := [(.aload_n 0, 0, 0, .null), (.getfield 103, 9, 35, .null), (.iload 8, 8, 0, .null), (.aload_n 0, 0, 0, .null), (.getfield 7, 9, 0, .null), (.sipush 300, 0, 0, .int 300), (.iload_n 3, 3, 0, .null), (.imul, 0, 0, .null), (.iload 8, 8, 0, .null), (.iadd, 0, 0, .null), (.iaload, 0, 0, .null), (.iastore, 0, 0, .null), (.iinc 8 1, 8, 0, .int 1), (.goto (-39), 83, 0, .null)]
set_option maxRecDepth 100000 in
theorem cb_204_99 : mChk 204 99 bk_204_99 125 = true := by decide +kernel
def bk_204_125 : List mO := [(.iconst 0, 0, 0, .int 0), (.istore 8, 8, 0, .null)]
set_option maxRecDepth 100000 in
theorem cb_204_125 : mChk 204 125 bk_204_125 128 = true := by decide +kernel
def bk_204_128 : List mO := [(.iload 7, 7, 0, .null), (.ifCond .eq 37, 167, 0, .null)]
set_option maxRecDepth 100000 in
theorem cb_204_128 : mChk 204 128 bk_204_128 133 = true := by decide +kernel
def bk_204_133 : List mO := [(.iload 8, 8, 0, .null), (.bipush 12, 0, 0, .int 12), (.if_icmp .ge 30, 167, 0, .null)]
set_option maxRecDepth 100000 in
theorem cb_204_133 : mChk 204 133 bk_204_133 140 = true := by decide +kernel
def bk_204_140 : List mO := [(.aload_n 0, 0, 0, .null), (.getfield 106, 9, 36, .null), (.iload 8, 8, 0, .null), (.aload_n 0, 0, 0, .null), (.getfield 7, 9, 0, .null), (.sipush 300, 0, 0, .int 300), (.iload 4, 4, 0, .null), (.imul, 0, 0, .null), (.iload 8, 8, 0, .null), (.iadd, 0, 0, .null), (.iaload, 0, 0, .null), (.iastore, 0, 0, .null), (.iinc 8 1, 8, 0, .int 1), (.goto (-36), 128, 0, .null)]
set_option maxRecDepth 100000 in
theorem cb_204_140 : mChk 204 140 bk_204_140 167 = true := by decide +kernel
def bk_204_167 : List mO := [(.iload 7, 7, 0, .null), (.ireturn, 0, 0, .int 1)]
set_option maxRecDepth 100000 in
theorem cb_204_167 : mChk 204 167 bk_204_167 170 = true := by decide +kernel
-- method 205: KeySealerModel.lock(IIIIII)I, locals 7, room (6, 137)
def bk_205_0 : List mO := [(.aload_n 0, 0, 0, .null), (.iload_n 1, 1, 0, .null), (.iload_n 2, 2, 0, .null), (.iload_n 3, 3, 0, .null), (.iload 4, 4, 0, .null), (.iload 5, 5, 0, .null), (.iload 6, 6, 0, .null), (.invokevirtual 427, 204, 6, .ref 9), (.ifCond .ne 6, 19, 0, .null)]
set_option maxRecDepth 100000 in
theorem cb_205_0 : mChk 205 0 bk_205_0 16 = true := by decide +kernel
def bk_205_16 : List mO := [(.bipush (-2), 0, 0, .int (-2)), (.ireturn, 0, 0, .int 0)]
set_option maxRecDepth 100000 in
theorem cb_205_16 : mChk 205 16 bk_205_16 19 = true := by decide +kernel
def bk_205_19 : List mO := [(.aload_n 0, 0, 0, .null), (.getfield 13, 9, 1, .null), (.iload 6, 6, 0, .null), (.iaload, 0, 0, .null), (.sipush 284, 0, 0, .int 284), (.if_icmp .le 8, 37, 0, .null)]
set_option maxRecDepth 100000 in
theorem cb_205_19 : mChk 205 19 bk_205_19 32 = true := by decide +kernel
def bk_205_32 : List mO := [(.bipush (-3), 0, 0, .int (-3)), (.goto 13, 47, 0, .null)]
set_option maxRecDepth 100000 in
theorem cb_205_32 : mChk 205 32 bk_205_32 37 = true := by decide +kernel
def bk_205_37 : List mO := [(.aload_n 0, 0, 0, .null), (.iload_n 1, 1, 0, .null), (.iload_n 2, 2, 0, .null), (.iload 5, 5, 0, .null), (.iload 6, 6, 0, .null), (.invokevirtual 431, 201, 4, .ref 9)]
set_option maxRecDepth 100000 in
theorem cb_205_37 : mChk 205 37 bk_205_37 47 = true := by decide +kernel
def bk_205_47 : List mO := [(.ireturn, 0, 0, .int 0)]
set_option maxRecDepth 100000 in
theorem cb_205_47 : mChk 205 47 bk_205_47 48 = true := by decide +kernel
-- method 206: KeySealerModel.unlock(IIIIII)I, locals 7, room (6, 138)
def bk_206_0 : List mO := [(.aload_n 0, 0, 0, .null), (.iload_n 1, 1, 0, .null), (.iload_n 2, 2, 0, .null), (.iload_n 3, 3, 0, .null), (.iload 4, 4, 0, .null), (.iload 5, 5, 0, .null), (.iload 6, 6, 0, .null), (.invokevirtual 427, 204, 6, .ref 9), (.ifCond .eq 16, 29, 0, .null)]
set_option maxRecDepth 100000 in
theorem cb_206_0 : mChk 206 0 bk_206_0 16 = true := by decide +kernel
def bk_206_16 : List mO := [(.aload_n 0, 0, 0, .null), (.iload_n 1, 1, 0, .null), (.iload_n 2, 2, 0, .null), (.iload 5, 5, 0, .null), (.iload 6, 6, 0, .null), (.invokevirtual 435, 203, 4, .ref 9), (.goto 5, 31, 0, .null)]
set_option maxRecDepth 100000 in
theorem cb_206_16 : mChk 206 16 bk_206_16 29 = true := by decide +kernel
def bk_206_29 : List mO := [(.bipush (-2), 0, 0, .int (-2))]
set_option maxRecDepth 100000 in
theorem cb_206_29 : mChk 206 29 bk_206_29 31 = true := by decide +kernel
def bk_206_31 : List mO := [(.ireturn, 0, 0, .int 0)]
set_option maxRecDepth 100000 in
theorem cb_206_31 : mChk 206 31 bk_206_31 32 = true := by decide +kernel
-- method 207: KeySealerModel.kemId()V, locals 2, room (0, 0)
def bk_207_0 : List mO := [(.aload_n 0, 0, 0, .null), (.iconst 5, 0, 0, .int 5), (.putfield 438, 9, 54, .int 0), (.iconst 0, 0, 0, .int 0), (.istore_n 1, 1, 0, .null)]
set_option maxRecDepth 100000 in
theorem cb_207_0 : mChk 207 0 bk_207_0 7 = true := by decide +kernel
def bk_207_7 : List mO := [(.iload_n 1, 1, 0, .null), (.iconst 5, 0, 0, .int 5), (.if_icmp .ge 20, 29, 0, .null)]
set_option maxRecDepth 100000 in
theorem cb_207_7 : mChk 207 7 bk_207_7 12 = true := by decide +kernel
def bk_207_12 : List mO := [(.aload_n 0, 0, 0, .null), (.getfield 139, 9, 53, .null), (.iload_n 1, 1, 0, .null), (.getstatic 441, 0, 0, .ref 1000007), (.iload_n 1, 1, 0, .null), (.iaload, 0, 0, .null), (.iastore, 0, 0, .null), (.iinc 1 1, 1, 0, .int 1), (.goto (-19), 7, 0, .null)]
set_option maxRecDepth 100000 in
theorem cb_207_12 : mChk 207 12 bk_207_12 29 = true := by decide +kernel
def bk_207_29 : List mO := [(.return_, 0, 0, .null)]
set_option maxRecDepth 100000 in
theorem cb_207_29 : mChk 207 29 bk_207_29 30 = true := by decide +kernel
-- method 208: KeySealerModel.suiteId(II)V, locals 4, room (0, 0)
def bk_208_0 : List mO := [(.aload_n 0, 0, 0, .null), (.bipush 10, 0, 0, .int 10), (.putfield 438, 9, 54, .int 0), (.iconst 0, 0, 0, .int 0), (.istore_n 3, 3, 0, .null)]
set_option maxRecDepth 100000 in
theorem cb_208_0 : mChk 208 0 bk_208_0 8 = true := by decide +kernel
def bk_208_8 : List mO := [(.iload_n 3, 3, 0, .null), (.iconst 4, 0, 0, .int 4), (.if_icmp .ge 20, 30, 0, .null)]
set_option maxRecDepth 100000 in
theorem cb_208_8 : mChk 208 8 bk_208_8 13 = true := by decide +kernel
def bk_208_13 : List mO := [(.aload_n 0, 0, 0, .null), (.getfield 139, 9, 53, .null), (.iload_n 3, 3, 0, .null), (.getstatic 444, 0, 0, .ref 1000008), (.iload_n 3, 3, 0, .null), (.iaload, 0, 0, .null), (.iastore, 0, 0, .null), (.iinc 3 1, 3, 0, .int 1), (.goto (-19), 8, 0, .null)]
set_option maxRecDepth 100000 in
theorem cb_208_13 : mChk 208 13 bk_208_13 30 = true := by decide +kernel
def bk_208_30 : List mO := [(.aload_n 0, 0, 0, .null), (.getfield 139, 9, 53, .null), (.iconst 4, 0, 0, .int 4), (.iconst 0, 0, 0, .int 0), (.iastore, 0, 0, .null), (.aload_n 0, 0, 0, .null), (.getfield 139, 9, 53, .null), (.iconst 5, 0, 0, .int 5), (.bipush 32, 0, 0, .int 32), (.iastore, 0, 0, .null), (.aload_n 0, 0, 0, .null), (.getfield 139, 9, 53, .null), (.bipush 6, 0, 0, .int 6), (.iconst 0, 0, 0, .int 0), (.iastore, 0, 0, .null), (.aload_n 0, 0, 0, .null), (.getfield 139, 9, 53, .null), (.bipush 7, 0, 0, .int 7), (.iload_n 1, 1, 0, .null), (.iastore, 0, 0, .null), (.aload_n 0, 0, 0, .null), (.getfield 139, 9, 53, .null), (.bipush 8, 0, 0, .int 8), (.iload_n 2, 2, 0, .null), (.sipush 255, 0, 0, .int 255), (.if_icmp .ne 9, 80, 0, .null)]
set_option maxRecDepth 100000 in
theorem cb_208_30 : mChk 208 30 bk_208_30 74 = true := by decide +kernel
def bk_208_74 : List mO := [(.sipush 255, 0, 0, .int 255), (.goto 4, 81, 0, .null)]
set_option maxRecDepth 100000 in
theorem cb_208_74 : mChk 208 74 bk_208_74 80 = true := by decide +kernel
def bk_208_80 : List mO := [(.iconst 0, 0, 0, .int 0)]
set_option maxRecDepth 100000 in
theorem cb_208_80 : mChk 208 80 bk_208_80 81 = true := by decide +kernel
def bk_208_81 : List mO := [(.iastore, 0, 0, .null), (.aload_n 0, 0, 0, .null), (.getfield 139, 9, 53, .null), (.bipush 9, 0, 0, .int 9), (.iload_n 2, 2, 0, .null), (.iastore, 0, 0, .null), (.return_, 0, 0, .null)]
set_option maxRecDepth 100000 in
theorem cb_208_81 : mChk 208 81 bk_208_81 91 = true := by decide +kernel
-- method 209: KeySealerModel.beginX([I)V, locals 2, room (2, 45)
def bk_209_0 : List mO := [(.aload_n 0, 0, 0, .null), (.iconst 0, 0, 0, .int 0), (.putfield 234, 9, 11, .int 0), (.aload_n 0, 0, 0, .null), (.getstatic 444, 0, 0, .ref 1000008), (.invokevirtual 447, 156, 1, .ref 9), (.aload_n 0, 0, 0, .null), (.aload_n 0, 0, 0, .null), (.getfield 139, 9, 53, .null), (.iconst 0, 0, 0, .int 0), (.aload_n 0, 0, 0, .null), (.getfield 438, 9, 54, .null), (.invokevirtual 240, 157, 3, .ref 9), (.aload_n 0, 0, 0, .null), (.aload_n 1, 1, 0, .null), (.invokevirtual 447, 156, 1, .ref 9), (.return_, 0, 0, .null)]
set_option maxRecDepth 100000 in
theorem cb_209_0 : mChk 209 0 bk_209_0 31 = true := by decide +kernel
-- method 210: KeySealerModel.beginP([II)V, locals 3, room (2, 45)
def bk_210_0 : List mO := [(.aload_n 0, 0, 0, .null), (.iconst 0, 0, 0, .int 0), (.putfield 234, 9, 11, .int 0), (.aload_n 0, 0, 0, .null), (.iload_n 2, 2, 0, .null), (.bipush 8, 0, 0, .int 8), (.ishr, 0, 0, .null), (.invokevirtual 237, 155, 1, .ref 9), (.aload_n 0, 0, 0, .null), (.iload_n 2, 2, 0, .null), (.sipush 255, 0, 0, .int 255), (.iand, 0, 0, .null), (.invokevirtual 237, 155, 1, .ref 9), (.aload_n 0, 0, 0, .null), (.getstatic 444, 0, 0, .ref 1000008), (.invokevirtual 447, 156, 1, .ref 9), (.aload_n 0, 0, 0, .null), (.aload_n 0, 0, 0, .null), (.getfield 139, 9, 53, .null), (.iconst 0, 0, 0, .int 0), (.aload_n 0, 0, 0, .null), (.getfield 438, 9, 54, .null), (.invokevirtual 240, 157, 3, .ref 9), (.aload_n 0, 0, 0, .null), (.aload_n 1, 1, 0, .null), (.invokevirtual 447, 156, 1, .ref 9), (.return_, 0, 0, .null)]
set_option maxRecDepth 100000 in
theorem cb_210_0 : mChk 210 0 bk_210_0 48 = true := by decide +kernel
-- method 211: KeySealerModel.noSalt(I)V, locals 2, room (5, 151)
def bk_211_0 : List mO := [(.aload_n 0, 0, 0, .null), (.iload_n 1, 1, 0, .null), (.aload_n 0, 0, 0, .null), (.getfield 139, 9, 53, .null), (.iconst 0, 0, 0, .int 0), (.iconst 0, 0, 0, .int 0), (.invokevirtual 257, 159, 4, .ref 9), (.return_, 0, 0, .null)]
set_option maxRecDepth 100000 in
theorem cb_211_0 : mChk 211 0 bk_211_0 12 = true := by decide +kernel
-- method 212: KeySealerModel.makeP(II)V, locals 3, room (6, 174)
def bk_212_0 : List mO := [(.aload_n 0, 0, 0, .null), (.invokevirtual 264, 163, 0, .ref 9), (.aload_n 0, 0, 0, .null), (.iload_n 1, 1, 0, .null), (.iload_n 2, 2, 0, .null), (.invokevirtual 267, 161, 2, .ref 9), (.return_, 0, 0, .null)]
set_option maxRecDepth 100000 in
theorem cb_212_0 : mChk 212 0 bk_212_0 11 = true := by decide +kernel
-- method 213: KeySealerModel.pair(III)I, locals 4, room (7, 196)
def bk_213_0 : List mO := [(.iload_n 1, 1, 0, .null), (.iload_n 2, 2, 0, .null), (.iload_n 3, 3, 0, .null), (.invokestatic 253, 138, 3, .null), (.ifCond .ne 6, 12, 0, .null)]
set_option maxRecDepth 100000 in
theorem cb_213_0 : mChk 213 0 bk_213_0 9 = true := by decide +kernel
def bk_213_9 : List mO := [(.bipush (-2), 0, 0, .int (-2)), (.ireturn, 0, 0, .int 0)]
set_option maxRecDepth 100000 in
theorem cb_213_9 : mChk 213 9 bk_213_9 12 = true := by decide +kernel
def bk_213_12 : List mO := [(.aload_n 0, 0, 0, .null), (.invokevirtual 451, 207, 0, .ref 9), (.aload_n 0, 0, 0, .null), (.getstatic 454, 0, 0, .ref 1000009), (.invokevirtual 457, 209, 1, .ref 9), (.aload_n 0, 0, 0, .null), (.iload_n 3, 3, 0, .null), (.invokevirtual 261, 158, 1, .ref 9), (.aload_n 0, 0, 0, .null), (.iconst 1, 0, 0, .int 1), (.invokevirtual 460, 211, 1, .ref 9), (.aload_n 0, 0, 0, .null), (.iconst 1, 0, 0, .int 1), (.invokevirtual 250, 160, 1, .ref 9), (.aload_n 0, 0, 0, .null), (.iconst 1, 0, 0, .int 1), (.aload_n 0, 0, 0, .null), (.getfield 29, 9, 7, .null), (.iconst 0, 0, 0, .int 0), (.bipush 32, 0, 0, .int 32), (.invokevirtual 257, 159, 4, .ref 9), (.aload_n 0, 0, 0, .null), (.getstatic 463, 0, 0, .ref 1000010), (.bipush 32, 0, 0, .int 32), (.invokevirtual 466, 210, 2, .ref 9), (.aload_n 0, 0, 0, .null), (.iconst 1, 0, 0, .int 1), (.bipush 32, 0, 0, .int 32), (.invokevirtual 469, 212, 2, .ref 9), (.aload_n 0, 0, 0, .null), (.iload_n 1, 1, 0, .null), (.bipush 32, 0, 0, .int 32), (.invokevirtual 190, 146, 2, .ref 9), (.aload_n 0, 0, 0, .null), (.aload_n 0, 0, 0, .null), (.getfield 7, 9, 0, .null), (.sipush 300, 0, 0, .int 300), (.iload_n 1, 1, 0, .null), (.imul, 0, 0, .null), (.invokevirtual 315, 175, 2, .ref 9), (.aload_n 0, 0, 0, .null), (.invokevirtual 329, 177, 0, .ref 9), (.aload_n 0, 0, 0, .null), (.iload_n 2, 2, 0, .null), (.invokevirtual 326, 180, 1, .ref 9), (.ireturn, 0, 0, .int 0)]
set_option maxRecDepth 100000 in
theorem cb_213_12 : mChk 213 12 bk_213_12 96 = true := by decide +kernel
-- method 214: KeySealerModel.use(II)I, locals 3, room (1, 20)
def bk_214_0 : List mO := [(.iload_n 1, 1, 0, .null), (.ifCond .lt 20, 21, 0, .null)]
set_option maxRecDepth 100000 in
theorem cb_214_0 : mChk 214 0 bk_214_0 4 = true := by decide +kernel
def bk_214_4 : List mO := [(.iload_n 1, 1, 0, .null), (.iconst 4, 0, 0, .int 4), (.if_icmp .gt 15, 21, 0, .null)]
set_option maxRecDepth 100000 in
theorem cb_214_4 : mChk 214 4 bk_214_4 9 = true := by decide +kernel
def bk_214_9 : List mO := [(.iload_n 2, 2, 0, .null), (.iconst (-1), 0, 0, .int (-1)), (.if_icmp .eq 13, 24, 0, .null)]
set_option maxRecDepth 100000 in
theorem cb_214_9 : mChk 214 9 bk_214_9 14 = true := by decide +kernel
def bk_214_14 : List mO := [(.iload_n 2, 2, 0, .null), (.invokestatic 184, 137, 1, .null), (.ifCond .ne 6, 24, 0, .null)]
set_option maxRecDepth 100000 in
theorem cb_214_14 : mChk 214 14 bk_214_14 21 = true := by decide +kernel
def bk_214_21 : List mO := [(.bipush (-2), 0, 0, .int (-2)), (.ireturn, 0, 0, .int 0)]
set_option maxRecDepth 100000 in
theorem cb_214_21 : mChk 214 21 bk_214_21 24 = true := by decide +kernel
def bk_214_24 : List mO := [(.aload_n 0, 0, 0, .null), (.getfield 142, 9, 55, .null), (.iload_n 1, 1, 0, .null), (.iload_n 2, 2, 0, .null), (.iastore, 0, 0, .null), (.iconst 0, 0, 0, .int 0), (.ireturn, 0, 0, .int 0)]
set_option maxRecDepth 100000 in
theorem cb_214_24 : mChk 214 24 bk_214_24 33 = true := by decide +kernel
-- method 215: KeySealerModel.usedSize(I)I, locals 2, room (0, 0)
def bk_215_0 : List mO := [(.aload_n 0, 0, 0, .null), (.getfield 142, 9, 55, .null), (.iload_n 1, 1, 0, .null), (.iaload, 0, 0, .null), (.ifCond .ge 7, 13, 0, .null)]
set_option maxRecDepth 100000 in
theorem cb_215_0 : mChk 215 0 bk_215_0 9 = true := by decide +kernel
def bk_215_9 : List mO := [(.iconst 0, 0, 0, .int 0), (.goto 14, 24, 0, .null)]
set_option maxRecDepth 100000 in
theorem cb_215_9 : mChk 215 9 bk_215_9 13 = true := by decide +kernel
def bk_215_13 : List mO := [(.aload_n 0, 0, 0, .null), (.getfield 13, 9, 1, .null), (.aload_n 0, 0, 0, .null), (.getfield 142, 9, 55, .null), (.iload_n 1, 1, 0, .null), (.iaload, 0, 0, .null), (.iaload, 0, 0, .null)]
set_option maxRecDepth 100000 in
theorem cb_215_13 : mChk 215 13 bk_215_13 24 = true := by decide +kernel
def bk_215_24 : List mO := [(.ireturn, 0, 0, .int 0)]
set_option maxRecDepth 100000 in
theorem cb_215_24 : mChk 215 24 bk_215_24 25 = true := by decide +kernel
-- method 216: KeySealerModel.agreesToo()Z, locals 2, room (4, 91)
def bk_216_0 : List mO := [(.aload_n 0, 0, 0, .null), (.invokevirtual 309, 173, 0, .ref 9), (.iconst 0, 0, 0, .int 0), (.istore_n 1, 1, 0, .null)]
set_option maxRecDepth 100000 in
theorem cb_216_0 : mChk 216 0 bk_216_0 6 = true := by decide +kernel
def bk_216_6 : List mO := [(.iload_n 1, 1, 0, .null), (.bipush 32, 0, 0, .int 32), (.if_icmp .ge 26, 35, 0, .null)]
set_option maxRecDepth 100000 in
theorem cb_216_6 : mChk 216 6 bk_216_6 12 = true := by decide +kernel
def bk_216_12 : List mO := [(.aload_n 0, 0, 0, .null), (.getfield 145, 9, 56, .null), (.aload_n 0, 0, 0, .null), (.getfield 472, 9, 57, .null), (.iload_n 1, 1, 0, .null), (.iadd, 0, 0, .null), (.aload_n 0, 0, 0, .null), (.getfield 88, 9, 29, .null), (.iload_n 1, 1, 0, .null), (.iaload, 0, 0, .null), (.iastore, 0, 0, .null), (.iinc 1 1, 1, 0, .int 1), (.goto (-26), 6, 0, .null)]
set_option maxRecDepth 100000 in
theorem cb_216_12 : mChk 216 12 bk_216_12 35 = true := by decide +kernel
def bk_216_35 : List mO := [(.aload_n 0, 0, 0, .null), (.dup, 0, 0, .null), (.getfield 472, 9, 57, .null), (.bipush 32, 0, 0, .int 32), (.iadd, 0, 0, .null), (.putfield 472, 9, 57, .int 0), (.aload_n 0, 0, 0, .null), (.invokevirtual 322, 178, 0, .ref 9), (.ifCond .ne 7, 57, 0, .null)]
set_option maxRecDepth 100000 in
theorem cb_216_35 : mChk 216 35 bk_216_35 53 = true := by decide +kernel
def bk_216_53 : List mO := [(.iconst 1, 0, 0, .int 1), (.goto 4, 58, 0, .null)]
set_option maxRecDepth 100000 in
theorem cb_216_53 : mChk 216 53 bk_216_53 57 = true := by decide +kernel
def bk_216_57 : List mO := [(.iconst 0, 0, 0, .int 0)]
set_option maxRecDepth 100000 in
theorem cb_216_57 : mChk 216 57 bk_216_57 58 = true := by decide +kernel
def bk_216_58 : List mO := [(.ireturn, 0, 0, .int 1)]
set_option maxRecDepth 100000 in
theorem cb_216_58 : mChk 216 58 bk_216_58 59 = true := by decide +kernel
-- method 217: KeySealerModel.aboutToo([II)V, locals 4, room (0, 0)
def bk_217_0 : List mO := [(.iconst 0, 0, 0, .int 0), (.istore_n 3, 3, 0, .null)]
set_option maxRecDepth 100000 in
theorem cb_217_0 : mChk 217 0 bk_217_0 2 = true := by decide +kernel
def bk_217_2 : List mO := [(.iload_n 3, 3, 0, .null), (.bipush 32, 0, 0, .int 32), (.if_icmp .ge 25, 30, 0, .null)]
set_option maxRecDepth 100000 in
theorem cb_217_2 : mChk 217 2 bk_217_2 8 = true := by decide +kernel
def bk_217_8 : List mO := [(.aload_n 0, 0, 0, .null), (.getfield 148, 9, 58, .null), (.aload_n 0, 0, 0, .null), (.getfield 475, 9, 59, .null), (.iload_n 3, 3, 0, .null), (.iadd, 0, 0, .null), (.aload_n 1, 1, 0, .null), (.iload_n 2, 2, 0, .null), (.iload_n 3, 3, 0, .null), (.iadd, 0, 0, .null), (.iaload, 0, 0, .null), (.iastore, 0, 0, .null), (.iinc 3 1, 3, 0, .int 1), (.goto (-25), 2, 0, .null)]
set_option maxRecDepth 100000 in
theorem cb_217_8 : mChk 217 8 bk_217_8 30 = true := by decide +kernel
def bk_217_30 : List mO := [(.aload_n 0, 0, 0, .null), (.dup, 0, 0, .null), (.getfield 475, 9, 59, .null), (.bipush 32, 0, 0, .int 32), (.iadd, 0, 0, .null), (.putfield 475, 9, 59, .int 0), (.return_, 0, 0, .null)]
set_option maxRecDepth 100000 in
theorem cb_217_30 : mChk 217 30 bk_217_30 42 = true := by decide +kernel
-- method 218: KeySealerModel.makeSecret()V, locals 2, room (7, 196)
def bk_218_0 : List mO := [(.aload_n 0, 0, 0, .null), (.invokevirtual 451, 207, 0, .ref 9), (.aload_n 0, 0, 0, .null), (.getstatic 478, 0, 0, .ref 1000011), (.invokevirtual 457, 209, 1, .ref 9), (.aload_n 0, 0, 0, .null), (.aload_n 0, 0, 0, .null), (.getfield 145, 9, 56, .null), (.iconst 0, 0, 0, .int 0), (.aload_n 0, 0, 0, .null), (.getfield 472, 9, 57, .null), (.invokevirtual 240, 157, 3, .ref 9), (.aload_n 0, 0, 0, .null), (.iconst 1, 0, 0, .int 1), (.invokevirtual 460, 211, 1, .ref 9), (.aload_n 0, 0, 0, .null), (.iconst 1, 0, 0, .int 1), (.invokevirtual 250, 160, 1, .ref 9), (.aload_n 0, 0, 0, .null), (.iconst 1, 0, 0, .int 1), (.aload_n 0, 0, 0, .null), (.getfield 29, 9, 7, .null), (.iconst 0, 0, 0, .int 0), (.bipush 32, 0, 0, .int 32), (.invokevirtual 257, 159, 4, .ref 9), (.aload_n 0, 0, 0, .null), (.getstatic 481, 0, 0, .ref 1000012), (.bipush 32, 0, 0, .int 32), (.invokevirtual 466, 210, 2, .ref 9), (.aload_n 0, 0, 0, .null), (.aload_n 0, 0, 0, .null), (.getfield 148, 9, 58, .null), (.iconst 0, 0, 0, .int 0), (.aload_n 0, 0, 0, .null), (.getfield 475, 9, 59, .null), (.invokevirtual 240, 157, 3, .ref 9), (.aload_n 0, 0, 0, .null), (.iconst 1, 0, 0, .int 1), (.bipush 32, 0, 0, .int 32), (.invokevirtual 469, 212, 2, .ref 9), (.iconst 0, 0, 0, .int 0), (.istore_n 1, 1, 0, .null)]
set_option maxRecDepth 100000 in
theorem cb_218_0 : mChk 218 0 bk_218_0 77 = true := by decide +kernel
def bk_218_77 : List mO := [(.iload_n 1, 1, 0, .null), (.bipush 32, 0, 0, .int 32), (.if_icmp .ge 21, 101, 0, .null)]
set_option maxRecDepth 100000 in
theorem cb_218_77 : mChk 218 77 bk_218_77 83 = true := by decide +kernel
def bk_218_83 : List mO := [(.aload_n 0, 0, 0, .null), (.getfield 151, 9, 60, .null), (.iload_n 1, 1, 0, .null), (.aload_n 0, 0, 0, .null), (.getfield 16, 9, 2, .null), (.iload_n 1, 1, 0, .null), (.iaload, 0, 0, .null), (.iastore, 0, 0, .null), (.iinc 1 1, 1, 0, .int 1), (.goto (-21), 77, 0, .null)]
set_option maxRecDepth 100000 in
theorem cb_218_83 : mChk 218 83 bk_218_83 101 = true := by decide +kernel
def bk_218_101 : List mO := [(.return_, 0, 0, .null)]
set_option maxRecDepth 100000 in
theorem cb_218_101 : mChk 218 101 bk_218_101 102 = true := by decide +kernel
-- method 219: KeySealerModel.schedule(IIIII)V, locals 8, room (8, 222)
def bk_219_0 : List mO := [(.aload_n 0, 0, 0, .null), (.invokevirtual 484, 218, 0, .ref 9), (.aload_n 0, 0, 0, .null), (.iload 4, 4, 0, .null), (.iload 5, 5, 0, .null), (.invokevirtual 487, 208, 2, .ref 9), (.iload 4, 4, 0, .null), (.invokestatic 227, 147, 1, .null), (.istore 6, 6, 0, .null), (.aload_n 0, 0, 0, .null), (.getfield 178, 9, 69, .null), (.iconst 0, 0, 0, .int 0), (.iload_n 3, 3, 0, .null), (.iastore, 0, 0, .null), (.aload_n 0, 0, 0, .null), (.iconst 1, 0, 0, .int 1), (.putfield 490, 9, 70, .int 0), (.aload_n 0, 0, 0, .null), (.getstatic 493, 0, 0, .ref 1000013), (.invokevirtual 457, 209, 1, .ref 9), (.aload_n 0, 0, 0, .null), (.aload_n 0, 0, 0, .null), (.getfield 142, 9, 55, .null), (.iconst 2, 0, 0, .int 2), (.iaload, 0, 0, .null), (.invokevirtual 261, 158, 1, .ref 9), (.aload_n 0, 0, 0, .null), (.iload 4, 4, 0, .null), (.invokevirtual 460, 211, 1, .ref 9), (.aload_n 0, 0, 0, .null), (.iload 4, 4, 0, .null), (.invokevirtual 250, 160, 1, .ref 9), (.aload_n 0, 0, 0, .null), (.iload 6, 6, 0, .null), (.invokevirtual 496, 220, 1, .ref 9), (.aload_n 0, 0, 0, .null), (.getstatic 499, 0, 0, .ref 1000014), (.invokevirtual 457, 209, 1, .ref 9), (.aload_n 0, 0, 0, .null), (.aload_n 0, 0, 0, .null), (.getfield 142, 9, 55, .null), (.iconst 0, 0, 0, .int 0), (.iaload, 0, 0, .null), (.invokevirtual 261, 158, 1, .ref 9), (.aload_n 0, 0, 0, .null), (.iload 4, 4, 0, .null), (.invokevirtual 460, 211, 1, .ref 9), (.aload_n 0, 0, 0, .null), (.iload 4, 4, 0, .null), (.invokevirtual 250, 160, 1, .ref 9), (.aload_n 0, 0, 0, .null), (.iload 6, 6, 0, .null), (.invokevirtual 496, 220, 1, .ref 9), (.aload_n 0, 0, 0, .null), (.getstatic 502, 0, 0, .ref 1000015), (.invokevirtual 457, 209, 1, .ref 9), (.aload_n 0, 0, 0, .null), (.aload_n 0, 0, 0, .null), (.getfield 142, 9, 55, .null), (.iconst 1, 0, 0, .int 1), (.iaload, 0, 0, .null), (.invokevirtual 261, 158, 1, .ref 9), (.aload_n 0, 0, 0, .null), (.iload 4, 4, 0, .null), (.aload_n 0, 0, 0, .null), (.getfield 151, 9, 60, .null), (.iconst 0, 0, 0, .int 0), (.bipush 32, 0, 0, .int 32), (.invokevirtual 257, 159, 4, .ref 9), (.aload_n 0, 0, 0, .null), (.iload 4, 4, 0, .null), (.invokevirtual 250, 160, 1, .ref 9), (.aload_n 0, 0, 0, .null), (.iload 4, 4, 0, .null), (.aload_n 0, 0, 0, .null), (.getfield 29, 9, 7, .null), (.iconst 0, 0, 0, .int 0), (.iload 6, 6, 0, .null), (.invokevirtual 257, 159, 4, .ref 9), (.aload_n 0, 0, 0, .null), (.getfield 154, 9, 61, .null), (.iload_n 1, 1, 0, .null), (.iload_n 2, 2, 0, .null), (.iastore, 0, 0, .null), (.aload_n 0, 0, 0, .null), (.getfield 157, 9, 62, .null), (.iload_n 1, 1, 0, .null), (.iload_n 3, 3, 0, .null), (.iastore, 0, 0, .null), (.aload_n 0, 0, 0, .null), (.getfield 160, 9, 63, .null), (.iload_n 1, 1, 0, .null), (.iload 4, 4, 0, .null), (.iastore, 0, 0, .null), (.aload_n 0, 0, 0, .null), (.getfield 163, 9, 64, .null), (.iload_n 1, 1, 0, .null), (.iload 5, 5, 0, .null), (.iastore, 0, 0, .null), (.iconst 0, 0, 0, .int 0), (.istore 7, 7, 0, .null)]
set_option maxRecDepth 100000 in
theorem cb_219_0 : mChk 219 0 bk_219_0 183 = true := by decide +kernel
def bk_219_183 : List mO := [(.iload 7, 7, 0, .null), (.iconst 3, 0, 0, .int 3), (.if_icmp .ge 21, 207, 0, .null)]
set_option maxRecDepth 100000 in
theorem cb_219_183 : mChk 219 183 bk_219_183 189 = true := by decide +kernel
def bk_219_189 : List mO := [(.aload_n 0, 0, 0, .null), (.getfield 166, 9, 65, .null), (.iconst 3, 0, 0, .int 3), (.iload_n 1, 1, 0, .null), (.imul, 0, 0, .null), (.iload 7, 7, 0, .null), (.iadd, 0, 0, .null), (.lconst 0, 0, 0, .long 0), (.lastore, 0, 0, .null), (.iinc 7 1, 7, 0, .int 1), (.goto (-21), 183, 0, .null)]
set_option maxRecDepth 100000 in
theorem cb_219_189 : mChk 219 189 bk_219_189 207 = true := by decide +kernel
def bk_219_207 : List mO := [(.iload 5, 5, 0, .null), (.sipush 255, 0, 0, .int 255), (.if_icmp .eq 44, 256, 0, .null)]
set_option maxRecDepth 100000 in
theorem cb_219_207 : mChk 219 207 bk_219_207 215 = true := by decide +kernel
def bk_219_215 : List mO := [(.aload_n 0, 0, 0, .null), (.getstatic 505, 0, 0, .ref 1000016), (.iload 5, 5, 0, .null), (.invokestatic 421, 198, 1, .null), (.iload 4, 4, 0, .null), (.aload_n 0, 0, 0, .null), (.getfield 169, 9, 66, .null), (.bipush 32, 0, 0, .int 32), (.iload_n 1, 1, 0, .null), (.imul, 0, 0, .null), (.invokevirtual 508, 221, 5, .ref 9), (.aload_n 0, 0, 0, .null), (.getstatic 512, 0, 0, .ref 1000017), (.bipush 12, 0, 0, .int 12), (.iload 4, 4, 0, .null), (.aload_n 0, 0, 0, .null), (.getfield 172, 9, 67, .null), (.bipush 12, 0, 0, .int 12), (.iload_n 1, 1, 0, .null), (.imul, 0, 0, .null), (.invokevirtual 508, 221, 5, .ref 9)]
set_option maxRecDepth 100000 in
theorem cb_219_215 : mChk 219 215 bk_219_215 256 = true := by decide +kernel
def bk_219_256 : List mO := [(.aload_n 0, 0, 0, .null), (.getstatic 515, 0, 0, .ref 1000018), (.iload 6, 6, 0, .null), (.iload 4, 4, 0, .null), (.aload_n 0, 0, 0, .null), (.getfield 175, 9, 68, .null), (.bipush 64, 0, 0, .int 64), (.iload_n 1, 1, 0, .null), (.imul, 0, 0, .null), (.invokevirtual 508, 221, 5, .ref 9), (.return_, 0, 0, .null)]
set_option maxRecDepth 100000 in
theorem cb_219_256 : mChk 219 256 bk_219_256 276 = true := by decide +kernel
-- method 220: KeySealerModel.toZ(I)V, locals 3, room (0, 0)
def bk_220_0 : List mO := [(.iconst 0, 0, 0, .int 0), (.istore_n 2, 2, 0, .null)]
set_option maxRecDepth 100000 in
theorem cb_220_0 : mChk 220 0 bk_220_0 2 = true := by decide +kernel
def bk_220_2 : List mO := [(.iload_n 2, 2, 0, .null), (.iload_n 1, 1, 0, .null), (.if_icmp .ge 26, 30, 0, .null)]
set_option maxRecDepth 100000 in
theorem cb_220_2 : mChk 220 2 bk_220_2 7 = true := by decide +kernel
def bk_220_7 : List mO := [(.aload_n 0, 0, 0, .null), (.getfield 178, 9, 69, .null), (.aload_n 0, 0, 0, .null), (.getfield 490, 9, 70, .null), (.iload_n 2, 2, 0, .null), (.iadd, 0, 0, .null), (.aload_n 0, 0, 0, .null), (.getfield 29, 9, 7, .null), (.iload_n 2, 2, 0, .null), (.iaload, 0, 0, .null), (.iastore, 0, 0, .null), (.iinc 2 1, 2, 0, .int 1), (.goto (-25), 2, 0, .null)]
set_option maxRecDepth 100000 in
theorem cb_220_7 : mChk 220 7 bk_220_7 30 = true := by decide +kernel
def bk_220_30 : List mO := [(.aload_n 0, 0, 0, .null), (.dup, 0, 0, .null), (.getfield 490, 9, 70, .null), (.iload_n 1, 1, 0, .null), (.iadd, 0, 0, .null), (.putfield 490, 9, 70, .int 0), (.return_, 0, 0, .null)]
set_option maxRecDepth 100000 in
theorem cb_220_30 : mChk 220 30 bk_220_30 41 = true := by decide +kernel
-- method 221: KeySealerModel.part([III[II)V, locals 7, room (7, 196)
def bk_221_0 : List mO := [(.aload_n 0, 0, 0, .null), (.aload_n 1, 1, 0, .null), (.iload_n 2, 2, 0, .null), (.invokevirtual 466, 210, 2, .ref 9), (.aload_n 0, 0, 0, .null), (.aload_n 0, 0, 0, .null), (.getfield 178, 9, 69, .null), (.iconst 0, 0, 0, .int 0), (.aload_n 0, 0, 0, .null), (.getfield 490, 9, 70, .null), (.invokevirtual 240, 157, 3, .ref 9), (.aload_n 0, 0, 0, .null), (.iload_n 3, 3, 0, .null), (.iload_n 2, 2, 0, .null), (.invokevirtual 469, 212, 2, .ref 9), (.iconst 0, 0, 0, .int 0), (.istore 6, 6, 0, .null)]
set_option maxRecDepth 100000 in
theorem cb_221_0 : mChk 221 0 bk_221_0 28 = true := by decide +kernel
def bk_221_28 : List mO := [(.iload 6, 6, 0, .null), (.iload_n 2, 2, 0, .null), (.if_icmp .ge 24, 55, 0, .null)]
set_option maxRecDepth 100000 in
theorem cb_221_28 : mChk 221 28 bk_221_28 34 = true := by decide +kernel
def bk_221_34 : List mO := [(.aload 4, 4, 0, .null), (.iload 5, 5, 0, .null), (.iload 6, 6, 0, .null), (.iadd, 0, 0, .null), (.aload_n 0, 0, 0, .null), (.getfield 16, 9, 2, .null), (.iload 6, 6, 0, .null), (.iaload, 0, 0, .null), (.iastore, 0, 0, .null), (.iinc 6 1, 6, 0, .int 1), (.goto (-24), 28, 0, .null)]
set_option maxRecDepth 100000 in
theorem cb_221_34 : mChk 221 34 bk_221_34 55 = true := by decide +kernel
def bk_221_55 : List mO := [(.return_, 0, 0, .null)]
set_option maxRecDepth 100000 in
theorem cb_221_55 : mChk 221 55 bk_221_55 56 = true := by decide +kernel
-- method 222: KeySealerModel.isContext(I)Z, locals 1, room (0, 0)
def bk_222_0 : List mO := [(.iload_n 0, 0, 0, .null), (.ifCond .lt 12, 13, 0, .null)]
set_option maxRecDepth 100000 in
theorem cb_222_0 : mChk 222 0 bk_222_0 4 = true := by decide +kernel
def bk_222_4 : List mO := [(.iload_n 0, 0, 0, .null), (.iconst 4, 0, 0, .int 4), (.if_icmp .ge 7, 13, 0, .null)]
set_option maxRecDepth 100000 in
theorem cb_222_4 : mChk 222 4 bk_222_4 9 = true := by decide +kernel
def bk_222_9 : List mO := [(.iconst 1, 0, 0, .int 1), (.goto 4, 14, 0, .null)]
set_option maxRecDepth 100000 in
theorem cb_222_9 : mChk 222 9 bk_222_9 13 = true := by decide +kernel
def bk_222_13 : List mO := [(.iconst 0, 0, 0, .int 0)]
set_option maxRecDepth 100000 in
theorem cb_222_13 : mChk 222 13 bk_222_13 14 = true := by decide +kernel
def bk_222_14 : List mO := [(.ireturn, 0, 0, .int 1)]
set_option maxRecDepth 100000 in
theorem cb_222_14 : mChk 222 14 bk_222_14 15 = true := by decide +kernel

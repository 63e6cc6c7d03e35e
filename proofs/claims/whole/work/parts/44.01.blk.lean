/-! PART 44.01: blocks of code and their checks, printed by program (wip/whole/mk13.py) -/
-- method 132: KeySealer.beginCipher(LKeySealer$Context;)LKeySealer$Cipher;, locals 3, room (4, 94)
def bk_132_0 : List mO := [(.aload_n 1, 1, 0, .null), (.aload_n 0, 0, 0, .null), (.getfield 63, 8, 9, .null), (.invokevirtual 304, 27, 1, .ref 1), (.aload_n 0, 0, 0, .null), (.aload_n 1, 1, 0, .null), (.getfield 257, 1, 6, .null), (.invokevirtual 193, 131, 1, .ref 8), (.astore_n 2, 2, 0, .null), (.aload_n 2, 2, 0, .null), (.aload_n 1, 1, 0, .null), (.getfield 288, 1, 0, .null), (.aload_n 0, 0, 0, .null), (.getfield 63, 8, 9, .null), (.invokevirtual 197, 1, 2, .long 76), (.aload_n 2, 2, 0, .null), (.areturn, 0, 0, .null)]
set_option maxRecDepth 100000 in
theorem cb_132_0 : mChk 132 0 bk_132_0 31 = true := by decide +kernel
-- method 133: KeySealer.agreeToSend(ZLKeySealer$Row;LKeySealer$Row;)Z, locals 5, room (6, 209)
def bk_133_0 : List mO := [(.aload_n 0, 0, 0, .null), (.iconst 3, 0, 0, .int 3), (.invokevirtual 300, 129, 1, .ref 8), (.astore 4, 4, 0, .null), (.aload_n 0, 0, 0, .null), (.getfield 66, 8, 10, .null), (.invokevirtual 97, 63, 0, .ref 6), (.aload_n 0, 0, 0, .null), (.getfield 35, 8, 4, .null), (.aload_n 2, 2, 0, .null), (.aload_n 3, 3, 0, .null), (.aload_n 0, 0, 0, .null), (.getfield 66, 8, 10, .null), (.invokevirtual 161, 29, 3, .ref 2), (.ifCond .eq 24, 51, 0, .null)]
set_option maxRecDepth 100000 in
theorem cb_133_0 : mChk 133 0 bk_133_0 30 = true := by decide +kernel
def bk_133_30 : List mO := [(.iload_n 1, 1, 0, .null), (.ifCond .eq 22, 53, 0, .null)]
set_option maxRecDepth 100000 in
theorem cb_133_30 : mChk 133 30 bk_133_30 34 = true := by decide +kernel
def bk_133_34 : List mO := [(.aload_n 0, 0, 0, .null), (.getfield 35, 8, 4, .null), (.aload 4, 4, 0, .null), (.aload_n 3, 3, 0, .null), (.aload_n 0, 0, 0, .null), (.getfield 66, 8, 10, .null), (.invokevirtual 161, 29, 3, .ref 2), (.ifCond .ne 5, 53, 0, .null)]
set_option maxRecDepth 100000 in
theorem cb_133_34 : mChk 133 34 bk_133_34 51 = true := by decide +kernel
def bk_133_51 : List mO := [(.iconst 0, 0, 0, .int 0), (.ireturn, 0, 0, .int 1)]
set_option maxRecDepth 100000 in
theorem cb_133_51 : mChk 133 51 bk_133_51 53 = true := by decide +kernel
def bk_133_53 : List mO := [(.aload_n 0, 0, 0, .null), (.getfield 69, 8, 11, .null), (.invokevirtual 97, 63, 0, .ref 6), (.aload_n 0, 0, 0, .null), (.getfield 35, 8, 4, .null), (.aload_n 2, 2, 0, .null), (.aload_n 0, 0, 0, .null), (.getfield 69, 8, 11, .null), (.invokevirtual 165, 30, 2, .ref 2), (.aload_n 0, 0, 0, .null), (.getfield 69, 8, 11, .null), (.aload_n 3, 3, 0, .null), (.invokevirtual 112, 72, 1, .ref 6), (.iload_n 1, 1, 0, .null), (.ifCond .eq 16, 97, 0, .null)]
set_option maxRecDepth 100000 in
theorem cb_133_53 : mChk 133 53 bk_133_53 84 = true := by decide +kernel
def bk_133_84 : List mO := [(.aload_n 0, 0, 0, .null), (.getfield 35, 8, 4, .null), (.aload 4, 4, 0, .null), (.aload_n 0, 0, 0, .null), (.getfield 69, 8, 11, .null), (.invokevirtual 165, 30, 2, .ref 2)]
set_option maxRecDepth 100000 in
theorem cb_133_84 : mChk 133 84 bk_133_84 97 = true := by decide +kernel
def bk_133_97 : List mO := [(.iconst 1, 0, 0, .int 1), (.ireturn, 0, 0, .int 1)]
set_option maxRecDepth 100000 in
theorem cb_133_97 : mChk 133 97 bk_133_97 99 = true := by decide +kernel
-- method 134: KeySealer.agreeToReceive(ZLKeySealer$Row;LKeySealer$Row;)Z, locals 5, room (6, 209)
def bk_134_0 : List mO := [(.aload_n 0, 0, 0, .null), (.iconst 4, 0, 0, .int 4), (.invokevirtual 300, 129, 1, .ref 8), (.astore 4, 4, 0, .null), (.aload_n 0, 0, 0, .null), (.getfield 66, 8, 10, .null), (.invokevirtual 97, 63, 0, .ref 6), (.aload_n 0, 0, 0, .null), (.getfield 35, 8, 4, .null), (.aload_n 3, 3, 0, .null), (.aload_n 2, 2, 0, .null), (.aload_n 0, 0, 0, .null), (.getfield 66, 8, 10, .null), (.invokevirtual 161, 29, 3, .ref 2), (.ifCond .eq 24, 51, 0, .null)]
set_option maxRecDepth 100000 in
theorem cb_134_0 : mChk 134 0 bk_134_0 30 = true := by decide +kernel
def bk_134_30 : List mO := [(.iload_n 1, 1, 0, .null), (.ifCond .eq 22, 53, 0, .null)]
set_option maxRecDepth 100000 in
theorem cb_134_30 : mChk 134 30 bk_134_30 34 = true := by decide +kernel
def bk_134_34 : List mO := [(.aload_n 0, 0, 0, .null), (.getfield 35, 8, 4, .null), (.aload_n 3, 3, 0, .null), (.aload 4, 4, 0, .null), (.aload_n 0, 0, 0, .null), (.getfield 66, 8, 10, .null), (.invokevirtual 161, 29, 3, .ref 2), (.ifCond .ne 5, 53, 0, .null)]
set_option maxRecDepth 100000 in
theorem cb_134_34 : mChk 134 34 bk_134_34 51 = true := by decide +kernel
def bk_134_51 : List mO := [(.iconst 0, 0, 0, .int 0), (.ireturn, 0, 0, .int 1)]
set_option maxRecDepth 100000 in
theorem cb_134_51 : mChk 134 51 bk_134_51 53 = true := by decide +kernel
def bk_134_53 : List mO := [(.aload_n 0, 0, 0, .null), (.getfield 69, 8, 11, .null), (.invokevirtual 97, 63, 0, .ref 6), (.aload_n 0, 0, 0, .null), (.getfield 69, 8, 11, .null), (.aload_n 2, 2, 0, .null), (.invokevirtual 112, 72, 1, .ref 6), (.aload_n 0, 0, 0, .null), (.getfield 35, 8, 4, .null), (.aload_n 3, 3, 0, .null), (.aload_n 0, 0, 0, .null), (.getfield 69, 8, 11, .null), (.invokevirtual 165, 30, 2, .ref 2), (.iload_n 1, 1, 0, .null), (.ifCond .eq 12, 93, 0, .null)]
set_option maxRecDepth 100000 in
theorem cb_134_53 : mChk 134 53 bk_134_53 84 = true := by decide +kernel
def bk_134_84 : List mO := [(.aload_n 0, 0, 0, .null), (.getfield 69, 8, 11, .null), (.aload 4, 4, 0, .null), (.invokevirtual 112, 72, 1, .ref 6)]
set_option maxRecDepth 100000 in
theorem cb_134_84 : mChk 134 84 bk_134_84 93 = true := by decide +kernel
def bk_134_93 : List mO := [(.iconst 1, 0, 0, .int 1), (.ireturn, 0, 0, .int 1)]
set_option maxRecDepth 100000 in
theorem cb_134_93 : mChk 134 93 bk_134_93 95 = true := by decide +kernel
-- method 135: KeySealer.fillContext(LKeySealer$Context;)V, locals 2, room (7, 174)
def bk_135_0 : List mO := [(.aload_n 0, 0, 0, .null), (.getfield 28, 8, 3, .null), (.invokevirtual 169, 57, 0, .ref 5), (.aload_n 0, 0, 0, .null), (.getfield 28, 8, 3, .null), (.aload_n 0, 0, 0, .null), (.getfield 56, 8, 7, .null), (.ldc_w 307, 0, 0, .ref 2000004), (.aload_n 0, 0, 0, .null), (.getfield 66, 8, 10, .null), (.aload_n 0, 0, 0, .null), (.getfield 72, 8, 12, .null), (.invokevirtual 174, 59, 4, .ref 5), (.aload_n 0, 0, 0, .null), (.getfield 28, 8, 3, .null), (.aload_n 0, 0, 0, .null), (.getfield 72, 8, 12, .null), (.ldc_w 309, 0, 0, .ref 2000005), (.aload_n 0, 0, 0, .null), (.getfield 69, 8, 11, .null), (.bipush 32, 0, 0, .int 32), (.aload_n 0, 0, 0, .null), (.getfield 75, 8, 13, .null), (.invokevirtual 180, 60, 5, .ref 5), (.aload_n 0, 0, 0, .null), (.getfield 28, 8, 3, .null), (.aload_n 1, 1, 0, .null), (.getfield 254, 1, 5, .null), (.aload_n 1, 1, 0, .null), (.getfield 257, 1, 6, .null), (.invokevirtual 260, 58, 2, .ref 5), (.aload_n 0, 0, 0, .null), (.getfield 78, 8, 14, .null), (.invokevirtual 97, 63, 0, .ref 6), (.aload_n 0, 0, 0, .null), (.getfield 78, 8, 14, .null), (.aload_n 1, 1, 0, .null), (.getfield 276, 1, 4, .null), (.i2l, 0, 0, .null), (.iconst 1, 0, 0, .int 1), (.invokevirtual 89, 69, 2, .ref 6), (.aload_n 0, 0, 0, .null), (.getfield 28, 8, 3, .null), (.aload_n 0, 0, 0, .null), (.getfield 56, 8, 7, .null), (.ldc_w 311, 0, 0, .ref 2000007), (.aload_n 0, 0, 0, .null), (.iconst 2, 0, 0, .int 2), (.invokevirtual 300, 129, 1, .ref 8), (.aload_n 0, 0, 0, .null), (.getfield 72, 8, 12, .null), (.invokevirtual 174, 59, 4, .ref 5), (.aload_n 0, 0, 0, .null), (.getfield 78, 8, 14, .null), (.aload_n 0, 0, 0, .null), (.getfield 72, 8, 12, .null), (.invokevirtual 112, 72, 1, .ref 6), (.aload_n 0, 0, 0, .null), (.getfield 28, 8, 3, .null), (.aload_n 0, 0, 0, .null), (.getfield 56, 8, 7, .null), (.ldc_w 313, 0, 0, .ref 2000008), (.aload_n 0, 0, 0, .null), (.iconst 0, 0, 0, .int 0), (.invokevirtual 300, 129, 1, .ref 8), (.aload_n 0, 0, 0, .null), (.getfield 72, 8, 12, .null), (.invokevirtual 174, 59, 4, .ref 5), (.aload_n 0, 0, 0, .null), (.getfield 78, 8, 14, .null), (.aload_n 0, 0, 0, .null), (.getfield 72, 8, 12, .null), (.invokevirtual 112, 72, 1, .ref 6), (.aload_n 0, 0, 0, .null), (.getfield 28, 8, 3, .null), (.aload_n 0, 0, 0, .null), (.getfield 75, 8, 13, .null), (.ldc_w 315, 0, 0, .ref 2000009), (.aload_n 0, 0, 0, .null), (.iconst 1, 0, 0, .int 1), (.invokevirtual 300, 129, 1, .ref 8), (.aload_n 0, 0, 0, .null), (.getfield 72, 8, 12, .null), (.invokevirtual 174, 59, 4, .ref 5), (.aload_n 0, 0, 0, .null), (.getfield 28, 8, 3, .null), (.aload_n 0, 0, 0, .null), (.getfield 72, 8, 12, .null), (.ldc_w 317, 0, 0, .ref 2000010), (.aload_n 0, 0, 0, .null), (.getfield 78, 8, 14, .null), (.aload_n 1, 1, 0, .null), (.getfield 257, 1, 6, .null), (.invokestatic 297, 121, 1, .null), (.aload_n 1, 1, 0, .null), (.getfield 288, 1, 0, .null), (.invokevirtual 180, 60, 5, .ref 5), (.aload_n 0, 0, 0, .null), (.getfield 28, 8, 3, .null), (.aload_n 0, 0, 0, .null), (.getfield 72, 8, 12, .null), (.ldc_w 318, 0, 0, .ref 2000011), (.aload_n 0, 0, 0, .null), (.getfield 78, 8, 14, .null), (.aload_n 1, 1, 0, .null), (.getfield 257, 1, 6, .null), (.sipush 255, 0, 0, .int 255), (.if_icmp .ne 7, 237, 0, .null)]
set_option maxRecDepth 100000 in
theorem cb_135_0 : mChk 135 0 bk_135_0 233 = true := by decide +kernel
def bk_135_233 : List mO := [(.iconst 0, 0, 0, .int 0), (.goto 5, 239, 0, .null)]
set_option maxRecDepth 100000 in
theorem cb_135_233 : mChk 135 233 bk_135_233 237 = true := by decide +kernel
def bk_135_237 : List mO := [(.bipush 12, 0, 0, .int 12)]
set_option maxRecDepth 100000 in
theorem cb_135_237 : mChk 135 237 bk_135_237 239 = true := by decide +kernel
def bk_135_239 : List mO := [(.aload_n 1, 1, 0, .null), (.getfield 291, 1, 1, .null), (.invokevirtual 180, 60, 5, .ref 5), (.aload_n 0, 0, 0, .null), (.getfield 28, 8, 3, .null), (.aload_n 0, 0, 0, .null), (.getfield 72, 8, 12, .null), (.ldc_w 320, 0, 0, .ref 2000012), (.aload_n 0, 0, 0, .null), (.getfield 78, 8, 14, .null), (.aload_n 1, 1, 0, .null), (.getfield 254, 1, 5, .null), (.iconst 3, 0, 0, .int 3), (.if_icmp .ne 8, 274, 0, .null)]
set_option maxRecDepth 100000 in
theorem cb_135_239 : mChk 135 239 bk_135_239 269 = true := by decide +kernel
def bk_135_269 : List mO := [(.bipush 64, 0, 0, .int 64), (.goto 5, 276, 0, .null)]
set_option maxRecDepth 100000 in
theorem cb_135_269 : mChk 135 269 bk_135_269 274 = true := by decide +kernel
def bk_135_274 : List mO := [(.bipush 32, 0, 0, .int 32)]
set_option maxRecDepth 100000 in
theorem cb_135_274 : mChk 135 274 bk_135_274 276 = true := by decide +kernel
def bk_135_276 : List mO := [(.aload_n 1, 1, 0, .null), (.getfield 264, 1, 2, .null), (.invokevirtual 180, 60, 5, .ref 5), (.return_, 0, 0, .null)]
set_option maxRecDepth 100000 in
theorem cb_135_276 : mChk 135 276 bk_135_276 284 = true := by decide +kernel

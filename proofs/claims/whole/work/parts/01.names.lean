-- ===== PART A: goes FIRST, ahead of the names: the tables' words, and 'selects' of the private methods out of them =====
/-- a private method of a class that the tables say can be made, by its rows of tables_1 -/
def lw_okq (q : MethodName × Nat) : Prop := (q.1.cls ≠ "java/lang/invoke/MethodHandle" ∧ q.1.cls ≠ "java/lang/invoke/VarHandle") ∧ Cond.instantiable q.1.cls q.2 ∈ tables_1 ∧ Cond.privateMethod q.1 ∈ tables_1 ∧ Cond.instanceMethod q.1 ∈ tables_1
theorem lw_p0 : lw_okq (⟨"KeySealer$BlockCipher", "fillSub", "()V"⟩, 12) := ⟨⟨by decide +kernel, by decide +kernel⟩, List.mem_of_getElem? (i := 175) (by decide +kernel), List.mem_of_getElem? (i := 189) (by decide +kernel), List.mem_of_getElem? (i := 190) (by decide +kernel)⟩
theorem lw_p1 : lw_okq (⟨"KeySealer", "give", "(I)I"⟩, 15) := ⟨⟨by decide +kernel, by decide +kernel⟩, List.mem_of_getElem? (i := 19) (by decide +kernel), List.mem_of_getElem? (i := 413) (by decide +kernel), List.mem_of_getElem? (i := 414) (by decide +kernel)⟩
theorem lw_p2 : lw_okq (⟨"KeySealer$Digest", "stretchWords", "()V"⟩, 8) := ⟨⟨by decide +kernel, by decide +kernel⟩, List.mem_of_getElem? (i := 43) (by decide +kernel), List.mem_of_getElem? (i := 478) (by decide +kernel), List.mem_of_getElem? (i := 479) (by decide +kernel)⟩
theorem lw_p3 : lw_okq (⟨"KeySealer$Digest", "mixWords", "()V"⟩, 8) := ⟨⟨by decide +kernel, by decide +kernel⟩, List.mem_of_getElem? (i := 43) (by decide +kernel), List.mem_of_getElem? (i := 486) (by decide +kernel), List.mem_of_getElem? (i := 487) (by decide +kernel)⟩
theorem lw_p4 : lw_okq (⟨"KeySealer$Keyed", "beginHalf", "(I)V"⟩, 5) := ⟨⟨by decide +kernel, by decide +kernel⟩, List.mem_of_getElem? (i := 37) (by decide +kernel), List.mem_of_getElem? (i := 511) (by decide +kernel), List.mem_of_getElem? (i := 512) (by decide +kernel)⟩
theorem lw_p5 : lw_okq (⟨"KeySealer", "holdsKey", "(I)Z"⟩, 15) := ⟨⟨by decide +kernel, by decide +kernel⟩, List.mem_of_getElem? (i := 19) (by decide +kernel), List.mem_of_getElem? (i := 541) (by decide +kernel), List.mem_of_getElem? (i := 542) (by decide +kernel)⟩
theorem lw_p6 : lw_okq (⟨"KeySealer$Curve", "readLimbs", "(LKeySealer$Row;)V"⟩, 11) := ⟨⟨by decide +kernel, by decide +kernel⟩, List.mem_of_getElem? (i := 133) (by decide +kernel), List.mem_of_getElem? (i := 549) (by decide +kernel), List.mem_of_getElem? (i := 550) (by decide +kernel)⟩
theorem lw_p7 : lw_okq (⟨"KeySealer$Curve", "climb", "(LKeySealer$Row;)V"⟩, 11) := ⟨⟨by decide +kernel, by decide +kernel⟩, List.mem_of_getElem? (i := 133) (by decide +kernel), List.mem_of_getElem? (i := 560) (by decide +kernel), List.mem_of_getElem? (i := 561) (by decide +kernel)⟩
theorem lw_p8 : lw_okq (⟨"KeySealer$Curve", "step", "([J[J[J[J)V"⟩, 11) := ⟨⟨by decide +kernel, by decide +kernel⟩, List.mem_of_getElem? (i := 133) (by decide +kernel), List.mem_of_getElem? (i := 571) (by decide +kernel), List.mem_of_getElem? (i := 572) (by decide +kernel)⟩
theorem lw_p9 : lw_okq (⟨"KeySealer$Curve", "invert", "([J)V"⟩, 11) := ⟨⟨by decide +kernel, by decide +kernel⟩, List.mem_of_getElem? (i := 133) (by decide +kernel), List.mem_of_getElem? (i := 586) (by decide +kernel), List.mem_of_getElem? (i := 587) (by decide +kernel)⟩
theorem lw_p10 : lw_okq (⟨"KeySealer$Curve", "raise", "([J[JI[J)V"⟩, 11) := ⟨⟨by decide +kernel, by decide +kernel⟩, List.mem_of_getElem? (i := 133) (by decide +kernel), List.mem_of_getElem? (i := 590) (by decide +kernel), List.mem_of_getElem? (i := 591) (by decide +kernel)⟩
theorem lw_p11 : lw_okq (⟨"KeySealer$Curve", "writeLimbs", "([J)V"⟩, 11) := ⟨⟨by decide +kernel, by decide +kernel⟩, List.mem_of_getElem? (i := 133) (by decide +kernel), List.mem_of_getElem? (i := 594) (by decide +kernel), List.mem_of_getElem? (i := 595) (by decide +kernel)⟩
theorem lw_p12 : lw_okq (⟨"KeySealer$Labels", "putLabel", "(Ljava/lang/String;)V"⟩, 4) := ⟨⟨by decide +kernel, by decide +kernel⟩, List.mem_of_getElem? (i := 31) (by decide +kernel), List.mem_of_getElem? (i := 683) (by decide +kernel), List.mem_of_getElem? (i := 684) (by decide +kernel)⟩
theorem lw_p13 : lw_okq (⟨"KeySealer", "isLocking", "(III)Z"⟩, 15) := ⟨⟨by decide +kernel, by decide +kernel⟩, List.mem_of_getElem? (i := 19) (by decide +kernel), List.mem_of_getElem? (i := 702) (by decide +kernel), List.mem_of_getElem? (i := 703) (by decide +kernel)⟩
theorem lw_p14 : lw_okq (⟨"KeySealer", "fitsWithTag", "(I)Z"⟩, 15) := ⟨⟨by decide +kernel, by decide +kernel⟩, List.mem_of_getElem? (i := 19) (by decide +kernel), List.mem_of_getElem? (i := 712) (by decide +kernel), List.mem_of_getElem? (i := 713) (by decide +kernel)⟩
theorem lw_p15 : lw_okq (⟨"KeySealer", "cipherOf", "(I)LKeySealer$Cipher;"⟩, 15) := ⟨⟨by decide +kernel, by decide +kernel⟩, List.mem_of_getElem? (i := 19) (by decide +kernel), List.mem_of_getElem? (i := 716) (by decide +kernel), List.mem_of_getElem? (i := 717) (by decide +kernel)⟩
def lw_privs_1 : List (MethodName × Nat) := [(⟨"KeySealer$BlockCipher", "fillSub", "()V"⟩, 12), (⟨"KeySealer", "give", "(I)I"⟩, 15), (⟨"KeySealer$Digest", "stretchWords", "()V"⟩, 8), (⟨"KeySealer$Digest", "mixWords", "()V"⟩, 8), (⟨"KeySealer$Keyed", "beginHalf", "(I)V"⟩, 5), (⟨"KeySealer", "holdsKey", "(I)Z"⟩, 15), (⟨"KeySealer$Curve", "readLimbs", "(LKeySealer$Row;)V"⟩, 11), (⟨"KeySealer$Curve", "climb", "(LKeySealer$Row;)V"⟩, 11), (⟨"KeySealer$Curve", "step", "([J[J[J[J)V"⟩, 11), (⟨"KeySealer$Curve", "invert", "([J)V"⟩, 11), (⟨"KeySealer$Curve", "raise", "([J[JI[J)V"⟩, 11), (⟨"KeySealer$Curve", "writeLimbs", "([J)V"⟩, 11), (⟨"KeySealer$Labels", "putLabel", "(Ljava/lang/String;)V"⟩, 4), (⟨"KeySealer", "isLocking", "(III)Z"⟩, 15), (⟨"KeySealer", "fitsWithTag", "(I)Z"⟩, 15), (⟨"KeySealer", "cipherOf", "(I)LKeySealer$Cipher;"⟩, 15)]
theorem lw_r1 : ∀ q ∈ lw_privs_1, lw_okq q := List.forall_mem_cons.mpr ⟨lw_p0, List.forall_mem_cons.mpr ⟨lw_p1, List.forall_mem_cons.mpr ⟨lw_p2, List.forall_mem_cons.mpr ⟨lw_p3, List.forall_mem_cons.mpr ⟨lw_p4, List.forall_mem_cons.mpr ⟨lw_p5, List.forall_mem_cons.mpr ⟨lw_p6, List.forall_mem_cons.mpr ⟨lw_p7, List.forall_mem_cons.mpr ⟨lw_p8, List.forall_mem_cons.mpr ⟨lw_p9, List.forall_mem_cons.mpr ⟨lw_p10, List.forall_mem_cons.mpr ⟨lw_p11, List.forall_mem_cons.mpr ⟨lw_p12, List.forall_mem_cons.mpr ⟨lw_p13, List.forall_mem_cons.mpr ⟨lw_p14, List.forall_mem_cons.mpr ⟨lw_p15, fun _ h => absurd h List.not_mem_nil⟩⟩⟩⟩⟩⟩⟩⟩⟩⟩⟩⟩⟩⟩⟩⟩
theorem lw_p16 : lw_okq (⟨"KeySealer$BlockCipher", "stretchKey", "(LKeySealer$Row;)V"⟩, 12) := ⟨⟨by decide +kernel, by decide +kernel⟩, List.mem_of_getElem? (i := 175) (by decide +kernel), List.mem_of_getElem? (i := 726) (by decide +kernel), List.mem_of_getElem? (i := 727) (by decide +kernel)⟩
theorem lw_p17 : lw_okq (⟨"KeySealer$BlockCipher", "subWord", "(I)I"⟩, 12) := ⟨⟨by decide +kernel, by decide +kernel⟩, List.mem_of_getElem? (i := 175) (by decide +kernel), List.mem_of_getElem? (i := 731) (by decide +kernel), List.mem_of_getElem? (i := 732) (by decide +kernel)⟩
theorem lw_p18 : lw_okq (⟨"KeySealer$BlockCipher", "encipher", "()V"⟩, 12) := ⟨⟨by decide +kernel, by decide +kernel⟩, List.mem_of_getElem? (i := 175) (by decide +kernel), List.mem_of_getElem? (i := 736) (by decide +kernel), List.mem_of_getElem? (i := 737) (by decide +kernel)⟩
theorem lw_p19 : lw_okq (⟨"KeySealer$BlockCipher", "mixKey", "(I)V"⟩, 12) := ⟨⟨by decide +kernel, by decide +kernel⟩, List.mem_of_getElem? (i := 175) (by decide +kernel), List.mem_of_getElem? (i := 740) (by decide +kernel), List.mem_of_getElem? (i := 741) (by decide +kernel)⟩
theorem lw_p20 : lw_okq (⟨"KeySealer$BlockCipher", "mixColumns", "()V"⟩, 12) := ⟨⟨by decide +kernel, by decide +kernel⟩, List.mem_of_getElem? (i := 175) (by decide +kernel), List.mem_of_getElem? (i := 744) (by decide +kernel), List.mem_of_getElem? (i := 745) (by decide +kernel)⟩
theorem lw_p21 : lw_okq (⟨"KeySealer$StreamCipher", "fillBlock", "(I)V"⟩, 9) := ⟨⟨by decide +kernel, by decide +kernel⟩, List.mem_of_getElem? (i := 245) (by decide +kernel), List.mem_of_getElem? (i := 763) (by decide +kernel), List.mem_of_getElem? (i := 764) (by decide +kernel)⟩
theorem lw_p22 : lw_okq (⟨"KeySealer$StreamCipher", "quarter", "(IIII)V"⟩, 9) := ⟨⟨by decide +kernel, by decide +kernel⟩, List.mem_of_getElem? (i := 245) (by decide +kernel), List.mem_of_getElem? (i := 768) (by decide +kernel), List.mem_of_getElem? (i := 769) (by decide +kernel)⟩
theorem lw_p23 : lw_okq (⟨"KeySealer$BlockCipher", "fillBlock", "(I)V"⟩, 12) := ⟨⟨by decide +kernel, by decide +kernel⟩, List.mem_of_getElem? (i := 175) (by decide +kernel), List.mem_of_getElem? (i := 799) (by decide +kernel), List.mem_of_getElem? (i := 800) (by decide +kernel)⟩
theorem lw_p24 : lw_okq (⟨"KeySealer$BlockCipher", "multiply", "(JJ)V"⟩, 12) := ⟨⟨by decide +kernel, by decide +kernel⟩, List.mem_of_getElem? (i := 175) (by decide +kernel), List.mem_of_getElem? (i := 822) (by decide +kernel), List.mem_of_getElem? (i := 823) (by decide +kernel)⟩
theorem lw_p25 : lw_okq (⟨"KeySealer$StreamCipher", "multiply", "(JJ)V"⟩, 9) := ⟨⟨by decide +kernel, by decide +kernel⟩, List.mem_of_getElem? (i := 245) (by decide +kernel), List.mem_of_getElem? (i := 830) (by decide +kernel), List.mem_of_getElem? (i := 831) (by decide +kernel)⟩
theorem lw_p26 : lw_okq (⟨"KeySealer$StreamCipher", "reduce", "()V"⟩, 9) := ⟨⟨by decide +kernel, by decide +kernel⟩, List.mem_of_getElem? (i := 245) (by decide +kernel), List.mem_of_getElem? (i := 860) (by decide +kernel), List.mem_of_getElem? (i := 861) (by decide +kernel)⟩
theorem lw_p27 : lw_okq (⟨"KeySealer", "lastingFits", "(II)Z"⟩, 15) := ⟨⟨by decide +kernel, by decide +kernel⟩, List.mem_of_getElem? (i := 19) (by decide +kernel), List.mem_of_getElem? (i := 892) (by decide +kernel), List.mem_of_getElem? (i := 893) (by decide +kernel)⟩
theorem lw_p28 : lw_okq (⟨"KeySealer", "usedRow", "(I)LKeySealer$Row;"⟩, 15) := ⟨⟨by decide +kernel, by decide +kernel⟩, List.mem_of_getElem? (i := 19) (by decide +kernel), List.mem_of_getElem? (i := 899) (by decide +kernel), List.mem_of_getElem? (i := 900) (by decide +kernel)⟩
theorem lw_p29 : lw_okq (⟨"KeySealer", "sharedFits", "(I)Z"⟩, 15) := ⟨⟨by decide +kernel, by decide +kernel⟩, List.mem_of_getElem? (i := 19) (by decide +kernel), List.mem_of_getElem? (i := 903) (by decide +kernel), List.mem_of_getElem? (i := 904) (by decide +kernel)⟩
theorem lw_p30 : lw_okq (⟨"KeySealer", "agreeToSend", "(ZLKeySealer$Row;LKeySealer$Row;)Z"⟩, 15) := ⟨⟨by decide +kernel, by decide +kernel⟩, List.mem_of_getElem? (i := 19) (by decide +kernel), List.mem_of_getElem? (i := 907) (by decide +kernel), List.mem_of_getElem? (i := 908) (by decide +kernel)⟩
theorem lw_p31 : lw_okq (⟨"KeySealer", "fillContext", "(LKeySealer$Context;)V"⟩, 15) := ⟨⟨by decide +kernel, by decide +kernel⟩, List.mem_of_getElem? (i := 19) (by decide +kernel), List.mem_of_getElem? (i := 919) (by decide +kernel), List.mem_of_getElem? (i := 920) (by decide +kernel)⟩
def lw_privs_2 : List (MethodName × Nat) := [(⟨"KeySealer$BlockCipher", "stretchKey", "(LKeySealer$Row;)V"⟩, 12), (⟨"KeySealer$BlockCipher", "subWord", "(I)I"⟩, 12), (⟨"KeySealer$BlockCipher", "encipher", "()V"⟩, 12), (⟨"KeySealer$BlockCipher", "mixKey", "(I)V"⟩, 12), (⟨"KeySealer$BlockCipher", "mixColumns", "()V"⟩, 12), (⟨"KeySealer$StreamCipher", "fillBlock", "(I)V"⟩, 9), (⟨"KeySealer$StreamCipher", "quarter", "(IIII)V"⟩, 9), (⟨"KeySealer$BlockCipher", "fillBlock", "(I)V"⟩, 12), (⟨"KeySealer$BlockCipher", "multiply", "(JJ)V"⟩, 12), (⟨"KeySealer$StreamCipher", "multiply", "(JJ)V"⟩, 9), (⟨"KeySealer$StreamCipher", "reduce", "()V"⟩, 9), (⟨"KeySealer", "lastingFits", "(II)Z"⟩, 15), (⟨"KeySealer", "usedRow", "(I)LKeySealer$Row;"⟩, 15), (⟨"KeySealer", "sharedFits", "(I)Z"⟩, 15), (⟨"KeySealer", "agreeToSend", "(ZLKeySealer$Row;LKeySealer$Row;)Z"⟩, 15), (⟨"KeySealer", "fillContext", "(LKeySealer$Context;)V"⟩, 15)]
theorem lw_r2 : ∀ q ∈ lw_privs_2, lw_okq q := List.forall_mem_cons.mpr ⟨lw_p16, List.forall_mem_cons.mpr ⟨lw_p17, List.forall_mem_cons.mpr ⟨lw_p18, List.forall_mem_cons.mpr ⟨lw_p19, List.forall_mem_cons.mpr ⟨lw_p20, List.forall_mem_cons.mpr ⟨lw_p21, List.forall_mem_cons.mpr ⟨lw_p22, List.forall_mem_cons.mpr ⟨lw_p23, List.forall_mem_cons.mpr ⟨lw_p24, List.forall_mem_cons.mpr ⟨lw_p25, List.forall_mem_cons.mpr ⟨lw_p26, List.forall_mem_cons.mpr ⟨lw_p27, List.forall_mem_cons.mpr ⟨lw_p28, List.forall_mem_cons.mpr ⟨lw_p29, List.forall_mem_cons.mpr ⟨lw_p30, List.forall_mem_cons.mpr ⟨lw_p31, fun _ h => absurd h List.not_mem_nil⟩⟩⟩⟩⟩⟩⟩⟩⟩⟩⟩⟩⟩⟩⟩⟩
theorem lw_p32 : lw_okq (⟨"KeySealer", "agreeToReceive", "(ZLKeySealer$Row;LKeySealer$Row;)Z"⟩, 15) := ⟨⟨by decide +kernel, by decide +kernel⟩, List.mem_of_getElem? (i := 19) (by decide +kernel), List.mem_of_getElem? (i := 941) (by decide +kernel), List.mem_of_getElem? (i := 942) (by decide +kernel)⟩
theorem lw_p33 : lw_okq (⟨"KeySealer", "canCipher", "(II)Z"⟩, 15) := ⟨⟨by decide +kernel, by decide +kernel⟩, List.mem_of_getElem? (i := 19) (by decide +kernel), List.mem_of_getElem? (i := 949) (by decide +kernel), List.mem_of_getElem? (i := 950) (by decide +kernel)⟩
theorem lw_p34 : lw_okq (⟨"KeySealer", "beginCipher", "(LKeySealer$Context;)LKeySealer$Cipher;"⟩, 15) := ⟨⟨by decide +kernel, by decide +kernel⟩, List.mem_of_getElem? (i := 19) (by decide +kernel), List.mem_of_getElem? (i := 957) (by decide +kernel), List.mem_of_getElem? (i := 958) (by decide +kernel)⟩
theorem lw_p35 : lw_okq (⟨"KeySealer", "isBegun", "(I)Z"⟩, 15) := ⟨⟨by decide +kernel, by decide +kernel⟩, List.mem_of_getElem? (i := 19) (by decide +kernel), List.mem_of_getElem? (i := 980) (by decide +kernel), List.mem_of_getElem? (i := 981) (by decide +kernel)⟩
theorem lw_p36 : lw_okq (⟨"KeySealerModel", "makeSubs", "()V"⟩, 71) := ⟨⟨by decide +kernel, by decide +kernel⟩, List.mem_of_getElem? (i := 998) (by decide +kernel), List.mem_of_getElem? (i := 1005) (by decide +kernel), List.mem_of_getElem? (i := 1006) (by decide +kernel)⟩
theorem lw_p37 : lw_okq (⟨"KeySealerModel", "give", "(II)V"⟩, 71) := ⟨⟨by decide +kernel, by decide +kernel⟩, List.mem_of_getElem? (i := 998) (by decide +kernel), List.mem_of_getElem? (i := 1242) (by decide +kernel), List.mem_of_getElem? (i := 1243) (by decide +kernel)⟩
theorem lw_p38 : lw_okq (⟨"KeySealerModel", "digest", "(I)V"⟩, 71) := ⟨⟨by decide +kernel, by decide +kernel⟩, List.mem_of_getElem? (i := 998) (by decide +kernel), List.mem_of_getElem? (i := 1266) (by decide +kernel), List.mem_of_getElem? (i := 1267) (by decide +kernel)⟩
theorem lw_p39 : lw_okq (⟨"KeySealerModel", "doBlock", "(Z)V"⟩, 71) := ⟨⟨by decide +kernel, by decide +kernel⟩, List.mem_of_getElem? (i := 998) (by decide +kernel), List.mem_of_getElem? (i := 1272) (by decide +kernel), List.mem_of_getElem? (i := 1273) (by decide +kernel)⟩
theorem lw_p40 : lw_okq (⟨"KeySealerModel", "giveHash", "(II)V"⟩, 71) := ⟨⟨by decide +kernel, by decide +kernel⟩, List.mem_of_getElem? (i := 998) (by decide +kernel), List.mem_of_getElem? (i := 1292) (by decide +kernel), List.mem_of_getElem? (i := 1293) (by decide +kernel)⟩
theorem lw_p41 : lw_okq (⟨"KeySealerModel", "keyIs", "(I[III)V"⟩, 71) := ⟨⟨by decide +kernel, by decide +kernel⟩, List.mem_of_getElem? (i := 998) (by decide +kernel), List.mem_of_getElem? (i := 1303) (by decide +kernel), List.mem_of_getElem? (i := 1304) (by decide +kernel)⟩
theorem lw_p42 : lw_okq (⟨"KeySealerModel", "buildReg", "(I)V"⟩, 71) := ⟨⟨by decide +kernel, by decide +kernel⟩, List.mem_of_getElem? (i := 998) (by decide +kernel), List.mem_of_getElem? (i := 1307) (by decide +kernel), List.mem_of_getElem? (i := 1308) (by decide +kernel)⟩
theorem lw_p43 : lw_okq (⟨"KeySealerModel", "buildPart", "([III)V"⟩, 71) := ⟨⟨by decide +kernel, by decide +kernel⟩, List.mem_of_getElem? (i := 998) (by decide +kernel), List.mem_of_getElem? (i := 1311) (by decide +kernel), List.mem_of_getElem? (i := 1312) (by decide +kernel)⟩
theorem lw_p44 : lw_okq (⟨"KeySealerModel", "build", "(I)V"⟩, 71) := ⟨⟨by decide +kernel, by decide +kernel⟩, List.mem_of_getElem? (i := 998) (by decide +kernel), List.mem_of_getElem? (i := 1315) (by decide +kernel), List.mem_of_getElem? (i := 1316) (by decide +kernel)⟩
theorem lw_p45 : lw_okq (⟨"KeySealerModel", "keyed", "(I)V"⟩, 71) := ⟨⟨by decide +kernel, by decide +kernel⟩, List.mem_of_getElem? (i := 998) (by decide +kernel), List.mem_of_getElem? (i := 1319) (by decide +kernel), List.mem_of_getElem? (i := 1320) (by decide +kernel)⟩
theorem lw_p46 : lw_okq (⟨"KeySealerModel", "aboutIsBuilt", "()V"⟩, 71) := ⟨⟨by decide +kernel, by decide +kernel⟩, List.mem_of_getElem? (i := 998) (by decide +kernel), List.mem_of_getElem? (i := 1327) (by decide +kernel), List.mem_of_getElem? (i := 1328) (by decide +kernel)⟩
theorem lw_p47 : lw_okq (⟨"KeySealerModel", "expandTo", "(II)V"⟩, 71) := ⟨⟨by decide +kernel, by decide +kernel⟩, List.mem_of_getElem? (i := 998) (by decide +kernel), List.mem_of_getElem? (i := 1331) (by decide +kernel), List.mem_of_getElem? (i := 1332) (by decide +kernel)⟩
def lw_privs_3 : List (MethodName × Nat) := [(⟨"KeySealer", "agreeToReceive", "(ZLKeySealer$Row;LKeySealer$Row;)Z"⟩, 15), (⟨"KeySealer", "canCipher", "(II)Z"⟩, 15), (⟨"KeySealer", "beginCipher", "(LKeySealer$Context;)LKeySealer$Cipher;"⟩, 15), (⟨"KeySealer", "isBegun", "(I)Z"⟩, 15), (⟨"KeySealerModel", "makeSubs", "()V"⟩, 71), (⟨"KeySealerModel", "give", "(II)V"⟩, 71), (⟨"KeySealerModel", "digest", "(I)V"⟩, 71), (⟨"KeySealerModel", "doBlock", "(Z)V"⟩, 71), (⟨"KeySealerModel", "giveHash", "(II)V"⟩, 71), (⟨"KeySealerModel", "keyIs", "(I[III)V"⟩, 71), (⟨"KeySealerModel", "buildReg", "(I)V"⟩, 71), (⟨"KeySealerModel", "buildPart", "([III)V"⟩, 71), (⟨"KeySealerModel", "build", "(I)V"⟩, 71), (⟨"KeySealerModel", "keyed", "(I)V"⟩, 71), (⟨"KeySealerModel", "aboutIsBuilt", "()V"⟩, 71), (⟨"KeySealerModel", "expandTo", "(II)V"⟩, 71)]
theorem lw_r3 : ∀ q ∈ lw_privs_3, lw_okq q := List.forall_mem_cons.mpr ⟨lw_p32, List.forall_mem_cons.mpr ⟨lw_p33, List.forall_mem_cons.mpr ⟨lw_p34, List.forall_mem_cons.mpr ⟨lw_p35, List.forall_mem_cons.mpr ⟨lw_p36, List.forall_mem_cons.mpr ⟨lw_p37, List.forall_mem_cons.mpr ⟨lw_p38, List.forall_mem_cons.mpr ⟨lw_p39, List.forall_mem_cons.mpr ⟨lw_p40, List.forall_mem_cons.mpr ⟨lw_p41, List.forall_mem_cons.mpr ⟨lw_p42, List.forall_mem_cons.mpr ⟨lw_p43, List.forall_mem_cons.mpr ⟨lw_p44, List.forall_mem_cons.mpr ⟨lw_p45, List.forall_mem_cons.mpr ⟨lw_p46, List.forall_mem_cons.mpr ⟨lw_p47, fun _ h => absurd h List.not_mem_nil⟩⟩⟩⟩⟩⟩⟩⟩⟩⟩⟩⟩⟩⟩⟩⟩
theorem lw_p48 : lw_okq (⟨"KeySealerModel", "isKey", "(I)Z"⟩, 71) := ⟨⟨by decide +kernel, by decide +kernel⟩, List.mem_of_getElem? (i := 998) (by decide +kernel), List.mem_of_getElem? (i := 1339) (by decide +kernel), List.mem_of_getElem? (i := 1340) (by decide +kernel)⟩
theorem lw_p49 : lw_okq (⟨"KeySealerModel", "first", "([II)V"⟩, 71) := ⟨⟨by decide +kernel, by decide +kernel⟩, List.mem_of_getElem? (i := 998) (by decide +kernel), List.mem_of_getElem? (i := 1343) (by decide +kernel), List.mem_of_getElem? (i := 1344) (by decide +kernel)⟩
theorem lw_p50 : lw_okq (⟨"KeySealerModel", "second", "([II)V"⟩, 71) := ⟨⟨by decide +kernel, by decide +kernel⟩, List.mem_of_getElem? (i := 998) (by decide +kernel), List.mem_of_getElem? (i := 1347) (by decide +kernel), List.mem_of_getElem? (i := 1348) (by decide +kernel)⟩
theorem lw_p51 : lw_okq (⟨"KeySealerModel", "agreed", "()V"⟩, 71) := ⟨⟨by decide +kernel, by decide +kernel⟩, List.mem_of_getElem? (i := 998) (by decide +kernel), List.mem_of_getElem? (i := 1351) (by decide +kernel), List.mem_of_getElem? (i := 1352) (by decide +kernel)⟩
theorem lw_p52 : lw_okq (⟨"KeySealerModel", "times", "([J[J[J)V"⟩, 71) := ⟨⟨by decide +kernel, by decide +kernel⟩, List.mem_of_getElem? (i := 998) (by decide +kernel), List.mem_of_getElem? (i := 1370) (by decide +kernel), List.mem_of_getElem? (i := 1371) (by decide +kernel)⟩
theorem lw_p53 : lw_okq (⟨"KeySealerModel", "invert", "()V"⟩, 71) := ⟨⟨by decide +kernel, by decide +kernel⟩, List.mem_of_getElem? (i := 998) (by decide +kernel), List.mem_of_getElem? (i := 1378) (by decide +kernel), List.mem_of_getElem? (i := 1379) (by decide +kernel)⟩
theorem lw_p54 : lw_okq (⟨"KeySealerModel", "pack", "()V"⟩, 71) := ⟨⟨by decide +kernel, by decide +kernel⟩, List.mem_of_getElem? (i := 998) (by decide +kernel), List.mem_of_getElem? (i := 1382) (by decide +kernel), List.mem_of_getElem? (i := 1383) (by decide +kernel)⟩
theorem lw_p55 : lw_okq (⟨"KeySealerModel", "isZero", "()Z"⟩, 71) := ⟨⟨by decide +kernel, by decide +kernel⟩, List.mem_of_getElem? (i := 998) (by decide +kernel), List.mem_of_getElem? (i := 1389) (by decide +kernel), List.mem_of_getElem? (i := 1390) (by decide +kernel)⟩
theorem lw_p56 : lw_okq (⟨"KeySealerModel", "giveKey", "(I)I"⟩, 71) := ⟨⟨by decide +kernel, by decide +kernel⟩, List.mem_of_getElem? (i := 998) (by decide +kernel), List.mem_of_getElem? (i := 1393) (by decide +kernel), List.mem_of_getElem? (i := 1394) (by decide +kernel)⟩
theorem lw_p57 : lw_okq (⟨"KeySealerModel", "publicOf", "()V"⟩, 71) := ⟨⟨by decide +kernel, by decide +kernel⟩, List.mem_of_getElem? (i := 998) (by decide +kernel), List.mem_of_getElem? (i := 1401) (by decide +kernel), List.mem_of_getElem? (i := 1402) (by decide +kernel)⟩
theorem lw_p58 : lw_okq (⟨"KeySealerModel", "isLock", "(IIIIII)Z"⟩, 71) := ⟨⟨by decide +kernel, by decide +kernel⟩, List.mem_of_getElem? (i := 998) (by decide +kernel), List.mem_of_getElem? (i := 1409) (by decide +kernel), List.mem_of_getElem? (i := 1410) (by decide +kernel)⟩
theorem lw_p59 : lw_okq (⟨"KeySealerModel", "locked", "(IIII)I"⟩, 71) := ⟨⟨by decide +kernel, by decide +kernel⟩, List.mem_of_getElem? (i := 998) (by decide +kernel), List.mem_of_getElem? (i := 1416) (by decide +kernel), List.mem_of_getElem? (i := 1417) (by decide +kernel)⟩
theorem lw_p60 : lw_okq (⟨"KeySealerModel", "take", "(III)V"⟩, 71) := ⟨⟨by decide +kernel, by decide +kernel⟩, List.mem_of_getElem? (i := 998) (by decide +kernel), List.mem_of_getElem? (i := 1420) (by decide +kernel), List.mem_of_getElem? (i := 1421) (by decide +kernel)⟩
theorem lw_p61 : lw_okq (⟨"KeySealerModel", "makeRounds", "(I)V"⟩, 71) := ⟨⟨by decide +kernel, by decide +kernel⟩, List.mem_of_getElem? (i := 998) (by decide +kernel), List.mem_of_getElem? (i := 1424) (by decide +kernel), List.mem_of_getElem? (i := 1425) (by decide +kernel)⟩
theorem lw_p62 : lw_okq (⟨"KeySealerModel", "mask", "(I)V"⟩, 71) := ⟨⟨by decide +kernel, by decide +kernel⟩, List.mem_of_getElem? (i := 998) (by decide +kernel), List.mem_of_getElem? (i := 1428) (by decide +kernel), List.mem_of_getElem? (i := 1429) (by decide +kernel)⟩
theorem lw_p63 : lw_okq (⟨"KeySealerModel", "streamOf", "(I)V"⟩, 71) := ⟨⟨by decide +kernel, by decide +kernel⟩, List.mem_of_getElem? (i := 998) (by decide +kernel), List.mem_of_getElem? (i := 1432) (by decide +kernel), List.mem_of_getElem? (i := 1433) (by decide +kernel)⟩
def lw_privs_4 : List (MethodName × Nat) := [(⟨"KeySealerModel", "isKey", "(I)Z"⟩, 71), (⟨"KeySealerModel", "first", "([II)V"⟩, 71), (⟨"KeySealerModel", "second", "([II)V"⟩, 71), (⟨"KeySealerModel", "agreed", "()V"⟩, 71), (⟨"KeySealerModel", "times", "([J[J[J)V"⟩, 71), (⟨"KeySealerModel", "invert", "()V"⟩, 71), (⟨"KeySealerModel", "pack", "()V"⟩, 71), (⟨"KeySealerModel", "isZero", "()Z"⟩, 71), (⟨"KeySealerModel", "giveKey", "(I)I"⟩, 71), (⟨"KeySealerModel", "publicOf", "()V"⟩, 71), (⟨"KeySealerModel", "isLock", "(IIIIII)Z"⟩, 71), (⟨"KeySealerModel", "locked", "(IIII)I"⟩, 71), (⟨"KeySealerModel", "take", "(III)V"⟩, 71), (⟨"KeySealerModel", "makeRounds", "(I)V"⟩, 71), (⟨"KeySealerModel", "mask", "(I)V"⟩, 71), (⟨"KeySealerModel", "streamOf", "(I)V"⟩, 71)]
theorem lw_r4 : ∀ q ∈ lw_privs_4, lw_okq q := List.forall_mem_cons.mpr ⟨lw_p48, List.forall_mem_cons.mpr ⟨lw_p49, List.forall_mem_cons.mpr ⟨lw_p50, List.forall_mem_cons.mpr ⟨lw_p51, List.forall_mem_cons.mpr ⟨lw_p52, List.forall_mem_cons.mpr ⟨lw_p53, List.forall_mem_cons.mpr ⟨lw_p54, List.forall_mem_cons.mpr ⟨lw_p55, List.forall_mem_cons.mpr ⟨lw_p56, List.forall_mem_cons.mpr ⟨lw_p57, List.forall_mem_cons.mpr ⟨lw_p58, List.forall_mem_cons.mpr ⟨lw_p59, List.forall_mem_cons.mpr ⟨lw_p60, List.forall_mem_cons.mpr ⟨lw_p61, List.forall_mem_cons.mpr ⟨lw_p62, List.forall_mem_cons.mpr ⟨lw_p63, fun _ h => absurd h List.not_mem_nil⟩⟩⟩⟩⟩⟩⟩⟩⟩⟩⟩⟩⟩⟩⟩⟩
theorem lw_p64 : lw_okq (⟨"KeySealerModel", "quarter", "(IIII)V"⟩, 71) := ⟨⟨by decide +kernel, by decide +kernel⟩, List.mem_of_getElem? (i := 998) (by decide +kernel), List.mem_of_getElem? (i := 1441) (by decide +kernel), List.mem_of_getElem? (i := 1442) (by decide +kernel)⟩
theorem lw_p65 : lw_okq (⟨"KeySealerModel", "counter", "(I)V"⟩, 71) := ⟨⟨by decide +kernel, by decide +kernel⟩, List.mem_of_getElem? (i := 998) (by decide +kernel), List.mem_of_getElem? (i := 1445) (by decide +kernel), List.mem_of_getElem? (i := 1446) (by decide +kernel)⟩
theorem lw_p66 : lw_okq (⟨"KeySealerModel", "cipher", "()V"⟩, 71) := ⟨⟨by decide +kernel, by decide +kernel⟩, List.mem_of_getElem? (i := 998) (by decide +kernel), List.mem_of_getElem? (i := 1449) (by decide +kernel), List.mem_of_getElem? (i := 1450) (by decide +kernel)⟩
theorem lw_p67 : lw_okq (⟨"KeySealerModel", "makeTag", "(I)V"⟩, 71) := ⟨⟨by decide +kernel, by decide +kernel⟩, List.mem_of_getElem? (i := 998) (by decide +kernel), List.mem_of_getElem? (i := 1453) (by decide +kernel), List.mem_of_getElem? (i := 1454) (by decide +kernel)⟩
theorem lw_p68 : lw_okq (⟨"KeySealerModel", "streamTag", "()V"⟩, 71) := ⟨⟨by decide +kernel, by decide +kernel⟩, List.mem_of_getElem? (i := 998) (by decide +kernel), List.mem_of_getElem? (i := 1457) (by decide +kernel), List.mem_of_getElem? (i := 1458) (by decide +kernel)⟩
theorem lw_p69 : lw_okq (⟨"KeySealerModel", "addPoly", "([III)V"⟩, 71) := ⟨⟨by decide +kernel, by decide +kernel⟩, List.mem_of_getElem? (i := 998) (by decide +kernel), List.mem_of_getElem? (i := 1461) (by decide +kernel), List.mem_of_getElem? (i := 1462) (by decide +kernel)⟩
theorem lw_p70 : lw_okq (⟨"KeySealerModel", "carryPoly", "()V"⟩, 71) := ⟨⟨by decide +kernel, by decide +kernel⟩, List.mem_of_getElem? (i := 998) (by decide +kernel), List.mem_of_getElem? (i := 1466) (by decide +kernel), List.mem_of_getElem? (i := 1467) (by decide +kernel)⟩
theorem lw_p71 : lw_okq (⟨"KeySealerModel", "blockTag", "()V"⟩, 71) := ⟨⟨by decide +kernel, by decide +kernel⟩, List.mem_of_getElem? (i := 998) (by decide +kernel), List.mem_of_getElem? (i := 1472) (by decide +kernel), List.mem_of_getElem? (i := 1473) (by decide +kernel)⟩
theorem lw_p72 : lw_okq (⟨"KeySealerModel", "gatherAll", "([II)V"⟩, 71) := ⟨⟨by decide +kernel, by decide +kernel⟩, List.mem_of_getElem? (i := 998) (by decide +kernel), List.mem_of_getElem? (i := 1479) (by decide +kernel), List.mem_of_getElem? (i := 1480) (by decide +kernel)⟩
theorem lw_p73 : lw_okq (⟨"KeySealerModel", "gather", "(JJ)V"⟩, 71) := ⟨⟨by decide +kernel, by decide +kernel⟩, List.mem_of_getElem? (i := 998) (by decide +kernel), List.mem_of_getElem? (i := 1483) (by decide +kernel), List.mem_of_getElem? (i := 1484) (by decide +kernel)⟩
theorem lw_p74 : lw_okq (⟨"KeySealerModel", "unlocked", "(IIII)I"⟩, 71) := ⟨⟨by decide +kernel, by decide +kernel⟩, List.mem_of_getElem? (i := 998) (by decide +kernel), List.mem_of_getElem? (i := 1493) (by decide +kernel), List.mem_of_getElem? (i := 1494) (by decide +kernel)⟩
theorem lw_p75 : lw_okq (⟨"KeySealerModel", "kemId", "()V"⟩, 71) := ⟨⟨by decide +kernel, by decide +kernel⟩, List.mem_of_getElem? (i := 998) (by decide +kernel), List.mem_of_getElem? (i := 1501) (by decide +kernel), List.mem_of_getElem? (i := 1502) (by decide +kernel)⟩
theorem lw_p76 : lw_okq (⟨"KeySealerModel", "beginX", "([I)V"⟩, 71) := ⟨⟨by decide +kernel, by decide +kernel⟩, List.mem_of_getElem? (i := 998) (by decide +kernel), List.mem_of_getElem? (i := 1509) (by decide +kernel), List.mem_of_getElem? (i := 1510) (by decide +kernel)⟩
theorem lw_p77 : lw_okq (⟨"KeySealerModel", "buildAll", "([I)V"⟩, 71) := ⟨⟨by decide +kernel, by decide +kernel⟩, List.mem_of_getElem? (i := 998) (by decide +kernel), List.mem_of_getElem? (i := 1515) (by decide +kernel), List.mem_of_getElem? (i := 1516) (by decide +kernel)⟩
theorem lw_p78 : lw_okq (⟨"KeySealerModel", "noSalt", "(I)V"⟩, 71) := ⟨⟨by decide +kernel, by decide +kernel⟩, List.mem_of_getElem? (i := 998) (by decide +kernel), List.mem_of_getElem? (i := 1519) (by decide +kernel), List.mem_of_getElem? (i := 1520) (by decide +kernel)⟩
theorem lw_p79 : lw_okq (⟨"KeySealerModel", "beginP", "([II)V"⟩, 71) := ⟨⟨by decide +kernel, by decide +kernel⟩, List.mem_of_getElem? (i := 998) (by decide +kernel), List.mem_of_getElem? (i := 1525) (by decide +kernel), List.mem_of_getElem? (i := 1526) (by decide +kernel)⟩
def lw_privs_5 : List (MethodName × Nat) := [(⟨"KeySealerModel", "quarter", "(IIII)V"⟩, 71), (⟨"KeySealerModel", "counter", "(I)V"⟩, 71), (⟨"KeySealerModel", "cipher", "()V"⟩, 71), (⟨"KeySealerModel", "makeTag", "(I)V"⟩, 71), (⟨"KeySealerModel", "streamTag", "()V"⟩, 71), (⟨"KeySealerModel", "addPoly", "([III)V"⟩, 71), (⟨"KeySealerModel", "carryPoly", "()V"⟩, 71), (⟨"KeySealerModel", "blockTag", "()V"⟩, 71), (⟨"KeySealerModel", "gatherAll", "([II)V"⟩, 71), (⟨"KeySealerModel", "gather", "(JJ)V"⟩, 71), (⟨"KeySealerModel", "unlocked", "(IIII)I"⟩, 71), (⟨"KeySealerModel", "kemId", "()V"⟩, 71), (⟨"KeySealerModel", "beginX", "([I)V"⟩, 71), (⟨"KeySealerModel", "buildAll", "([I)V"⟩, 71), (⟨"KeySealerModel", "noSalt", "(I)V"⟩, 71), (⟨"KeySealerModel", "beginP", "([II)V"⟩, 71)]
theorem lw_r5 : ∀ q ∈ lw_privs_5, lw_okq q := List.forall_mem_cons.mpr ⟨lw_p64, List.forall_mem_cons.mpr ⟨lw_p65, List.forall_mem_cons.mpr ⟨lw_p66, List.forall_mem_cons.mpr ⟨lw_p67, List.forall_mem_cons.mpr ⟨lw_p68, List.forall_mem_cons.mpr ⟨lw_p69, List.forall_mem_cons.mpr ⟨lw_p70, List.forall_mem_cons.mpr ⟨lw_p71, List.forall_mem_cons.mpr ⟨lw_p72, List.forall_mem_cons.mpr ⟨lw_p73, List.forall_mem_cons.mpr ⟨lw_p74, List.forall_mem_cons.mpr ⟨lw_p75, List.forall_mem_cons.mpr ⟨lw_p76, List.forall_mem_cons.mpr ⟨lw_p77, List.forall_mem_cons.mpr ⟨lw_p78, List.forall_mem_cons.mpr ⟨lw_p79, fun _ h => absurd h List.not_mem_nil⟩⟩⟩⟩⟩⟩⟩⟩⟩⟩⟩⟩⟩⟩⟩⟩
theorem lw_p80 : lw_okq (⟨"KeySealerModel", "makeP", "(II)V"⟩, 71) := ⟨⟨by decide +kernel, by decide +kernel⟩, List.mem_of_getElem? (i := 998) (by decide +kernel), List.mem_of_getElem? (i := 1529) (by decide +kernel), List.mem_of_getElem? (i := 1530) (by decide +kernel)⟩
theorem lw_p81 : lw_okq (⟨"KeySealerModel", "usedSize", "(I)I"⟩, 71) := ⟨⟨by decide +kernel, by decide +kernel⟩, List.mem_of_getElem? (i := 998) (by decide +kernel), List.mem_of_getElem? (i := 1547) (by decide +kernel), List.mem_of_getElem? (i := 1548) (by decide +kernel)⟩
theorem lw_p82 : lw_okq (⟨"KeySealerModel", "areShared", "(I)Z"⟩, 71) := ⟨⟨by decide +kernel, by decide +kernel⟩, List.mem_of_getElem? (i := 998) (by decide +kernel), List.mem_of_getElem? (i := 1551) (by decide +kernel), List.mem_of_getElem? (i := 1552) (by decide +kernel)⟩
theorem lw_p83 : lw_okq (⟨"KeySealerModel", "aboutToo", "([II)V"⟩, 71) := ⟨⟨by decide +kernel, by decide +kernel⟩, List.mem_of_getElem? (i := 998) (by decide +kernel), List.mem_of_getElem? (i := 1555) (by decide +kernel), List.mem_of_getElem? (i := 1556) (by decide +kernel)⟩
theorem lw_p84 : lw_okq (⟨"KeySealerModel", "agreesToo", "()Z"⟩, 71) := ⟨⟨by decide +kernel, by decide +kernel⟩, List.mem_of_getElem? (i := 998) (by decide +kernel), List.mem_of_getElem? (i := 1559) (by decide +kernel), List.mem_of_getElem? (i := 1560) (by decide +kernel)⟩
theorem lw_p85 : lw_okq (⟨"KeySealerModel", "schedule", "(IIIII)V"⟩, 71) := ⟨⟨by decide +kernel, by decide +kernel⟩, List.mem_of_getElem? (i := 998) (by decide +kernel), List.mem_of_getElem? (i := 1563) (by decide +kernel), List.mem_of_getElem? (i := 1564) (by decide +kernel)⟩
theorem lw_p86 : lw_okq (⟨"KeySealerModel", "makeSecret", "()V"⟩, 71) := ⟨⟨by decide +kernel, by decide +kernel⟩, List.mem_of_getElem? (i := 998) (by decide +kernel), List.mem_of_getElem? (i := 1567) (by decide +kernel), List.mem_of_getElem? (i := 1568) (by decide +kernel)⟩
theorem lw_p87 : lw_okq (⟨"KeySealerModel", "suiteId", "(II)V"⟩, 71) := ⟨⟨by decide +kernel, by decide +kernel⟩, List.mem_of_getElem? (i := 998) (by decide +kernel), List.mem_of_getElem? (i := 1575) (by decide +kernel), List.mem_of_getElem? (i := 1576) (by decide +kernel)⟩
theorem lw_p88 : lw_okq (⟨"KeySealerModel", "toZ", "(I)V"⟩, 71) := ⟨⟨by decide +kernel, by decide +kernel⟩, List.mem_of_getElem? (i := 998) (by decide +kernel), List.mem_of_getElem? (i := 1581) (by decide +kernel), List.mem_of_getElem? (i := 1582) (by decide +kernel)⟩
theorem lw_p89 : lw_okq (⟨"KeySealerModel", "part", "([III[II)V"⟩, 71) := ⟨⟨by decide +kernel, by decide +kernel⟩, List.mem_of_getElem? (i := 998) (by decide +kernel), List.mem_of_getElem? (i := 1591) (by decide +kernel), List.mem_of_getElem? (i := 1592) (by decide +kernel)⟩
theorem lw_p90 : lw_okq (⟨"KeySealerModel", "isLast", "(I)Z"⟩, 71) := ⟨⟨by decide +kernel, by decide +kernel⟩, List.mem_of_getElem? (i := 998) (by decide +kernel), List.mem_of_getElem? (i := 1607) (by decide +kernel), List.mem_of_getElem? (i := 1608) (by decide +kernel)⟩
theorem lw_p91 : lw_okq (⟨"KeySealerModel", "keyOf", "(I)V"⟩, 71) := ⟨⟨by decide +kernel, by decide +kernel⟩, List.mem_of_getElem? (i := 998) (by decide +kernel), List.mem_of_getElem? (i := 1611) (by decide +kernel), List.mem_of_getElem? (i := 1612) (by decide +kernel)⟩
theorem lw_p92 : lw_okq (⟨"KeySealerModel", "goesOn", "(I)V"⟩, 71) := ⟨⟨by decide +kernel, by decide +kernel⟩, List.mem_of_getElem? (i := 998) (by decide +kernel), List.mem_of_getElem? (i := 1615) (by decide +kernel), List.mem_of_getElem? (i := 1616) (by decide +kernel)⟩
def lw_privs_6 : List (MethodName × Nat) := [(⟨"KeySealerModel", "makeP", "(II)V"⟩, 71), (⟨"KeySealerModel", "usedSize", "(I)I"⟩, 71), (⟨"KeySealerModel", "areShared", "(I)Z"⟩, 71), (⟨"KeySealerModel", "aboutToo", "([II)V"⟩, 71), (⟨"KeySealerModel", "agreesToo", "()Z"⟩, 71), (⟨"KeySealerModel", "schedule", "(IIIII)V"⟩, 71), (⟨"KeySealerModel", "makeSecret", "()V"⟩, 71), (⟨"KeySealerModel", "suiteId", "(II)V"⟩, 71), (⟨"KeySealerModel", "toZ", "(I)V"⟩, 71), (⟨"KeySealerModel", "part", "([III[II)V"⟩, 71), (⟨"KeySealerModel", "isLast", "(I)Z"⟩, 71), (⟨"KeySealerModel", "keyOf", "(I)V"⟩, 71), (⟨"KeySealerModel", "goesOn", "(I)V"⟩, 71)]
theorem lw_r6 : ∀ q ∈ lw_privs_6, lw_okq q := List.forall_mem_cons.mpr ⟨lw_p80, List.forall_mem_cons.mpr ⟨lw_p81, List.forall_mem_cons.mpr ⟨lw_p82, List.forall_mem_cons.mpr ⟨lw_p83, List.forall_mem_cons.mpr ⟨lw_p84, List.forall_mem_cons.mpr ⟨lw_p85, List.forall_mem_cons.mpr ⟨lw_p86, List.forall_mem_cons.mpr ⟨lw_p87, List.forall_mem_cons.mpr ⟨lw_p88, List.forall_mem_cons.mpr ⟨lw_p89, List.forall_mem_cons.mpr ⟨lw_p90, List.forall_mem_cons.mpr ⟨lw_p91, List.forall_mem_cons.mpr ⟨lw_p92, fun _ h => absurd h List.not_mem_nil⟩⟩⟩⟩⟩⟩⟩⟩⟩⟩⟩⟩⟩
def lw_privs : List (MethodName × Nat) := lw_privs_1 ++ (lw_privs_2 ++ (lw_privs_3 ++ (lw_privs_4 ++ (lw_privs_5 ++ (lw_privs_6)))))
def lw_tbl : List Cond := k2_sels lw_privs ++ tables_1
theorem lw_privs_ok : ∀ q ∈ lw_privs, lw_okq q := by
  show ∀ q ∈ lw_privs_1 ++ (lw_privs_2 ++ (lw_privs_3 ++ (lw_privs_4 ++ (lw_privs_5 ++ (lw_privs_6))))), lw_okq q
  exact List.forall_mem_append.mpr ⟨lw_r1, List.forall_mem_append.mpr ⟨lw_r2, List.forall_mem_append.mpr ⟨lw_r3, List.forall_mem_append.mpr ⟨lw_r4, List.forall_mem_append.mpr ⟨lw_r5, lw_r6⟩⟩⟩⟩⟩
def RX0 : String := "KeySealer$BlockCipher"
def TX0 : u_T := fun k => match k with
  | 0 => ("KeySealer$Cipher", "stream", "[I", true)
  | 1 => ("KeySealer$Cipher", "part", "[I", true)
  | 2 => ("KeySealer$Cipher", "tag", "LKeySealer$Row;", true)
  | 3 => ("KeySealer$BlockCipher", "sub", "[I", true)
  | 4 => ("KeySealer$BlockCipher", "words", "[I", true)
  | 5 => ("KeySealer$BlockCipher", "moved", "[I", true)
  | 6 => ("KeySealer$BlockCipher", "nonce", "LKeySealer$Row;", true)
  | 7 => ("KeySealer$BlockCipher", "rounds", "I", false)
  | 8 => ("KeySealer$BlockCipher", "hHigh", "J", false)
  | 9 => ("KeySealer$BlockCipher", "hLow", "J", false)
  | 10 => ("KeySealer$BlockCipher", "yHigh", "J", false)
  | _ => ("KeySealer$BlockCipher", "yLow", "J", false)
def tyX0 : Nat → FieldType := fun k => match k with
  | 0 => .array .int
  | 1 => .array .int
  | 2 => .object "KeySealer$Row"
  | 3 => .array .int
  | 4 => .array .int
  | 5 => .array .int
  | 6 => .object "KeySealer$Row"
  | 7 => .int
  | 8 => .long
  | 9 => .long
  | 10 => .long
  | _ => .long
abbrev wsX00 : List Cond := u_ws RX0 TX0 12
theorem nmX0 : ∀ a, a < 12 → ∀ b, b < 12 → a ≠ b → (TX0 a).2.1 ≠ (TX0 b).2.1 := by decide +kernel
theorem tyX0_ok : ∀ k, k < 12 → parseFieldDescriptor (TX0 k).2.2.1 = some (tyX0 k) := by decide +kernel
abbrev cX0_init : ByteArray := prog_2_method_1_code
def yX0_init : MethodName := ⟨RX0, "<init>", "()V"⟩
abbrev cX0_begin : ByteArray := prog_2_method_2_code
def yX0_begin : MethodName := ⟨RX0, "begin", "(LKeySealer$Row;LKeySealer$Row;)V"⟩
abbrev cX0_fillStream : ByteArray := prog_2_method_3_code
def yX0_fillStream : MethodName := ⟨RX0, "fillStream", "(I)V"⟩
abbrev cX0_absorb : ByteArray := prog_2_method_4_code
def yX0_absorb : MethodName := ⟨RX0, "absorb", "()V"⟩
abbrev cX0_absorbLengths : ByteArray := prog_2_method_5_code
def yX0_absorbLengths : MethodName := ⟨RX0, "absorbLengths", "(II)V"⟩
abbrev cX0_writeTag : ByteArray := prog_2_method_6_code
def yX0_writeTag : MethodName := ⟨RX0, "writeTag", "()V"⟩
abbrev cX0_longOf : ByteArray := prog_2_method_7_code
def yX0_longOf : MethodName := ⟨RX0, "longOf", "([II)J"⟩
abbrev cX0_twice : ByteArray := prog_2_method_8_code
def yX0_twice : MethodName := ⟨RX0, "twice", "(I)I"⟩
abbrev cX0_fillSub : ByteArray := prog_2_method_9_code
def yX0_fillSub : MethodName := ⟨RX0, "fillSub", "()V"⟩
abbrev cX0_stretchKey : ByteArray := prog_2_method_10_code
def yX0_stretchKey : MethodName := ⟨RX0, "stretchKey", "(LKeySealer$Row;)V"⟩
abbrev cX0_subWord : ByteArray := prog_2_method_11_code
def yX0_subWord : MethodName := ⟨RX0, "subWord", "(I)I"⟩
abbrev cX0_fillBlock : ByteArray := prog_2_method_12_code
def yX0_fillBlock : MethodName := ⟨RX0, "fillBlock", "(I)V"⟩
abbrev cX0_encipher : ByteArray := prog_2_method_13_code
def yX0_encipher : MethodName := ⟨RX0, "encipher", "()V"⟩
abbrev cX0_mixKey : ByteArray := prog_2_method_14_code
def yX0_mixKey : MethodName := ⟨RX0, "mixKey", "(I)V"⟩
abbrev cX0_mixColumns : ByteArray := prog_2_method_15_code
def yX0_mixColumns : MethodName := ⟨RX0, "mixColumns", "()V"⟩
abbrev cX0_multiply : ByteArray := prog_2_method_16_code
def yX0_multiply : MethodName := ⟨RX0, "multiply", "(JJ)V"⟩
def RX1 : String := "KeySealer$Cipher"
def TX1 : u_T := fun k => match k with
  | _ => ("", "", "", false)
def tyX1 : Nat → FieldType := fun k => match k with
  | _ => .int
abbrev wsX10 : List Cond := u_ws RX1 TX1 0
theorem nmX1 : ∀ a, a < 0 → ∀ b, b < 0 → a ≠ b → (TX1 a).2.1 ≠ (TX1 b).2.1 := by decide +kernel
theorem tyX1_ok : ∀ k, k < 0 → parseFieldDescriptor (TX1 k).2.2.1 = some (tyX1 k) := by decide +kernel
abbrev cX1_init : ByteArray := prog_3_method_1_code
def yX1_init : MethodName := ⟨RX1, "<init>", "(I)V"⟩
abbrev cX1_protect : ByteArray := prog_3_method_7_code
def yX1_protect : MethodName := ⟨RX1, "protect", "(LKeySealer$Row;LKeySealer$Row;LKeySealer$Row;)V"⟩
abbrev cX1_reveal : ByteArray := prog_3_method_8_code
def yX1_reveal : MethodName := ⟨RX1, "reveal", "(LKeySealer$Row;LKeySealer$Row;LKeySealer$Row;)Z"⟩
abbrev cX1_scramble : ByteArray := prog_3_method_9_code
def yX1_scramble : MethodName := ⟨RX1, "scramble", "(LKeySealer$Row;ILKeySealer$Row;)V"⟩
abbrev cX1_makeTag : ByteArray := prog_3_method_10_code
def yX1_makeTag : MethodName := ⟨RX1, "makeTag", "(LKeySealer$Row;LKeySealer$Row;I)V"⟩
abbrev cX1_absorbRow : ByteArray := prog_3_method_11_code
def yX1_absorbRow : MethodName := ⟨RX1, "absorbRow", "(LKeySealer$Row;I)V"⟩
def RX2 : String := "KeySealer$Context"
def TX2 : u_T := fun k => match k with
  | 0 => ("KeySealer$Context", "key", "LKeySealer$Row;", true)
  | 1 => ("KeySealer$Context", "base", "LKeySealer$Row;", true)
  | 2 => ("KeySealer$Context", "exporter", "LKeySealer$Row;", true)
  | 3 => ("KeySealer$Context", "role", "I", false)
  | 4 => ("KeySealer$Context", "mode", "I", false)
  | 5 => ("KeySealer$Context", "kind", "I", false)
  | 6 => ("KeySealer$Context", "cipher", "I", false)
  | 7 => ("KeySealer$Context", "high", "I", false)
  | 8 => ("KeySealer$Context", "middle", "I", false)
  | _ => ("KeySealer$Context", "low", "I", false)
def tyX2 : Nat → FieldType := fun k => match k with
  | 0 => .object "KeySealer$Row"
  | 1 => .object "KeySealer$Row"
  | 2 => .object "KeySealer$Row"
  | 3 => .int
  | 4 => .int
  | 5 => .int
  | 6 => .int
  | 7 => .int
  | 8 => .int
  | _ => .int
abbrev wsX20 : List Cond := u_ws RX2 TX2 10
theorem nmX2 : ∀ a, a < 10 → ∀ b, b < 10 → a ≠ b → (TX2 a).2.1 ≠ (TX2 b).2.1 := by decide +kernel
theorem tyX2_ok : ∀ k, k < 10 → parseFieldDescriptor (TX2 k).2.2.1 = some (tyX2 k) := by decide +kernel
abbrev cX2_init : ByteArray := prog_4_method_1_code
def yX2_init : MethodName := ⟨RX2, "<init>", "()V"⟩
abbrev cX2_begin : ByteArray := prog_4_method_2_code
def yX2_begin : MethodName := ⟨RX2, "begin", "(IIII)V"⟩
abbrev cX2_place : ByteArray := prog_4_method_3_code
def yX2_place : MethodName := ⟨RX2, "place", "(III)V"⟩
abbrev cX2_isAtEnd : ByteArray := prog_4_method_4_code
def yX2_isAtEnd : MethodName := ⟨RX2, "isAtEnd", "()Z"⟩
abbrev cX2_step : ByteArray := prog_4_method_5_code
def yX2_step : MethodName := ⟨RX2, "step", "()V"⟩
abbrev cX2_writeNonce : ByteArray := prog_4_method_6_code
def yX2_writeNonce : MethodName := ⟨RX2, "writeNonce", "(LKeySealer$Row;)V"⟩
def RX3 : String := "KeySealer$Curve"
def TX3 : u_T := fun k => match k with
  | 0 => ("KeySealer$Curve", "point", "[J", true)
  | 1 => ("KeySealer$Curve", "x2", "[J", true)
  | 2 => ("KeySealer$Curve", "z2", "[J", true)
  | 3 => ("KeySealer$Curve", "x3", "[J", true)
  | 4 => ("KeySealer$Curve", "z3", "[J", true)
  | 5 => ("KeySealer$Curve", "a", "[J", true)
  | 6 => ("KeySealer$Curve", "b", "[J", true)
  | 7 => ("KeySealer$Curve", "c", "[J", true)
  | 8 => ("KeySealer$Curve", "d", "[J", true)
  | 9 => ("KeySealer$Curve", "e", "[J", true)
  | _ => ("KeySealer$Curve", "result", "LKeySealer$Row;", true)
def tyX3 : Nat → FieldType := fun k => match k with
  | 0 => .array .long
  | 1 => .array .long
  | 2 => .array .long
  | 3 => .array .long
  | 4 => .array .long
  | 5 => .array .long
  | 6 => .array .long
  | 7 => .array .long
  | 8 => .array .long
  | 9 => .array .long
  | _ => .object "KeySealer$Row"
abbrev wsX30 : List Cond := u_ws RX3 TX3 11
theorem nmX3 : ∀ a, a < 11 → ∀ b, b < 11 → a ≠ b → (TX3 a).2.1 ≠ (TX3 b).2.1 := by decide +kernel
theorem tyX3_ok : ∀ k, k < 11 → parseFieldDescriptor (TX3 k).2.2.1 = some (tyX3 k) := by decide +kernel
abbrev cX3_init : ByteArray := prog_5_method_1_code
def yX3_init : MethodName := ⟨RX3, "<init>", "()V"⟩
abbrev cX3_putAgreement : ByteArray := prog_5_method_2_code
def yX3_putAgreement : MethodName := ⟨RX3, "putAgreement", "(LKeySealer$Row;LKeySealer$Row;LKeySealer$Row;)Z"⟩
abbrev cX3_putPublic : ByteArray := prog_5_method_3_code
def yX3_putPublic : MethodName := ⟨RX3, "putPublic", "(LKeySealer$Row;LKeySealer$Row;)V"⟩
abbrev cX3_climb : ByteArray := prog_5_method_4_code
def yX3_climb : MethodName := ⟨RX3, "climb", "(LKeySealer$Row;)V"⟩
abbrev cX3_keyByte : ByteArray := prog_5_method_5_code
def yX3_keyByte : MethodName := ⟨RX3, "keyByte", "(LKeySealer$Row;I)I"⟩
abbrev cX3_step : ByteArray := prog_5_method_6_code
def yX3_step : MethodName := ⟨RX3, "step", "([J[J[J[J)V"⟩
abbrev cX3_invert : ByteArray := prog_5_method_7_code
def yX3_invert : MethodName := ⟨RX3, "invert", "([J)V"⟩
abbrev cX3_raise : ByteArray := prog_5_method_8_code
def yX3_raise : MethodName := ⟨RX3, "raise", "([J[JI[J)V"⟩
abbrev cX3_setSmall : ByteArray := prog_5_method_9_code
def yX3_setSmall : MethodName := ⟨RX3, "setSmall", "([JI)V"⟩
abbrev cX3_plus : ByteArray := prog_5_method_10_code
def yX3_plus : MethodName := ⟨RX3, "plus", "([J[J[J)V"⟩
abbrev cX3_minus : ByteArray := prog_5_method_11_code
def yX3_minus : MethodName := ⟨RX3, "minus", "([J[J[J)V"⟩
abbrev cX3_times : ByteArray := prog_5_method_12_code
def yX3_times : MethodName := ⟨RX3, "times", "([J[J[J)V"⟩
abbrev cX3_carry : ByteArray := prog_5_method_13_code
def yX3_carry : MethodName := ⟨RX3, "carry", "([J)V"⟩
abbrev cX3_readLimbs : ByteArray := prog_5_method_14_code
def yX3_readLimbs : MethodName := ⟨RX3, "readLimbs", "(LKeySealer$Row;)V"⟩
abbrev cX3_writeLimbs : ByteArray := prog_5_method_15_code
def yX3_writeLimbs : MethodName := ⟨RX3, "writeLimbs", "([J)V"⟩
def RX4 : String := "KeySealer$Digest"
def TX4 : u_T := fun k => match k with
  | 0 => ("KeySealer$Digest", "state", "[J", true)
  | 1 => ("KeySealer$Digest", "words", "[J", true)
  | 2 => ("KeySealer$Digest", "wide", "Z", false)
  | 3 => ("KeySealer$Digest", "width", "I", false)
  | 4 => ("KeySealer$Digest", "rounds", "I", false)
  | 5 => ("KeySealer$Digest", "mask", "J", false)
  | 6 => ("KeySealer$Digest", "filled", "I", false)
  | _ => ("KeySealer$Digest", "count", "I", false)
def tyX4 : Nat → FieldType := fun k => match k with
  | 0 => .array .long
  | 1 => .array .long
  | 2 => .boolean
  | 3 => .int
  | 4 => .int
  | 5 => .long
  | 6 => .int
  | _ => .int
abbrev wsX40 : List Cond := u_ws RX4 TX4 8
theorem nmX4 : ∀ a, a < 8 → ∀ b, b < 8 → a ≠ b → (TX4 a).2.1 ≠ (TX4 b).2.1 := by decide +kernel
theorem tyX4_ok : ∀ k, k < 8 → parseFieldDescriptor (TX4 k).2.2.1 = some (tyX4 k) := by decide +kernel
abbrev cX4_init : ByteArray := prog_6_method_1_code
def yX4_init : MethodName := ⟨RX4, "<init>", "()V"⟩
abbrev cX4_begin : ByteArray := prog_6_method_2_code
def yX4_begin : MethodName := ⟨RX4, "begin", "(I)V"⟩
abbrev cX4_blockBytes : ByteArray := prog_6_method_3_code
def yX4_blockBytes : MethodName := ⟨RX4, "blockBytes", "()I"⟩
abbrev cX4_take : ByteArray := prog_6_method_4_code
def yX4_take : MethodName := ⟨RX4, "take", "(I)V"⟩
abbrev cX4_takeRow : ByteArray := prog_6_method_5_code
def yX4_takeRow : MethodName := ⟨RX4, "takeRow", "(LKeySealer$Row;)V"⟩
abbrev cX4_finish : ByteArray := prog_6_method_6_code
def yX4_finish : MethodName := ⟨RX4, "finish", "(LKeySealer$Row;)V"⟩
abbrev cX4_stretchWords : ByteArray := prog_6_method_7_code
def yX4_stretchWords : MethodName := ⟨RX4, "stretchWords", "()V"⟩
abbrev cX4_mixWords : ByteArray := prog_6_method_8_code
def yX4_mixWords : MethodName := ⟨RX4, "mixWords", "()V"⟩
def RX5 : String := "KeySealer$Keyed"
def TX5 : u_T := fun k => match k with
  | 0 => ("KeySealer$Keyed", "digest", "LKeySealer$Digest;", true)
  | 1 => ("KeySealer$Keyed", "key", "LKeySealer$Row;", true)
  | 2 => ("KeySealer$Keyed", "inner", "LKeySealer$Row;", true)
  | 3 => ("KeySealer$Keyed", "last", "LKeySealer$Row;", true)
  | _ => ("KeySealer$Keyed", "kind", "I", false)
def tyX5 : Nat → FieldType := fun k => match k with
  | 0 => .object "KeySealer$Digest"
  | 1 => .object "KeySealer$Row"
  | 2 => .object "KeySealer$Row"
  | 3 => .object "KeySealer$Row"
  | _ => .int
abbrev wsX50 : List Cond := u_ws RX5 TX5 5
theorem nmX5 : ∀ a, a < 5 → ∀ b, b < 5 → a ≠ b → (TX5 a).2.1 ≠ (TX5 b).2.1 := by decide +kernel
theorem tyX5_ok : ∀ k, k < 5 → parseFieldDescriptor (TX5 k).2.2.1 = some (tyX5 k) := by decide +kernel
abbrev cX5_init : ByteArray := prog_7_method_1_code
def yX5_init : MethodName := ⟨RX5, "<init>", "()V"⟩
abbrev cX5_begin : ByteArray := prog_7_method_2_code
def yX5_begin : MethodName := ⟨RX5, "begin", "(ILKeySealer$Row;)V"⟩
abbrev cX5_finish : ByteArray := prog_7_method_3_code
def yX5_finish : MethodName := ⟨RX5, "finish", "(LKeySealer$Row;)V"⟩
abbrev cX5_stretch : ByteArray := prog_7_method_4_code
def yX5_stretch : MethodName := ⟨RX5, "stretch", "(ILKeySealer$Row;LKeySealer$Row;ILKeySealer$Row;)V"⟩
abbrev cX5_beginHalf : ByteArray := prog_7_method_5_code
def yX5_beginHalf : MethodName := ⟨RX5, "beginHalf", "(I)V"⟩
def RX6 : String := "KeySealer$Labels"
def TX6 : u_T := fun k => match k with
  | 0 => ("KeySealer$Labels", "keyed", "LKeySealer$Keyed;", true)
  | 1 => ("KeySealer$Labels", "id", "LKeySealer$Row;", true)
  | 2 => ("KeySealer$Labels", "whole", "LKeySealer$Row;", true)
  | _ => ("KeySealer$Labels", "kind", "I", false)
def tyX6 : Nat → FieldType := fun k => match k with
  | 0 => .object "KeySealer$Keyed"
  | 1 => .object "KeySealer$Row"
  | 2 => .object "KeySealer$Row"
  | _ => .int
abbrev wsX60 : List Cond := u_ws RX6 TX6 4
theorem nmX6 : ∀ a, a < 4 → ∀ b, b < 4 → a ≠ b → (TX6 a).2.1 ≠ (TX6 b).2.1 := by decide +kernel
theorem tyX6_ok : ∀ k, k < 4 → parseFieldDescriptor (TX6 k).2.2.1 = some (tyX6 k) := by decide +kernel
abbrev cX6_init : ByteArray := prog_8_method_1_code
def yX6_init : MethodName := ⟨RX6, "<init>", "()V"⟩
abbrev cX6_beginAgreement : ByteArray := prog_8_method_2_code
def yX6_beginAgreement : MethodName := ⟨RX6, "beginAgreement", "()V"⟩
abbrev cX6_beginSuite : ByteArray := prog_8_method_3_code
def yX6_beginSuite : MethodName := ⟨RX6, "beginSuite", "(II)V"⟩
abbrev cX6_extract : ByteArray := prog_8_method_4_code
def yX6_extract : MethodName := ⟨RX6, "extract", "(LKeySealer$Row;Ljava/lang/String;LKeySealer$Row;LKeySealer$Row;)V"⟩
abbrev cX6_stretch : ByteArray := prog_8_method_5_code
def yX6_stretch : MethodName := ⟨RX6, "stretch", "(LKeySealer$Row;Ljava/lang/String;LKeySealer$Row;ILKeySealer$Row;)V"⟩
abbrev cX6_putLabel : ByteArray := prog_8_method_6_code
def yX6_putLabel : MethodName := ⟨RX6, "putLabel", "(Ljava/lang/String;)V"⟩
def RX7 : String := "KeySealer$Row"
def TX7 : u_T := fun k => match k with
  | 0 => ("KeySealer$Row", "bytes", "[B", true)
  | _ => ("KeySealer$Row", "size", "I", false)
def tyX7 : Nat → FieldType := fun k => match k with
  | 0 => .array .byte
  | _ => .int
abbrev wsX70 : List Cond := u_ws RX7 TX7 2
theorem nmX7 : ∀ a, a < 2 → ∀ b, b < 2 → a ≠ b → (TX7 a).2.1 ≠ (TX7 b).2.1 := by decide +kernel
theorem tyX7_ok : ∀ k, k < 2 → parseFieldDescriptor (TX7 k).2.2.1 = some (tyX7 k) := by decide +kernel
abbrev cX7_init : ByteArray := prog_9_method_1_code
def yX7_init : MethodName := ⟨RX7, "<init>", "(I)V"⟩
abbrev cX7_empty : ByteArray := prog_9_method_2_code
def yX7_empty : MethodName := ⟨RX7, "empty", "()V"⟩
abbrev cX7_hasRoom : ByteArray := prog_9_method_3_code
def yX7_hasRoom : MethodName := ⟨RX7, "hasRoom", "(I)Z"⟩
abbrev cX7_hasPart : ByteArray := prog_9_method_4_code
def yX7_hasPart : MethodName := ⟨RX7, "hasPart", "(II)Z"⟩
abbrev cX7_byteAt : ByteArray := prog_9_method_5_code
def yX7_byteAt : MethodName := ⟨RX7, "byteAt", "(I)I"⟩
abbrev cX7_turnBit : ByteArray := prog_9_method_6_code
def yX7_turnBit : MethodName := ⟨RX7, "turnBit", "(II)I"⟩
abbrev cX7_put : ByteArray := prog_9_method_7_code
def yX7_put : MethodName := ⟨RX7, "put", "(I)V"⟩
abbrev cX7_putNumber : ByteArray := prog_9_method_8_code
def yX7_putNumber : MethodName := ⟨RX7, "putNumber", "(JI)V"⟩
abbrev cX7_putText : ByteArray := prog_9_method_9_code
def yX7_putText : MethodName := ⟨RX7, "putText", "(Ljava/lang/String;)V"⟩
abbrev cX7_putPart : ByteArray := prog_9_method_10_code
def yX7_putPart : MethodName := ⟨RX7, "putPart", "(LKeySealer$Row;II)V"⟩
abbrev cX7_putRow : ByteArray := prog_9_method_11_code
def yX7_putRow : MethodName := ⟨RX7, "putRow", "(LKeySealer$Row;)V"⟩
abbrev cX7_become : ByteArray := prog_9_method_12_code
def yX7_become : MethodName := ⟨RX7, "become", "(LKeySealer$Row;)V"⟩
abbrev cX7_isZero : ByteArray := prog_9_method_13_code
def yX7_isZero : MethodName := ⟨RX7, "isZero", "()Z"⟩
def RX8 : String := "KeySealer$StreamCipher"
def TX8 : u_T := fun k => match k with
  | 0 => ("KeySealer$Cipher", "stream", "[I", true)
  | 1 => ("KeySealer$Cipher", "part", "[I", true)
  | 2 => ("KeySealer$Cipher", "tag", "LKeySealer$Row;", true)
  | 3 => ("KeySealer$StreamCipher", "words", "[I", true)
  | 4 => ("KeySealer$StreamCipher", "mixed", "[I", true)
  | 5 => ("KeySealer$StreamCipher", "last", "[I", true)
  | 6 => ("KeySealer$StreamCipher", "\x72", "[J", true)
  | 7 => ("KeySealer$StreamCipher", "v", "[J", true)
  | _ => ("KeySealer$StreamCipher", "next", "[J", true)
def tyX8 : Nat → FieldType := fun k => match k with
  | 0 => .array .int
  | 1 => .array .int
  | 2 => .object "KeySealer$Row"
  | 3 => .array .int
  | 4 => .array .int
  | 5 => .array .int
  | 6 => .array .long
  | 7 => .array .long
  | _ => .array .long
abbrev wsX80 : List Cond := u_ws RX8 TX8 9
theorem nmX8 : ∀ a, a < 9 → ∀ b, b < 9 → a ≠ b → (TX8 a).2.1 ≠ (TX8 b).2.1 := by decide +kernel
theorem tyX8_ok : ∀ k, k < 9 → parseFieldDescriptor (TX8 k).2.2.1 = some (tyX8 k) := by decide +kernel
abbrev cX8_init : ByteArray := prog_10_method_1_code
def yX8_init : MethodName := ⟨RX8, "<init>", "()V"⟩
abbrev cX8_begin : ByteArray := prog_10_method_2_code
def yX8_begin : MethodName := ⟨RX8, "begin", "(LKeySealer$Row;LKeySealer$Row;)V"⟩
abbrev cX8_fillStream : ByteArray := prog_10_method_3_code
def yX8_fillStream : MethodName := ⟨RX8, "fillStream", "(I)V"⟩
abbrev cX8_absorb : ByteArray := prog_10_method_4_code
def yX8_absorb : MethodName := ⟨RX8, "absorb", "()V"⟩
abbrev cX8_absorbLengths : ByteArray := prog_10_method_5_code
def yX8_absorbLengths : MethodName := ⟨RX8, "absorbLengths", "(II)V"⟩
abbrev cX8_writeTag : ByteArray := prog_10_method_6_code
def yX8_writeTag : MethodName := ⟨RX8, "writeTag", "()V"⟩
abbrev cX8_wordOf : ByteArray := prog_10_method_7_code
def yX8_wordOf : MethodName := ⟨RX8, "wordOf", "(LKeySealer$Row;I)I"⟩
abbrev cX8_longOf : ByteArray := prog_10_method_8_code
def yX8_longOf : MethodName := ⟨RX8, "longOf", "([II)J"⟩
abbrev cX8_fillBlock : ByteArray := prog_10_method_9_code
def yX8_fillBlock : MethodName := ⟨RX8, "fillBlock", "(I)V"⟩
abbrev cX8_quarter : ByteArray := prog_10_method_10_code
def yX8_quarter : MethodName := ⟨RX8, "quarter", "(IIII)V"⟩
abbrev cX8_split : ByteArray := prog_10_method_11_code
def yX8_split : MethodName := ⟨RX8, "split", "(JJ[J)V"⟩
abbrev cX8_multiply : ByteArray := prog_10_method_12_code
def yX8_multiply : MethodName := ⟨RX8, "multiply", "(JJ)V"⟩
abbrev cX8_carry : ByteArray := prog_10_method_13_code
def yX8_carry : MethodName := ⟨RX8, "carry", "([J)V"⟩
abbrev cX8_reduce : ByteArray := prog_10_method_14_code
def yX8_reduce : MethodName := ⟨RX8, "reduce", "()V"⟩
def RX9 : String := "KeySealer"
def TX9 : u_T := fun k => match k with
  | 0 => ("KeySealer", "registers", "[LKeySealer$Row;", true)
  | 1 => ("KeySealer", "contexts", "[LKeySealer$Context;", true)
  | 2 => ("KeySealer", "used", "[I", true)
  | 3 => ("KeySealer", "labels", "LKeySealer$Labels;", true)
  | 4 => ("KeySealer", "curve", "LKeySealer$Curve;", true)
  | 5 => ("KeySealer", "blockCipher", "LKeySealer$BlockCipher;", true)
  | 6 => ("KeySealer", "streamCipher", "LKeySealer$StreamCipher;", true)
  | 7 => ("KeySealer", "nothing", "LKeySealer$Row;", true)
  | 8 => ("KeySealer", "made", "LKeySealer$Row;", true)
  | 9 => ("KeySealer", "nonceNow", "LKeySealer$Row;", true)
  | 10 => ("KeySealer", "agreed", "LKeySealer$Row;", true)
  | 11 => ("KeySealer", "publics", "LKeySealer$Row;", true)
  | 12 => ("KeySealer", "extracted", "LKeySealer$Row;", true)
  | 13 => ("KeySealer", "secretNow", "LKeySealer$Row;", true)
  | _ => ("KeySealer", "schedule", "LKeySealer$Row;", true)
def tyX9 : Nat → FieldType := fun k => match k with
  | 0 => .array (.object "KeySealer$Row")
  | 1 => .array (.object "KeySealer$Context")
  | 2 => .array .int
  | 3 => .object "KeySealer$Labels"
  | 4 => .object "KeySealer$Curve"
  | 5 => .object "KeySealer$BlockCipher"
  | 6 => .object "KeySealer$StreamCipher"
  | 7 => .object "KeySealer$Row"
  | 8 => .object "KeySealer$Row"
  | 9 => .object "KeySealer$Row"
  | 10 => .object "KeySealer$Row"
  | 11 => .object "KeySealer$Row"
  | 12 => .object "KeySealer$Row"
  | 13 => .object "KeySealer$Row"
  | _ => .object "KeySealer$Row"
abbrev wsX90 : List Cond := u_ws RX9 TX9 15
theorem nmX9 : ∀ a, a < 15 → ∀ b, b < 15 → a ≠ b → (TX9 a).2.1 ≠ (TX9 b).2.1 := by decide +kernel
theorem tyX9_ok : ∀ k, k < 15 → parseFieldDescriptor (TX9 k).2.2.1 = some (tyX9 k) := by decide +kernel
abbrev cX9_init : ByteArray := prog_1_method_1_code
def yX9_init : MethodName := ⟨RX9, "<init>", "()V"⟩
abbrev cX9_add : ByteArray := prog_1_method_2_code
def yX9_add : MethodName := ⟨RX9, "add", "(IIJ)I"⟩
abbrev cX9_clear : ByteArray := prog_1_method_3_code
def yX9_clear : MethodName := ⟨RX9, "clear", "(I)I"⟩
abbrev cX9_copy : ByteArray := prog_1_method_4_code
def yX9_copy : MethodName := ⟨RX9, "copy", "(IIII)I"⟩
abbrev cX9_join : ByteArray := prog_1_method_5_code
def yX9_join : MethodName := ⟨RX9, "join", "(II)I"⟩
abbrev cX9_turn : ByteArray := prog_1_method_6_code
def yX9_turn : MethodName := ⟨RX9, "turn", "(III)I"⟩
abbrev cX9_size : ByteArray := prog_1_method_7_code
def yX9_size : MethodName := ⟨RX9, "size", "(I)I"⟩
abbrev cX9_at : ByteArray := prog_1_method_8_code
def yX9_at : MethodName := ⟨RX9, "at", "(II)I"⟩
abbrev cX9_hash : ByteArray := prog_1_method_9_code
def yX9_hash : MethodName := ⟨RX9, "hash", "(III)I"⟩
abbrev cX9_mac : ByteArray := prog_1_method_10_code
def yX9_mac : MethodName := ⟨RX9, "mac", "(IIII)I"⟩
abbrev cX9_expand : ByteArray := prog_1_method_11_code
def yX9_expand : MethodName := ⟨RX9, "expand", "(IIIII)I"⟩
abbrev cX9_agree : ByteArray := prog_1_method_12_code
def yX9_agree : MethodName := ⟨RX9, "agree", "(III)I"⟩
abbrev cX9_open : ByteArray := prog_1_method_13_code
def yX9_open : MethodName := ⟨RX9, "open", "(II)I"⟩
abbrev cX9_pair : ByteArray := prog_1_method_14_code
def yX9_pair : MethodName := ⟨RX9, "pair", "(III)I"⟩
abbrev cX9_lock : ByteArray := prog_1_method_15_code
def yX9_lock : MethodName := ⟨RX9, "lock", "(IIIIII)I"⟩
abbrev cX9_unlock : ByteArray := prog_1_method_16_code
def yX9_unlock : MethodName := ⟨RX9, "unlock", "(IIIIII)I"⟩
abbrev cX9_use : ByteArray := prog_1_method_17_code
def yX9_use : MethodName := ⟨RX9, "use", "(II)I"⟩
abbrev cX9_sender : ByteArray := prog_1_method_18_code
def yX9_sender : MethodName := ⟨RX9, "sender", "(IIIIIII)I"⟩
abbrev cX9_receiver : ByteArray := prog_1_method_19_code
def yX9_receiver : MethodName := ⟨RX9, "receiver", "(IIIIII)I"⟩
abbrev cX9_seal : ByteArray := prog_1_method_20_code
def yX9_seal : MethodName := ⟨RX9, "seal", "(IIII)I"⟩
abbrev cX9_unseal : ByteArray := prog_1_method_21_code
def yX9_unseal : MethodName := ⟨RX9, "unseal", "(IIII)I"⟩
abbrev cX9_export : ByteArray := prog_1_method_22_code
def yX9_export : MethodName := ⟨RX9, "export", "(IIII)I"⟩
abbrev cX9_sequence : ByteArray := prog_1_method_23_code
def yX9_sequence : MethodName := ⟨RX9, "sequence", "(IIII)I"⟩
abbrev cX9_told : ByteArray := prog_1_method_24_code
def yX9_told : MethodName := ⟨RX9, "told", "(II)I"⟩
abbrev cX9_secret : ByteArray := prog_1_method_25_code
def yX9_secret : MethodName := ⟨RX9, "secret", "(III)I"⟩
abbrev cX9_isRegister : ByteArray := prog_1_method_26_code
def yX9_isRegister : MethodName := ⟨RX9, "isRegister", "(I)Z"⟩
abbrev cX9_isContext : ByteArray := prog_1_method_27_code
def yX9_isContext : MethodName := ⟨RX9, "isContext", "(I)Z"⟩
abbrev cX9_isKind : ByteArray := prog_1_method_28_code
def yX9_isKind : MethodName := ⟨RX9, "isKind", "(I)Z"⟩
abbrev cX9_isLength : ByteArray := prog_1_method_29_code
def yX9_isLength : MethodName := ⟨RX9, "isLength", "(I)Z"⟩
abbrev cX9_isCipher : ByteArray := prog_1_method_30_code
def yX9_isCipher : MethodName := ⟨RX9, "isCipher", "(I)Z"⟩
abbrev cX9_isKnown : ByteArray := prog_1_method_31_code
def yX9_isKnown : MethodName := ⟨RX9, "isKnown", "(I)Z"⟩
abbrev cX9_isSuite : ByteArray := prog_1_method_32_code
def yX9_isSuite : MethodName := ⟨RX9, "isSuite", "(III)Z"⟩
abbrev cX9_keyBytes : ByteArray := prog_1_method_33_code
def yX9_keyBytes : MethodName := ⟨RX9, "keyBytes", "(I)I"⟩
abbrev cX9_isBegun : ByteArray := prog_1_method_34_code
def yX9_isBegun : MethodName := ⟨RX9, "isBegun", "(I)Z"⟩
abbrev cX9_canCipher : ByteArray := prog_1_method_35_code
def yX9_canCipher : MethodName := ⟨RX9, "canCipher", "(II)Z"⟩
abbrev cX9_holdsKey : ByteArray := prog_1_method_36_code
def yX9_holdsKey : MethodName := ⟨RX9, "holdsKey", "(I)Z"⟩
abbrev cX9_isLocking : ByteArray := prog_1_method_37_code
def yX9_isLocking : MethodName := ⟨RX9, "isLocking", "(III)Z"⟩
abbrev cX9_fitsWithTag : ByteArray := prog_1_method_38_code
def yX9_fitsWithTag : MethodName := ⟨RX9, "fitsWithTag", "(I)Z"⟩
abbrev cX9_lastingFits : ByteArray := prog_1_method_39_code
def yX9_lastingFits : MethodName := ⟨RX9, "lastingFits", "(II)Z"⟩
abbrev cX9_sharedFits : ByteArray := prog_1_method_40_code
def yX9_sharedFits : MethodName := ⟨RX9, "sharedFits", "(I)Z"⟩
abbrev cX9_usedRow : ByteArray := prog_1_method_41_code
def yX9_usedRow : MethodName := ⟨RX9, "usedRow", "(I)LKeySealer$Row;"⟩
abbrev cX9_give : ByteArray := prog_1_method_42_code
def yX9_give : MethodName := ⟨RX9, "give", "(I)I"⟩
abbrev cX9_cipherOf : ByteArray := prog_1_method_43_code
def yX9_cipherOf : MethodName := ⟨RX9, "cipherOf", "(I)LKeySealer$Cipher;"⟩
abbrev cX9_beginCipher : ByteArray := prog_1_method_44_code
def yX9_beginCipher : MethodName := ⟨RX9, "beginCipher", "(LKeySealer$Context;)LKeySealer$Cipher;"⟩
abbrev cX9_agreeToSend : ByteArray := prog_1_method_45_code
def yX9_agreeToSend : MethodName := ⟨RX9, "agreeToSend", "(ZLKeySealer$Row;LKeySealer$Row;)Z"⟩
abbrev cX9_agreeToReceive : ByteArray := prog_1_method_46_code
def yX9_agreeToReceive : MethodName := ⟨RX9, "agreeToReceive", "(ZLKeySealer$Row;LKeySealer$Row;)Z"⟩
abbrev cX9_fillContext : ByteArray := prog_1_method_47_code
def yX9_fillContext : MethodName := ⟨RX9, "fillContext", "(LKeySealer$Context;)V"⟩
def RX10 : String := "KeySealerModel"
def TX10 : u_T := fun k => match k with
  | 0 => ("KeySealerModel", "bytes", "[I", true)
  | 1 => ("KeySealerModel", "sizes", "[I", true)
  | 2 => ("KeySealerModel", "result", "[I", true)
  | 3 => ("KeySealerModel", "msg", "[I", true)
  | 4 => ("KeySealerModel", "msgSize", "I", false)
  | 5 => ("KeySealerModel", "words", "[J", true)
  | 6 => ("KeySealerModel", "state", "[J", true)
  | 7 => ("KeySealerModel", "hash", "[I", true)
  | 8 => ("KeySealerModel", "mk", "[I", true)
  | 9 => ("KeySealerModel", "mkSize", "I", false)
  | 10 => ("KeySealerModel", "built", "[I", true)
  | 11 => ("KeySealerModel", "builtSize", "I", false)
  | 12 => ("KeySealerModel", "about", "[I", true)
  | 13 => ("KeySealerModel", "aboutSize", "I", false)
  | 14 => ("KeySealerModel", "x1", "[J", true)
  | 15 => ("KeySealerModel", "x2", "[J", true)
  | 16 => ("KeySealerModel", "z2", "[J", true)
  | 17 => ("KeySealerModel", "x3", "[J", true)
  | 18 => ("KeySealerModel", "z3", "[J", true)
  | 19 => ("KeySealerModel", "na", "[J", true)
  | 20 => ("KeySealerModel", "nb", "[J", true)
  | 21 => ("KeySealerModel", "nc", "[J", true)
  | 22 => ("KeySealerModel", "nd", "[J", true)
  | 23 => ("KeySealerModel", "ne", "[J", true)
  | 24 => ("KeySealerModel", "nf", "[J", true)
  | 25 => ("KeySealerModel", "big", "[J", true)
  | 26 => ("KeySealerModel", "small24", "[J", true)
  | 27 => ("KeySealerModel", "ka", "[I", true)
  | 28 => ("KeySealerModel", "kb", "[I", true)
  | 29 => ("KeySealerModel", "kc", "[I", true)
  | 30 => ("KeySealerModel", "sub", "[I", true)
  | 31 => ("KeySealerModel", "round", "[I", true)
  | 32 => ("KeySealerModel", "rounds", "I", false)
  | 33 => ("KeySealerModel", "block", "[I", true)
  | 34 => ("KeySealerModel", "other", "[I", true)
  | 35 => ("KeySealerModel", "ck", "[I", true)
  | 36 => ("KeySealerModel", "cn", "[I", true)
  | 37 => ("KeySealerModel", "aad", "[I", true)
  | 38 => ("KeySealerModel", "aadSize", "I", false)
  | 39 => ("KeySealerModel", "body", "[I", true)
  | 40 => ("KeySealerModel", "bodySize", "I", false)
  | 41 => ("KeySealerModel", "tag", "[I", true)
  | 42 => ("KeySealerModel", "hHigh", "J", false)
  | 43 => ("KeySealerModel", "hLow", "J", false)
  | 44 => ("KeySealerModel", "yHigh", "J", false)
  | 45 => ("KeySealerModel", "yLow", "J", false)
  | 46 => ("KeySealerModel", "begun", "[I", true)
  | 47 => ("KeySealerModel", "mixing", "[I", true)
  | 48 => ("KeySealerModel", "stream", "[I", true)
  | 49 => ("KeySealerModel", "pr", "[J", true)
  | 50 => ("KeySealerModel", "pv", "[J", true)
  | 51 => ("KeySealerModel", "pw", "[J", true)
  | 52 => ("KeySealerModel", "lengths", "[I", true)
  | 53 => ("KeySealerModel", "id", "[I", true)
  | 54 => ("KeySealerModel", "idSize", "I", false)
  | 55 => ("KeySealerModel", "uses", "[I", true)
  | 56 => ("KeySealerModel", "agreements", "[I", true)
  | 57 => ("KeySealerModel", "agreementSize", "I", false)
  | 58 => ("KeySealerModel", "about2", "[I", true)
  | 59 => ("KeySealerModel", "about2Size", "I", false)
  | 60 => ("KeySealerModel", "secret", "[I", true)
  | 61 => ("KeySealerModel", "side", "[I", true)
  | 62 => ("KeySealerModel", "modes", "[I", true)
  | 63 => ("KeySealerModel", "kinds", "[I", true)
  | 64 => ("KeySealerModel", "numbers", "[I", true)
  | 65 => ("KeySealerModel", "sequence", "[J", true)
  | 66 => ("KeySealerModel", "keys", "[I", true)
  | 67 => ("KeySealerModel", "bases", "[I", true)
  | 68 => ("KeySealerModel", "exporters", "[I", true)
  | 69 => ("KeySealerModel", "z", "[I", true)
  | _ => ("KeySealerModel", "zSize", "I", false)
def tyX10 : Nat → FieldType := fun k => match k with
  | 0 => .array .int
  | 1 => .array .int
  | 2 => .array .int
  | 3 => .array .int
  | 4 => .int
  | 5 => .array .long
  | 6 => .array .long
  | 7 => .array .int
  | 8 => .array .int
  | 9 => .int
  | 10 => .array .int
  | 11 => .int
  | 12 => .array .int
  | 13 => .int
  | 14 => .array .long
  | 15 => .array .long
  | 16 => .array .long
  | 17 => .array .long
  | 18 => .array .long
  | 19 => .array .long
  | 20 => .array .long
  | 21 => .array .long
  | 22 => .array .long
  | 23 => .array .long
  | 24 => .array .long
  | 25 => .array .long
  | 26 => .array .long
  | 27 => .array .int
  | 28 => .array .int
  | 29 => .array .int
  | 30 => .array .int
  | 31 => .array .int
  | 32 => .int
  | 33 => .array .int
  | 34 => .array .int
  | 35 => .array .int
  | 36 => .array .int
  | 37 => .array .int
  | 38 => .int
  | 39 => .array .int
  | 40 => .int
  | 41 => .array .int
  | 42 => .long
  | 43 => .long
  | 44 => .long
  | 45 => .long
  | 46 => .array .int
  | 47 => .array .int
  | 48 => .array .int
  | 49 => .array .long
  | 50 => .array .long
  | 51 => .array .long
  | 52 => .array .int
  | 53 => .array .int
  | 54 => .int
  | 55 => .array .int
  | 56 => .array .int
  | 57 => .int
  | 58 => .array .int
  | 59 => .int
  | 60 => .array .int
  | 61 => .array .int
  | 62 => .array .int
  | 63 => .array .int
  | 64 => .array .int
  | 65 => .array .long
  | 66 => .array .int
  | 67 => .array .int
  | 68 => .array .int
  | 69 => .array .int
  | _ => .int
abbrev wsX100 : List Cond := u_ws RX10 TX10 71
theorem nmX10 : ∀ a, a < 71 → ∀ b, b < 71 → a ≠ b → (TX10 a).2.1 ≠ (TX10 b).2.1 := by decide +kernel
theorem tyX10_ok : ∀ k, k < 71 → parseFieldDescriptor (TX10 k).2.2.1 = some (tyX10 k) := by decide +kernel
abbrev cX10_init : ByteArray := prog_12_method_1_code
def yX10_init : MethodName := ⟨RX10, "<init>", "()V"⟩
abbrev cX10_isReg : ByteArray := prog_12_method_3_code
def yX10_isReg : MethodName := ⟨RX10, "isReg", "(I)Z"⟩
abbrev cX10_areRegs : ByteArray := prog_12_method_4_code
def yX10_areRegs : MethodName := ⟨RX10, "areRegs", "(III)Z"⟩
abbrev cX10_add : ByteArray := prog_12_method_5_code
def yX10_add : MethodName := ⟨RX10, "add", "(IIJ)I"⟩
abbrev cX10_clear : ByteArray := prog_12_method_6_code
def yX10_clear : MethodName := ⟨RX10, "clear", "(I)I"⟩
abbrev cX10_copy : ByteArray := prog_12_method_7_code
def yX10_copy : MethodName := ⟨RX10, "copy", "(IIII)I"⟩
abbrev cX10_join : ByteArray := prog_12_method_8_code
def yX10_join : MethodName := ⟨RX10, "join", "(II)I"⟩
abbrev cX10_turn : ByteArray := prog_12_method_9_code
def yX10_turn : MethodName := ⟨RX10, "turn", "(III)I"⟩
abbrev cX10_size : ByteArray := prog_12_method_10_code
def yX10_size : MethodName := ⟨RX10, "size", "(I)I"⟩
abbrev cX10_at : ByteArray := prog_12_method_11_code
def yX10_at : MethodName := ⟨RX10, "at", "(II)I"⟩
abbrev cX10_give : ByteArray := prog_12_method_12_code
def yX10_give : MethodName := ⟨RX10, "give", "(II)V"⟩
abbrev cX10_hashSize : ByteArray := prog_12_method_13_code
def yX10_hashSize : MethodName := ⟨RX10, "hashSize", "(I)I"⟩
abbrev cX10_turned : ByteArray := prog_12_method_14_code
def yX10_turned : MethodName := ⟨RX10, "turned", "(JIZ)J"⟩
abbrev cX10_three : ByteArray := prog_12_method_15_code
def yX10_three : MethodName := ⟨RX10, "three", "(JIIIZ)J"⟩
abbrev cX10_mixed : ByteArray := prog_12_method_16_code
def yX10_mixed : MethodName := ⟨RX10, "mixed", "(JIIIZ)J"⟩
abbrev cX10_digest : ByteArray := prog_12_method_17_code
def yX10_digest : MethodName := ⟨RX10, "digest", "(I)V"⟩
abbrev cX10_doBlock : ByteArray := prog_12_method_18_code
def yX10_doBlock : MethodName := ⟨RX10, "doBlock", "(Z)V"⟩
abbrev cX10_hash : ByteArray := prog_12_method_19_code
def yX10_hash : MethodName := ⟨RX10, "hash", "(III)I"⟩
abbrev cX10_giveHash : ByteArray := prog_12_method_20_code
def yX10_giveHash : MethodName := ⟨RX10, "giveHash", "(II)V"⟩
abbrev cX10_build : ByteArray := prog_12_method_21_code
def yX10_build : MethodName := ⟨RX10, "build", "(I)V"⟩
abbrev cX10_buildAll : ByteArray := prog_12_method_22_code
def yX10_buildAll : MethodName := ⟨RX10, "buildAll", "([I)V"⟩
abbrev cX10_buildPart : ByteArray := prog_12_method_23_code
def yX10_buildPart : MethodName := ⟨RX10, "buildPart", "([III)V"⟩
abbrev cX10_buildReg : ByteArray := prog_12_method_24_code
def yX10_buildReg : MethodName := ⟨RX10, "buildReg", "(I)V"⟩
abbrev cX10_keyIs : ByteArray := prog_12_method_25_code
def yX10_keyIs : MethodName := ⟨RX10, "keyIs", "(I[III)V"⟩
abbrev cX10_keyed : ByteArray := prog_12_method_26_code
def yX10_keyed : MethodName := ⟨RX10, "keyed", "(I)V"⟩
abbrev cX10_expandTo : ByteArray := prog_12_method_27_code
def yX10_expandTo : MethodName := ⟨RX10, "expandTo", "(II)V"⟩
abbrev cX10_mac : ByteArray := prog_12_method_28_code
def yX10_mac : MethodName := ⟨RX10, "mac", "(IIII)I"⟩
abbrev cX10_aboutIsBuilt : ByteArray := prog_12_method_29_code
def yX10_aboutIsBuilt : MethodName := ⟨RX10, "aboutIsBuilt", "()V"⟩
abbrev cX10_expand : ByteArray := prog_12_method_30_code
def yX10_expand : MethodName := ⟨RX10, "expand", "(IIIII)I"⟩
abbrev cX10_carry : ByteArray := prog_12_method_31_code
def yX10_carry : MethodName := ⟨RX10, "carry", "([J)V"⟩
abbrev cX10_plus : ByteArray := prog_12_method_32_code
def yX10_plus : MethodName := ⟨RX10, "plus", "([J[J[J)V"⟩
abbrev cX10_minus : ByteArray := prog_12_method_33_code
def yX10_minus : MethodName := ⟨RX10, "minus", "([J[J[J)V"⟩
abbrev cX10_times : ByteArray := prog_12_method_34_code
def yX10_times : MethodName := ⟨RX10, "times", "([J[J[J)V"⟩
abbrev cX10_is : ByteArray := prog_12_method_35_code
def yX10_is : MethodName := ⟨RX10, "is", "([J[J)V"⟩
abbrev cX10_isNumber : ByteArray := prog_12_method_36_code
def yX10_isNumber : MethodName := ⟨RX10, "isNumber", "([JJ)V"⟩
abbrev cX10_swap : ByteArray := prog_12_method_37_code
def yX10_swap : MethodName := ⟨RX10, "swap", "([J[J)V"⟩
abbrev cX10_invert : ByteArray := prog_12_method_38_code
def yX10_invert : MethodName := ⟨RX10, "invert", "()V"⟩
abbrev cX10_agreed : ByteArray := prog_12_method_39_code
def yX10_agreed : MethodName := ⟨RX10, "agreed", "()V"⟩
abbrev cX10_pack : ByteArray := prog_12_method_40_code
def yX10_pack : MethodName := ⟨RX10, "pack", "()V"⟩
abbrev cX10_first : ByteArray := prog_12_method_41_code
def yX10_first : MethodName := ⟨RX10, "first", "([II)V"⟩
abbrev cX10_second : ByteArray := prog_12_method_42_code
def yX10_second : MethodName := ⟨RX10, "second", "([II)V"⟩
abbrev cX10_publicOf : ByteArray := prog_12_method_43_code
def yX10_publicOf : MethodName := ⟨RX10, "publicOf", "()V"⟩
abbrev cX10_isZero : ByteArray := prog_12_method_44_code
def yX10_isZero : MethodName := ⟨RX10, "isZero", "()Z"⟩
abbrev cX10_isKey : ByteArray := prog_12_method_45_code
def yX10_isKey : MethodName := ⟨RX10, "isKey", "(I)Z"⟩
abbrev cX10_giveKey : ByteArray := prog_12_method_46_code
def yX10_giveKey : MethodName := ⟨RX10, "giveKey", "(I)I"⟩
abbrev cX10_agree : ByteArray := prog_12_method_47_code
def yX10_agree : MethodName := ⟨RX10, "agree", "(III)I"⟩
abbrev cX10_open : ByteArray := prog_12_method_48_code
def yX10_open : MethodName := ⟨RX10, "open", "(II)I"⟩
abbrev cX10_times256 : ByteArray := prog_12_method_49_code
def yX10_times256 : MethodName := ⟨RX10, "times256", "(II)I"⟩
abbrev cX10_makeSubs : ByteArray := prog_12_method_50_code
def yX10_makeSubs : MethodName := ⟨RX10, "makeSubs", "()V"⟩
abbrev cX10_makeRounds : ByteArray := prog_12_method_51_code
def yX10_makeRounds : MethodName := ⟨RX10, "makeRounds", "(I)V"⟩
abbrev cX10_cipher : ByteArray := prog_12_method_52_code
def yX10_cipher : MethodName := ⟨RX10, "cipher", "()V"⟩
abbrev cX10_counter : ByteArray := prog_12_method_53_code
def yX10_counter : MethodName := ⟨RX10, "counter", "(I)V"⟩
abbrev cX10_eight : ByteArray := prog_12_method_54_code
def yX10_eight : MethodName := ⟨RX10, "eight", "([II)J"⟩
abbrev cX10_gather : ByteArray := prog_12_method_55_code
def yX10_gather : MethodName := ⟨RX10, "gather", "(JJ)V"⟩
abbrev cX10_gatherAll : ByteArray := prog_12_method_56_code
def yX10_gatherAll : MethodName := ⟨RX10, "gatherAll", "([II)V"⟩
abbrev cX10_blockTag : ByteArray := prog_12_method_57_code
def yX10_blockTag : MethodName := ⟨RX10, "blockTag", "()V"⟩
abbrev cX10_quarter : ByteArray := prog_12_method_58_code
def yX10_quarter : MethodName := ⟨RX10, "quarter", "(IIII)V"⟩
abbrev cX10_four : ByteArray := prog_12_method_59_code
def yX10_four : MethodName := ⟨RX10, "four", "([II)I"⟩
abbrev cX10_streamOf : ByteArray := prog_12_method_60_code
def yX10_streamOf : MethodName := ⟨RX10, "streamOf", "(I)V"⟩
abbrev cX10_addPoly : ByteArray := prog_12_method_61_code
def yX10_addPoly : MethodName := ⟨RX10, "addPoly", "([III)V"⟩
abbrev cX10_carryPoly : ByteArray := prog_12_method_62_code
def yX10_carryPoly : MethodName := ⟨RX10, "carryPoly", "()V"⟩
abbrev cX10_streamTag : ByteArray := prog_12_method_63_code
def yX10_streamTag : MethodName := ⟨RX10, "streamTag", "()V"⟩
abbrev cX10_keySize : ByteArray := prog_12_method_64_code
def yX10_keySize : MethodName := ⟨RX10, "keySize", "(I)I"⟩
abbrev cX10_mask : ByteArray := prog_12_method_65_code
def yX10_mask : MethodName := ⟨RX10, "mask", "(I)V"⟩
abbrev cX10_makeTag : ByteArray := prog_12_method_66_code
def yX10_makeTag : MethodName := ⟨RX10, "makeTag", "(I)V"⟩
abbrev cX10_locked : ByteArray := prog_12_method_67_code
def yX10_locked : MethodName := ⟨RX10, "locked", "(IIII)I"⟩
abbrev cX10_take : ByteArray := prog_12_method_68_code
def yX10_take : MethodName := ⟨RX10, "take", "(III)V"⟩
abbrev cX10_unlocked : ByteArray := prog_12_method_69_code
def yX10_unlocked : MethodName := ⟨RX10, "unlocked", "(IIII)I"⟩
abbrev cX10_isLock : ByteArray := prog_12_method_70_code
def yX10_isLock : MethodName := ⟨RX10, "isLock", "(IIIIII)Z"⟩
abbrev cX10_lock : ByteArray := prog_12_method_71_code
def yX10_lock : MethodName := ⟨RX10, "lock", "(IIIIII)I"⟩
abbrev cX10_unlock : ByteArray := prog_12_method_72_code
def yX10_unlock : MethodName := ⟨RX10, "unlock", "(IIIIII)I"⟩
abbrev cX10_kemId : ByteArray := prog_12_method_73_code
def yX10_kemId : MethodName := ⟨RX10, "kemId", "()V"⟩
abbrev cX10_suiteId : ByteArray := prog_12_method_74_code
def yX10_suiteId : MethodName := ⟨RX10, "suiteId", "(II)V"⟩
abbrev cX10_beginX : ByteArray := prog_12_method_75_code
def yX10_beginX : MethodName := ⟨RX10, "beginX", "([I)V"⟩
abbrev cX10_beginP : ByteArray := prog_12_method_76_code
def yX10_beginP : MethodName := ⟨RX10, "beginP", "([II)V"⟩
abbrev cX10_noSalt : ByteArray := prog_12_method_77_code
def yX10_noSalt : MethodName := ⟨RX10, "noSalt", "(I)V"⟩
abbrev cX10_makeP : ByteArray := prog_12_method_78_code
def yX10_makeP : MethodName := ⟨RX10, "makeP", "(II)V"⟩
abbrev cX10_pair : ByteArray := prog_12_method_79_code
def yX10_pair : MethodName := ⟨RX10, "pair", "(III)I"⟩
abbrev cX10_use : ByteArray := prog_12_method_80_code
def yX10_use : MethodName := ⟨RX10, "use", "(II)I"⟩
abbrev cX10_usedSize : ByteArray := prog_12_method_81_code
def yX10_usedSize : MethodName := ⟨RX10, "usedSize", "(I)I"⟩
abbrev cX10_agreesToo : ByteArray := prog_12_method_82_code
def yX10_agreesToo : MethodName := ⟨RX10, "agreesToo", "()Z"⟩
abbrev cX10_aboutToo : ByteArray := prog_12_method_83_code
def yX10_aboutToo : MethodName := ⟨RX10, "aboutToo", "([II)V"⟩
abbrev cX10_makeSecret : ByteArray := prog_12_method_84_code
def yX10_makeSecret : MethodName := ⟨RX10, "makeSecret", "()V"⟩
abbrev cX10_schedule : ByteArray := prog_12_method_85_code
def yX10_schedule : MethodName := ⟨RX10, "schedule", "(IIIII)V"⟩
abbrev cX10_toZ : ByteArray := prog_12_method_86_code
def yX10_toZ : MethodName := ⟨RX10, "toZ", "(I)V"⟩
abbrev cX10_part : ByteArray := prog_12_method_87_code
def yX10_part : MethodName := ⟨RX10, "part", "([III[II)V"⟩
abbrev cX10_isContext : ByteArray := prog_12_method_88_code
def yX10_isContext : MethodName := ⟨RX10, "isContext", "(I)Z"⟩
abbrev cX10_isSuite : ByteArray := prog_12_method_89_code
def yX10_isSuite : MethodName := ⟨RX10, "isSuite", "(IIII)Z"⟩
abbrev cX10_areShared : ByteArray := prog_12_method_90_code
def yX10_areShared : MethodName := ⟨RX10, "areShared", "(I)Z"⟩
abbrev cX10_sender : ByteArray := prog_12_method_91_code
def yX10_sender : MethodName := ⟨RX10, "sender", "(IIIIIII)I"⟩
abbrev cX10_receiver : ByteArray := prog_12_method_92_code
def yX10_receiver : MethodName := ⟨RX10, "receiver", "(IIIIII)I"⟩
abbrev cX10_isLast : ByteArray := prog_12_method_93_code
def yX10_isLast : MethodName := ⟨RX10, "isLast", "(I)Z"⟩
abbrev cX10_keyOf : ByteArray := prog_12_method_94_code
def yX10_keyOf : MethodName := ⟨RX10, "keyOf", "(I)V"⟩
abbrev cX10_goesOn : ByteArray := prog_12_method_95_code
def yX10_goesOn : MethodName := ⟨RX10, "goesOn", "(I)V"⟩
abbrev cX10_seal : ByteArray := prog_12_method_96_code
def yX10_seal : MethodName := ⟨RX10, "seal", "(IIII)I"⟩
abbrev cX10_unseal : ByteArray := prog_12_method_97_code
def yX10_unseal : MethodName := ⟨RX10, "unseal", "(IIII)I"⟩
abbrev cX10_export : ByteArray := prog_12_method_98_code
def yX10_export : MethodName := ⟨RX10, "export", "(IIII)I"⟩
abbrev cX10_sequence : ByteArray := prog_12_method_99_code
def yX10_sequence : MethodName := ⟨RX10, "sequence", "(IIII)I"⟩
abbrev cX10_told : ByteArray := prog_12_method_100_code
def yX10_told : MethodName := ⟨RX10, "told", "(II)I"⟩
abbrev cX10_secret : ByteArray := prog_12_method_101_code
def yX10_secret : MethodName := ⟨RX10, "secret", "(III)I"⟩
def RJ9 : String := "java/lang/Math"
def TJ9 : u_T := fun k => match k with
  | _ => ("", "", "", false)
def tyJ9 : Nat → FieldType := fun k => match k with
  | _ => .int
abbrev cJ9_max_7cf53 : ByteArray := prog_13_method_65_code
def yJ9_max_7cf53 : MethodName := ⟨RJ9, "max", "(II)I"⟩
abbrev cJ9_min_7cf53 : ByteArray := prog_13_method_69_code
def yJ9_min_7cf53 : MethodName := ⟨RJ9, "min", "(II)I"⟩
def RJ0 : String := "java/lang/String"
def TJ0 : u_T := fun k => match k with
  | _ => ("", "", "", false)
def tyJ0 : Nat → FieldType := fun k => match k with
  | _ => .int
abbrev cJ0_length_8abf5 : ByteArray := prog_14_method_54_code
def yJ0_length_8abf5 : MethodName := ⟨RJ0, "length", "()I"⟩
abbrev cJ0_charAt_5068e : ByteArray := prog_14_method_56_code
def yJ0_charAt_5068e : MethodName := ⟨RJ0, "charAt", "(I)C"⟩
abbrev cJ0_coder_7d493 : ByteArray := prog_14_method_152_code
def yJ0_coder_7d493 : MethodName := ⟨RJ0, "coder", "()B"⟩
abbrev cJ0_isLatin1_aae02 : ByteArray := prog_14_method_154_code
def yJ0_isLatin1_aae02 : MethodName := ⟨RJ0, "isLatin1", "()Z"⟩
abbrev cJ0_checkIndex_df160 : ByteArray := prog_14_method_155_code
def yJ0_checkIndex_df160 : MethodName := ⟨RJ0, "checkIndex", "(II)V"⟩
def RJ1 : String := "java/lang/StringLatin1"
def TJ1 : u_T := fun k => match k with
  | _ => ("", "", "", false)
def tyJ1 : Nat → FieldType := fun k => match k with
  | _ => .int
abbrev cJ1_charAt_3b067 : ByteArray := prog_15_method_2_code
def yJ1_charAt_3b067 : MethodName := ⟨RJ1, "charAt", "([BI)C"⟩
def RJ2 : String := "java/lang/StringUTF16"
def TJ2 : u_T := fun k => match k with
  | _ => ("", "", "", false)
def tyJ2 : Nat → FieldType := fun k => match k with
  | _ => .int
abbrev cJ2_getChar_3b067 : ByteArray := prog_16_method_5_code
def yJ2_getChar_3b067 : MethodName := ⟨RJ2, "getChar", "([BI)C"⟩
abbrev cJ2_length_9d52b : ByteArray := prog_16_method_6_code
def yJ2_length_9d52b : MethodName := ⟨RJ2, "length", "([B)I"⟩
abbrev cJ2_charAt_3b067 : ByteArray := prog_16_method_83_code
def yJ2_charAt_3b067 : MethodName := ⟨RJ2, "charAt", "([BI)C"⟩
abbrev cJ2_checkIndex_2214a : ByteArray := prog_16_method_91_code
def yJ2_checkIndex_2214a : MethodName := ⟨RJ2, "checkIndex", "(I[B)V"⟩
def RJ10 : String := "java/lang/System"
def TJ10 : u_T := fun k => match k with
  | _ => ("", "", "", false)
def tyJ10 : Nat → FieldType := fun k => match k with
  | _ => .int
def RJ3 : String := "jdk/internal/util/Preconditions"
def TJ3 : u_T := fun k => match k with
  | _ => ("", "", "", false)
def tyJ3 : Nat → FieldType := fun k => match k with
  | _ => .int
abbrev cJ3_checkIndex_8e157 : ByteArray := prog_18_method_11_code
def yJ3_checkIndex_8e157 : MethodName := ⟨RJ3, "checkIndex", "(IILjava/util/function/BiFunction;)I"⟩
def RL : String := "KeySealerLaw"
abbrev cL_law : ByteArray := code
def yL_law : MethodName := ⟨RL, "law", "([I)Z"⟩
abbrev vwCl : List vw_C := [(RX0, TX0, 12), (RX2, TX2, 10), (RX3, TX3, 11), (RX4, TX4, 8), (RX5, TX5, 5), (RX6, TX6, 4), (RX7, TX7, 2), (RX8, TX8, 9), (RX9, TX9, 15), (RX10, TX10, 71)]

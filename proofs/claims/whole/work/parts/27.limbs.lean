/-! PART 27: KeySealer$Curve over ten limbs: setSmall, plus, minus, carry, times -/
abbrev lI (x : Int) : Int64 := Int64.ofInt x
theorem wb_smN : ∀ k, k < 64 → ((BitVec.ofNat 64 k).smod 64).toNat = k := by decide +kernel
theorem lI_add (a b : Int) : lI a + lI b = lI (a + b) := (Int64.ofInt_add a b).symm
theorem lI_sub (a b : Int) : lI a - lI b = lI (a - b) := (Int64.ofInt_sub a b).symm
theorem lI_mul (a b : Int) : lI a * lI b = lI (a * b) := (Int64.ofInt_mul a b).symm
theorem lI_toInt {x : Int} (h1 : -9223372036854775808 ≤ x) (h2 : x < 9223372036854775808) : (lI x).toInt = x := by
  rw [Int64.toInt_ofInt, Int.bmod_eq_of_le] <;> simp [Int64.size] <;> omega
theorem asr_lI {x : Int} {k : Nat} (hk : k < 64) (h1 : -9223372036854775808 ≤ x) (h2 : x < 9223372036854775808) : asr (lI x) (nI k) = lI (x / 2 ^ k) := by
  apply Int64.toInt_inj.mp
  rw [asr, wb_c k hk]
  have e : ((lI x >>> Int64.ofNat k)).toBitVec = (lI x).toBitVec.sshiftRight k := by
    rw [Int64.toBitVec_shiftRight]
    have : ((Int64.ofNat k).toBitVec.smod 64).toNat = k := wb_smN k hk
    rw [BitVec.sshiftRight_eq', this]
  have hq : -9223372036854775808 ≤ x / 2 ^ k ∧ x / 2 ^ k < 9223372036854775808 := by
    have hp : (0 : Int) < 2 ^ k := Int.pow_pos (by decide)
    constructor
    · apply (Int.le_ediv_iff_mul_le hp).mpr
      have : (1 : Int) ≤ 2 ^ k := hp
      have : -9223372036854775808 * (2:Int) ^ k ≤ -9223372036854775808 * 1 := by
        apply Int.mul_le_mul_of_nonpos_left <;> omega
      omega
    · apply (Int.ediv_lt_iff_lt_mul hp).mpr
      have : (1 : Int) ≤ 2 ^ k := hp
      have : 9223372036854775808 * 1 ≤ 9223372036854775808 * (2:Int) ^ k := Int.mul_le_mul_of_nonneg_left this (by decide)
      omega
  rw [lI_toInt hq.1 hq.2]
  show (lI x >>> Int64.ofNat k).toBitVec.toInt = _
  rw [e, BitVec.toInt_sshiftRight, Int.shiftRight_eq_div_pow]
  have := lI_toInt h1 h2
  rw [show (lI x).toBitVec.toInt = (lI x).toInt from rfl, this]
  norm_cast
theorem lsl_lI (x : Int) {k : Nat} (hk : k < 64) : lsl (lI x) (nI k) = lI (x * 2 ^ k) := by
  rw [lsl, wb_c k hk, ← lI_mul]
  apply Int64.toBitVec_inj.mp
  rw [Int64.toBitVec_shiftLeft, Int64.toBitVec_mul, BitVec.shiftLeft_eq', BitVec.shiftLeft_eq_mul_twoPow]
  congr 1
  have : ((lN k).toBitVec.smod 64).toNat = k := wb_smN k hk
  rw [this]
  have e : ∀ k, k < 64 → BitVec.twoPow 64 k = (lI (2 ^ k)).toBitVec := by decide +kernel
  exact e k hk

def fe (g : Nat → Int64) (X : Int) (m : Int) : Prop := ∃ F : Nat → Int, (∀ i, i < 10 → g i = lI (F i)) ∧ bnd m F ∧ cg (val10 F) X
theorem fe_12 {g : Nat → Int64} {X : Int} (h : fe g X 1) : fe g X 2 := by obtain ⟨F, a, b, c⟩ := h; exact ⟨F, a, bnd_12 b, c⟩
theorem fe_cg {g : Nat → Int64} {X Y m : Int} (h : fe g X m) (e : cg X Y) : fe g Y m := by obtain ⟨F, a, b, c⟩ := h; exact ⟨F, a, b, cg_tr c e⟩
theorem fe_add {g g' u : Nat → Int64} {X Y : Int} (h : fe g X 1) (h' : fe g' Y 1) (hu : ∀ i, i < 10 → u i = g i + g' i) : fe u (X + Y) 2 := by
  obtain ⟨F, a, b, c⟩ := h
  obtain ⟨F', a', b', c'⟩ := h'
  exact ⟨fun i => F i + F' i, fun i hi => by rw [hu i hi, a i hi, a' i hi, lI_add], bnd_add b b', by rw [val_add]; exact cg_add c c'⟩
theorem fe_sub {g g' u : Nat → Int64} {X Y : Int} (h : fe g X 1) (h' : fe g' Y 1) (hu : ∀ i, i < 10 → u i = g i - g' i) : fe u (X - Y) 2 := by
  obtain ⟨F, a, b, c⟩ := h
  obtain ⟨F', a', b', c'⟩ := h'
  exact ⟨fun i => F i - F' i, fun i hi => by rw [hu i hi, a i hi, a' i hi, lI_sub], bnd_sub b b', by rw [val_sub]; exact cg_sub c c'⟩
def isLA (k N : Nat) : Prop := shp[k]? = some (.inl (.long, N, []))
theorem rdB {hl : Nat → Nat → Int64} {t f : Nat} {u : Nat → Int64} {j : Nat} (h : f = t → u j = hl t j) : (uB hl t u) f j = hl f j := by
  by_cases e : f = t
  · subst e; rw [uB_self]; exact h rfl
  · rw [uB_ne e]
section
variable {SA : mSA} {hi : Nat → Nat → Int32} {hl : Nat → Nat → Int64} {P : Option Value → mH → Prop} {t f g : Nat}
theorem c_plus (ht : isLA t 10) (hf : isLA f 10) (hg : isLA g 10) (hP : ∀ u, (∀ i, i < 10 → u i = hl f i + hl g i) → P none (bH hi (uB hl t u))) : mCt SA 0 0 37 [.ref t, .ref f, .ref g] (bH hi hl) P := by
  have loop : ∀ (m j : Nat) (u : Nat → Int64), j + m = 10 → (∀ i, i < j → u i = hl f i + hl g i) → (∀ i, j ≤ i → u i = hl t i) → mV SA 0 0 37 2 [some (.ref t), some (.ref f), some (.ref g), some (.int (nI j))] [] (bH hi (uB hl t u)) P := by
    intro m
    induction m with
    | zero =>
      intro j u hj h1 h2
      refine m_blk bk_37_2 cb_37_2 ?_
      simp only [bk_37_2, b_iconst, b_bipush, b_sipush, b_lconst, b_ldc, b_ldc_w, b_ldc2_w, b_getstatic, b_iload, b_iload_n, b_istore, b_istore_n, b_lload, b_lload_n, b_lstore, b_lstore_n, b_aload, b_aload_n, b_astore, b_astore_n, b_iinc, b_iadd, b_isub, b_imul, b_iand, b_ior, b_ixor, b_ishl, b_ishr, b_iushr, b_idiv, b_irem, b_ladd, b_lsub, b_lmul, b_land, b_lor, b_lxor, b_lshl, b_lshr, b_lushr, b_i2l, b_l2i, b_i2b, b_i2c, b_lcmp, b_popI, b_popR, b_dupI, b_dupR, b_dup2, b_ifCond, b_icmp, b_goto, b_tsw, b_ireturn, b_lreturn, b_areturn, b_return, b_getfield, b_iaload, b_baload, b_laload, b_aaload, b_iastore, b_bastore, b_lastore, b_arraylength, c_call0, c_call1, c_call2, c_call3, c_call4, c_call5, c_call6, c_call7, c_call8, b_invokestatic, b_max, b_min, b_copy, b_obj, v_virt0, v_poly0, v_virt1, v_poly1, v_virt2, v_poly2, v_virt3, v_poly3, v_virt4, v_poly4, v_virt5, v_poly5, v_virt6, v_poly6, v_virt7, v_poly7, v_spec0, v_spec1, v_spec2, b_nil, wGet_some, wLdI_some, wLdL_some, wLdA_some, wAI_some, wAL_some, wSI_some, wSLg_some, wLen_b, wLen_i, wLen_l, uI_eq, uI_ne1, uI_ne2, uL_eq, uL_ne1, uL_ne2, uA_ne, uB_ne, ne_eq, Nat.reduceEqDiff, not_false_eq_true, uA_self, uB_self, uA_uA, uB_uB, cl_0, cl_1, cl_2, cl_3, cl_4, cl_5, cl_6, cl_7, cl_8, cl_9, cl_10, cl_11, cl_12, cl_13, cl_14, cl_15, cl_16, nar_b0, nar_b1, nar_i, true_and, eq_self, Nat.reduceAdd, Nat.reduceLeDiff, mG, mS1, mS2, mD1, mCut, mC0, mC2, mWd, Value.category, Option.toList_none, Option.toList_some, List.cons_append, List.nil_append, Option.some.injEq, Value.int.injEq, exists_eq_left']
      refine ⟨fun _ => ?_, fun hc => absurd (by rw [show (10 : Int32) = nI 10 from rfl]; exact nI_le (by omega) (by omega)) hc⟩
      refine m_blk bk_37_24 cb_37_24 ?_
      simp only [bk_37_24, b_iconst, b_bipush, b_sipush, b_lconst, b_ldc, b_ldc_w, b_ldc2_w, b_getstatic, b_iload, b_iload_n, b_istore, b_istore_n, b_lload, b_lload_n, b_lstore, b_lstore_n, b_aload, b_aload_n, b_astore, b_astore_n, b_iinc, b_iadd, b_isub, b_imul, b_iand, b_ior, b_ixor, b_ishl, b_ishr, b_iushr, b_idiv, b_irem, b_ladd, b_lsub, b_lmul, b_land, b_lor, b_lxor, b_lshl, b_lshr, b_lushr, b_i2l, b_l2i, b_i2b, b_i2c, b_lcmp, b_popI, b_popR, b_dupI, b_dupR, b_dup2, b_ifCond, b_icmp, b_goto, b_tsw, b_ireturn, b_lreturn, b_areturn, b_return, b_getfield, b_iaload, b_baload, b_laload, b_aaload, b_iastore, b_bastore, b_lastore, b_arraylength, c_call0, c_call1, c_call2, c_call3, c_call4, c_call5, c_call6, c_call7, c_call8, b_invokestatic, b_max, b_min, b_copy, b_obj, v_virt0, v_poly0, v_virt1, v_poly1, v_virt2, v_poly2, v_virt3, v_poly3, v_virt4, v_poly4, v_virt5, v_poly5, v_virt6, v_poly6, v_virt7, v_poly7, v_spec0, v_spec1, v_spec2, b_nil, wGet_some, wLdI_some, wLdL_some, wLdA_some, wAI_some, wAL_some, wSI_some, wSLg_some, wLen_b, wLen_i, wLen_l, uI_eq, uI_ne1, uI_ne2, uL_eq, uL_ne1, uL_ne2, uA_ne, uB_ne, ne_eq, Nat.reduceEqDiff, not_false_eq_true, uA_self, uB_self, uA_uA, uB_uB, cl_0, cl_1, cl_2, cl_3, cl_4, cl_5, cl_6, cl_7, cl_8, cl_9, cl_10, cl_11, cl_12, cl_13, cl_14, cl_15, cl_16, nar_b0, nar_b1, nar_i, true_and, eq_self, Nat.reduceAdd, Nat.reduceLeDiff, mG, mS1, mS2, mD1, mCut, mC0, mC2, mWd, Value.category, Option.toList_none, Option.toList_some, List.cons_append, List.nil_append, Option.some.injEq, Value.int.injEq, exists_eq_left']
      exact hP u (fun i h => h1 i (by omega))
    | succ m ih =>
      intro j u hj h1 h2
      refine m_blk bk_37_2 cb_37_2 ?_
      simp only [bk_37_2, b_iconst, b_bipush, b_sipush, b_lconst, b_ldc, b_ldc_w, b_ldc2_w, b_getstatic, b_iload, b_iload_n, b_istore, b_istore_n, b_lload, b_lload_n, b_lstore, b_lstore_n, b_aload, b_aload_n, b_astore, b_astore_n, b_iinc, b_iadd, b_isub, b_imul, b_iand, b_ior, b_ixor, b_ishl, b_ishr, b_iushr, b_idiv, b_irem, b_ladd, b_lsub, b_lmul, b_land, b_lor, b_lxor, b_lshl, b_lshr, b_lushr, b_i2l, b_l2i, b_i2b, b_i2c, b_lcmp, b_popI, b_popR, b_dupI, b_dupR, b_dup2, b_ifCond, b_icmp, b_goto, b_tsw, b_ireturn, b_lreturn, b_areturn, b_return, b_getfield, b_iaload, b_baload, b_laload, b_aaload, b_iastore, b_bastore, b_lastore, b_arraylength, c_call0, c_call1, c_call2, c_call3, c_call4, c_call5, c_call6, c_call7, c_call8, b_invokestatic, b_max, b_min, b_copy, b_obj, v_virt0, v_poly0, v_virt1, v_poly1, v_virt2, v_poly2, v_virt3, v_poly3, v_virt4, v_poly4, v_virt5, v_poly5, v_virt6, v_poly6, v_virt7, v_poly7, v_spec0, v_spec1, v_spec2, b_nil, wGet_some, wLdI_some, wLdL_some, wLdA_some, wAI_some, wAL_some, wSI_some, wSLg_some, wLen_b, wLen_i, wLen_l, uI_eq, uI_ne1, uI_ne2, uL_eq, uL_ne1, uL_ne2, uA_ne, uB_ne, ne_eq, Nat.reduceEqDiff, not_false_eq_true, uA_self, uB_self, uA_uA, uB_uB, cl_0, cl_1, cl_2, cl_3, cl_4, cl_5, cl_6, cl_7, cl_8, cl_9, cl_10, cl_11, cl_12, cl_13, cl_14, cl_15, cl_16, nar_b0, nar_b1, nar_i, true_and, eq_self, Nat.reduceAdd, Nat.reduceLeDiff, mG, mS1, mS2, mD1, mCut, mC0, mC2, mWd, Value.category, Option.toList_none, Option.toList_some, List.cons_append, List.nil_append, Option.some.injEq, Value.int.injEq, exists_eq_left']
      refine ⟨fun hc => absurd hc (by rw [show (10 : Int32) = nI 10 from rfl]; exact nI_ge (by omega) (by omega)), fun _ => ?_⟩
      have e1 : (uB hl t u) f j = hl f j := rdB (fun _ => h2 j (by omega))
      have e2 : (uB hl t u) g j = hl g j := rdB (fun _ => h2 j (by omega))
      refine m_blk bk_37_8 cb_37_8 ?_
      simp only [bk_37_8, b_iconst, b_bipush, b_sipush, b_lconst, b_ldc, b_ldc_w, b_ldc2_w, b_getstatic, b_iload, b_iload_n, b_istore, b_istore_n, b_lload, b_lload_n, b_lstore, b_lstore_n, b_aload, b_aload_n, b_astore, b_astore_n, b_iinc, b_iadd, b_isub, b_imul, b_iand, b_ior, b_ixor, b_ishl, b_ishr, b_iushr, b_idiv, b_irem, b_ladd, b_lsub, b_lmul, b_land, b_lor, b_lxor, b_lshl, b_lshr, b_lushr, b_i2l, b_l2i, b_i2b, b_i2c, b_lcmp, b_popI, b_popR, b_dupI, b_dupR, b_dup2, b_ifCond, b_icmp, b_goto, b_tsw, b_ireturn, b_lreturn, b_areturn, b_return, b_getfield, b_iaload, b_baload, b_laload, b_aaload, b_iastore, b_bastore, b_lastore, b_arraylength, c_call0, c_call1, c_call2, c_call3, c_call4, c_call5, c_call6, c_call7, c_call8, b_invokestatic, b_max, b_min, b_copy, b_obj, v_virt0, v_poly0, v_virt1, v_poly1, v_virt2, v_poly2, v_virt3, v_poly3, v_virt4, v_poly4, v_virt5, v_poly5, v_virt6, v_poly6, v_virt7, v_poly7, v_spec0, v_spec1, v_spec2, b_nil, wGet_some, wLdI_some, wLdL_some, wLdA_some, wAI_some, wAL_some, wSI_some, wSLg_some, wLen_b, wLen_i, wLen_l, uI_eq, uI_ne1, uI_ne2, uL_eq, uL_ne1, uL_ne2, uA_ne, uB_ne, ne_eq, Nat.reduceEqDiff, not_false_eq_true, uA_self, uB_self, uA_uA, uB_uB, cl_0, cl_1, cl_2, cl_3, cl_4, cl_5, cl_6, cl_7, cl_8, cl_9, cl_10, cl_11, cl_12, cl_13, cl_14, cl_15, cl_16, nar_b0, nar_b1, nar_i, true_and, eq_self, Nat.reduceAdd, Nat.reduceLeDiff, mG, mS1, mS2, mD1, mCut, mC0, mC2, mWd, Value.category, Option.toList_none, Option.toList_some, List.cons_append, List.nil_append, Option.some.injEq, Value.int.injEq, exists_eq_left', g_arrL ht, g_cL ht, p_cpyL ht, g_arrL hf, g_arrL hg, nI_1, nI_clamp (show j < 2 ^ 31 by omega), e1, e2]
      refine ⟨vp_in_nI (by omega) (by omega), vp_in_nI (by omega) (by omega), vp_in_nI (by omega) (by omega), ?_⟩
      refine ih (j + 1) _ (by omega) (fun i h => ?_) (fun i h => ?_)
      · by_cases e : i = j
        · subst e; exact pk_uLs
        · rw [pk_uLn e]; exact h1 i (by omega)
      · rw [pk_uLn (by omega)]; exact h2 i (by omega)
  refine m_met (Nat.le_of_ble_eq_true rfl) ?_
  rw [show mEnt 37 [.ref t, .ref f, .ref g] = [some (.ref t), some (.ref f), some (.ref g), none] from rfl]
  refine m_blk bk_37_0 cb_37_0 ?_
  simp only [bk_37_0, b_iconst, b_bipush, b_sipush, b_lconst, b_ldc, b_ldc_w, b_ldc2_w, b_getstatic, b_iload, b_iload_n, b_istore, b_istore_n, b_lload, b_lload_n, b_lstore, b_lstore_n, b_aload, b_aload_n, b_astore, b_astore_n, b_iinc, b_iadd, b_isub, b_imul, b_iand, b_ior, b_ixor, b_ishl, b_ishr, b_iushr, b_idiv, b_irem, b_ladd, b_lsub, b_lmul, b_land, b_lor, b_lxor, b_lshl, b_lshr, b_lushr, b_i2l, b_l2i, b_i2b, b_i2c, b_lcmp, b_popI, b_popR, b_dupI, b_dupR, b_dup2, b_ifCond, b_icmp, b_goto, b_tsw, b_ireturn, b_lreturn, b_areturn, b_return, b_getfield, b_iaload, b_baload, b_laload, b_aaload, b_iastore, b_bastore, b_lastore, b_arraylength, c_call0, c_call1, c_call2, c_call3, c_call4, c_call5, c_call6, c_call7, c_call8, b_invokestatic, b_max, b_min, b_copy, b_obj, v_virt0, v_poly0, v_virt1, v_poly1, v_virt2, v_poly2, v_virt3, v_poly3, v_virt4, v_poly4, v_virt5, v_poly5, v_virt6, v_poly6, v_virt7, v_poly7, v_spec0, v_spec1, v_spec2, b_nil, wGet_some, wLdI_some, wLdL_some, wLdA_some, wAI_some, wAL_some, wSI_some, wSLg_some, wLen_b, wLen_i, wLen_l, uI_eq, uI_ne1, uI_ne2, uL_eq, uL_ne1, uL_ne2, uA_ne, uB_ne, ne_eq, Nat.reduceEqDiff, not_false_eq_true, uA_self, uB_self, uA_uA, uB_uB, cl_0, cl_1, cl_2, cl_3, cl_4, cl_5, cl_6, cl_7, cl_8, cl_9, cl_10, cl_11, cl_12, cl_13, cl_14, cl_15, cl_16, nar_b0, nar_b1, nar_i, true_and, eq_self, Nat.reduceAdd, Nat.reduceLeDiff, mG, mS1, mS2, mD1, mCut, mC0, mC2, mWd, Value.category, Option.toList_none, Option.toList_some, List.cons_append, List.nil_append, Option.some.injEq, Value.int.injEq, exists_eq_left']
  have h0 := loop 10 0 (hl t) rfl (fun i h => absurd h (by omega)) (fun i _ => rfl)
  rw [uB_id] at h0
  exact h0
theorem c_minus (ht : isLA t 10) (hf : isLA f 10) (hg : isLA g 10) (hP : ∀ u, (∀ i, i < 10 → u i = hl f i - hl g i) → P none (bH hi (uB hl t u))) : mCt SA 0 0 38 [.ref t, .ref f, .ref g] (bH hi hl) P := by
  have loop : ∀ (m j : Nat) (u : Nat → Int64), j + m = 10 → (∀ i, i < j → u i = hl f i - hl g i) → (∀ i, j ≤ i → u i = hl t i) → mV SA 0 0 38 2 [some (.ref t), some (.ref f), some (.ref g), some (.int (nI j))] [] (bH hi (uB hl t u)) P := by
    intro m
    induction m with
    | zero =>
      intro j u hj h1 h2
      refine m_blk bk_38_2 cb_38_2 ?_
      simp only [bk_38_2, b_iconst, b_bipush, b_sipush, b_lconst, b_ldc, b_ldc_w, b_ldc2_w, b_getstatic, b_iload, b_iload_n, b_istore, b_istore_n, b_lload, b_lload_n, b_lstore, b_lstore_n, b_aload, b_aload_n, b_astore, b_astore_n, b_iinc, b_iadd, b_isub, b_imul, b_iand, b_ior, b_ixor, b_ishl, b_ishr, b_iushr, b_idiv, b_irem, b_ladd, b_lsub, b_lmul, b_land, b_lor, b_lxor, b_lshl, b_lshr, b_lushr, b_i2l, b_l2i, b_i2b, b_i2c, b_lcmp, b_popI, b_popR, b_dupI, b_dupR, b_dup2, b_ifCond, b_icmp, b_goto, b_tsw, b_ireturn, b_lreturn, b_areturn, b_return, b_getfield, b_iaload, b_baload, b_laload, b_aaload, b_iastore, b_bastore, b_lastore, b_arraylength, c_call0, c_call1, c_call2, c_call3, c_call4, c_call5, c_call6, c_call7, c_call8, b_invokestatic, b_max, b_min, b_copy, b_obj, v_virt0, v_poly0, v_virt1, v_poly1, v_virt2, v_poly2, v_virt3, v_poly3, v_virt4, v_poly4, v_virt5, v_poly5, v_virt6, v_poly6, v_virt7, v_poly7, v_spec0, v_spec1, v_spec2, b_nil, wGet_some, wLdI_some, wLdL_some, wLdA_some, wAI_some, wAL_some, wSI_some, wSLg_some, wLen_b, wLen_i, wLen_l, uI_eq, uI_ne1, uI_ne2, uL_eq, uL_ne1, uL_ne2, uA_ne, uB_ne, ne_eq, Nat.reduceEqDiff, not_false_eq_true, uA_self, uB_self, uA_uA, uB_uB, cl_0, cl_1, cl_2, cl_3, cl_4, cl_5, cl_6, cl_7, cl_8, cl_9, cl_10, cl_11, cl_12, cl_13, cl_14, cl_15, cl_16, nar_b0, nar_b1, nar_i, true_and, eq_self, Nat.reduceAdd, Nat.reduceLeDiff, mG, mS1, mS2, mD1, mCut, mC0, mC2, mWd, Value.category, Option.toList_none, Option.toList_some, List.cons_append, List.nil_append, Option.some.injEq, Value.int.injEq, exists_eq_left']
      refine ⟨fun _ => ?_, fun hc => absurd (by rw [show (10 : Int32) = nI 10 from rfl]; exact nI_le (by omega) (by omega)) hc⟩
      refine m_blk bk_38_24 cb_38_24 ?_
      simp only [bk_38_24, b_iconst, b_bipush, b_sipush, b_lconst, b_ldc, b_ldc_w, b_ldc2_w, b_getstatic, b_iload, b_iload_n, b_istore, b_istore_n, b_lload, b_lload_n, b_lstore, b_lstore_n, b_aload, b_aload_n, b_astore, b_astore_n, b_iinc, b_iadd, b_isub, b_imul, b_iand, b_ior, b_ixor, b_ishl, b_ishr, b_iushr, b_idiv, b_irem, b_ladd, b_lsub, b_lmul, b_land, b_lor, b_lxor, b_lshl, b_lshr, b_lushr, b_i2l, b_l2i, b_i2b, b_i2c, b_lcmp, b_popI, b_popR, b_dupI, b_dupR, b_dup2, b_ifCond, b_icmp, b_goto, b_tsw, b_ireturn, b_lreturn, b_areturn, b_return, b_getfield, b_iaload, b_baload, b_laload, b_aaload, b_iastore, b_bastore, b_lastore, b_arraylength, c_call0, c_call1, c_call2, c_call3, c_call4, c_call5, c_call6, c_call7, c_call8, b_invokestatic, b_max, b_min, b_copy, b_obj, v_virt0, v_poly0, v_virt1, v_poly1, v_virt2, v_poly2, v_virt3, v_poly3, v_virt4, v_poly4, v_virt5, v_poly5, v_virt6, v_poly6, v_virt7, v_poly7, v_spec0, v_spec1, v_spec2, b_nil, wGet_some, wLdI_some, wLdL_some, wLdA_some, wAI_some, wAL_some, wSI_some, wSLg_some, wLen_b, wLen_i, wLen_l, uI_eq, uI_ne1, uI_ne2, uL_eq, uL_ne1, uL_ne2, uA_ne, uB_ne, ne_eq, Nat.reduceEqDiff, not_false_eq_true, uA_self, uB_self, uA_uA, uB_uB, cl_0, cl_1, cl_2, cl_3, cl_4, cl_5, cl_6, cl_7, cl_8, cl_9, cl_10, cl_11, cl_12, cl_13, cl_14, cl_15, cl_16, nar_b0, nar_b1, nar_i, true_and, eq_self, Nat.reduceAdd, Nat.reduceLeDiff, mG, mS1, mS2, mD1, mCut, mC0, mC2, mWd, Value.category, Option.toList_none, Option.toList_some, List.cons_append, List.nil_append, Option.some.injEq, Value.int.injEq, exists_eq_left']
      exact hP u (fun i h => h1 i (by omega))
    | succ m ih =>
      intro j u hj h1 h2
      refine m_blk bk_38_2 cb_38_2 ?_
      simp only [bk_38_2, b_iconst, b_bipush, b_sipush, b_lconst, b_ldc, b_ldc_w, b_ldc2_w, b_getstatic, b_iload, b_iload_n, b_istore, b_istore_n, b_lload, b_lload_n, b_lstore, b_lstore_n, b_aload, b_aload_n, b_astore, b_astore_n, b_iinc, b_iadd, b_isub, b_imul, b_iand, b_ior, b_ixor, b_ishl, b_ishr, b_iushr, b_idiv, b_irem, b_ladd, b_lsub, b_lmul, b_land, b_lor, b_lxor, b_lshl, b_lshr, b_lushr, b_i2l, b_l2i, b_i2b, b_i2c, b_lcmp, b_popI, b_popR, b_dupI, b_dupR, b_dup2, b_ifCond, b_icmp, b_goto, b_tsw, b_ireturn, b_lreturn, b_areturn, b_return, b_getfield, b_iaload, b_baload, b_laload, b_aaload, b_iastore, b_bastore, b_lastore, b_arraylength, c_call0, c_call1, c_call2, c_call3, c_call4, c_call5, c_call6, c_call7, c_call8, b_invokestatic, b_max, b_min, b_copy, b_obj, v_virt0, v_poly0, v_virt1, v_poly1, v_virt2, v_poly2, v_virt3, v_poly3, v_virt4, v_poly4, v_virt5, v_poly5, v_virt6, v_poly6, v_virt7, v_poly7, v_spec0, v_spec1, v_spec2, b_nil, wGet_some, wLdI_some, wLdL_some, wLdA_some, wAI_some, wAL_some, wSI_some, wSLg_some, wLen_b, wLen_i, wLen_l, uI_eq, uI_ne1, uI_ne2, uL_eq, uL_ne1, uL_ne2, uA_ne, uB_ne, ne_eq, Nat.reduceEqDiff, not_false_eq_true, uA_self, uB_self, uA_uA, uB_uB, cl_0, cl_1, cl_2, cl_3, cl_4, cl_5, cl_6, cl_7, cl_8, cl_9, cl_10, cl_11, cl_12, cl_13, cl_14, cl_15, cl_16, nar_b0, nar_b1, nar_i, true_and, eq_self, Nat.reduceAdd, Nat.reduceLeDiff, mG, mS1, mS2, mD1, mCut, mC0, mC2, mWd, Value.category, Option.toList_none, Option.toList_some, List.cons_append, List.nil_append, Option.some.injEq, Value.int.injEq, exists_eq_left']
      refine ⟨fun hc => absurd hc (by rw [show (10 : Int32) = nI 10 from rfl]; exact nI_ge (by omega) (by omega)), fun _ => ?_⟩
      have e1 : (uB hl t u) f j = hl f j := rdB (fun _ => h2 j (by omega))
      have e2 : (uB hl t u) g j = hl g j := rdB (fun _ => h2 j (by omega))
      refine m_blk bk_38_8 cb_38_8 ?_
      simp only [bk_38_8, b_iconst, b_bipush, b_sipush, b_lconst, b_ldc, b_ldc_w, b_ldc2_w, b_getstatic, b_iload, b_iload_n, b_istore, b_istore_n, b_lload, b_lload_n, b_lstore, b_lstore_n, b_aload, b_aload_n, b_astore, b_astore_n, b_iinc, b_iadd, b_isub, b_imul, b_iand, b_ior, b_ixor, b_ishl, b_ishr, b_iushr, b_idiv, b_irem, b_ladd, b_lsub, b_lmul, b_land, b_lor, b_lxor, b_lshl, b_lshr, b_lushr, b_i2l, b_l2i, b_i2b, b_i2c, b_lcmp, b_popI, b_popR, b_dupI, b_dupR, b_dup2, b_ifCond, b_icmp, b_goto, b_tsw, b_ireturn, b_lreturn, b_areturn, b_return, b_getfield, b_iaload, b_baload, b_laload, b_aaload, b_iastore, b_bastore, b_lastore, b_arraylength, c_call0, c_call1, c_call2, c_call3, c_call4, c_call5, c_call6, c_call7, c_call8, b_invokestatic, b_max, b_min, b_copy, b_obj, v_virt0, v_poly0, v_virt1, v_poly1, v_virt2, v_poly2, v_virt3, v_poly3, v_virt4, v_poly4, v_virt5, v_poly5, v_virt6, v_poly6, v_virt7, v_poly7, v_spec0, v_spec1, v_spec2, b_nil, wGet_some, wLdI_some, wLdL_some, wLdA_some, wAI_some, wAL_some, wSI_some, wSLg_some, wLen_b, wLen_i, wLen_l, uI_eq, uI_ne1, uI_ne2, uL_eq, uL_ne1, uL_ne2, uA_ne, uB_ne, ne_eq, Nat.reduceEqDiff, not_false_eq_true, uA_self, uB_self, uA_uA, uB_uB, cl_0, cl_1, cl_2, cl_3, cl_4, cl_5, cl_6, cl_7, cl_8, cl_9, cl_10, cl_11, cl_12, cl_13, cl_14, cl_15, cl_16, nar_b0, nar_b1, nar_i, true_and, eq_self, Nat.reduceAdd, Nat.reduceLeDiff, mG, mS1, mS2, mD1, mCut, mC0, mC2, mWd, Value.category, Option.toList_none, Option.toList_some, List.cons_append, List.nil_append, Option.some.injEq, Value.int.injEq, exists_eq_left', g_arrL ht, g_cL ht, p_cpyL ht, g_arrL hf, g_arrL hg, nI_1, nI_clamp (show j < 2 ^ 31 by omega), e1, e2]
      refine ⟨vp_in_nI (by omega) (by omega), vp_in_nI (by omega) (by omega), vp_in_nI (by omega) (by omega), ?_⟩
      refine ih (j + 1) _ (by omega) (fun i h => ?_) (fun i h => ?_)
      · by_cases e : i = j
        · subst e; exact pk_uLs
        · rw [pk_uLn e]; exact h1 i (by omega)
      · rw [pk_uLn (by omega)]; exact h2 i (by omega)
  refine m_met (Nat.le_of_ble_eq_true rfl) ?_
  rw [show mEnt 38 [.ref t, .ref f, .ref g] = [some (.ref t), some (.ref f), some (.ref g), none] from rfl]
  refine m_blk bk_38_0 cb_38_0 ?_
  simp only [bk_38_0, b_iconst, b_bipush, b_sipush, b_lconst, b_ldc, b_ldc_w, b_ldc2_w, b_getstatic, b_iload, b_iload_n, b_istore, b_istore_n, b_lload, b_lload_n, b_lstore, b_lstore_n, b_aload, b_aload_n, b_astore, b_astore_n, b_iinc, b_iadd, b_isub, b_imul, b_iand, b_ior, b_ixor, b_ishl, b_ishr, b_iushr, b_idiv, b_irem, b_ladd, b_lsub, b_lmul, b_land, b_lor, b_lxor, b_lshl, b_lshr, b_lushr, b_i2l, b_l2i, b_i2b, b_i2c, b_lcmp, b_popI, b_popR, b_dupI, b_dupR, b_dup2, b_ifCond, b_icmp, b_goto, b_tsw, b_ireturn, b_lreturn, b_areturn, b_return, b_getfield, b_iaload, b_baload, b_laload, b_aaload, b_iastore, b_bastore, b_lastore, b_arraylength, c_call0, c_call1, c_call2, c_call3, c_call4, c_call5, c_call6, c_call7, c_call8, b_invokestatic, b_max, b_min, b_copy, b_obj, v_virt0, v_poly0, v_virt1, v_poly1, v_virt2, v_poly2, v_virt3, v_poly3, v_virt4, v_poly4, v_virt5, v_poly5, v_virt6, v_poly6, v_virt7, v_poly7, v_spec0, v_spec1, v_spec2, b_nil, wGet_some, wLdI_some, wLdL_some, wLdA_some, wAI_some, wAL_some, wSI_some, wSLg_some, wLen_b, wLen_i, wLen_l, uI_eq, uI_ne1, uI_ne2, uL_eq, uL_ne1, uL_ne2, uA_ne, uB_ne, ne_eq, Nat.reduceEqDiff, not_false_eq_true, uA_self, uB_self, uA_uA, uB_uB, cl_0, cl_1, cl_2, cl_3, cl_4, cl_5, cl_6, cl_7, cl_8, cl_9, cl_10, cl_11, cl_12, cl_13, cl_14, cl_15, cl_16, nar_b0, nar_b1, nar_i, true_and, eq_self, Nat.reduceAdd, Nat.reduceLeDiff, mG, mS1, mS2, mD1, mCut, mC0, mC2, mWd, Value.category, Option.toList_none, Option.toList_some, List.cons_append, List.nil_append, Option.some.injEq, Value.int.injEq, exists_eq_left']
  have h0 := loop 10 0 (hl t) rfl (fun i h => absurd h (by omega)) (fun i _ => rfl)
  rw [uB_id] at h0
  exact h0
theorem c_setSmall {v : Int32} (ht : isLA t 10) (hP : ∀ u, u 0 = v.toInt64 → (∀ i, 0 < i → i < 10 → u i = 0) → P none (bH hi (uB hl t u))) : mCt SA 0 0 36 [.ref t, .int v] (bH hi hl) P := by
  have loop : ∀ (m j : Nat) (u : Nat → Int64), j + m = 10 → (∀ i, i < j → u i = 0) → mV SA 0 0 36 2 [some (.ref t), some (.int v), some (.int (nI j))] [] (bH hi (uB hl t u)) P := by
    intro m
    induction m with
    | zero =>
      intro j u hj h1
      refine m_blk bk_36_2 cb_36_2 ?_
      simp only [bk_36_2, b_iconst, b_bipush, b_sipush, b_lconst, b_ldc, b_ldc_w, b_ldc2_w, b_getstatic, b_iload, b_iload_n, b_istore, b_istore_n, b_lload, b_lload_n, b_lstore, b_lstore_n, b_aload, b_aload_n, b_astore, b_astore_n, b_iinc, b_iadd, b_isub, b_imul, b_iand, b_ior, b_ixor, b_ishl, b_ishr, b_iushr, b_idiv, b_irem, b_ladd, b_lsub, b_lmul, b_land, b_lor, b_lxor, b_lshl, b_lshr, b_lushr, b_i2l, b_l2i, b_i2b, b_i2c, b_lcmp, b_popI, b_popR, b_dupI, b_dupR, b_dup2, b_ifCond, b_icmp, b_goto, b_tsw, b_ireturn, b_lreturn, b_areturn, b_return, b_getfield, b_iaload, b_baload, b_laload, b_aaload, b_iastore, b_bastore, b_lastore, b_arraylength, c_call0, c_call1, c_call2, c_call3, c_call4, c_call5, c_call6, c_call7, c_call8, b_invokestatic, b_max, b_min, b_copy, b_obj, v_virt0, v_poly0, v_virt1, v_poly1, v_virt2, v_poly2, v_virt3, v_poly3, v_virt4, v_poly4, v_virt5, v_poly5, v_virt6, v_poly6, v_virt7, v_poly7, v_spec0, v_spec1, v_spec2, b_nil, wGet_some, wLdI_some, wLdL_some, wLdA_some, wAI_some, wAL_some, wSI_some, wSLg_some, wLen_b, wLen_i, wLen_l, uI_eq, uI_ne1, uI_ne2, uL_eq, uL_ne1, uL_ne2, uA_ne, uB_ne, ne_eq, Nat.reduceEqDiff, not_false_eq_true, uA_self, uB_self, uA_uA, uB_uB, cl_0, cl_1, cl_2, cl_3, cl_4, cl_5, cl_6, cl_7, cl_8, cl_9, cl_10, cl_11, cl_12, cl_13, cl_14, cl_15, cl_16, nar_b0, nar_b1, nar_i, true_and, eq_self, Nat.reduceAdd, Nat.reduceLeDiff, mG, mS1, mS2, mD1, mCut, mC0, mC2, mWd, Value.category, Option.toList_none, Option.toList_some, List.cons_append, List.nil_append, Option.some.injEq, Value.int.injEq, exists_eq_left']
      refine ⟨fun _ => ?_, fun hc => absurd (by rw [show (10 : Int32) = nI 10 from rfl]; exact nI_le (by omega) (by omega)) hc⟩
      refine m_blk bk_36_18 cb_36_18 ?_
      simp only [bk_36_18, b_iconst, b_bipush, b_sipush, b_lconst, b_ldc, b_ldc_w, b_ldc2_w, b_getstatic, b_iload, b_iload_n, b_istore, b_istore_n, b_lload, b_lload_n, b_lstore, b_lstore_n, b_aload, b_aload_n, b_astore, b_astore_n, b_iinc, b_iadd, b_isub, b_imul, b_iand, b_ior, b_ixor, b_ishl, b_ishr, b_iushr, b_idiv, b_irem, b_ladd, b_lsub, b_lmul, b_land, b_lor, b_lxor, b_lshl, b_lshr, b_lushr, b_i2l, b_l2i, b_i2b, b_i2c, b_lcmp, b_popI, b_popR, b_dupI, b_dupR, b_dup2, b_ifCond, b_icmp, b_goto, b_tsw, b_ireturn, b_lreturn, b_areturn, b_return, b_getfield, b_iaload, b_baload, b_laload, b_aaload, b_iastore, b_bastore, b_lastore, b_arraylength, c_call0, c_call1, c_call2, c_call3, c_call4, c_call5, c_call6, c_call7, c_call8, b_invokestatic, b_max, b_min, b_copy, b_obj, v_virt0, v_poly0, v_virt1, v_poly1, v_virt2, v_poly2, v_virt3, v_poly3, v_virt4, v_poly4, v_virt5, v_poly5, v_virt6, v_poly6, v_virt7, v_poly7, v_spec0, v_spec1, v_spec2, b_nil, wGet_some, wLdI_some, wLdL_some, wLdA_some, wAI_some, wAL_some, wSI_some, wSLg_some, wLen_b, wLen_i, wLen_l, uI_eq, uI_ne1, uI_ne2, uL_eq, uL_ne1, uL_ne2, uA_ne, uB_ne, ne_eq, Nat.reduceEqDiff, not_false_eq_true, uA_self, uB_self, uA_uA, uB_uB, cl_0, cl_1, cl_2, cl_3, cl_4, cl_5, cl_6, cl_7, cl_8, cl_9, cl_10, cl_11, cl_12, cl_13, cl_14, cl_15, cl_16, nar_b0, nar_b1, nar_i, true_and, eq_self, Nat.reduceAdd, Nat.reduceLeDiff, mG, mS1, mS2, mD1, mCut, mC0, mC2, mWd, Value.category, Option.toList_none, Option.toList_some, List.cons_append, List.nil_append, Option.some.injEq, Value.int.injEq, exists_eq_left', g_arrL ht, g_cL ht, p_cpyL ht]
      refine ⟨vin (by decide), ?_⟩
      exact hP _ pk_uLs (fun i h0 h => by rw [pk_uLn (by omega)]; exact h1 i (by omega))
    | succ m ih =>
      intro j u hj h1
      refine m_blk bk_36_2 cb_36_2 ?_
      simp only [bk_36_2, b_iconst, b_bipush, b_sipush, b_lconst, b_ldc, b_ldc_w, b_ldc2_w, b_getstatic, b_iload, b_iload_n, b_istore, b_istore_n, b_lload, b_lload_n, b_lstore, b_lstore_n, b_aload, b_aload_n, b_astore, b_astore_n, b_iinc, b_iadd, b_isub, b_imul, b_iand, b_ior, b_ixor, b_ishl, b_ishr, b_iushr, b_idiv, b_irem, b_ladd, b_lsub, b_lmul, b_land, b_lor, b_lxor, b_lshl, b_lshr, b_lushr, b_i2l, b_l2i, b_i2b, b_i2c, b_lcmp, b_popI, b_popR, b_dupI, b_dupR, b_dup2, b_ifCond, b_icmp, b_goto, b_tsw, b_ireturn, b_lreturn, b_areturn, b_return, b_getfield, b_iaload, b_baload, b_laload, b_aaload, b_iastore, b_bastore, b_lastore, b_arraylength, c_call0, c_call1, c_call2, c_call3, c_call4, c_call5, c_call6, c_call7, c_call8, b_invokestatic, b_max, b_min, b_copy, b_obj, v_virt0, v_poly0, v_virt1, v_poly1, v_virt2, v_poly2, v_virt3, v_poly3, v_virt4, v_poly4, v_virt5, v_poly5, v_virt6, v_poly6, v_virt7, v_poly7, v_spec0, v_spec1, v_spec2, b_nil, wGet_some, wLdI_some, wLdL_some, wLdA_some, wAI_some, wAL_some, wSI_some, wSLg_some, wLen_b, wLen_i, wLen_l, uI_eq, uI_ne1, uI_ne2, uL_eq, uL_ne1, uL_ne2, uA_ne, uB_ne, ne_eq, Nat.reduceEqDiff, not_false_eq_true, uA_self, uB_self, uA_uA, uB_uB, cl_0, cl_1, cl_2, cl_3, cl_4, cl_5, cl_6, cl_7, cl_8, cl_9, cl_10, cl_11, cl_12, cl_13, cl_14, cl_15, cl_16, nar_b0, nar_b1, nar_i, true_and, eq_self, Nat.reduceAdd, Nat.reduceLeDiff, mG, mS1, mS2, mD1, mCut, mC0, mC2, mWd, Value.category, Option.toList_none, Option.toList_some, List.cons_append, List.nil_append, Option.some.injEq, Value.int.injEq, exists_eq_left']
      refine ⟨fun hc => absurd hc (by rw [show (10 : Int32) = nI 10 from rfl]; exact nI_ge (by omega) (by omega)), fun _ => ?_⟩
      refine m_blk bk_36_8 cb_36_8 ?_
      simp only [bk_36_8, b_iconst, b_bipush, b_sipush, b_lconst, b_ldc, b_ldc_w, b_ldc2_w, b_getstatic, b_iload, b_iload_n, b_istore, b_istore_n, b_lload, b_lload_n, b_lstore, b_lstore_n, b_aload, b_aload_n, b_astore, b_astore_n, b_iinc, b_iadd, b_isub, b_imul, b_iand, b_ior, b_ixor, b_ishl, b_ishr, b_iushr, b_idiv, b_irem, b_ladd, b_lsub, b_lmul, b_land, b_lor, b_lxor, b_lshl, b_lshr, b_lushr, b_i2l, b_l2i, b_i2b, b_i2c, b_lcmp, b_popI, b_popR, b_dupI, b_dupR, b_dup2, b_ifCond, b_icmp, b_goto, b_tsw, b_ireturn, b_lreturn, b_areturn, b_return, b_getfield, b_iaload, b_baload, b_laload, b_aaload, b_iastore, b_bastore, b_lastore, b_arraylength, c_call0, c_call1, c_call2, c_call3, c_call4, c_call5, c_call6, c_call7, c_call8, b_invokestatic, b_max, b_min, b_copy, b_obj, v_virt0, v_poly0, v_virt1, v_poly1, v_virt2, v_poly2, v_virt3, v_poly3, v_virt4, v_poly4, v_virt5, v_poly5, v_virt6, v_poly6, v_virt7, v_poly7, v_spec0, v_spec1, v_spec2, b_nil, wGet_some, wLdI_some, wLdL_some, wLdA_some, wAI_some, wAL_some, wSI_some, wSLg_some, wLen_b, wLen_i, wLen_l, uI_eq, uI_ne1, uI_ne2, uL_eq, uL_ne1, uL_ne2, uA_ne, uB_ne, ne_eq, Nat.reduceEqDiff, not_false_eq_true, uA_self, uB_self, uA_uA, uB_uB, cl_0, cl_1, cl_2, cl_3, cl_4, cl_5, cl_6, cl_7, cl_8, cl_9, cl_10, cl_11, cl_12, cl_13, cl_14, cl_15, cl_16, nar_b0, nar_b1, nar_i, true_and, eq_self, Nat.reduceAdd, Nat.reduceLeDiff, mG, mS1, mS2, mD1, mCut, mC0, mC2, mWd, Value.category, Option.toList_none, Option.toList_some, List.cons_append, List.nil_append, Option.some.injEq, Value.int.injEq, exists_eq_left', g_arrL ht, g_cL ht, p_cpyL ht, nI_1, nI_clamp (show j < 2 ^ 31 by omega)]
      refine ⟨vp_in_nI (by omega) (by omega), ?_⟩
      refine ih (j + 1) _ (by omega) (fun i h => ?_)
      by_cases e : i = j
      · subst e; exact pk_uLs
      · rw [pk_uLn e]; exact h1 i (by omega)
  refine m_met (Nat.le_of_ble_eq_true rfl) ?_
  rw [show mEnt 36 [.ref t, .int v] = [some (.ref t), some (.int v), none] from rfl]
  refine m_blk bk_36_0 cb_36_0 ?_
  simp only [bk_36_0, b_iconst, b_bipush, b_sipush, b_lconst, b_ldc, b_ldc_w, b_ldc2_w, b_getstatic, b_iload, b_iload_n, b_istore, b_istore_n, b_lload, b_lload_n, b_lstore, b_lstore_n, b_aload, b_aload_n, b_astore, b_astore_n, b_iinc, b_iadd, b_isub, b_imul, b_iand, b_ior, b_ixor, b_ishl, b_ishr, b_iushr, b_idiv, b_irem, b_ladd, b_lsub, b_lmul, b_land, b_lor, b_lxor, b_lshl, b_lshr, b_lushr, b_i2l, b_l2i, b_i2b, b_i2c, b_lcmp, b_popI, b_popR, b_dupI, b_dupR, b_dup2, b_ifCond, b_icmp, b_goto, b_tsw, b_ireturn, b_lreturn, b_areturn, b_return, b_getfield, b_iaload, b_baload, b_laload, b_aaload, b_iastore, b_bastore, b_lastore, b_arraylength, c_call0, c_call1, c_call2, c_call3, c_call4, c_call5, c_call6, c_call7, c_call8, b_invokestatic, b_max, b_min, b_copy, b_obj, v_virt0, v_poly0, v_virt1, v_poly1, v_virt2, v_poly2, v_virt3, v_poly3, v_virt4, v_poly4, v_virt5, v_poly5, v_virt6, v_poly6, v_virt7, v_poly7, v_spec0, v_spec1, v_spec2, b_nil, wGet_some, wLdI_some, wLdL_some, wLdA_some, wAI_some, wAL_some, wSI_some, wSLg_some, wLen_b, wLen_i, wLen_l, uI_eq, uI_ne1, uI_ne2, uL_eq, uL_ne1, uL_ne2, uA_ne, uB_ne, ne_eq, Nat.reduceEqDiff, not_false_eq_true, uA_self, uB_self, uA_uA, uB_uB, cl_0, cl_1, cl_2, cl_3, cl_4, cl_5, cl_6, cl_7, cl_8, cl_9, cl_10, cl_11, cl_12, cl_13, cl_14, cl_15, cl_16, nar_b0, nar_b1, nar_i, true_and, eq_self, Nat.reduceAdd, Nat.reduceLeDiff, mG, mS1, mS2, mD1, mCut, mC0, mC2, mWd, Value.category, Option.toList_none, Option.toList_some, List.cons_append, List.nil_append, Option.some.injEq, Value.int.injEq, exists_eq_left']
  have h0 := loop 10 0 (hl t) rfl (fun i h => absurd h (by omega))
  rw [uB_id] at h0
  exact h0
theorem cy_e {H : Nat → Int} (hlim : lim60 H) {i : Nat} (h10 : i < 10) (h : i % 2 = 0) : asr (lI (H i) + lI (cO H i) + 33554432) 26 = lI (cO H (i + 1)) ∧ lI (H i) + lI (cO H i) - lsl (lI (cO H (i + 1))) 26 = lI (cR H i) := by
  have h1 := hlim i h10
  have h2 := cO_b hlim i (by omega)
  constructor
  · rw [show (33554432 : Int64) = lI 33554432 from rfl, lI_add, lI_add, show (26 : Int32) = nI 26 from rfl, asr_lI (by decide) (by omega) (by omega), cO, if_pos h, if_pos h]; rfl
  · rw [lI_add, show (26 : Int32) = nI 26 from rfl, lsl_lI _ (by decide), lI_sub, cR, if_pos h]; rfl
theorem cy_o {H : Nat → Int} (hlim : lim60 H) {i : Nat} (h10 : i < 10) (h : i % 2 = 1) : asr (lI (H i) + lI (cO H i) + 16777216) 25 = lI (cO H (i + 1)) ∧ lI (H i) + lI (cO H i) - lsl (lI (cO H (i + 1))) 25 = lI (cR H i) := by
  have h1 := hlim i h10
  have h2 := cO_b hlim i (by omega)
  have h' : ¬ i % 2 = 0 := by omega
  constructor
  · rw [show (16777216 : Int64) = lI 16777216 from rfl, lI_add, lI_add, show (25 : Int32) = nI 25 from rfl, asr_lI (by decide) (by omega) (by omega), cO, if_neg h', if_neg h']; rfl
  · rw [lI_add, show (25 : Int32) = nI 25 from rfl, lsl_lI _ (by decide), lI_sub, cR, if_neg h']; rfl
theorem c_carry {H : Nat → Int} (ht : isLA t 10) (hH : ∀ i, i < 10 → hl t i = lI (H i)) (hlim : lim60 H) (hP : ∀ u, (∀ i, i < 10 → u i = lI (cF H i)) → P none (bH hi (uB hl t u))) : mCt SA 0 0 40 [.ref t] (bH hi hl) P := by
  have loop : ∀ (m j : Nat) (u : Nat → Int64), j + m = 5 → (∀ i, i < 2 * j → u i = lI (cR H i)) → (∀ i, 2 * j ≤ i → i < 10 → u i = lI (H i)) → ∀ x4 x6 : Option Value, mV SA 0 0 40 4 [some (.ref t), some (.long (lI (cO H (2 * j)))), none, some (.int (nI (2 * j))), x4, none, x6, none] [] (bH hi (uB hl t u)) P := by
    intro m
    induction m with
    | zero =>
      intro j u hj h1 h2 x4 x6
      have hj5 : j = 5 := by omega
      subst hj5
      have b1 := cO_b hlim 10 (by decide)
      have e10 : cO H (2 * 5) = cO H 10 := rfl
      have b2 := (cR_b H 0).1 rfl
      have bv : cV H = (cR H 0 + 19 * cO H 10 + 33554432) / 67108864 := rfl
      refine m_blk bk_40_4 cb_40_4 ?_
      simp only [bk_40_4, b_iconst, b_bipush, b_sipush, b_lconst, b_ldc, b_ldc_w, b_ldc2_w, b_getstatic, b_iload, b_iload_n, b_istore, b_istore_n, b_lload, b_lload_n, b_lstore, b_lstore_n, b_aload, b_aload_n, b_astore, b_astore_n, b_iinc, b_iadd, b_isub, b_imul, b_iand, b_ior, b_ixor, b_ishl, b_ishr, b_iushr, b_idiv, b_irem, b_ladd, b_lsub, b_lmul, b_land, b_lor, b_lxor, b_lshl, b_lshr, b_lushr, b_i2l, b_l2i, b_i2b, b_i2c, b_lcmp, b_popI, b_popR, b_dupI, b_dupR, b_dup2, b_ifCond, b_icmp, b_goto, b_tsw, b_ireturn, b_lreturn, b_areturn, b_return, b_getfield, b_iaload, b_baload, b_laload, b_aaload, b_iastore, b_bastore, b_lastore, b_arraylength, c_call0, c_call1, c_call2, c_call3, c_call4, c_call5, c_call6, c_call7, c_call8, b_invokestatic, b_max, b_min, b_copy, b_obj, v_virt0, v_poly0, v_virt1, v_poly1, v_virt2, v_poly2, v_virt3, v_poly3, v_virt4, v_poly4, v_virt5, v_poly5, v_virt6, v_poly6, v_virt7, v_poly7, v_spec0, v_spec1, v_spec2, b_nil, wGet_some, wLdI_some, wLdL_some, wLdA_some, wAI_some, wAL_some, wSI_some, wSLg_some, wLen_b, wLen_i, wLen_l, uI_eq, uI_ne1, uI_ne2, uL_eq, uL_ne1, uL_ne2, uA_ne, uB_ne, ne_eq, Nat.reduceEqDiff, not_false_eq_true, uA_self, uB_self, uA_uA, uB_uB, cl_0, cl_1, cl_2, cl_3, cl_4, cl_5, cl_6, cl_7, cl_8, cl_9, cl_10, cl_11, cl_12, cl_13, cl_14, cl_15, cl_16, nar_b0, nar_b1, nar_i, true_and, eq_self, Nat.reduceAdd, Nat.reduceLeDiff, mG, mS1, mS2, mD1, mCut, mC0, mC2, mWd, Value.category, Option.toList_none, Option.toList_some, List.cons_append, List.nil_append, Option.some.injEq, Value.int.injEq, exists_eq_left']
      refine ⟨fun _ => ?_, fun hc => absurd (by decide) hc⟩
      have e0 : u 0 = lI (cR H 0) := h1 0 (by decide)
      have e1 : u 1 = lI (cR H 1) := h1 1 (by decide)
      have ev : asr (lI (cR H 0) + 19 * lI (cO H (2 * 5)) + 33554432) 26 = lI (cV H) := by
        rw [show (33554432 : Int64) = lI 33554432 from rfl, show (19 : Int64) = lI 19 from rfl, lI_mul, lI_add, lI_add, show (26 : Int32) = nI 26 from rfl, asr_lI (by decide) (by omega) (by omega), cV]; rfl
      have ef : lI (cR H 0) + 19 * lI (cO H (2 * 5)) - lsl (lI (cV H)) 26 = lI (cF H 0) := by
        rw [show (19 : Int64) = lI 19 from rfl, lI_mul, lI_add, show (26 : Int32) = nI 26 from rfl, lsl_lI _ (by decide), lI_sub]; rfl
      refine m_blk bk_40_76 cb_40_76 ?_
      simp only [bk_40_76, b_iconst, b_bipush, b_sipush, b_lconst, b_ldc, b_ldc_w, b_ldc2_w, b_getstatic, b_iload, b_iload_n, b_istore, b_istore_n, b_lload, b_lload_n, b_lstore, b_lstore_n, b_aload, b_aload_n, b_astore, b_astore_n, b_iinc, b_iadd, b_isub, b_imul, b_iand, b_ior, b_ixor, b_ishl, b_ishr, b_iushr, b_idiv, b_irem, b_ladd, b_lsub, b_lmul, b_land, b_lor, b_lxor, b_lshl, b_lshr, b_lushr, b_i2l, b_l2i, b_i2b, b_i2c, b_lcmp, b_popI, b_popR, b_dupI, b_dupR, b_dup2, b_ifCond, b_icmp, b_goto, b_tsw, b_ireturn, b_lreturn, b_areturn, b_return, b_getfield, b_iaload, b_baload, b_laload, b_aaload, b_iastore, b_bastore, b_lastore, b_arraylength, c_call0, c_call1, c_call2, c_call3, c_call4, c_call5, c_call6, c_call7, c_call8, b_invokestatic, b_max, b_min, b_copy, b_obj, v_virt0, v_poly0, v_virt1, v_poly1, v_virt2, v_poly2, v_virt3, v_poly3, v_virt4, v_poly4, v_virt5, v_poly5, v_virt6, v_poly6, v_virt7, v_poly7, v_spec0, v_spec1, v_spec2, b_nil, wGet_some, wLdI_some, wLdL_some, wLdA_some, wAI_some, wAL_some, wSI_some, wSLg_some, wLen_b, wLen_i, wLen_l, uI_eq, uI_ne1, uI_ne2, uL_eq, uL_ne1, uL_ne2, uA_ne, uB_ne, ne_eq, Nat.reduceEqDiff, not_false_eq_true, uA_self, uB_self, uA_uA, uB_uB, cl_0, cl_1, cl_2, cl_3, cl_4, cl_5, cl_6, cl_7, cl_8, cl_9, cl_10, cl_11, cl_12, cl_13, cl_14, cl_15, cl_16, nar_b0, nar_b1, nar_i, true_and, eq_self, Nat.reduceAdd, Nat.reduceLeDiff, mG, mS1, mS2, mD1, mCut, mC0, mC2, mWd, Value.category, Option.toList_none, Option.toList_some, List.cons_append, List.nil_append, Option.some.injEq, Value.int.injEq, exists_eq_left', g_arrL ht, g_cL ht, p_cpyL ht, e0, ev, ef]
      refine ⟨vin (by decide), vin (by decide), vin (by decide), vin (by decide), ?_⟩
      rw [pk_uLn (by decide), e1, lI_add]
      refine hP _ (fun i h => ?_)
      by_cases h1i : i = 1
      · subst h1i; exact pk_uLs
      · rw [pk_uLn h1i]
        by_cases h0i : i = 0
        · subst h0i; exact pk_uLs
        · rw [pk_uLn h0i, h1 i (by omega), cF, if_neg h0i, if_neg h1i]
    | succ m ih =>
      intro j u hj h1 h2 x4 x6
      refine m_blk bk_40_4 cb_40_4 ?_
      simp only [bk_40_4, b_iconst, b_bipush, b_sipush, b_lconst, b_ldc, b_ldc_w, b_ldc2_w, b_getstatic, b_iload, b_iload_n, b_istore, b_istore_n, b_lload, b_lload_n, b_lstore, b_lstore_n, b_aload, b_aload_n, b_astore, b_astore_n, b_iinc, b_iadd, b_isub, b_imul, b_iand, b_ior, b_ixor, b_ishl, b_ishr, b_iushr, b_idiv, b_irem, b_ladd, b_lsub, b_lmul, b_land, b_lor, b_lxor, b_lshl, b_lshr, b_lushr, b_i2l, b_l2i, b_i2b, b_i2c, b_lcmp, b_popI, b_popR, b_dupI, b_dupR, b_dup2, b_ifCond, b_icmp, b_goto, b_tsw, b_ireturn, b_lreturn, b_areturn, b_return, b_getfield, b_iaload, b_baload, b_laload, b_aaload, b_iastore, b_bastore, b_lastore, b_arraylength, c_call0, c_call1, c_call2, c_call3, c_call4, c_call5, c_call6, c_call7, c_call8, b_invokestatic, b_max, b_min, b_copy, b_obj, v_virt0, v_poly0, v_virt1, v_poly1, v_virt2, v_poly2, v_virt3, v_poly3, v_virt4, v_poly4, v_virt5, v_poly5, v_virt6, v_poly6, v_virt7, v_poly7, v_spec0, v_spec1, v_spec2, b_nil, wGet_some, wLdI_some, wLdL_some, wLdA_some, wAI_some, wAL_some, wSI_some, wSLg_some, wLen_b, wLen_i, wLen_l, uI_eq, uI_ne1, uI_ne2, uL_eq, uL_ne1, uL_ne2, uA_ne, uB_ne, ne_eq, Nat.reduceEqDiff, not_false_eq_true, uA_self, uB_self, uA_uA, uB_uB, cl_0, cl_1, cl_2, cl_3, cl_4, cl_5, cl_6, cl_7, cl_8, cl_9, cl_10, cl_11, cl_12, cl_13, cl_14, cl_15, cl_16, nar_b0, nar_b1, nar_i, true_and, eq_self, Nat.reduceAdd, Nat.reduceLeDiff, mG, mS1, mS2, mD1, mCut, mC0, mC2, mWd, Value.category, Option.toList_none, Option.toList_some, List.cons_append, List.nil_append, Option.some.injEq, Value.int.injEq, exists_eq_left']
      refine ⟨fun hc => absurd hc (by rw [nI_1, show (10 : Int32) = nI 10 from rfl]; exact nI_ge (by omega) (by omega)), fun _ => ?_⟩
      have b1 := cO_b hlim (2 * j) (by omega)
      have e0 : u (2 * j) = lI (H (2 * j)) := h2 _ (by omega) (by omega)
      have e1 : u (2 * j + 1) = lI (H (2 * j + 1)) := h2 _ (by omega) (by omega)
      have ce := cy_e hlim (i := 2 * j) (by omega) (by omega)
      have co := cy_o hlim (i := 2 * j + 1) (by omega) (by omega)
      have en : ∀ x, vp_updL u (2 * j) x (2 * j + 1) = lI (H (2 * j + 1)) := fun x => by rw [pk_uLn (by omega), e1]
      refine m_blk bk_40_12 cb_40_12 ?_
      simp only [bk_40_12, b_iconst, b_bipush, b_sipush, b_lconst, b_ldc, b_ldc_w, b_ldc2_w, b_getstatic, b_iload, b_iload_n, b_istore, b_istore_n, b_lload, b_lload_n, b_lstore, b_lstore_n, b_aload, b_aload_n, b_astore, b_astore_n, b_iinc, b_iadd, b_isub, b_imul, b_iand, b_ior, b_ixor, b_ishl, b_ishr, b_iushr, b_idiv, b_irem, b_ladd, b_lsub, b_lmul, b_land, b_lor, b_lxor, b_lshl, b_lshr, b_lushr, b_i2l, b_l2i, b_i2b, b_i2c, b_lcmp, b_popI, b_popR, b_dupI, b_dupR, b_dup2, b_ifCond, b_icmp, b_goto, b_tsw, b_ireturn, b_lreturn, b_areturn, b_return, b_getfield, b_iaload, b_baload, b_laload, b_aaload, b_iastore, b_bastore, b_lastore, b_arraylength, c_call0, c_call1, c_call2, c_call3, c_call4, c_call5, c_call6, c_call7, c_call8, b_invokestatic, b_max, b_min, b_copy, b_obj, v_virt0, v_poly0, v_virt1, v_poly1, v_virt2, v_poly2, v_virt3, v_poly3, v_virt4, v_poly4, v_virt5, v_poly5, v_virt6, v_poly6, v_virt7, v_poly7, v_spec0, v_spec1, v_spec2, b_nil, wGet_some, wLdI_some, wLdL_some, wLdA_some, wAI_some, wAL_some, wSI_some, wSLg_some, wLen_b, wLen_i, wLen_l, uI_eq, uI_ne1, uI_ne2, uL_eq, uL_ne1, uL_ne2, uA_ne, uB_ne, ne_eq, Nat.reduceEqDiff, not_false_eq_true, uA_self, uB_self, uA_uA, uB_uB, cl_0, cl_1, cl_2, cl_3, cl_4, cl_5, cl_6, cl_7, cl_8, cl_9, cl_10, cl_11, cl_12, cl_13, cl_14, cl_15, cl_16, nar_b0, nar_b1, nar_i, true_and, eq_self, Nat.reduceAdd, Nat.reduceLeDiff, mG, mS1, mS2, mD1, mCut, mC0, mC2, mWd, Value.category, Option.toList_none, Option.toList_some, List.cons_append, List.nil_append, Option.some.injEq, Value.int.injEq, exists_eq_left', g_arrL ht, g_cL ht, p_cpyL ht, nI_1, nI_clamp (show 2 * j < 2 ^ 31 by omega), nI_clamp (show 2 * j + 1 < 2 ^ 31 by omega), e0, ce.1, ce.2, en, co.1, co.2]
      refine ⟨vp_in_nI (by omega) (by omega), vp_in_nI (by omega) (by omega), vp_in_nI (by omega) (by omega), vp_in_nI (by omega) (by omega), ?_⟩
      rw [show nI (2 * j) + 2 = nI (2 * (j + 1)) from by rw [show (2 : Int32) = nI 2 from rfl, nI_add]; rfl]
      refine ih (j + 1) _ (by omega) (fun i h => ?_) (fun i h h' => ?_) _ _
      · by_cases h1i : i = 2 * j + 1
        · subst h1i; exact pk_uLs
        · rw [pk_uLn h1i]
          by_cases h0i : i = 2 * j
          · subst h0i; exact pk_uLs
          · rw [pk_uLn h0i]; exact h1 i (by omega)
      · rw [pk_uLn (by omega), pk_uLn (by omega)]; exact h2 i (by omega) h'
  refine m_met (Nat.le_of_ble_eq_true rfl) ?_
  rw [show mEnt 40 [.ref t] = [some (.ref t), none, none, none, none, none, none, none] from rfl]
  refine m_blk bk_40_0 cb_40_0 ?_
  simp only [bk_40_0, b_iconst, b_bipush, b_sipush, b_lconst, b_ldc, b_ldc_w, b_ldc2_w, b_getstatic, b_iload, b_iload_n, b_istore, b_istore_n, b_lload, b_lload_n, b_lstore, b_lstore_n, b_aload, b_aload_n, b_astore, b_astore_n, b_iinc, b_iadd, b_isub, b_imul, b_iand, b_ior, b_ixor, b_ishl, b_ishr, b_iushr, b_idiv, b_irem, b_ladd, b_lsub, b_lmul, b_land, b_lor, b_lxor, b_lshl, b_lshr, b_lushr, b_i2l, b_l2i, b_i2b, b_i2c, b_lcmp, b_popI, b_popR, b_dupI, b_dupR, b_dup2, b_ifCond, b_icmp, b_goto, b_tsw, b_ireturn, b_lreturn, b_areturn, b_return, b_getfield, b_iaload, b_baload, b_laload, b_aaload, b_iastore, b_bastore, b_lastore, b_arraylength, c_call0, c_call1, c_call2, c_call3, c_call4, c_call5, c_call6, c_call7, c_call8, b_invokestatic, b_max, b_min, b_copy, b_obj, v_virt0, v_poly0, v_virt1, v_poly1, v_virt2, v_poly2, v_virt3, v_poly3, v_virt4, v_poly4, v_virt5, v_poly5, v_virt6, v_poly6, v_virt7, v_poly7, v_spec0, v_spec1, v_spec2, b_nil, wGet_some, wLdI_some, wLdL_some, wLdA_some, wAI_some, wAL_some, wSI_some, wSLg_some, wLen_b, wLen_i, wLen_l, uI_eq, uI_ne1, uI_ne2, uL_eq, uL_ne1, uL_ne2, uA_ne, uB_ne, ne_eq, Nat.reduceEqDiff, not_false_eq_true, uA_self, uB_self, uA_uA, uB_uB, cl_0, cl_1, cl_2, cl_3, cl_4, cl_5, cl_6, cl_7, cl_8, cl_9, cl_10, cl_11, cl_12, cl_13, cl_14, cl_15, cl_16, nar_b0, nar_b1, nar_i, true_and, eq_self, Nat.reduceAdd, Nat.reduceLeDiff, mG, mS1, mS2, mD1, mCut, mC0, mC2, mWd, Value.category, Option.toList_none, Option.toList_some, List.cons_append, List.nil_append, Option.some.injEq, Value.int.injEq, exists_eq_left']
  have h0 := loop 5 0 (hl t) rfl (fun i h => absurd h (by omega)) (fun i _ h => hH i h) none none
  rw [uB_id] at h0
  exact h0
set_option maxRecDepth 100000 in
theorem c_times (ht : isLA t 10) (hf : isLA f 10) (hg : isLA g 10) {X Y : Int} (hX : fe (hl f) X 2) (hY : fe (hl g) Y 2) (hP : ∀ u, fe u (X * Y) 1 → P none (bH hi (uB hl t u))) : mCt SA 0 0 39 [.ref t, .ref f, .ref g] (bH hi hl) P := by
  obtain ⟨F, hF, bF, cF'⟩ := hX
  obtain ⟨G, hG, bG, cG'⟩ := hY
  have f0 := hF 0 (by decide)
  have g0 := hG 0 (by decide)
  have f1 := hF 1 (by decide)
  have g1 := hG 1 (by decide)
  have f2 := hF 2 (by decide)
  have g2 := hG 2 (by decide)
  have f3 := hF 3 (by decide)
  have g3 := hG 3 (by decide)
  have f4 := hF 4 (by decide)
  have g4 := hG 4 (by decide)
  have f5 := hF 5 (by decide)
  have g5 := hG 5 (by decide)
  have f6 := hF 6 (by decide)
  have g6 := hG 6 (by decide)
  have f7 := hF 7 (by decide)
  have g7 := hG 7 (by decide)
  have f8 := hF 8 (by decide)
  have g8 := hG 8 (by decide)
  have f9 := hF 9 (by decide)
  have g9 := hG 9 (by decide)
  refine m_met (Nat.le_of_ble_eq_true rfl) ?_
  rw [show mEnt 39 [.ref t, .ref f, .ref g] = [some (.ref t), some (.ref f), some (.ref g), none, none, none, none, none, none, none, none, none, none, none, none, none, none, none, none, none, none, none, none, none, none, none, none, none, none, none, none, none, none, none, none, none, none, none, none, none, none, none, none, none, none, none, none, none, none, none, none, none, none, none, none, none, none, none, none, none, none, none, none, none, none, none, none, none, none, none, none] from rfl]
  refine m_blk bk_39_0 cb_39_0 ?_
  simp only [bk_39_0, b_iconst, b_bipush, b_sipush, b_lconst, b_ldc, b_ldc_w, b_ldc2_w, b_getstatic, b_iload, b_iload_n, b_istore, b_istore_n, b_lload, b_lload_n, b_lstore, b_lstore_n, b_aload, b_aload_n, b_astore, b_astore_n, b_iinc, b_iadd, b_isub, b_imul, b_iand, b_ior, b_ixor, b_ishl, b_ishr, b_iushr, b_idiv, b_irem, b_ladd, b_lsub, b_lmul, b_land, b_lor, b_lxor, b_lshl, b_lshr, b_lushr, b_i2l, b_l2i, b_i2b, b_i2c, b_lcmp, b_popI, b_popR, b_dupI, b_dupR, b_dup2, b_ifCond, b_icmp, b_goto, b_tsw, b_ireturn, b_lreturn, b_areturn, b_return, b_getfield, b_iaload, b_baload, b_laload, b_aaload, b_iastore, b_bastore, b_lastore, b_arraylength, c_call0, c_call1, c_call2, c_call3, c_call4, c_call5, c_call6, c_call7, c_call8, b_invokestatic, b_max, b_min, b_copy, b_obj, v_virt0, v_poly0, v_virt1, v_poly1, v_virt2, v_poly2, v_virt3, v_poly3, v_virt4, v_poly4, v_virt5, v_poly5, v_virt6, v_poly6, v_virt7, v_poly7, v_spec0, v_spec1, v_spec2, b_nil, wGet_some, wLdI_some, wLdL_some, wLdA_some, wAI_some, wAL_some, wSI_some, wSLg_some, wLen_b, wLen_i, wLen_l, uI_eq, uI_ne1, uI_ne2, uL_eq, uL_ne1, uL_ne2, uA_ne, uB_ne, ne_eq, Nat.reduceEqDiff, not_false_eq_true, uA_self, uB_self, uA_uA, uB_uB, cl_0, cl_1, cl_2, cl_3, cl_4, cl_5, cl_6, cl_7, cl_8, cl_9, cl_10, cl_11, cl_12, cl_13, cl_14, cl_15, cl_16, nar_b0, nar_b1, nar_i, true_and, eq_self, Nat.reduceAdd, Nat.reduceLeDiff, mG, mS1, mS2, mD1, mCut, mC0, mC2, mWd, Value.category, Option.toList_none, Option.toList_some, List.cons_append, List.nil_append, Option.some.injEq, Value.int.injEq, exists_eq_left', g_arrL ht, g_cL ht, p_cpyL ht, g_arrL hf, g_arrL hg, f0, g0, f1, g1, f2, g2, f3, g3, f4, g4, f5, g5, f6, g6, f7, g7, f8, g8, f9, g9]
  refine ⟨vin (by decide), vin (by decide), vin (by decide), vin (by decide), vin (by decide), vin (by decide), vin (by decide), vin (by decide), vin (by decide), vin (by decide), vin (by decide), vin (by decide), vin (by decide), vin (by decide), vin (by decide), vin (by decide), vin (by decide), vin (by decide), vin (by decide), vin (by decide), vin (by decide), vin (by decide), vin (by decide), vin (by decide), vin (by decide), vin (by decide), vin (by decide), vin (by decide), vin (by decide), vin (by decide), ?_⟩
  have z19 : (19 : Int64) = lI 19 := rfl
  have z2 : (2 : Int64) = lI 2 := rfl
  refine c_carry (H := mT F G) ht (fun i h => ?_) (mT_lim bF bG) (fun u hu => ?_)
  · rw [uB_self]
    match i, h with
    | 0, _ =>
      simp only [pk_uLs, pk_uLn (show (0 : Nat) ≠ 1 by decide), pk_uLn (show (0 : Nat) ≠ 2 by decide), pk_uLn (show (0 : Nat) ≠ 3 by decide), pk_uLn (show (0 : Nat) ≠ 4 by decide), pk_uLn (show (0 : Nat) ≠ 5 by decide), pk_uLn (show (0 : Nat) ≠ 6 by decide), pk_uLn (show (0 : Nat) ≠ 7 by decide), pk_uLn (show (0 : Nat) ≠ 8 by decide), pk_uLn (show (0 : Nat) ≠ 9 by decide), z19, z2, lI_mul, lI_add]
      refine congrArg lI ?_
      show _ = F 0 * G 0 + F 1 * G 9 * 38 + F 2 * G 8 * 19 + F 3 * G 7 * 38 + F 4 * G 6 * 19 + F 5 * G 5 * 38 + F 6 * G 4 * 19 + F 7 * G 3 * 38 + F 8 * G 2 * 19 + F 9 * G 1 * 38
      grind
    | 1, _ =>
      simp only [pk_uLs, pk_uLn (show (1 : Nat) ≠ 0 by decide), pk_uLn (show (1 : Nat) ≠ 2 by decide), pk_uLn (show (1 : Nat) ≠ 3 by decide), pk_uLn (show (1 : Nat) ≠ 4 by decide), pk_uLn (show (1 : Nat) ≠ 5 by decide), pk_uLn (show (1 : Nat) ≠ 6 by decide), pk_uLn (show (1 : Nat) ≠ 7 by decide), pk_uLn (show (1 : Nat) ≠ 8 by decide), pk_uLn (show (1 : Nat) ≠ 9 by decide), z19, z2, lI_mul, lI_add]
      refine congrArg lI ?_
      show _ = F 0 * G 1 + F 1 * G 0 + F 2 * G 9 * 19 + F 3 * G 8 * 19 + F 4 * G 7 * 19 + F 5 * G 6 * 19 + F 6 * G 5 * 19 + F 7 * G 4 * 19 + F 8 * G 3 * 19 + F 9 * G 2 * 19
      grind
    | 2, _ =>
      simp only [pk_uLs, pk_uLn (show (2 : Nat) ≠ 0 by decide), pk_uLn (show (2 : Nat) ≠ 1 by decide), pk_uLn (show (2 : Nat) ≠ 3 by decide), pk_uLn (show (2 : Nat) ≠ 4 by decide), pk_uLn (show (2 : Nat) ≠ 5 by decide), pk_uLn (show (2 : Nat) ≠ 6 by decide), pk_uLn (show (2 : Nat) ≠ 7 by decide), pk_uLn (show (2 : Nat) ≠ 8 by decide), pk_uLn (show (2 : Nat) ≠ 9 by decide), z19, z2, lI_mul, lI_add]
      refine congrArg lI ?_
      show _ = F 0 * G 2 + F 1 * G 1 * 2 + F 2 * G 0 + F 3 * G 9 * 38 + F 4 * G 8 * 19 + F 5 * G 7 * 38 + F 6 * G 6 * 19 + F 7 * G 5 * 38 + F 8 * G 4 * 19 + F 9 * G 3 * 38
      grind
    | 3, _ =>
      simp only [pk_uLs, pk_uLn (show (3 : Nat) ≠ 0 by decide), pk_uLn (show (3 : Nat) ≠ 1 by decide), pk_uLn (show (3 : Nat) ≠ 2 by decide), pk_uLn (show (3 : Nat) ≠ 4 by decide), pk_uLn (show (3 : Nat) ≠ 5 by decide), pk_uLn (show (3 : Nat) ≠ 6 by decide), pk_uLn (show (3 : Nat) ≠ 7 by decide), pk_uLn (show (3 : Nat) ≠ 8 by decide), pk_uLn (show (3 : Nat) ≠ 9 by decide), z19, z2, lI_mul, lI_add]
      refine congrArg lI ?_
      show _ = F 0 * G 3 + F 1 * G 2 + F 2 * G 1 + F 3 * G 0 + F 4 * G 9 * 19 + F 5 * G 8 * 19 + F 6 * G 7 * 19 + F 7 * G 6 * 19 + F 8 * G 5 * 19 + F 9 * G 4 * 19
      grind
    | 4, _ =>
      simp only [pk_uLs, pk_uLn (show (4 : Nat) ≠ 0 by decide), pk_uLn (show (4 : Nat) ≠ 1 by decide), pk_uLn (show (4 : Nat) ≠ 2 by decide), pk_uLn (show (4 : Nat) ≠ 3 by decide), pk_uLn (show (4 : Nat) ≠ 5 by decide), pk_uLn (show (4 : Nat) ≠ 6 by decide), pk_uLn (show (4 : Nat) ≠ 7 by decide), pk_uLn (show (4 : Nat) ≠ 8 by decide), pk_uLn (show (4 : Nat) ≠ 9 by decide), z19, z2, lI_mul, lI_add]
      refine congrArg lI ?_
      show _ = F 0 * G 4 + F 1 * G 3 * 2 + F 2 * G 2 + F 3 * G 1 * 2 + F 4 * G 0 + F 5 * G 9 * 38 + F 6 * G 8 * 19 + F 7 * G 7 * 38 + F 8 * G 6 * 19 + F 9 * G 5 * 38
      grind
    | 5, _ =>
      simp only [pk_uLs, pk_uLn (show (5 : Nat) ≠ 0 by decide), pk_uLn (show (5 : Nat) ≠ 1 by decide), pk_uLn (show (5 : Nat) ≠ 2 by decide), pk_uLn (show (5 : Nat) ≠ 3 by decide), pk_uLn (show (5 : Nat) ≠ 4 by decide), pk_uLn (show (5 : Nat) ≠ 6 by decide), pk_uLn (show (5 : Nat) ≠ 7 by decide), pk_uLn (show (5 : Nat) ≠ 8 by decide), pk_uLn (show (5 : Nat) ≠ 9 by decide), z19, z2, lI_mul, lI_add]
      refine congrArg lI ?_
      show _ = F 0 * G 5 + F 1 * G 4 + F 2 * G 3 + F 3 * G 2 + F 4 * G 1 + F 5 * G 0 + F 6 * G 9 * 19 + F 7 * G 8 * 19 + F 8 * G 7 * 19 + F 9 * G 6 * 19
      grind
    | 6, _ =>
      simp only [pk_uLs, pk_uLn (show (6 : Nat) ≠ 0 by decide), pk_uLn (show (6 : Nat) ≠ 1 by decide), pk_uLn (show (6 : Nat) ≠ 2 by decide), pk_uLn (show (6 : Nat) ≠ 3 by decide), pk_uLn (show (6 : Nat) ≠ 4 by decide), pk_uLn (show (6 : Nat) ≠ 5 by decide), pk_uLn (show (6 : Nat) ≠ 7 by decide), pk_uLn (show (6 : Nat) ≠ 8 by decide), pk_uLn (show (6 : Nat) ≠ 9 by decide), z19, z2, lI_mul, lI_add]
      refine congrArg lI ?_
      show _ = F 0 * G 6 + F 1 * G 5 * 2 + F 2 * G 4 + F 3 * G 3 * 2 + F 4 * G 2 + F 5 * G 1 * 2 + F 6 * G 0 + F 7 * G 9 * 38 + F 8 * G 8 * 19 + F 9 * G 7 * 38
      grind
    | 7, _ =>
      simp only [pk_uLs, pk_uLn (show (7 : Nat) ≠ 0 by decide), pk_uLn (show (7 : Nat) ≠ 1 by decide), pk_uLn (show (7 : Nat) ≠ 2 by decide), pk_uLn (show (7 : Nat) ≠ 3 by decide), pk_uLn (show (7 : Nat) ≠ 4 by decide), pk_uLn (show (7 : Nat) ≠ 5 by decide), pk_uLn (show (7 : Nat) ≠ 6 by decide), pk_uLn (show (7 : Nat) ≠ 8 by decide), pk_uLn (show (7 : Nat) ≠ 9 by decide), z19, z2, lI_mul, lI_add]
      refine congrArg lI ?_
      show _ = F 0 * G 7 + F 1 * G 6 + F 2 * G 5 + F 3 * G 4 + F 4 * G 3 + F 5 * G 2 + F 6 * G 1 + F 7 * G 0 + F 8 * G 9 * 19 + F 9 * G 8 * 19
      grind
    | 8, _ =>
      simp only [pk_uLs, pk_uLn (show (8 : Nat) ≠ 0 by decide), pk_uLn (show (8 : Nat) ≠ 1 by decide), pk_uLn (show (8 : Nat) ≠ 2 by decide), pk_uLn (show (8 : Nat) ≠ 3 by decide), pk_uLn (show (8 : Nat) ≠ 4 by decide), pk_uLn (show (8 : Nat) ≠ 5 by decide), pk_uLn (show (8 : Nat) ≠ 6 by decide), pk_uLn (show (8 : Nat) ≠ 7 by decide), pk_uLn (show (8 : Nat) ≠ 9 by decide), z19, z2, lI_mul, lI_add]
      refine congrArg lI ?_
      show _ = F 0 * G 8 + F 1 * G 7 * 2 + F 2 * G 6 + F 3 * G 5 * 2 + F 4 * G 4 + F 5 * G 3 * 2 + F 6 * G 2 + F 7 * G 1 * 2 + F 8 * G 0 + F 9 * G 9 * 38
      grind
    | 9, _ =>
      simp only [pk_uLs, pk_uLn (show (9 : Nat) ≠ 0 by decide), pk_uLn (show (9 : Nat) ≠ 1 by decide), pk_uLn (show (9 : Nat) ≠ 2 by decide), pk_uLn (show (9 : Nat) ≠ 3 by decide), pk_uLn (show (9 : Nat) ≠ 4 by decide), pk_uLn (show (9 : Nat) ≠ 5 by decide), pk_uLn (show (9 : Nat) ≠ 6 by decide), pk_uLn (show (9 : Nat) ≠ 7 by decide), pk_uLn (show (9 : Nat) ≠ 8 by decide), z19, z2, lI_mul, lI_add]
      refine congrArg lI ?_
      show _ = F 0 * G 9 + F 1 * G 8 + F 2 * G 7 + F 3 * G 6 + F 4 * G 5 + F 5 * G 4 + F 6 * G 3 + F 7 * G 2 + F 8 * G 1 + F 9 * G 0
      grind
  · simp only [b_iconst, b_bipush, b_sipush, b_lconst, b_ldc, b_ldc_w, b_ldc2_w, b_getstatic, b_iload, b_iload_n, b_istore, b_istore_n, b_lload, b_lload_n, b_lstore, b_lstore_n, b_aload, b_aload_n, b_astore, b_astore_n, b_iinc, b_iadd, b_isub, b_imul, b_iand, b_ior, b_ixor, b_ishl, b_ishr, b_iushr, b_idiv, b_irem, b_ladd, b_lsub, b_lmul, b_land, b_lor, b_lxor, b_lshl, b_lshr, b_lushr, b_i2l, b_l2i, b_i2b, b_i2c, b_lcmp, b_popI, b_popR, b_dupI, b_dupR, b_dup2, b_ifCond, b_icmp, b_goto, b_tsw, b_ireturn, b_lreturn, b_areturn, b_return, b_getfield, b_iaload, b_baload, b_laload, b_aaload, b_iastore, b_bastore, b_lastore, b_arraylength, c_call0, c_call1, c_call2, c_call3, c_call4, c_call5, c_call6, c_call7, c_call8, b_invokestatic, b_max, b_min, b_copy, b_obj, v_virt0, v_poly0, v_virt1, v_poly1, v_virt2, v_poly2, v_virt3, v_poly3, v_virt4, v_poly4, v_virt5, v_poly5, v_virt6, v_poly6, v_virt7, v_poly7, v_spec0, v_spec1, v_spec2, b_nil, wGet_some, wLdI_some, wLdL_some, wLdA_some, wAI_some, wAL_some, wSI_some, wSLg_some, wLen_b, wLen_i, wLen_l, uI_eq, uI_ne1, uI_ne2, uL_eq, uL_ne1, uL_ne2, uA_ne, uB_ne, ne_eq, Nat.reduceEqDiff, not_false_eq_true, uA_self, uB_self, uA_uA, uB_uB, cl_0, cl_1, cl_2, cl_3, cl_4, cl_5, cl_6, cl_7, cl_8, cl_9, cl_10, cl_11, cl_12, cl_13, cl_14, cl_15, cl_16, nar_b0, nar_b1, nar_i, true_and, eq_self, Nat.reduceAdd, Nat.reduceLeDiff, mG, mS1, mS2, mD1, mCut, mC0, mC2, mWd, Value.category, Option.toList_none, Option.toList_some, List.cons_append, List.nil_append, Option.some.injEq, Value.int.injEq, exists_eq_left']
    exact hP u ⟨cF (mT F G), hu, cF_bnd (mT_lim bF bG), cg_tr (cF_val _) (cg_tr (mT_val F G) (cg_mul cF' cG'))⟩
end

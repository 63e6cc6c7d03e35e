/-! PART 83.t: both constructors together: the first state -/
set_option maxRecDepth 100000 in
theorem heap0 (g p : Nat → Int32) : ksH g p ++ (o_136 130 :: c_136 130) = bH (hi0 g p) hl0 := by
  rw [bH_G, shp_sg]
  simp only [bG_app]
  show _ = (bG (hi0 g p) hl0 0 sg_0 ++ (((((((((((((bG (hi0 g p) hl0 4 sg_4 ++ bG (hi0 g p) hl0 19 sg_19) ++ bG (hi0 g p) hl0 32 sg_32) ++ bG (hi0 g p) hl0 43 sg_43) ++ bG (hi0 g p) hl0 54 sg_54) ++ bG (hi0 g p) hl0 56 sg_56) ++ bG (hi0 g p) hl0 58 sg_58) ++ bG (hi0 g p) hl0 60 sg_60) ++ bG (hi0 g p) hl0 62 sg_62) ++ bG (hi0 g p) hl0 64 sg_64) ++ bG (hi0 g p) hl0 66 sg_66) ++ bG (hi0 g p) hl0 68 sg_68) ++ bG (hi0 g p) hl0 70 sg_70) ++ bG (hi0 g p) hl0 102 sg_102)) ++ bG (hi0 g p) hl0 130 sg_130
  rw [← sq_0, ← sq_4, ← sq_19, ← sq_32, ← sq_43, ← sq_54, ← sq_56, ← sq_58, ← sq_60, ← sq_62, ← sq_64, ← sq_66, ← sq_68, ← sq_70, ← sq_102, ← sq_130]
  rfl
def S0 : aS := (fun _ => [], fun _ => -1, fun _ => (fun _ => 0, fun _ => []))
theorem wf0 : wf S0 := ⟨fun w _ => .inl rfl, fun c _ => .inl (fun j _ _ => rfl)⟩
theorem hi0_z {g p : Nat → Int32} {k : Nat} (h : k ≠ 37 ∧ k ≠ 42 ∧ k ≠ 3 ∧ k ≠ 174 ∧ k ≠ 4 ∧ k ≠ 5 ∧ k ≠ 6 ∧ k ≠ 32) : hi0 g p k = fun _ => 0 := by
  unfold hi0
  rw [if_neg h.1, if_neg h.2.1, if_neg h.2.2.1, if_neg h.2.2.2.1, if_neg h.2.2.2.2.1, if_neg h.2.2.2.2.2.1, if_neg h.2.2.2.2.2.2.1, if_neg h.2.2.2.2.2.2.2]
theorem rIs_e {hi : Nat → Nat → Int32} {r a N : Nat} (h : hi r = fun _ => 0) : rIs hi r a N [] := ⟨Nat.zero_le _, by rw [h]; rfl, fun j x hx => by simp at hx⟩
theorem kSt0 {g p g2 : Nat → Int32} (hg : ∀ i, i < 256 → g i = nI (sbx i)) : kSt (uA (hi0 g p) 157 g2) S0 := by
  have z : ∀ k, (k ≠ 157 ∧ k ≠ 37 ∧ k ≠ 42 ∧ k ≠ 3 ∧ k ≠ 174 ∧ k ≠ 4 ∧ k ≠ 5 ∧ k ≠ 6 ∧ k ≠ 32) → uA (hi0 g p) 157 g2 k = fun _ => 0 := fun k hk => by rw [uA_ne hk.1]; exact hi0_z hk.2
  refine ⟨fun i hi => rIs_e (z _ (by omega)), fun w hw => ?_, fun c hc => ⟨fun j _ _ => by rw [z _ (by omega)]; rfl, rIs_e (z _ (by omega)), rIs_e (z _ (by omega)), rIs_e (z _ (by omega))⟩, fun i hi => ?_, rIs_e (z _ (by omega))⟩
  · rw [uA_ne (by decide), show hi0 g p 3 = u5 5 from rfl]
    exact if_pos hw
  · rw [uA_ne (by decide), show hi0 g p 37 = g from rfl]
    exact hg i hi
theorem u174_ok {w : Nat} (h : w < 5) : u174 w = -1 := by
  have : ∀ i : Fin 5, u174 i.val = -1 := by decide
  exact this ⟨w, h⟩
theorem l153_ok {i : Nat} (h : i < 16) : l153 i = if i = 0 then 121665 else 0 := by
  have : ∀ i : Fin 16, l153 i.val = if i.val = 0 then 121665 else 0 := by decide
  exact this ⟨i, h⟩
theorem rSt0 {g p g2 : Nat → Int32} (hg : ∀ i, i < 256 → g2 i = nI (sbx i)) : rSt (uA (hi0 g p) 157 g2) hl0 S0 := by
  have z : ∀ k, (k ≠ 157 ∧ k ≠ 37 ∧ k ≠ 42 ∧ k ≠ 3 ∧ k ≠ 174 ∧ k ≠ 4 ∧ k ≠ 5 ∧ k ≠ 6 ∧ k ≠ 32) → uA (hi0 g p) 157 g2 k = fun _ => 0 := fun k hk => by rw [uA_ne hk.1]; exact hi0_z hk.2
  refine ⟨fun i hi => ⟨by rw [z _ (by omega)]; rfl, Nat.zero_le _, aI_nil _ _⟩, fun w hw => ?_, fun c hc => ⟨by rw [z _ (by omega)]; rfl, fun h => absurd rfl h⟩, fun i hi => ?_, fun i hi => ?_⟩
  · rw [uA_ne (by decide), show hi0 g p 174 = u174 from rfl]
    exact u174_ok hw
  · rw [uA_self]; exact hg i hi
  · rw [show hl0 153 = l153 from rfl]; exact l153_ok hi
section
variable {SA : mSA} {P : Option Value → mH → Prop}
theorem nw_136 {g p : Nat → Int32} (hg : ∀ i, i < 256 → g i = nI (sbx i)) (hP : ∀ hi hl, kSt hi S0 → rSt hi hl S0 → P none (bH hi hl)) : mCt SA 56 14026 136 [.ref 130] (ksH g p ++ [.inr (9, mDef 9)]) P := by
  have hl : (ksH g p ++ ([.inr (9, mDef 9)] : mH)).length = 130 + 1 := by rw [List.length_append, ksH_len]; rfl
  have hk : (ksH g p ++ ([.inr (9, mDef 9)] : mH))[130]? = some (.inr (9, mDef 9)) := by
    rw [List.getElem?_append_right (by rw [ksH_len]; exact Nat.le_refl _), ksH_len]; rfl
  refine m_met (Nat.le_of_ble_eq_true rfl) ?_
  rw [show mEnt 136 [.ref 130] = [some (.ref 130)] from rfl]
  refine md_blk hk hl (by decide) ?_
  rw [set_last (ksH_len g p), heap0]
  refine m_blk bk_136_554 cb_136_554 ?_
  simp only [bk_136_554, b_iconst, b_bipush, b_sipush, b_lconst, b_ldc, b_ldc_w, b_ldc2_w, b_getstatic, b_iload, b_iload_n, b_istore, b_istore_n, b_lload, b_lload_n, b_lstore, b_lstore_n, b_aload, b_aload_n, b_astore, b_astore_n, b_iinc, b_iadd, b_isub, b_imul, b_iand, b_ior, b_ixor, b_ishl, b_ishr, b_iushr, b_idiv, b_irem, b_ladd, b_lsub, b_lmul, b_land, b_lor, b_lxor, b_lshl, b_lshr, b_lushr, b_i2l, b_l2i, b_i2b, b_i2c, b_lcmp, b_popI, b_popR, b_dupI, b_dupR, b_dup2, b_ifCond, b_icmp, b_goto, b_tsw, b_ireturn, b_lreturn, b_areturn, b_return, b_getfield, b_iaload, b_baload, b_laload, b_aaload, b_iastore, b_bastore, b_lastore, b_arraylength, c_call0, c_call1, c_call2, c_call3, c_call4, c_call5, c_call6, c_call7, c_call8, b_invokestatic, b_max, b_min, b_copy, b_obj, v_virt0, v_poly0, v_virt1, v_poly1, v_virt2, v_poly2, v_virt3, v_poly3, v_virt4, v_poly4, v_virt5, v_poly5, v_virt6, v_poly6, v_virt7, v_poly7, v_spec0, v_spec1, v_spec2, b_nil, wGet_some, wLdI_some, wLdL_some, wLdA_some, wAI_some, wAL_some, wSI_some, wSLg_some, wLen_b, wLen_i, wLen_l, uI_eq, uI_ne1, uI_ne2, uL_eq, uL_ne1, uL_ne2, uA_ne, uB_ne, ne_eq, Nat.reduceEqDiff, not_false_eq_true, uA_self, uB_self, uA_uA, uB_uB, cl_0, cl_1, cl_2, cl_3, cl_4, cl_5, cl_6, cl_7, cl_8, cl_9, cl_10, cl_11, cl_12, cl_13, cl_14, cl_15, cl_16, nar_b0, nar_b1, nar_i, true_and, eq_self, Nat.reduceAdd, Nat.reduceLeDiff, mG, mS1, mS2, mD1, mCut, mC0, mC2, mWd, Value.category, Option.toList_none, Option.toList_some, List.cons_append, List.nil_append, Option.some.injEq, Value.int.injEq, exists_eq_left', k_130]
  refine m_makeSubs (fun g2 hg2 => ?_)
  simp only [b_iconst, b_bipush, b_sipush, b_lconst, b_ldc, b_ldc_w, b_ldc2_w, b_getstatic, b_iload, b_iload_n, b_istore, b_istore_n, b_lload, b_lload_n, b_lstore, b_lstore_n, b_aload, b_aload_n, b_astore, b_astore_n, b_iinc, b_iadd, b_isub, b_imul, b_iand, b_ior, b_ixor, b_ishl, b_ishr, b_iushr, b_idiv, b_irem, b_ladd, b_lsub, b_lmul, b_land, b_lor, b_lxor, b_lshl, b_lshr, b_lushr, b_i2l, b_l2i, b_i2b, b_i2c, b_lcmp, b_popI, b_popR, b_dupI, b_dupR, b_dup2, b_ifCond, b_icmp, b_goto, b_tsw, b_ireturn, b_lreturn, b_areturn, b_return, b_getfield, b_iaload, b_baload, b_laload, b_aaload, b_iastore, b_bastore, b_lastore, b_arraylength, c_call0, c_call1, c_call2, c_call3, c_call4, c_call5, c_call6, c_call7, c_call8, b_invokestatic, b_max, b_min, b_copy, b_obj, v_virt0, v_poly0, v_virt1, v_poly1, v_virt2, v_poly2, v_virt3, v_poly3, v_virt4, v_poly4, v_virt5, v_poly5, v_virt6, v_poly6, v_virt7, v_poly7, v_spec0, v_spec1, v_spec2, b_nil, wGet_some, wLdI_some, wLdL_some, wLdA_some, wAI_some, wAL_some, wSI_some, wSLg_some, wLen_b, wLen_i, wLen_l, uI_eq, uI_ne1, uI_ne2, uL_eq, uL_ne1, uL_ne2, uA_ne, uB_ne, ne_eq, Nat.reduceEqDiff, not_false_eq_true, uA_self, uB_self, uA_uA, uB_uB, cl_0, cl_1, cl_2, cl_3, cl_4, cl_5, cl_6, cl_7, cl_8, cl_9, cl_10, cl_11, cl_12, cl_13, cl_14, cl_15, cl_16, nar_b0, nar_b1, nar_i, true_and, eq_self, Nat.reduceAdd, Nat.reduceLeDiff, mG, mS1, mS2, mD1, mCut, mC0, mC2, mWd, Value.category, Option.toList_none, Option.toList_some, List.cons_append, List.nil_append, Option.some.injEq, Value.int.injEq, exists_eq_left']
  exact hP _ _ (kSt0 hg) (rSt0 hg2)
end

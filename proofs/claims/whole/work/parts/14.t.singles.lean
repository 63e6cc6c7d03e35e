/-! PART 14.5: single cells: what their fields and places are, printed by program (wip/whole/mk145.py) -/
set_option maxRecDepth 100000 in
theorem sh_0 : shp[0]? = some (.inr (8, [.ref 1, .ref 2, .ref 3, .ref 4, .ref 19, .ref 32, .ref 43, .ref 54, .ref 56, .ref 58, .ref 60, .ref 62, .ref 64, .ref 66, .ref 68])) := by decide +kernel
theorem k_0 (hi : Nat → Nat → Int32) (hl : Nat → Nat → Int64) : mCls (bH hi hl) 0 = some 8 := g_cls sh_0 hi hl
theorem f_0_0 (hi : Nat → Nat → Int32) (hl : Nat → Nat → Int64) : mFld (bH hi hl) 0 8 0 = some (.ref 1) := g_fld (dc := 8) (j := 0) (t := .ref 1) sh_0 (by decide) (by decide) rfl hi hl
theorem f_0_1 (hi : Nat → Nat → Int32) (hl : Nat → Nat → Int64) : mFld (bH hi hl) 0 8 1 = some (.ref 2) := g_fld (dc := 8) (j := 1) (t := .ref 2) sh_0 (by decide) (by decide) rfl hi hl
theorem f_0_2 (hi : Nat → Nat → Int32) (hl : Nat → Nat → Int64) : mFld (bH hi hl) 0 8 2 = some (.ref 3) := g_fld (dc := 8) (j := 2) (t := .ref 3) sh_0 (by decide) (by decide) rfl hi hl
theorem f_0_3 (hi : Nat → Nat → Int32) (hl : Nat → Nat → Int64) : mFld (bH hi hl) 0 8 3 = some (.ref 4) := g_fld (dc := 8) (j := 3) (t := .ref 4) sh_0 (by decide) (by decide) rfl hi hl
theorem f_0_4 (hi : Nat → Nat → Int32) (hl : Nat → Nat → Int64) : mFld (bH hi hl) 0 8 4 = some (.ref 19) := g_fld (dc := 8) (j := 4) (t := .ref 19) sh_0 (by decide) (by decide) rfl hi hl
theorem f_0_5 (hi : Nat → Nat → Int32) (hl : Nat → Nat → Int64) : mFld (bH hi hl) 0 8 5 = some (.ref 32) := g_fld (dc := 8) (j := 5) (t := .ref 32) sh_0 (by decide) (by decide) rfl hi hl
theorem f_0_6 (hi : Nat → Nat → Int32) (hl : Nat → Nat → Int64) : mFld (bH hi hl) 0 8 6 = some (.ref 43) := g_fld (dc := 8) (j := 6) (t := .ref 43) sh_0 (by decide) (by decide) rfl hi hl
theorem f_0_7 (hi : Nat → Nat → Int32) (hl : Nat → Nat → Int64) : mFld (bH hi hl) 0 8 7 = some (.ref 54) := g_fld (dc := 8) (j := 7) (t := .ref 54) sh_0 (by decide) (by decide) rfl hi hl
theorem f_0_8 (hi : Nat → Nat → Int32) (hl : Nat → Nat → Int64) : mFld (bH hi hl) 0 8 8 = some (.ref 56) := g_fld (dc := 8) (j := 8) (t := .ref 56) sh_0 (by decide) (by decide) rfl hi hl
theorem f_0_9 (hi : Nat → Nat → Int32) (hl : Nat → Nat → Int64) : mFld (bH hi hl) 0 8 9 = some (.ref 58) := g_fld (dc := 8) (j := 9) (t := .ref 58) sh_0 (by decide) (by decide) rfl hi hl
theorem f_0_10 (hi : Nat → Nat → Int32) (hl : Nat → Nat → Int64) : mFld (bH hi hl) 0 8 10 = some (.ref 60) := g_fld (dc := 8) (j := 10) (t := .ref 60) sh_0 (by decide) (by decide) rfl hi hl
theorem f_0_11 (hi : Nat → Nat → Int32) (hl : Nat → Nat → Int64) : mFld (bH hi hl) 0 8 11 = some (.ref 62) := g_fld (dc := 8) (j := 11) (t := .ref 62) sh_0 (by decide) (by decide) rfl hi hl
theorem f_0_12 (hi : Nat → Nat → Int32) (hl : Nat → Nat → Int64) : mFld (bH hi hl) 0 8 12 = some (.ref 64) := g_fld (dc := 8) (j := 12) (t := .ref 64) sh_0 (by decide) (by decide) rfl hi hl
theorem f_0_13 (hi : Nat → Nat → Int32) (hl : Nat → Nat → Int64) : mFld (bH hi hl) 0 8 13 = some (.ref 66) := g_fld (dc := 8) (j := 13) (t := .ref 66) sh_0 (by decide) (by decide) rfl hi hl
theorem f_0_14 (hi : Nat → Nat → Int32) (hl : Nat → Nat → Int64) : mFld (bH hi hl) 0 8 14 = some (.ref 68) := g_fld (dc := 8) (j := 14) (t := .ref 68) sh_0 (by decide) (by decide) rfl hi hl
set_option maxRecDepth 100000 in
theorem sh_1 : shp[1]? = some (.inl (.object RX7, 16, [70, 72, 74, 76, 78, 80, 82, 84, 86, 88, 90, 92, 94, 96, 98, 100])) := by decide +kernel
set_option maxRecDepth 100000 in
theorem sh_2 : shp[2]? = some (.inl (.object RX2, 4, [102, 109, 116, 123])) := by decide +kernel
set_option maxRecDepth 100000 in
theorem sh_3 : shp[3]? = some (.inl (.int, 5, [])) := by decide +kernel
theorem a_3 (SA : mSA) (hi : Nat → Nat → Int32) (hl : Nat → Nat → Int64) : mArr SA (bH hi hl) 3 = some (.int, 5, .inl (hi 3)) := g_arrI sh_3 hi hl
theorem e_3 (hi : Nat → Nat → Int32) (hl : Nat → Nat → Int64) : (bH hi hl)[3]? = some (.inl (.int, 5, .inl (hi 3))) := g_cI sh_3 hi hl
theorem w_3 (hi : Nat → Nat → Int32) (hl : Nat → Nat → Int64) (g : Nat → Int32) : (bH hi hl).set 3 (.inl (.int, 5, .inl g)) = bH (uA hi 3 g) hl := p_cpyI sh_3 hi hl g
set_option maxRecDepth 100000 in
theorem sh_4 : shp[4]? = some (.inr (5, [.ref 5, .ref 15, .ref 17, .int 0])) := by decide +kernel
theorem k_4 (hi : Nat → Nat → Int32) (hl : Nat → Nat → Int64) : mCls (bH hi hl) 4 = some 5 := g_cls sh_4 hi hl
theorem f_4_0 (hi : Nat → Nat → Int32) (hl : Nat → Nat → Int64) : mFld (bH hi hl) 4 5 0 = some (.ref 5) := g_fld (dc := 5) (j := 0) (t := .ref 5) sh_4 (by decide) (by decide) rfl hi hl
theorem f_4_1 (hi : Nat → Nat → Int32) (hl : Nat → Nat → Int64) : mFld (bH hi hl) 4 5 1 = some (.ref 15) := g_fld (dc := 5) (j := 1) (t := .ref 15) sh_4 (by decide) (by decide) rfl hi hl
theorem f_4_2 (hi : Nat → Nat → Int32) (hl : Nat → Nat → Int64) : mFld (bH hi hl) 4 5 2 = some (.ref 17) := g_fld (dc := 5) (j := 2) (t := .ref 17) sh_4 (by decide) (by decide) rfl hi hl
theorem f_4_3 (hi : Nat → Nat → Int32) (hl : Nat → Nat → Int64) : mFld (bH hi hl) 4 5 3 = some (.int (hi 4 3)) := g_fld (dc := 5) (j := 3) (t := .int 0) sh_4 (by decide) (by decide) rfl hi hl
theorem p_4_3 {SA : mSA} {P : Option Value → mH → Prop} {n pe kc ks z : Nat} {os : List mO} {L : mL} {st : List Value} {hi : Nat → Nat → Int32} {hl : Nat → Nat → Int64} {x : Int32} : wB SA n pe P kc ks ((.putfield z, 5, 3, .int 0) :: os) L (.int x :: .ref 4 :: st) (bH hi hl) = wB SA n pe P kc ks os L st (bH (uI hi 4 3 x) hl) := by
  rw [b_putfield, p_fldI (dc := 5) sh_4 (by decide) rfl hi hl 0 x (fun h => wB SA n pe P kc ks os L st h)]
  simp
set_option maxRecDepth 100000 in
theorem sh_5 : shp[5]? = some (.inr (4, [.ref 6, .ref 9, .ref 11, .ref 13, .int 0])) := by decide +kernel
theorem k_5 (hi : Nat → Nat → Int32) (hl : Nat → Nat → Int64) : mCls (bH hi hl) 5 = some 4 := g_cls sh_5 hi hl
theorem f_5_0 (hi : Nat → Nat → Int32) (hl : Nat → Nat → Int64) : mFld (bH hi hl) 5 4 0 = some (.ref 6) := g_fld (dc := 4) (j := 0) (t := .ref 6) sh_5 (by decide) (by decide) rfl hi hl
theorem f_5_1 (hi : Nat → Nat → Int32) (hl : Nat → Nat → Int64) : mFld (bH hi hl) 5 4 1 = some (.ref 9) := g_fld (dc := 4) (j := 1) (t := .ref 9) sh_5 (by decide) (by decide) rfl hi hl
theorem f_5_2 (hi : Nat → Nat → Int32) (hl : Nat → Nat → Int64) : mFld (bH hi hl) 5 4 2 = some (.ref 11) := g_fld (dc := 4) (j := 2) (t := .ref 11) sh_5 (by decide) (by decide) rfl hi hl
theorem f_5_3 (hi : Nat → Nat → Int32) (hl : Nat → Nat → Int64) : mFld (bH hi hl) 5 4 3 = some (.ref 13) := g_fld (dc := 4) (j := 3) (t := .ref 13) sh_5 (by decide) (by decide) rfl hi hl
theorem f_5_4 (hi : Nat → Nat → Int32) (hl : Nat → Nat → Int64) : mFld (bH hi hl) 5 4 4 = some (.int (hi 5 4)) := g_fld (dc := 4) (j := 4) (t := .int 0) sh_5 (by decide) (by decide) rfl hi hl
theorem p_5_4 {SA : mSA} {P : Option Value → mH → Prop} {n pe kc ks z : Nat} {os : List mO} {L : mL} {st : List Value} {hi : Nat → Nat → Int32} {hl : Nat → Nat → Int64} {x : Int32} : wB SA n pe P kc ks ((.putfield z, 4, 4, .int 0) :: os) L (.int x :: .ref 5 :: st) (bH hi hl) = wB SA n pe P kc ks os L st (bH (uI hi 5 4 x) hl) := by
  rw [b_putfield, p_fldI (dc := 4) sh_5 (by decide) rfl hi hl 0 x (fun h => wB SA n pe P kc ks os L st h)]
  simp
set_option maxRecDepth 100000 in
theorem sh_6 : shp[6]? = some (.inr (3, [.ref 7, .ref 8, .int 0, .int 0, .int 0, .long 0, .int 0, .int 0])) := by decide +kernel
theorem k_6 (hi : Nat → Nat → Int32) (hl : Nat → Nat → Int64) : mCls (bH hi hl) 6 = some 3 := g_cls sh_6 hi hl
theorem f_6_0 (hi : Nat → Nat → Int32) (hl : Nat → Nat → Int64) : mFld (bH hi hl) 6 3 0 = some (.ref 7) := g_fld (dc := 3) (j := 0) (t := .ref 7) sh_6 (by decide) (by decide) rfl hi hl
theorem f_6_1 (hi : Nat → Nat → Int32) (hl : Nat → Nat → Int64) : mFld (bH hi hl) 6 3 1 = some (.ref 8) := g_fld (dc := 3) (j := 1) (t := .ref 8) sh_6 (by decide) (by decide) rfl hi hl
theorem f_6_2 (hi : Nat → Nat → Int32) (hl : Nat → Nat → Int64) : mFld (bH hi hl) 6 3 2 = some (.int (hi 6 2)) := g_fld (dc := 3) (j := 2) (t := .int 0) sh_6 (by decide) (by decide) rfl hi hl
theorem p_6_2 {SA : mSA} {P : Option Value → mH → Prop} {n pe kc ks z : Nat} {os : List mO} {L : mL} {st : List Value} {hi : Nat → Nat → Int32} {hl : Nat → Nat → Int64} {x : Int32} : wB SA n pe P kc ks ((.putfield z, 3, 2, .int 1) :: os) L (.int x :: .ref 6 :: st) (bH hi hl) = ((x = 0 ∨ x = 1) ∧ wB SA n pe P kc ks os L st (bH (uI hi 6 2 x) hl)) := by
  rw [b_putfield, p_fldI (dc := 3) sh_6 (by decide) rfl hi hl 1 x (fun h => wB SA n pe P kc ks os L st h)]
  simp
theorem f_6_3 (hi : Nat → Nat → Int32) (hl : Nat → Nat → Int64) : mFld (bH hi hl) 6 3 3 = some (.int (hi 6 3)) := g_fld (dc := 3) (j := 3) (t := .int 0) sh_6 (by decide) (by decide) rfl hi hl
theorem p_6_3 {SA : mSA} {P : Option Value → mH → Prop} {n pe kc ks z : Nat} {os : List mO} {L : mL} {st : List Value} {hi : Nat → Nat → Int32} {hl : Nat → Nat → Int64} {x : Int32} : wB SA n pe P kc ks ((.putfield z, 3, 3, .int 0) :: os) L (.int x :: .ref 6 :: st) (bH hi hl) = wB SA n pe P kc ks os L st (bH (uI hi 6 3 x) hl) := by
  rw [b_putfield, p_fldI (dc := 3) sh_6 (by decide) rfl hi hl 0 x (fun h => wB SA n pe P kc ks os L st h)]
  simp
theorem f_6_4 (hi : Nat → Nat → Int32) (hl : Nat → Nat → Int64) : mFld (bH hi hl) 6 3 4 = some (.int (hi 6 4)) := g_fld (dc := 3) (j := 4) (t := .int 0) sh_6 (by decide) (by decide) rfl hi hl
theorem p_6_4 {SA : mSA} {P : Option Value → mH → Prop} {n pe kc ks z : Nat} {os : List mO} {L : mL} {st : List Value} {hi : Nat → Nat → Int32} {hl : Nat → Nat → Int64} {x : Int32} : wB SA n pe P kc ks ((.putfield z, 3, 4, .int 0) :: os) L (.int x :: .ref 6 :: st) (bH hi hl) = wB SA n pe P kc ks os L st (bH (uI hi 6 4 x) hl) := by
  rw [b_putfield, p_fldI (dc := 3) sh_6 (by decide) rfl hi hl 0 x (fun h => wB SA n pe P kc ks os L st h)]
  simp
theorem f_6_5 (hi : Nat → Nat → Int32) (hl : Nat → Nat → Int64) : mFld (bH hi hl) 6 3 5 = some (.long (hl 6 5)) := g_fld (dc := 3) (j := 5) (t := .long 0) sh_6 (by decide) (by decide) rfl hi hl
theorem p_6_5 {SA : mSA} {P : Option Value → mH → Prop} {n pe kc ks z : Nat} {os : List mO} {L : mL} {st : List Value} {hi : Nat → Nat → Int32} {hl : Nat → Nat → Int64} {x : Int64} : wB SA n pe P kc ks ((.putfield z, 3, 5, .long 0) :: os) L (.long x :: .ref 6 :: st) (bH hi hl) = wB SA n pe P kc ks os L st (bH hi (uL hl 6 5 x)) := by
  rw [b_putfield, p_fldL (dc := 3) sh_6 (by decide) rfl hi hl 0 x (fun h => wB SA n pe P kc ks os L st h)]
theorem f_6_6 (hi : Nat → Nat → Int32) (hl : Nat → Nat → Int64) : mFld (bH hi hl) 6 3 6 = some (.int (hi 6 6)) := g_fld (dc := 3) (j := 6) (t := .int 0) sh_6 (by decide) (by decide) rfl hi hl
theorem p_6_6 {SA : mSA} {P : Option Value → mH → Prop} {n pe kc ks z : Nat} {os : List mO} {L : mL} {st : List Value} {hi : Nat → Nat → Int32} {hl : Nat → Nat → Int64} {x : Int32} : wB SA n pe P kc ks ((.putfield z, 3, 6, .int 0) :: os) L (.int x :: .ref 6 :: st) (bH hi hl) = wB SA n pe P kc ks os L st (bH (uI hi 6 6 x) hl) := by
  rw [b_putfield, p_fldI (dc := 3) sh_6 (by decide) rfl hi hl 0 x (fun h => wB SA n pe P kc ks os L st h)]
  simp
theorem f_6_7 (hi : Nat → Nat → Int32) (hl : Nat → Nat → Int64) : mFld (bH hi hl) 6 3 7 = some (.int (hi 6 7)) := g_fld (dc := 3) (j := 7) (t := .int 0) sh_6 (by decide) (by decide) rfl hi hl
theorem p_6_7 {SA : mSA} {P : Option Value → mH → Prop} {n pe kc ks z : Nat} {os : List mO} {L : mL} {st : List Value} {hi : Nat → Nat → Int32} {hl : Nat → Nat → Int64} {x : Int32} : wB SA n pe P kc ks ((.putfield z, 3, 7, .int 0) :: os) L (.int x :: .ref 6 :: st) (bH hi hl) = wB SA n pe P kc ks os L st (bH (uI hi 6 7 x) hl) := by
  rw [b_putfield, p_fldI (dc := 3) sh_6 (by decide) rfl hi hl 0 x (fun h => wB SA n pe P kc ks os L st h)]
  simp
set_option maxRecDepth 100000 in
theorem sh_7 : shp[7]? = some (.inl (.long, 8, [])) := by decide +kernel
theorem a_7 (SA : mSA) (hi : Nat → Nat → Int32) (hl : Nat → Nat → Int64) : mArr SA (bH hi hl) 7 = some (.long, 8, .inr (.inl (hl 7))) := g_arrL sh_7 hi hl
theorem e_7 (hi : Nat → Nat → Int32) (hl : Nat → Nat → Int64) : (bH hi hl)[7]? = some (.inl (.long, 8, .inr (.inl (hl 7)))) := g_cL sh_7 hi hl
theorem w_7 (hi : Nat → Nat → Int32) (hl : Nat → Nat → Int64) (g : Nat → Int64) : (bH hi hl).set 7 (.inl (.long, 8, .inr (.inl g))) = bH hi (uB hl 7 g) := p_cpyL sh_7 hi hl g
set_option maxRecDepth 100000 in
theorem sh_8 : shp[8]? = some (.inl (.long, 80, [])) := by decide +kernel
theorem a_8 (SA : mSA) (hi : Nat → Nat → Int32) (hl : Nat → Nat → Int64) : mArr SA (bH hi hl) 8 = some (.long, 80, .inr (.inl (hl 8))) := g_arrL sh_8 hi hl
theorem e_8 (hi : Nat → Nat → Int32) (hl : Nat → Nat → Int64) : (bH hi hl)[8]? = some (.inl (.long, 80, .inr (.inl (hl 8)))) := g_cL sh_8 hi hl
theorem w_8 (hi : Nat → Nat → Int32) (hl : Nat → Nat → Int64) (g : Nat → Int64) : (bH hi hl).set 8 (.inl (.long, 80, .inr (.inl g))) = bH hi (uB hl 8 g) := p_cpyL sh_8 hi hl g
set_option maxRecDepth 100000 in
theorem sh_19 : shp[19]? = some (.inr (2, [.ref 20, .ref 21, .ref 22, .ref 23, .ref 24, .ref 25, .ref 26, .ref 27, .ref 28, .ref 29, .ref 30])) := by decide +kernel
theorem k_19 (hi : Nat → Nat → Int32) (hl : Nat → Nat → Int64) : mCls (bH hi hl) 19 = some 2 := g_cls sh_19 hi hl
theorem f_19_0 (hi : Nat → Nat → Int32) (hl : Nat → Nat → Int64) : mFld (bH hi hl) 19 2 0 = some (.ref 20) := g_fld (dc := 2) (j := 0) (t := .ref 20) sh_19 (by decide) (by decide) rfl hi hl
theorem f_19_1 (hi : Nat → Nat → Int32) (hl : Nat → Nat → Int64) : mFld (bH hi hl) 19 2 1 = some (.ref 21) := g_fld (dc := 2) (j := 1) (t := .ref 21) sh_19 (by decide) (by decide) rfl hi hl
theorem f_19_2 (hi : Nat → Nat → Int32) (hl : Nat → Nat → Int64) : mFld (bH hi hl) 19 2 2 = some (.ref 22) := g_fld (dc := 2) (j := 2) (t := .ref 22) sh_19 (by decide) (by decide) rfl hi hl
theorem f_19_3 (hi : Nat → Nat → Int32) (hl : Nat → Nat → Int64) : mFld (bH hi hl) 19 2 3 = some (.ref 23) := g_fld (dc := 2) (j := 3) (t := .ref 23) sh_19 (by decide) (by decide) rfl hi hl
theorem f_19_4 (hi : Nat → Nat → Int32) (hl : Nat → Nat → Int64) : mFld (bH hi hl) 19 2 4 = some (.ref 24) := g_fld (dc := 2) (j := 4) (t := .ref 24) sh_19 (by decide) (by decide) rfl hi hl
theorem f_19_5 (hi : Nat → Nat → Int32) (hl : Nat → Nat → Int64) : mFld (bH hi hl) 19 2 5 = some (.ref 25) := g_fld (dc := 2) (j := 5) (t := .ref 25) sh_19 (by decide) (by decide) rfl hi hl
theorem f_19_6 (hi : Nat → Nat → Int32) (hl : Nat → Nat → Int64) : mFld (bH hi hl) 19 2 6 = some (.ref 26) := g_fld (dc := 2) (j := 6) (t := .ref 26) sh_19 (by decide) (by decide) rfl hi hl
theorem f_19_7 (hi : Nat → Nat → Int32) (hl : Nat → Nat → Int64) : mFld (bH hi hl) 19 2 7 = some (.ref 27) := g_fld (dc := 2) (j := 7) (t := .ref 27) sh_19 (by decide) (by decide) rfl hi hl
theorem f_19_8 (hi : Nat → Nat → Int32) (hl : Nat → Nat → Int64) : mFld (bH hi hl) 19 2 8 = some (.ref 28) := g_fld (dc := 2) (j := 8) (t := .ref 28) sh_19 (by decide) (by decide) rfl hi hl
theorem f_19_9 (hi : Nat → Nat → Int32) (hl : Nat → Nat → Int64) : mFld (bH hi hl) 19 2 9 = some (.ref 29) := g_fld (dc := 2) (j := 9) (t := .ref 29) sh_19 (by decide) (by decide) rfl hi hl
theorem f_19_10 (hi : Nat → Nat → Int32) (hl : Nat → Nat → Int64) : mFld (bH hi hl) 19 2 10 = some (.ref 30) := g_fld (dc := 2) (j := 10) (t := .ref 30) sh_19 (by decide) (by decide) rfl hi hl
set_option maxRecDepth 100000 in
theorem sh_20 : shp[20]? = some (.inl (.long, 10, [])) := by decide +kernel
theorem a_20 (SA : mSA) (hi : Nat → Nat → Int32) (hl : Nat → Nat → Int64) : mArr SA (bH hi hl) 20 = some (.long, 10, .inr (.inl (hl 20))) := g_arrL sh_20 hi hl
theorem e_20 (hi : Nat → Nat → Int32) (hl : Nat → Nat → Int64) : (bH hi hl)[20]? = some (.inl (.long, 10, .inr (.inl (hl 20)))) := g_cL sh_20 hi hl
theorem w_20 (hi : Nat → Nat → Int32) (hl : Nat → Nat → Int64) (g : Nat → Int64) : (bH hi hl).set 20 (.inl (.long, 10, .inr (.inl g))) = bH hi (uB hl 20 g) := p_cpyL sh_20 hi hl g
set_option maxRecDepth 100000 in
theorem sh_21 : shp[21]? = some (.inl (.long, 10, [])) := by decide +kernel
theorem a_21 (SA : mSA) (hi : Nat → Nat → Int32) (hl : Nat → Nat → Int64) : mArr SA (bH hi hl) 21 = some (.long, 10, .inr (.inl (hl 21))) := g_arrL sh_21 hi hl
theorem e_21 (hi : Nat → Nat → Int32) (hl : Nat → Nat → Int64) : (bH hi hl)[21]? = some (.inl (.long, 10, .inr (.inl (hl 21)))) := g_cL sh_21 hi hl
theorem w_21 (hi : Nat → Nat → Int32) (hl : Nat → Nat → Int64) (g : Nat → Int64) : (bH hi hl).set 21 (.inl (.long, 10, .inr (.inl g))) = bH hi (uB hl 21 g) := p_cpyL sh_21 hi hl g
set_option maxRecDepth 100000 in
theorem sh_22 : shp[22]? = some (.inl (.long, 10, [])) := by decide +kernel
theorem a_22 (SA : mSA) (hi : Nat → Nat → Int32) (hl : Nat → Nat → Int64) : mArr SA (bH hi hl) 22 = some (.long, 10, .inr (.inl (hl 22))) := g_arrL sh_22 hi hl
theorem e_22 (hi : Nat → Nat → Int32) (hl : Nat → Nat → Int64) : (bH hi hl)[22]? = some (.inl (.long, 10, .inr (.inl (hl 22)))) := g_cL sh_22 hi hl
theorem w_22 (hi : Nat → Nat → Int32) (hl : Nat → Nat → Int64) (g : Nat → Int64) : (bH hi hl).set 22 (.inl (.long, 10, .inr (.inl g))) = bH hi (uB hl 22 g) := p_cpyL sh_22 hi hl g
set_option maxRecDepth 100000 in
theorem sh_23 : shp[23]? = some (.inl (.long, 10, [])) := by decide +kernel
theorem a_23 (SA : mSA) (hi : Nat → Nat → Int32) (hl : Nat → Nat → Int64) : mArr SA (bH hi hl) 23 = some (.long, 10, .inr (.inl (hl 23))) := g_arrL sh_23 hi hl
theorem e_23 (hi : Nat → Nat → Int32) (hl : Nat → Nat → Int64) : (bH hi hl)[23]? = some (.inl (.long, 10, .inr (.inl (hl 23)))) := g_cL sh_23 hi hl
theorem w_23 (hi : Nat → Nat → Int32) (hl : Nat → Nat → Int64) (g : Nat → Int64) : (bH hi hl).set 23 (.inl (.long, 10, .inr (.inl g))) = bH hi (uB hl 23 g) := p_cpyL sh_23 hi hl g
set_option maxRecDepth 100000 in
theorem sh_24 : shp[24]? = some (.inl (.long, 10, [])) := by decide +kernel
theorem a_24 (SA : mSA) (hi : Nat → Nat → Int32) (hl : Nat → Nat → Int64) : mArr SA (bH hi hl) 24 = some (.long, 10, .inr (.inl (hl 24))) := g_arrL sh_24 hi hl
theorem e_24 (hi : Nat → Nat → Int32) (hl : Nat → Nat → Int64) : (bH hi hl)[24]? = some (.inl (.long, 10, .inr (.inl (hl 24)))) := g_cL sh_24 hi hl
theorem w_24 (hi : Nat → Nat → Int32) (hl : Nat → Nat → Int64) (g : Nat → Int64) : (bH hi hl).set 24 (.inl (.long, 10, .inr (.inl g))) = bH hi (uB hl 24 g) := p_cpyL sh_24 hi hl g
set_option maxRecDepth 100000 in
theorem sh_25 : shp[25]? = some (.inl (.long, 10, [])) := by decide +kernel
theorem a_25 (SA : mSA) (hi : Nat → Nat → Int32) (hl : Nat → Nat → Int64) : mArr SA (bH hi hl) 25 = some (.long, 10, .inr (.inl (hl 25))) := g_arrL sh_25 hi hl
theorem e_25 (hi : Nat → Nat → Int32) (hl : Nat → Nat → Int64) : (bH hi hl)[25]? = some (.inl (.long, 10, .inr (.inl (hl 25)))) := g_cL sh_25 hi hl
theorem w_25 (hi : Nat → Nat → Int32) (hl : Nat → Nat → Int64) (g : Nat → Int64) : (bH hi hl).set 25 (.inl (.long, 10, .inr (.inl g))) = bH hi (uB hl 25 g) := p_cpyL sh_25 hi hl g
set_option maxRecDepth 100000 in
theorem sh_26 : shp[26]? = some (.inl (.long, 10, [])) := by decide +kernel
theorem a_26 (SA : mSA) (hi : Nat → Nat → Int32) (hl : Nat → Nat → Int64) : mArr SA (bH hi hl) 26 = some (.long, 10, .inr (.inl (hl 26))) := g_arrL sh_26 hi hl
theorem e_26 (hi : Nat → Nat → Int32) (hl : Nat → Nat → Int64) : (bH hi hl)[26]? = some (.inl (.long, 10, .inr (.inl (hl 26)))) := g_cL sh_26 hi hl
theorem w_26 (hi : Nat → Nat → Int32) (hl : Nat → Nat → Int64) (g : Nat → Int64) : (bH hi hl).set 26 (.inl (.long, 10, .inr (.inl g))) = bH hi (uB hl 26 g) := p_cpyL sh_26 hi hl g
set_option maxRecDepth 100000 in
theorem sh_27 : shp[27]? = some (.inl (.long, 10, [])) := by decide +kernel
theorem a_27 (SA : mSA) (hi : Nat → Nat → Int32) (hl : Nat → Nat → Int64) : mArr SA (bH hi hl) 27 = some (.long, 10, .inr (.inl (hl 27))) := g_arrL sh_27 hi hl
theorem e_27 (hi : Nat → Nat → Int32) (hl : Nat → Nat → Int64) : (bH hi hl)[27]? = some (.inl (.long, 10, .inr (.inl (hl 27)))) := g_cL sh_27 hi hl
theorem w_27 (hi : Nat → Nat → Int32) (hl : Nat → Nat → Int64) (g : Nat → Int64) : (bH hi hl).set 27 (.inl (.long, 10, .inr (.inl g))) = bH hi (uB hl 27 g) := p_cpyL sh_27 hi hl g
set_option maxRecDepth 100000 in
theorem sh_28 : shp[28]? = some (.inl (.long, 10, [])) := by decide +kernel
theorem a_28 (SA : mSA) (hi : Nat → Nat → Int32) (hl : Nat → Nat → Int64) : mArr SA (bH hi hl) 28 = some (.long, 10, .inr (.inl (hl 28))) := g_arrL sh_28 hi hl
theorem e_28 (hi : Nat → Nat → Int32) (hl : Nat → Nat → Int64) : (bH hi hl)[28]? = some (.inl (.long, 10, .inr (.inl (hl 28)))) := g_cL sh_28 hi hl
theorem w_28 (hi : Nat → Nat → Int32) (hl : Nat → Nat → Int64) (g : Nat → Int64) : (bH hi hl).set 28 (.inl (.long, 10, .inr (.inl g))) = bH hi (uB hl 28 g) := p_cpyL sh_28 hi hl g
set_option maxRecDepth 100000 in
theorem sh_29 : shp[29]? = some (.inl (.long, 10, [])) := by decide +kernel
theorem a_29 (SA : mSA) (hi : Nat → Nat → Int32) (hl : Nat → Nat → Int64) : mArr SA (bH hi hl) 29 = some (.long, 10, .inr (.inl (hl 29))) := g_arrL sh_29 hi hl
theorem e_29 (hi : Nat → Nat → Int32) (hl : Nat → Nat → Int64) : (bH hi hl)[29]? = some (.inl (.long, 10, .inr (.inl (hl 29)))) := g_cL sh_29 hi hl
theorem w_29 (hi : Nat → Nat → Int32) (hl : Nat → Nat → Int64) (g : Nat → Int64) : (bH hi hl).set 29 (.inl (.long, 10, .inr (.inl g))) = bH hi (uB hl 29 g) := p_cpyL sh_29 hi hl g
set_option maxRecDepth 100000 in
theorem sh_32 : shp[32]? = some (.inr (0, [.ref 36, .ref 33, .ref 34, .ref 37, .ref 38, .ref 39, .ref 40, .int 0, .long 0, .long 0, .long 0, .long 0])) := by decide +kernel
theorem k_32 (hi : Nat → Nat → Int32) (hl : Nat → Nat → Int64) : mCls (bH hi hl) 32 = some 0 := g_cls sh_32 hi hl
theorem f_32_0 (hi : Nat → Nat → Int32) (hl : Nat → Nat → Int64) : mFld (bH hi hl) 32 0 0 = some (.ref 36) := g_fld (dc := 0) (j := 0) (t := .ref 36) sh_32 (by decide) (by decide) rfl hi hl
theorem f_32_0b (hi : Nat → Nat → Int32) (hl : Nat → Nat → Int64) : mFld (bH hi hl) 32 50 0 = some (.ref 36) := g_fld (dc := 50) (j := 0) (t := .ref 36) sh_32 (by decide) (by decide) rfl hi hl
theorem f_32_1 (hi : Nat → Nat → Int32) (hl : Nat → Nat → Int64) : mFld (bH hi hl) 32 0 1 = some (.ref 33) := g_fld (dc := 0) (j := 1) (t := .ref 33) sh_32 (by decide) (by decide) rfl hi hl
theorem f_32_1b (hi : Nat → Nat → Int32) (hl : Nat → Nat → Int64) : mFld (bH hi hl) 32 50 1 = some (.ref 33) := g_fld (dc := 50) (j := 1) (t := .ref 33) sh_32 (by decide) (by decide) rfl hi hl
theorem f_32_2 (hi : Nat → Nat → Int32) (hl : Nat → Nat → Int64) : mFld (bH hi hl) 32 0 2 = some (.ref 34) := g_fld (dc := 0) (j := 2) (t := .ref 34) sh_32 (by decide) (by decide) rfl hi hl
theorem f_32_2b (hi : Nat → Nat → Int32) (hl : Nat → Nat → Int64) : mFld (bH hi hl) 32 50 2 = some (.ref 34) := g_fld (dc := 50) (j := 2) (t := .ref 34) sh_32 (by decide) (by decide) rfl hi hl
theorem f_32_3 (hi : Nat → Nat → Int32) (hl : Nat → Nat → Int64) : mFld (bH hi hl) 32 0 3 = some (.ref 37) := g_fld (dc := 0) (j := 3) (t := .ref 37) sh_32 (by decide) (by decide) rfl hi hl
theorem f_32_4 (hi : Nat → Nat → Int32) (hl : Nat → Nat → Int64) : mFld (bH hi hl) 32 0 4 = some (.ref 38) := g_fld (dc := 0) (j := 4) (t := .ref 38) sh_32 (by decide) (by decide) rfl hi hl
theorem f_32_5 (hi : Nat → Nat → Int32) (hl : Nat → Nat → Int64) : mFld (bH hi hl) 32 0 5 = some (.ref 39) := g_fld (dc := 0) (j := 5) (t := .ref 39) sh_32 (by decide) (by decide) rfl hi hl
theorem f_32_6 (hi : Nat → Nat → Int32) (hl : Nat → Nat → Int64) : mFld (bH hi hl) 32 0 6 = some (.ref 40) := g_fld (dc := 0) (j := 6) (t := .ref 40) sh_32 (by decide) (by decide) rfl hi hl
theorem f_32_7 (hi : Nat → Nat → Int32) (hl : Nat → Nat → Int64) : mFld (bH hi hl) 32 0 7 = some (.int (hi 32 7)) := g_fld (dc := 0) (j := 7) (t := .int 0) sh_32 (by decide) (by decide) rfl hi hl
theorem p_32_7 {SA : mSA} {P : Option Value → mH → Prop} {n pe kc ks z : Nat} {os : List mO} {L : mL} {st : List Value} {hi : Nat → Nat → Int32} {hl : Nat → Nat → Int64} {x : Int32} : wB SA n pe P kc ks ((.putfield z, 0, 7, .int 0) :: os) L (.int x :: .ref 32 :: st) (bH hi hl) = wB SA n pe P kc ks os L st (bH (uI hi 32 7 x) hl) := by
  rw [b_putfield, p_fldI (dc := 0) sh_32 (by decide) rfl hi hl 0 x (fun h => wB SA n pe P kc ks os L st h)]
  simp
theorem f_32_8 (hi : Nat → Nat → Int32) (hl : Nat → Nat → Int64) : mFld (bH hi hl) 32 0 8 = some (.long (hl 32 8)) := g_fld (dc := 0) (j := 8) (t := .long 0) sh_32 (by decide) (by decide) rfl hi hl
theorem p_32_8 {SA : mSA} {P : Option Value → mH → Prop} {n pe kc ks z : Nat} {os : List mO} {L : mL} {st : List Value} {hi : Nat → Nat → Int32} {hl : Nat → Nat → Int64} {x : Int64} : wB SA n pe P kc ks ((.putfield z, 0, 8, .long 0) :: os) L (.long x :: .ref 32 :: st) (bH hi hl) = wB SA n pe P kc ks os L st (bH hi (uL hl 32 8 x)) := by
  rw [b_putfield, p_fldL (dc := 0) sh_32 (by decide) rfl hi hl 0 x (fun h => wB SA n pe P kc ks os L st h)]
theorem f_32_9 (hi : Nat → Nat → Int32) (hl : Nat → Nat → Int64) : mFld (bH hi hl) 32 0 9 = some (.long (hl 32 9)) := g_fld (dc := 0) (j := 9) (t := .long 0) sh_32 (by decide) (by decide) rfl hi hl
theorem p_32_9 {SA : mSA} {P : Option Value → mH → Prop} {n pe kc ks z : Nat} {os : List mO} {L : mL} {st : List Value} {hi : Nat → Nat → Int32} {hl : Nat → Nat → Int64} {x : Int64} : wB SA n pe P kc ks ((.putfield z, 0, 9, .long 0) :: os) L (.long x :: .ref 32 :: st) (bH hi hl) = wB SA n pe P kc ks os L st (bH hi (uL hl 32 9 x)) := by
  rw [b_putfield, p_fldL (dc := 0) sh_32 (by decide) rfl hi hl 0 x (fun h => wB SA n pe P kc ks os L st h)]
theorem f_32_10 (hi : Nat → Nat → Int32) (hl : Nat → Nat → Int64) : mFld (bH hi hl) 32 0 10 = some (.long (hl 32 10)) := g_fld (dc := 0) (j := 10) (t := .long 0) sh_32 (by decide) (by decide) rfl hi hl
theorem p_32_10 {SA : mSA} {P : Option Value → mH → Prop} {n pe kc ks z : Nat} {os : List mO} {L : mL} {st : List Value} {hi : Nat → Nat → Int32} {hl : Nat → Nat → Int64} {x : Int64} : wB SA n pe P kc ks ((.putfield z, 0, 10, .long 0) :: os) L (.long x :: .ref 32 :: st) (bH hi hl) = wB SA n pe P kc ks os L st (bH hi (uL hl 32 10 x)) := by
  rw [b_putfield, p_fldL (dc := 0) sh_32 (by decide) rfl hi hl 0 x (fun h => wB SA n pe P kc ks os L st h)]
theorem f_32_11 (hi : Nat → Nat → Int32) (hl : Nat → Nat → Int64) : mFld (bH hi hl) 32 0 11 = some (.long (hl 32 11)) := g_fld (dc := 0) (j := 11) (t := .long 0) sh_32 (by decide) (by decide) rfl hi hl
theorem p_32_11 {SA : mSA} {P : Option Value → mH → Prop} {n pe kc ks z : Nat} {os : List mO} {L : mL} {st : List Value} {hi : Nat → Nat → Int32} {hl : Nat → Nat → Int64} {x : Int64} : wB SA n pe P kc ks ((.putfield z, 0, 11, .long 0) :: os) L (.long x :: .ref 32 :: st) (bH hi hl) = wB SA n pe P kc ks os L st (bH hi (uL hl 32 11 x)) := by
  rw [b_putfield, p_fldL (dc := 0) sh_32 (by decide) rfl hi hl 0 x (fun h => wB SA n pe P kc ks os L st h)]
set_option maxRecDepth 100000 in
theorem sh_33 : shp[33]? = some (.inl (.int, 16, [])) := by decide +kernel
theorem a_33 (SA : mSA) (hi : Nat → Nat → Int32) (hl : Nat → Nat → Int64) : mArr SA (bH hi hl) 33 = some (.int, 16, .inl (hi 33)) := g_arrI sh_33 hi hl
theorem e_33 (hi : Nat → Nat → Int32) (hl : Nat → Nat → Int64) : (bH hi hl)[33]? = some (.inl (.int, 16, .inl (hi 33))) := g_cI sh_33 hi hl
theorem w_33 (hi : Nat → Nat → Int32) (hl : Nat → Nat → Int64) (g : Nat → Int32) : (bH hi hl).set 33 (.inl (.int, 16, .inl g)) = bH (uA hi 33 g) hl := p_cpyI sh_33 hi hl g
set_option maxRecDepth 100000 in
theorem sh_36 : shp[36]? = some (.inl (.int, 16, [])) := by decide +kernel
theorem a_36 (SA : mSA) (hi : Nat → Nat → Int32) (hl : Nat → Nat → Int64) : mArr SA (bH hi hl) 36 = some (.int, 16, .inl (hi 36)) := g_arrI sh_36 hi hl
theorem e_36 (hi : Nat → Nat → Int32) (hl : Nat → Nat → Int64) : (bH hi hl)[36]? = some (.inl (.int, 16, .inl (hi 36))) := g_cI sh_36 hi hl
theorem w_36 (hi : Nat → Nat → Int32) (hl : Nat → Nat → Int64) (g : Nat → Int32) : (bH hi hl).set 36 (.inl (.int, 16, .inl g)) = bH (uA hi 36 g) hl := p_cpyI sh_36 hi hl g
set_option maxRecDepth 100000 in
theorem sh_37 : shp[37]? = some (.inl (.int, 256, [])) := by decide +kernel
theorem a_37 (SA : mSA) (hi : Nat → Nat → Int32) (hl : Nat → Nat → Int64) : mArr SA (bH hi hl) 37 = some (.int, 256, .inl (hi 37)) := g_arrI sh_37 hi hl
theorem e_37 (hi : Nat → Nat → Int32) (hl : Nat → Nat → Int64) : (bH hi hl)[37]? = some (.inl (.int, 256, .inl (hi 37))) := g_cI sh_37 hi hl
theorem w_37 (hi : Nat → Nat → Int32) (hl : Nat → Nat → Int64) (g : Nat → Int32) : (bH hi hl).set 37 (.inl (.int, 256, .inl g)) = bH (uA hi 37 g) hl := p_cpyI sh_37 hi hl g
set_option maxRecDepth 100000 in
theorem sh_38 : shp[38]? = some (.inl (.int, 60, [])) := by decide +kernel
theorem a_38 (SA : mSA) (hi : Nat → Nat → Int32) (hl : Nat → Nat → Int64) : mArr SA (bH hi hl) 38 = some (.int, 60, .inl (hi 38)) := g_arrI sh_38 hi hl
theorem e_38 (hi : Nat → Nat → Int32) (hl : Nat → Nat → Int64) : (bH hi hl)[38]? = some (.inl (.int, 60, .inl (hi 38))) := g_cI sh_38 hi hl
theorem w_38 (hi : Nat → Nat → Int32) (hl : Nat → Nat → Int64) (g : Nat → Int32) : (bH hi hl).set 38 (.inl (.int, 60, .inl g)) = bH (uA hi 38 g) hl := p_cpyI sh_38 hi hl g
set_option maxRecDepth 100000 in
theorem sh_39 : shp[39]? = some (.inl (.int, 16, [])) := by decide +kernel
theorem a_39 (SA : mSA) (hi : Nat → Nat → Int32) (hl : Nat → Nat → Int64) : mArr SA (bH hi hl) 39 = some (.int, 16, .inl (hi 39)) := g_arrI sh_39 hi hl
theorem e_39 (hi : Nat → Nat → Int32) (hl : Nat → Nat → Int64) : (bH hi hl)[39]? = some (.inl (.int, 16, .inl (hi 39))) := g_cI sh_39 hi hl
theorem w_39 (hi : Nat → Nat → Int32) (hl : Nat → Nat → Int64) (g : Nat → Int32) : (bH hi hl).set 39 (.inl (.int, 16, .inl g)) = bH (uA hi 39 g) hl := p_cpyI sh_39 hi hl g
set_option maxRecDepth 100000 in
theorem sh_42 : shp[42]? = some (.inl (.int, 256, [])) := by decide +kernel
theorem a_42 (SA : mSA) (hi : Nat → Nat → Int32) (hl : Nat → Nat → Int64) : mArr SA (bH hi hl) 42 = some (.int, 256, .inl (hi 42)) := g_arrI sh_42 hi hl
theorem e_42 (hi : Nat → Nat → Int32) (hl : Nat → Nat → Int64) : (bH hi hl)[42]? = some (.inl (.int, 256, .inl (hi 42))) := g_cI sh_42 hi hl
theorem w_42 (hi : Nat → Nat → Int32) (hl : Nat → Nat → Int64) (g : Nat → Int32) : (bH hi hl).set 42 (.inl (.int, 256, .inl g)) = bH (uA hi 42 g) hl := p_cpyI sh_42 hi hl g
set_option maxRecDepth 100000 in
theorem sh_43 : shp[43]? = some (.inr (7, [.ref 47, .ref 44, .ref 45, .ref 48, .ref 49, .ref 50, .ref 51, .ref 52, .ref 53])) := by decide +kernel
theorem k_43 (hi : Nat → Nat → Int32) (hl : Nat → Nat → Int64) : mCls (bH hi hl) 43 = some 7 := g_cls sh_43 hi hl
theorem f_43_0 (hi : Nat → Nat → Int32) (hl : Nat → Nat → Int64) : mFld (bH hi hl) 43 7 0 = some (.ref 47) := g_fld (dc := 7) (j := 0) (t := .ref 47) sh_43 (by decide) (by decide) rfl hi hl
theorem f_43_0b (hi : Nat → Nat → Int32) (hl : Nat → Nat → Int64) : mFld (bH hi hl) 43 50 0 = some (.ref 47) := g_fld (dc := 50) (j := 0) (t := .ref 47) sh_43 (by decide) (by decide) rfl hi hl
theorem f_43_1 (hi : Nat → Nat → Int32) (hl : Nat → Nat → Int64) : mFld (bH hi hl) 43 7 1 = some (.ref 44) := g_fld (dc := 7) (j := 1) (t := .ref 44) sh_43 (by decide) (by decide) rfl hi hl
theorem f_43_1b (hi : Nat → Nat → Int32) (hl : Nat → Nat → Int64) : mFld (bH hi hl) 43 50 1 = some (.ref 44) := g_fld (dc := 50) (j := 1) (t := .ref 44) sh_43 (by decide) (by decide) rfl hi hl
theorem f_43_2 (hi : Nat → Nat → Int32) (hl : Nat → Nat → Int64) : mFld (bH hi hl) 43 7 2 = some (.ref 45) := g_fld (dc := 7) (j := 2) (t := .ref 45) sh_43 (by decide) (by decide) rfl hi hl
theorem f_43_2b (hi : Nat → Nat → Int32) (hl : Nat → Nat → Int64) : mFld (bH hi hl) 43 50 2 = some (.ref 45) := g_fld (dc := 50) (j := 2) (t := .ref 45) sh_43 (by decide) (by decide) rfl hi hl
theorem f_43_3 (hi : Nat → Nat → Int32) (hl : Nat → Nat → Int64) : mFld (bH hi hl) 43 7 3 = some (.ref 48) := g_fld (dc := 7) (j := 3) (t := .ref 48) sh_43 (by decide) (by decide) rfl hi hl
theorem f_43_4 (hi : Nat → Nat → Int32) (hl : Nat → Nat → Int64) : mFld (bH hi hl) 43 7 4 = some (.ref 49) := g_fld (dc := 7) (j := 4) (t := .ref 49) sh_43 (by decide) (by decide) rfl hi hl
theorem f_43_5 (hi : Nat → Nat → Int32) (hl : Nat → Nat → Int64) : mFld (bH hi hl) 43 7 5 = some (.ref 50) := g_fld (dc := 7) (j := 5) (t := .ref 50) sh_43 (by decide) (by decide) rfl hi hl
theorem f_43_6 (hi : Nat → Nat → Int32) (hl : Nat → Nat → Int64) : mFld (bH hi hl) 43 7 6 = some (.ref 51) := g_fld (dc := 7) (j := 6) (t := .ref 51) sh_43 (by decide) (by decide) rfl hi hl
theorem f_43_7 (hi : Nat → Nat → Int32) (hl : Nat → Nat → Int64) : mFld (bH hi hl) 43 7 7 = some (.ref 52) := g_fld (dc := 7) (j := 7) (t := .ref 52) sh_43 (by decide) (by decide) rfl hi hl
theorem f_43_8 (hi : Nat → Nat → Int32) (hl : Nat → Nat → Int64) : mFld (bH hi hl) 43 7 8 = some (.ref 53) := g_fld (dc := 7) (j := 8) (t := .ref 53) sh_43 (by decide) (by decide) rfl hi hl
set_option maxRecDepth 100000 in
theorem sh_44 : shp[44]? = some (.inl (.int, 16, [])) := by decide +kernel
theorem a_44 (SA : mSA) (hi : Nat → Nat → Int32) (hl : Nat → Nat → Int64) : mArr SA (bH hi hl) 44 = some (.int, 16, .inl (hi 44)) := g_arrI sh_44 hi hl
theorem e_44 (hi : Nat → Nat → Int32) (hl : Nat → Nat → Int64) : (bH hi hl)[44]? = some (.inl (.int, 16, .inl (hi 44))) := g_cI sh_44 hi hl
theorem w_44 (hi : Nat → Nat → Int32) (hl : Nat → Nat → Int64) (g : Nat → Int32) : (bH hi hl).set 44 (.inl (.int, 16, .inl g)) = bH (uA hi 44 g) hl := p_cpyI sh_44 hi hl g
set_option maxRecDepth 100000 in
theorem sh_47 : shp[47]? = some (.inl (.int, 64, [])) := by decide +kernel
theorem a_47 (SA : mSA) (hi : Nat → Nat → Int32) (hl : Nat → Nat → Int64) : mArr SA (bH hi hl) 47 = some (.int, 64, .inl (hi 47)) := g_arrI sh_47 hi hl
theorem e_47 (hi : Nat → Nat → Int32) (hl : Nat → Nat → Int64) : (bH hi hl)[47]? = some (.inl (.int, 64, .inl (hi 47))) := g_cI sh_47 hi hl
theorem w_47 (hi : Nat → Nat → Int32) (hl : Nat → Nat → Int64) (g : Nat → Int32) : (bH hi hl).set 47 (.inl (.int, 64, .inl g)) = bH (uA hi 47 g) hl := p_cpyI sh_47 hi hl g
set_option maxRecDepth 100000 in
theorem sh_48 : shp[48]? = some (.inl (.int, 16, [])) := by decide +kernel
theorem a_48 (SA : mSA) (hi : Nat → Nat → Int32) (hl : Nat → Nat → Int64) : mArr SA (bH hi hl) 48 = some (.int, 16, .inl (hi 48)) := g_arrI sh_48 hi hl
theorem e_48 (hi : Nat → Nat → Int32) (hl : Nat → Nat → Int64) : (bH hi hl)[48]? = some (.inl (.int, 16, .inl (hi 48))) := g_cI sh_48 hi hl
theorem w_48 (hi : Nat → Nat → Int32) (hl : Nat → Nat → Int64) (g : Nat → Int32) : (bH hi hl).set 48 (.inl (.int, 16, .inl g)) = bH (uA hi 48 g) hl := p_cpyI sh_48 hi hl g
set_option maxRecDepth 100000 in
theorem sh_49 : shp[49]? = some (.inl (.int, 16, [])) := by decide +kernel
theorem a_49 (SA : mSA) (hi : Nat → Nat → Int32) (hl : Nat → Nat → Int64) : mArr SA (bH hi hl) 49 = some (.int, 16, .inl (hi 49)) := g_arrI sh_49 hi hl
theorem e_49 (hi : Nat → Nat → Int32) (hl : Nat → Nat → Int64) : (bH hi hl)[49]? = some (.inl (.int, 16, .inl (hi 49))) := g_cI sh_49 hi hl
theorem w_49 (hi : Nat → Nat → Int32) (hl : Nat → Nat → Int64) (g : Nat → Int32) : (bH hi hl).set 49 (.inl (.int, 16, .inl g)) = bH (uA hi 49 g) hl := p_cpyI sh_49 hi hl g
set_option maxRecDepth 100000 in
theorem sh_50 : shp[50]? = some (.inl (.int, 16, [])) := by decide +kernel
theorem a_50 (SA : mSA) (hi : Nat → Nat → Int32) (hl : Nat → Nat → Int64) : mArr SA (bH hi hl) 50 = some (.int, 16, .inl (hi 50)) := g_arrI sh_50 hi hl
theorem e_50 (hi : Nat → Nat → Int32) (hl : Nat → Nat → Int64) : (bH hi hl)[50]? = some (.inl (.int, 16, .inl (hi 50))) := g_cI sh_50 hi hl
theorem w_50 (hi : Nat → Nat → Int32) (hl : Nat → Nat → Int64) (g : Nat → Int32) : (bH hi hl).set 50 (.inl (.int, 16, .inl g)) = bH (uA hi 50 g) hl := p_cpyI sh_50 hi hl g
set_option maxRecDepth 100000 in
theorem sh_51 : shp[51]? = some (.inl (.long, 5, [])) := by decide +kernel
theorem a_51 (SA : mSA) (hi : Nat → Nat → Int32) (hl : Nat → Nat → Int64) : mArr SA (bH hi hl) 51 = some (.long, 5, .inr (.inl (hl 51))) := g_arrL sh_51 hi hl
theorem e_51 (hi : Nat → Nat → Int32) (hl : Nat → Nat → Int64) : (bH hi hl)[51]? = some (.inl (.long, 5, .inr (.inl (hl 51)))) := g_cL sh_51 hi hl
theorem w_51 (hi : Nat → Nat → Int32) (hl : Nat → Nat → Int64) (g : Nat → Int64) : (bH hi hl).set 51 (.inl (.long, 5, .inr (.inl g))) = bH hi (uB hl 51 g) := p_cpyL sh_51 hi hl g
set_option maxRecDepth 100000 in
theorem sh_52 : shp[52]? = some (.inl (.long, 5, [])) := by decide +kernel
theorem a_52 (SA : mSA) (hi : Nat → Nat → Int32) (hl : Nat → Nat → Int64) : mArr SA (bH hi hl) 52 = some (.long, 5, .inr (.inl (hl 52))) := g_arrL sh_52 hi hl
theorem e_52 (hi : Nat → Nat → Int32) (hl : Nat → Nat → Int64) : (bH hi hl)[52]? = some (.inl (.long, 5, .inr (.inl (hl 52)))) := g_cL sh_52 hi hl
theorem w_52 (hi : Nat → Nat → Int32) (hl : Nat → Nat → Int64) (g : Nat → Int64) : (bH hi hl).set 52 (.inl (.long, 5, .inr (.inl g))) = bH hi (uB hl 52 g) := p_cpyL sh_52 hi hl g
set_option maxRecDepth 100000 in
theorem sh_53 : shp[53]? = some (.inl (.long, 5, [])) := by decide +kernel
theorem a_53 (SA : mSA) (hi : Nat → Nat → Int32) (hl : Nat → Nat → Int64) : mArr SA (bH hi hl) 53 = some (.long, 5, .inr (.inl (hl 53))) := g_arrL sh_53 hi hl
theorem e_53 (hi : Nat → Nat → Int32) (hl : Nat → Nat → Int64) : (bH hi hl)[53]? = some (.inl (.long, 5, .inr (.inl (hl 53)))) := g_cL sh_53 hi hl
theorem w_53 (hi : Nat → Nat → Int32) (hl : Nat → Nat → Int64) (g : Nat → Int64) : (bH hi hl).set 53 (.inl (.long, 5, .inr (.inl g))) = bH hi (uB hl 53 g) := p_cpyL sh_53 hi hl g
set_option maxRecDepth 100000 in
theorem sh_102 : shp[102]? = some (.inr (1, [.ref 103, .ref 105, .ref 107, .int 0, .int 0, .int 0, .int 0, .int 0, .int 0, .int 0])) := by decide +kernel
theorem k_102 (hi : Nat → Nat → Int32) (hl : Nat → Nat → Int64) : mCls (bH hi hl) 102 = some 1 := g_cls sh_102 hi hl
theorem f_102_0 (hi : Nat → Nat → Int32) (hl : Nat → Nat → Int64) : mFld (bH hi hl) 102 1 0 = some (.ref 103) := g_fld (dc := 1) (j := 0) (t := .ref 103) sh_102 (by decide) (by decide) rfl hi hl
theorem f_102_1 (hi : Nat → Nat → Int32) (hl : Nat → Nat → Int64) : mFld (bH hi hl) 102 1 1 = some (.ref 105) := g_fld (dc := 1) (j := 1) (t := .ref 105) sh_102 (by decide) (by decide) rfl hi hl
theorem f_102_2 (hi : Nat → Nat → Int32) (hl : Nat → Nat → Int64) : mFld (bH hi hl) 102 1 2 = some (.ref 107) := g_fld (dc := 1) (j := 2) (t := .ref 107) sh_102 (by decide) (by decide) rfl hi hl
theorem f_102_3 (hi : Nat → Nat → Int32) (hl : Nat → Nat → Int64) : mFld (bH hi hl) 102 1 3 = some (.int (hi 102 3)) := g_fld (dc := 1) (j := 3) (t := .int 0) sh_102 (by decide) (by decide) rfl hi hl
theorem p_102_3 {SA : mSA} {P : Option Value → mH → Prop} {n pe kc ks z : Nat} {os : List mO} {L : mL} {st : List Value} {hi : Nat → Nat → Int32} {hl : Nat → Nat → Int64} {x : Int32} : wB SA n pe P kc ks ((.putfield z, 1, 3, .int 0) :: os) L (.int x :: .ref 102 :: st) (bH hi hl) = wB SA n pe P kc ks os L st (bH (uI hi 102 3 x) hl) := by
  rw [b_putfield, p_fldI (dc := 1) sh_102 (by decide) rfl hi hl 0 x (fun h => wB SA n pe P kc ks os L st h)]
  simp
theorem f_102_4 (hi : Nat → Nat → Int32) (hl : Nat → Nat → Int64) : mFld (bH hi hl) 102 1 4 = some (.int (hi 102 4)) := g_fld (dc := 1) (j := 4) (t := .int 0) sh_102 (by decide) (by decide) rfl hi hl
theorem p_102_4 {SA : mSA} {P : Option Value → mH → Prop} {n pe kc ks z : Nat} {os : List mO} {L : mL} {st : List Value} {hi : Nat → Nat → Int32} {hl : Nat → Nat → Int64} {x : Int32} : wB SA n pe P kc ks ((.putfield z, 1, 4, .int 0) :: os) L (.int x :: .ref 102 :: st) (bH hi hl) = wB SA n pe P kc ks os L st (bH (uI hi 102 4 x) hl) := by
  rw [b_putfield, p_fldI (dc := 1) sh_102 (by decide) rfl hi hl 0 x (fun h => wB SA n pe P kc ks os L st h)]
  simp
theorem f_102_5 (hi : Nat → Nat → Int32) (hl : Nat → Nat → Int64) : mFld (bH hi hl) 102 1 5 = some (.int (hi 102 5)) := g_fld (dc := 1) (j := 5) (t := .int 0) sh_102 (by decide) (by decide) rfl hi hl
theorem p_102_5 {SA : mSA} {P : Option Value → mH → Prop} {n pe kc ks z : Nat} {os : List mO} {L : mL} {st : List Value} {hi : Nat → Nat → Int32} {hl : Nat → Nat → Int64} {x : Int32} : wB SA n pe P kc ks ((.putfield z, 1, 5, .int 0) :: os) L (.int x :: .ref 102 :: st) (bH hi hl) = wB SA n pe P kc ks os L st (bH (uI hi 102 5 x) hl) := by
  rw [b_putfield, p_fldI (dc := 1) sh_102 (by decide) rfl hi hl 0 x (fun h => wB SA n pe P kc ks os L st h)]
  simp
theorem f_102_6 (hi : Nat → Nat → Int32) (hl : Nat → Nat → Int64) : mFld (bH hi hl) 102 1 6 = some (.int (hi 102 6)) := g_fld (dc := 1) (j := 6) (t := .int 0) sh_102 (by decide) (by decide) rfl hi hl
theorem p_102_6 {SA : mSA} {P : Option Value → mH → Prop} {n pe kc ks z : Nat} {os : List mO} {L : mL} {st : List Value} {hi : Nat → Nat → Int32} {hl : Nat → Nat → Int64} {x : Int32} : wB SA n pe P kc ks ((.putfield z, 1, 6, .int 0) :: os) L (.int x :: .ref 102 :: st) (bH hi hl) = wB SA n pe P kc ks os L st (bH (uI hi 102 6 x) hl) := by
  rw [b_putfield, p_fldI (dc := 1) sh_102 (by decide) rfl hi hl 0 x (fun h => wB SA n pe P kc ks os L st h)]
  simp
theorem f_102_7 (hi : Nat → Nat → Int32) (hl : Nat → Nat → Int64) : mFld (bH hi hl) 102 1 7 = some (.int (hi 102 7)) := g_fld (dc := 1) (j := 7) (t := .int 0) sh_102 (by decide) (by decide) rfl hi hl
theorem p_102_7 {SA : mSA} {P : Option Value → mH → Prop} {n pe kc ks z : Nat} {os : List mO} {L : mL} {st : List Value} {hi : Nat → Nat → Int32} {hl : Nat → Nat → Int64} {x : Int32} : wB SA n pe P kc ks ((.putfield z, 1, 7, .int 0) :: os) L (.int x :: .ref 102 :: st) (bH hi hl) = wB SA n pe P kc ks os L st (bH (uI hi 102 7 x) hl) := by
  rw [b_putfield, p_fldI (dc := 1) sh_102 (by decide) rfl hi hl 0 x (fun h => wB SA n pe P kc ks os L st h)]
  simp
theorem f_102_8 (hi : Nat → Nat → Int32) (hl : Nat → Nat → Int64) : mFld (bH hi hl) 102 1 8 = some (.int (hi 102 8)) := g_fld (dc := 1) (j := 8) (t := .int 0) sh_102 (by decide) (by decide) rfl hi hl
theorem p_102_8 {SA : mSA} {P : Option Value → mH → Prop} {n pe kc ks z : Nat} {os : List mO} {L : mL} {st : List Value} {hi : Nat → Nat → Int32} {hl : Nat → Nat → Int64} {x : Int32} : wB SA n pe P kc ks ((.putfield z, 1, 8, .int 0) :: os) L (.int x :: .ref 102 :: st) (bH hi hl) = wB SA n pe P kc ks os L st (bH (uI hi 102 8 x) hl) := by
  rw [b_putfield, p_fldI (dc := 1) sh_102 (by decide) rfl hi hl 0 x (fun h => wB SA n pe P kc ks os L st h)]
  simp
theorem f_102_9 (hi : Nat → Nat → Int32) (hl : Nat → Nat → Int64) : mFld (bH hi hl) 102 1 9 = some (.int (hi 102 9)) := g_fld (dc := 1) (j := 9) (t := .int 0) sh_102 (by decide) (by decide) rfl hi hl
theorem p_102_9 {SA : mSA} {P : Option Value → mH → Prop} {n pe kc ks z : Nat} {os : List mO} {L : mL} {st : List Value} {hi : Nat → Nat → Int32} {hl : Nat → Nat → Int64} {x : Int32} : wB SA n pe P kc ks ((.putfield z, 1, 9, .int 0) :: os) L (.int x :: .ref 102 :: st) (bH hi hl) = wB SA n pe P kc ks os L st (bH (uI hi 102 9 x) hl) := by
  rw [b_putfield, p_fldI (dc := 1) sh_102 (by decide) rfl hi hl 0 x (fun h => wB SA n pe P kc ks os L st h)]
  simp
set_option maxRecDepth 100000 in
theorem sh_109 : shp[109]? = some (.inr (1, [.ref 110, .ref 112, .ref 114, .int 0, .int 0, .int 0, .int 0, .int 0, .int 0, .int 0])) := by decide +kernel
theorem k_109 (hi : Nat → Nat → Int32) (hl : Nat → Nat → Int64) : mCls (bH hi hl) 109 = some 1 := g_cls sh_109 hi hl
theorem f_109_0 (hi : Nat → Nat → Int32) (hl : Nat → Nat → Int64) : mFld (bH hi hl) 109 1 0 = some (.ref 110) := g_fld (dc := 1) (j := 0) (t := .ref 110) sh_109 (by decide) (by decide) rfl hi hl
theorem f_109_1 (hi : Nat → Nat → Int32) (hl : Nat → Nat → Int64) : mFld (bH hi hl) 109 1 1 = some (.ref 112) := g_fld (dc := 1) (j := 1) (t := .ref 112) sh_109 (by decide) (by decide) rfl hi hl
theorem f_109_2 (hi : Nat → Nat → Int32) (hl : Nat → Nat → Int64) : mFld (bH hi hl) 109 1 2 = some (.ref 114) := g_fld (dc := 1) (j := 2) (t := .ref 114) sh_109 (by decide) (by decide) rfl hi hl
theorem f_109_3 (hi : Nat → Nat → Int32) (hl : Nat → Nat → Int64) : mFld (bH hi hl) 109 1 3 = some (.int (hi 109 3)) := g_fld (dc := 1) (j := 3) (t := .int 0) sh_109 (by decide) (by decide) rfl hi hl
theorem p_109_3 {SA : mSA} {P : Option Value → mH → Prop} {n pe kc ks z : Nat} {os : List mO} {L : mL} {st : List Value} {hi : Nat → Nat → Int32} {hl : Nat → Nat → Int64} {x : Int32} : wB SA n pe P kc ks ((.putfield z, 1, 3, .int 0) :: os) L (.int x :: .ref 109 :: st) (bH hi hl) = wB SA n pe P kc ks os L st (bH (uI hi 109 3 x) hl) := by
  rw [b_putfield, p_fldI (dc := 1) sh_109 (by decide) rfl hi hl 0 x (fun h => wB SA n pe P kc ks os L st h)]
  simp
theorem f_109_4 (hi : Nat → Nat → Int32) (hl : Nat → Nat → Int64) : mFld (bH hi hl) 109 1 4 = some (.int (hi 109 4)) := g_fld (dc := 1) (j := 4) (t := .int 0) sh_109 (by decide) (by decide) rfl hi hl
theorem p_109_4 {SA : mSA} {P : Option Value → mH → Prop} {n pe kc ks z : Nat} {os : List mO} {L : mL} {st : List Value} {hi : Nat → Nat → Int32} {hl : Nat → Nat → Int64} {x : Int32} : wB SA n pe P kc ks ((.putfield z, 1, 4, .int 0) :: os) L (.int x :: .ref 109 :: st) (bH hi hl) = wB SA n pe P kc ks os L st (bH (uI hi 109 4 x) hl) := by
  rw [b_putfield, p_fldI (dc := 1) sh_109 (by decide) rfl hi hl 0 x (fun h => wB SA n pe P kc ks os L st h)]
  simp
theorem f_109_5 (hi : Nat → Nat → Int32) (hl : Nat → Nat → Int64) : mFld (bH hi hl) 109 1 5 = some (.int (hi 109 5)) := g_fld (dc := 1) (j := 5) (t := .int 0) sh_109 (by decide) (by decide) rfl hi hl
theorem p_109_5 {SA : mSA} {P : Option Value → mH → Prop} {n pe kc ks z : Nat} {os : List mO} {L : mL} {st : List Value} {hi : Nat → Nat → Int32} {hl : Nat → Nat → Int64} {x : Int32} : wB SA n pe P kc ks ((.putfield z, 1, 5, .int 0) :: os) L (.int x :: .ref 109 :: st) (bH hi hl) = wB SA n pe P kc ks os L st (bH (uI hi 109 5 x) hl) := by
  rw [b_putfield, p_fldI (dc := 1) sh_109 (by decide) rfl hi hl 0 x (fun h => wB SA n pe P kc ks os L st h)]
  simp
theorem f_109_6 (hi : Nat → Nat → Int32) (hl : Nat → Nat → Int64) : mFld (bH hi hl) 109 1 6 = some (.int (hi 109 6)) := g_fld (dc := 1) (j := 6) (t := .int 0) sh_109 (by decide) (by decide) rfl hi hl
theorem p_109_6 {SA : mSA} {P : Option Value → mH → Prop} {n pe kc ks z : Nat} {os : List mO} {L : mL} {st : List Value} {hi : Nat → Nat → Int32} {hl : Nat → Nat → Int64} {x : Int32} : wB SA n pe P kc ks ((.putfield z, 1, 6, .int 0) :: os) L (.int x :: .ref 109 :: st) (bH hi hl) = wB SA n pe P kc ks os L st (bH (uI hi 109 6 x) hl) := by
  rw [b_putfield, p_fldI (dc := 1) sh_109 (by decide) rfl hi hl 0 x (fun h => wB SA n pe P kc ks os L st h)]
  simp
theorem f_109_7 (hi : Nat → Nat → Int32) (hl : Nat → Nat → Int64) : mFld (bH hi hl) 109 1 7 = some (.int (hi 109 7)) := g_fld (dc := 1) (j := 7) (t := .int 0) sh_109 (by decide) (by decide) rfl hi hl
theorem p_109_7 {SA : mSA} {P : Option Value → mH → Prop} {n pe kc ks z : Nat} {os : List mO} {L : mL} {st : List Value} {hi : Nat → Nat → Int32} {hl : Nat → Nat → Int64} {x : Int32} : wB SA n pe P kc ks ((.putfield z, 1, 7, .int 0) :: os) L (.int x :: .ref 109 :: st) (bH hi hl) = wB SA n pe P kc ks os L st (bH (uI hi 109 7 x) hl) := by
  rw [b_putfield, p_fldI (dc := 1) sh_109 (by decide) rfl hi hl 0 x (fun h => wB SA n pe P kc ks os L st h)]
  simp
theorem f_109_8 (hi : Nat → Nat → Int32) (hl : Nat → Nat → Int64) : mFld (bH hi hl) 109 1 8 = some (.int (hi 109 8)) := g_fld (dc := 1) (j := 8) (t := .int 0) sh_109 (by decide) (by decide) rfl hi hl
theorem p_109_8 {SA : mSA} {P : Option Value → mH → Prop} {n pe kc ks z : Nat} {os : List mO} {L : mL} {st : List Value} {hi : Nat → Nat → Int32} {hl : Nat → Nat → Int64} {x : Int32} : wB SA n pe P kc ks ((.putfield z, 1, 8, .int 0) :: os) L (.int x :: .ref 109 :: st) (bH hi hl) = wB SA n pe P kc ks os L st (bH (uI hi 109 8 x) hl) := by
  rw [b_putfield, p_fldI (dc := 1) sh_109 (by decide) rfl hi hl 0 x (fun h => wB SA n pe P kc ks os L st h)]
  simp
theorem f_109_9 (hi : Nat → Nat → Int32) (hl : Nat → Nat → Int64) : mFld (bH hi hl) 109 1 9 = some (.int (hi 109 9)) := g_fld (dc := 1) (j := 9) (t := .int 0) sh_109 (by decide) (by decide) rfl hi hl
theorem p_109_9 {SA : mSA} {P : Option Value → mH → Prop} {n pe kc ks z : Nat} {os : List mO} {L : mL} {st : List Value} {hi : Nat → Nat → Int32} {hl : Nat → Nat → Int64} {x : Int32} : wB SA n pe P kc ks ((.putfield z, 1, 9, .int 0) :: os) L (.int x :: .ref 109 :: st) (bH hi hl) = wB SA n pe P kc ks os L st (bH (uI hi 109 9 x) hl) := by
  rw [b_putfield, p_fldI (dc := 1) sh_109 (by decide) rfl hi hl 0 x (fun h => wB SA n pe P kc ks os L st h)]
  simp
set_option maxRecDepth 100000 in
theorem sh_116 : shp[116]? = some (.inr (1, [.ref 117, .ref 119, .ref 121, .int 0, .int 0, .int 0, .int 0, .int 0, .int 0, .int 0])) := by decide +kernel
theorem k_116 (hi : Nat → Nat → Int32) (hl : Nat → Nat → Int64) : mCls (bH hi hl) 116 = some 1 := g_cls sh_116 hi hl
theorem f_116_0 (hi : Nat → Nat → Int32) (hl : Nat → Nat → Int64) : mFld (bH hi hl) 116 1 0 = some (.ref 117) := g_fld (dc := 1) (j := 0) (t := .ref 117) sh_116 (by decide) (by decide) rfl hi hl
theorem f_116_1 (hi : Nat → Nat → Int32) (hl : Nat → Nat → Int64) : mFld (bH hi hl) 116 1 1 = some (.ref 119) := g_fld (dc := 1) (j := 1) (t := .ref 119) sh_116 (by decide) (by decide) rfl hi hl
theorem f_116_2 (hi : Nat → Nat → Int32) (hl : Nat → Nat → Int64) : mFld (bH hi hl) 116 1 2 = some (.ref 121) := g_fld (dc := 1) (j := 2) (t := .ref 121) sh_116 (by decide) (by decide) rfl hi hl
theorem f_116_3 (hi : Nat → Nat → Int32) (hl : Nat → Nat → Int64) : mFld (bH hi hl) 116 1 3 = some (.int (hi 116 3)) := g_fld (dc := 1) (j := 3) (t := .int 0) sh_116 (by decide) (by decide) rfl hi hl
theorem p_116_3 {SA : mSA} {P : Option Value → mH → Prop} {n pe kc ks z : Nat} {os : List mO} {L : mL} {st : List Value} {hi : Nat → Nat → Int32} {hl : Nat → Nat → Int64} {x : Int32} : wB SA n pe P kc ks ((.putfield z, 1, 3, .int 0) :: os) L (.int x :: .ref 116 :: st) (bH hi hl) = wB SA n pe P kc ks os L st (bH (uI hi 116 3 x) hl) := by
  rw [b_putfield, p_fldI (dc := 1) sh_116 (by decide) rfl hi hl 0 x (fun h => wB SA n pe P kc ks os L st h)]
  simp
theorem f_116_4 (hi : Nat → Nat → Int32) (hl : Nat → Nat → Int64) : mFld (bH hi hl) 116 1 4 = some (.int (hi 116 4)) := g_fld (dc := 1) (j := 4) (t := .int 0) sh_116 (by decide) (by decide) rfl hi hl
theorem p_116_4 {SA : mSA} {P : Option Value → mH → Prop} {n pe kc ks z : Nat} {os : List mO} {L : mL} {st : List Value} {hi : Nat → Nat → Int32} {hl : Nat → Nat → Int64} {x : Int32} : wB SA n pe P kc ks ((.putfield z, 1, 4, .int 0) :: os) L (.int x :: .ref 116 :: st) (bH hi hl) = wB SA n pe P kc ks os L st (bH (uI hi 116 4 x) hl) := by
  rw [b_putfield, p_fldI (dc := 1) sh_116 (by decide) rfl hi hl 0 x (fun h => wB SA n pe P kc ks os L st h)]
  simp
theorem f_116_5 (hi : Nat → Nat → Int32) (hl : Nat → Nat → Int64) : mFld (bH hi hl) 116 1 5 = some (.int (hi 116 5)) := g_fld (dc := 1) (j := 5) (t := .int 0) sh_116 (by decide) (by decide) rfl hi hl
theorem p_116_5 {SA : mSA} {P : Option Value → mH → Prop} {n pe kc ks z : Nat} {os : List mO} {L : mL} {st : List Value} {hi : Nat → Nat → Int32} {hl : Nat → Nat → Int64} {x : Int32} : wB SA n pe P kc ks ((.putfield z, 1, 5, .int 0) :: os) L (.int x :: .ref 116 :: st) (bH hi hl) = wB SA n pe P kc ks os L st (bH (uI hi 116 5 x) hl) := by
  rw [b_putfield, p_fldI (dc := 1) sh_116 (by decide) rfl hi hl 0 x (fun h => wB SA n pe P kc ks os L st h)]
  simp
theorem f_116_6 (hi : Nat → Nat → Int32) (hl : Nat → Nat → Int64) : mFld (bH hi hl) 116 1 6 = some (.int (hi 116 6)) := g_fld (dc := 1) (j := 6) (t := .int 0) sh_116 (by decide) (by decide) rfl hi hl
theorem p_116_6 {SA : mSA} {P : Option Value → mH → Prop} {n pe kc ks z : Nat} {os : List mO} {L : mL} {st : List Value} {hi : Nat → Nat → Int32} {hl : Nat → Nat → Int64} {x : Int32} : wB SA n pe P kc ks ((.putfield z, 1, 6, .int 0) :: os) L (.int x :: .ref 116 :: st) (bH hi hl) = wB SA n pe P kc ks os L st (bH (uI hi 116 6 x) hl) := by
  rw [b_putfield, p_fldI (dc := 1) sh_116 (by decide) rfl hi hl 0 x (fun h => wB SA n pe P kc ks os L st h)]
  simp
theorem f_116_7 (hi : Nat → Nat → Int32) (hl : Nat → Nat → Int64) : mFld (bH hi hl) 116 1 7 = some (.int (hi 116 7)) := g_fld (dc := 1) (j := 7) (t := .int 0) sh_116 (by decide) (by decide) rfl hi hl
theorem p_116_7 {SA : mSA} {P : Option Value → mH → Prop} {n pe kc ks z : Nat} {os : List mO} {L : mL} {st : List Value} {hi : Nat → Nat → Int32} {hl : Nat → Nat → Int64} {x : Int32} : wB SA n pe P kc ks ((.putfield z, 1, 7, .int 0) :: os) L (.int x :: .ref 116 :: st) (bH hi hl) = wB SA n pe P kc ks os L st (bH (uI hi 116 7 x) hl) := by
  rw [b_putfield, p_fldI (dc := 1) sh_116 (by decide) rfl hi hl 0 x (fun h => wB SA n pe P kc ks os L st h)]
  simp
theorem f_116_8 (hi : Nat → Nat → Int32) (hl : Nat → Nat → Int64) : mFld (bH hi hl) 116 1 8 = some (.int (hi 116 8)) := g_fld (dc := 1) (j := 8) (t := .int 0) sh_116 (by decide) (by decide) rfl hi hl
theorem p_116_8 {SA : mSA} {P : Option Value → mH → Prop} {n pe kc ks z : Nat} {os : List mO} {L : mL} {st : List Value} {hi : Nat → Nat → Int32} {hl : Nat → Nat → Int64} {x : Int32} : wB SA n pe P kc ks ((.putfield z, 1, 8, .int 0) :: os) L (.int x :: .ref 116 :: st) (bH hi hl) = wB SA n pe P kc ks os L st (bH (uI hi 116 8 x) hl) := by
  rw [b_putfield, p_fldI (dc := 1) sh_116 (by decide) rfl hi hl 0 x (fun h => wB SA n pe P kc ks os L st h)]
  simp
theorem f_116_9 (hi : Nat → Nat → Int32) (hl : Nat → Nat → Int64) : mFld (bH hi hl) 116 1 9 = some (.int (hi 116 9)) := g_fld (dc := 1) (j := 9) (t := .int 0) sh_116 (by decide) (by decide) rfl hi hl
theorem p_116_9 {SA : mSA} {P : Option Value → mH → Prop} {n pe kc ks z : Nat} {os : List mO} {L : mL} {st : List Value} {hi : Nat → Nat → Int32} {hl : Nat → Nat → Int64} {x : Int32} : wB SA n pe P kc ks ((.putfield z, 1, 9, .int 0) :: os) L (.int x :: .ref 116 :: st) (bH hi hl) = wB SA n pe P kc ks os L st (bH (uI hi 116 9 x) hl) := by
  rw [b_putfield, p_fldI (dc := 1) sh_116 (by decide) rfl hi hl 0 x (fun h => wB SA n pe P kc ks os L st h)]
  simp
set_option maxRecDepth 100000 in
theorem sh_123 : shp[123]? = some (.inr (1, [.ref 124, .ref 126, .ref 128, .int 0, .int 0, .int 0, .int 0, .int 0, .int 0, .int 0])) := by decide +kernel
theorem k_123 (hi : Nat → Nat → Int32) (hl : Nat → Nat → Int64) : mCls (bH hi hl) 123 = some 1 := g_cls sh_123 hi hl
theorem f_123_0 (hi : Nat → Nat → Int32) (hl : Nat → Nat → Int64) : mFld (bH hi hl) 123 1 0 = some (.ref 124) := g_fld (dc := 1) (j := 0) (t := .ref 124) sh_123 (by decide) (by decide) rfl hi hl
theorem f_123_1 (hi : Nat → Nat → Int32) (hl : Nat → Nat → Int64) : mFld (bH hi hl) 123 1 1 = some (.ref 126) := g_fld (dc := 1) (j := 1) (t := .ref 126) sh_123 (by decide) (by decide) rfl hi hl
theorem f_123_2 (hi : Nat → Nat → Int32) (hl : Nat → Nat → Int64) : mFld (bH hi hl) 123 1 2 = some (.ref 128) := g_fld (dc := 1) (j := 2) (t := .ref 128) sh_123 (by decide) (by decide) rfl hi hl
theorem f_123_3 (hi : Nat → Nat → Int32) (hl : Nat → Nat → Int64) : mFld (bH hi hl) 123 1 3 = some (.int (hi 123 3)) := g_fld (dc := 1) (j := 3) (t := .int 0) sh_123 (by decide) (by decide) rfl hi hl
theorem p_123_3 {SA : mSA} {P : Option Value → mH → Prop} {n pe kc ks z : Nat} {os : List mO} {L : mL} {st : List Value} {hi : Nat → Nat → Int32} {hl : Nat → Nat → Int64} {x : Int32} : wB SA n pe P kc ks ((.putfield z, 1, 3, .int 0) :: os) L (.int x :: .ref 123 :: st) (bH hi hl) = wB SA n pe P kc ks os L st (bH (uI hi 123 3 x) hl) := by
  rw [b_putfield, p_fldI (dc := 1) sh_123 (by decide) rfl hi hl 0 x (fun h => wB SA n pe P kc ks os L st h)]
  simp
theorem f_123_4 (hi : Nat → Nat → Int32) (hl : Nat → Nat → Int64) : mFld (bH hi hl) 123 1 4 = some (.int (hi 123 4)) := g_fld (dc := 1) (j := 4) (t := .int 0) sh_123 (by decide) (by decide) rfl hi hl
theorem p_123_4 {SA : mSA} {P : Option Value → mH → Prop} {n pe kc ks z : Nat} {os : List mO} {L : mL} {st : List Value} {hi : Nat → Nat → Int32} {hl : Nat → Nat → Int64} {x : Int32} : wB SA n pe P kc ks ((.putfield z, 1, 4, .int 0) :: os) L (.int x :: .ref 123 :: st) (bH hi hl) = wB SA n pe P kc ks os L st (bH (uI hi 123 4 x) hl) := by
  rw [b_putfield, p_fldI (dc := 1) sh_123 (by decide) rfl hi hl 0 x (fun h => wB SA n pe P kc ks os L st h)]
  simp
theorem f_123_5 (hi : Nat → Nat → Int32) (hl : Nat → Nat → Int64) : mFld (bH hi hl) 123 1 5 = some (.int (hi 123 5)) := g_fld (dc := 1) (j := 5) (t := .int 0) sh_123 (by decide) (by decide) rfl hi hl
theorem p_123_5 {SA : mSA} {P : Option Value → mH → Prop} {n pe kc ks z : Nat} {os : List mO} {L : mL} {st : List Value} {hi : Nat → Nat → Int32} {hl : Nat → Nat → Int64} {x : Int32} : wB SA n pe P kc ks ((.putfield z, 1, 5, .int 0) :: os) L (.int x :: .ref 123 :: st) (bH hi hl) = wB SA n pe P kc ks os L st (bH (uI hi 123 5 x) hl) := by
  rw [b_putfield, p_fldI (dc := 1) sh_123 (by decide) rfl hi hl 0 x (fun h => wB SA n pe P kc ks os L st h)]
  simp
theorem f_123_6 (hi : Nat → Nat → Int32) (hl : Nat → Nat → Int64) : mFld (bH hi hl) 123 1 6 = some (.int (hi 123 6)) := g_fld (dc := 1) (j := 6) (t := .int 0) sh_123 (by decide) (by decide) rfl hi hl
theorem p_123_6 {SA : mSA} {P : Option Value → mH → Prop} {n pe kc ks z : Nat} {os : List mO} {L : mL} {st : List Value} {hi : Nat → Nat → Int32} {hl : Nat → Nat → Int64} {x : Int32} : wB SA n pe P kc ks ((.putfield z, 1, 6, .int 0) :: os) L (.int x :: .ref 123 :: st) (bH hi hl) = wB SA n pe P kc ks os L st (bH (uI hi 123 6 x) hl) := by
  rw [b_putfield, p_fldI (dc := 1) sh_123 (by decide) rfl hi hl 0 x (fun h => wB SA n pe P kc ks os L st h)]
  simp
theorem f_123_7 (hi : Nat → Nat → Int32) (hl : Nat → Nat → Int64) : mFld (bH hi hl) 123 1 7 = some (.int (hi 123 7)) := g_fld (dc := 1) (j := 7) (t := .int 0) sh_123 (by decide) (by decide) rfl hi hl
theorem p_123_7 {SA : mSA} {P : Option Value → mH → Prop} {n pe kc ks z : Nat} {os : List mO} {L : mL} {st : List Value} {hi : Nat → Nat → Int32} {hl : Nat → Nat → Int64} {x : Int32} : wB SA n pe P kc ks ((.putfield z, 1, 7, .int 0) :: os) L (.int x :: .ref 123 :: st) (bH hi hl) = wB SA n pe P kc ks os L st (bH (uI hi 123 7 x) hl) := by
  rw [b_putfield, p_fldI (dc := 1) sh_123 (by decide) rfl hi hl 0 x (fun h => wB SA n pe P kc ks os L st h)]
  simp
theorem f_123_8 (hi : Nat → Nat → Int32) (hl : Nat → Nat → Int64) : mFld (bH hi hl) 123 1 8 = some (.int (hi 123 8)) := g_fld (dc := 1) (j := 8) (t := .int 0) sh_123 (by decide) (by decide) rfl hi hl
theorem p_123_8 {SA : mSA} {P : Option Value → mH → Prop} {n pe kc ks z : Nat} {os : List mO} {L : mL} {st : List Value} {hi : Nat → Nat → Int32} {hl : Nat → Nat → Int64} {x : Int32} : wB SA n pe P kc ks ((.putfield z, 1, 8, .int 0) :: os) L (.int x :: .ref 123 :: st) (bH hi hl) = wB SA n pe P kc ks os L st (bH (uI hi 123 8 x) hl) := by
  rw [b_putfield, p_fldI (dc := 1) sh_123 (by decide) rfl hi hl 0 x (fun h => wB SA n pe P kc ks os L st h)]
  simp
theorem f_123_9 (hi : Nat → Nat → Int32) (hl : Nat → Nat → Int64) : mFld (bH hi hl) 123 1 9 = some (.int (hi 123 9)) := g_fld (dc := 1) (j := 9) (t := .int 0) sh_123 (by decide) (by decide) rfl hi hl
theorem p_123_9 {SA : mSA} {P : Option Value → mH → Prop} {n pe kc ks z : Nat} {os : List mO} {L : mL} {st : List Value} {hi : Nat → Nat → Int32} {hl : Nat → Nat → Int64} {x : Int32} : wB SA n pe P kc ks ((.putfield z, 1, 9, .int 0) :: os) L (.int x :: .ref 123 :: st) (bH hi hl) = wB SA n pe P kc ks os L st (bH (uI hi 123 9 x) hl) := by
  rw [b_putfield, p_fldI (dc := 1) sh_123 (by decide) rfl hi hl 0 x (fun h => wB SA n pe P kc ks os L st h)]
  simp
set_option maxRecDepth 100000 in
theorem sh_130 : shp[130]? = some (.inr (9, [.ref 131, .ref 132, .ref 133, .ref 134, .int 0, .ref 135, .ref 136, .ref 137, .ref 138, .int 0, .ref 139, .int 0, .ref 140, .int 0, .ref 141, .ref 142, .ref 143, .ref 144, .ref 145, .ref 146, .ref 147, .ref 148, .ref 149, .ref 150, .ref 151, .ref 152, .ref 153, .ref 154, .ref 155, .ref 156, .ref 157, .ref 158, .int 0, .ref 159, .ref 160, .ref 161, .ref 162, .ref 163, .int 0, .ref 164, .int 0, .ref 165, .long 0, .long 0, .long 0, .long 0, .ref 166, .ref 167, .ref 168, .ref 169, .ref 170, .ref 171, .ref 172, .ref 173, .int 0, .ref 174, .ref 175, .int 0, .ref 176, .int 0, .ref 177, .ref 178, .ref 179, .ref 180, .ref 181, .ref 182, .ref 183, .ref 184, .ref 185, .ref 186, .int 0])) := by decide +kernel
theorem k_130 (hi : Nat → Nat → Int32) (hl : Nat → Nat → Int64) : mCls (bH hi hl) 130 = some 9 := g_cls sh_130 hi hl
theorem f_130_0 (hi : Nat → Nat → Int32) (hl : Nat → Nat → Int64) : mFld (bH hi hl) 130 9 0 = some (.ref 131) := g_fld (dc := 9) (j := 0) (t := .ref 131) sh_130 (by decide) (by decide) rfl hi hl
theorem f_130_1 (hi : Nat → Nat → Int32) (hl : Nat → Nat → Int64) : mFld (bH hi hl) 130 9 1 = some (.ref 132) := g_fld (dc := 9) (j := 1) (t := .ref 132) sh_130 (by decide) (by decide) rfl hi hl
theorem f_130_2 (hi : Nat → Nat → Int32) (hl : Nat → Nat → Int64) : mFld (bH hi hl) 130 9 2 = some (.ref 133) := g_fld (dc := 9) (j := 2) (t := .ref 133) sh_130 (by decide) (by decide) rfl hi hl
theorem f_130_3 (hi : Nat → Nat → Int32) (hl : Nat → Nat → Int64) : mFld (bH hi hl) 130 9 3 = some (.ref 134) := g_fld (dc := 9) (j := 3) (t := .ref 134) sh_130 (by decide) (by decide) rfl hi hl
theorem f_130_4 (hi : Nat → Nat → Int32) (hl : Nat → Nat → Int64) : mFld (bH hi hl) 130 9 4 = some (.int (hi 130 4)) := g_fld (dc := 9) (j := 4) (t := .int 0) sh_130 (by decide) (by decide) rfl hi hl
theorem p_130_4 {SA : mSA} {P : Option Value → mH → Prop} {n pe kc ks z : Nat} {os : List mO} {L : mL} {st : List Value} {hi : Nat → Nat → Int32} {hl : Nat → Nat → Int64} {x : Int32} : wB SA n pe P kc ks ((.putfield z, 9, 4, .int 0) :: os) L (.int x :: .ref 130 :: st) (bH hi hl) = wB SA n pe P kc ks os L st (bH (uI hi 130 4 x) hl) := by
  rw [b_putfield, p_fldI (dc := 9) sh_130 (by decide) rfl hi hl 0 x (fun h => wB SA n pe P kc ks os L st h)]
  simp
theorem f_130_5 (hi : Nat → Nat → Int32) (hl : Nat → Nat → Int64) : mFld (bH hi hl) 130 9 5 = some (.ref 135) := g_fld (dc := 9) (j := 5) (t := .ref 135) sh_130 (by decide) (by decide) rfl hi hl
theorem f_130_6 (hi : Nat → Nat → Int32) (hl : Nat → Nat → Int64) : mFld (bH hi hl) 130 9 6 = some (.ref 136) := g_fld (dc := 9) (j := 6) (t := .ref 136) sh_130 (by decide) (by decide) rfl hi hl
theorem f_130_7 (hi : Nat → Nat → Int32) (hl : Nat → Nat → Int64) : mFld (bH hi hl) 130 9 7 = some (.ref 137) := g_fld (dc := 9) (j := 7) (t := .ref 137) sh_130 (by decide) (by decide) rfl hi hl
theorem f_130_8 (hi : Nat → Nat → Int32) (hl : Nat → Nat → Int64) : mFld (bH hi hl) 130 9 8 = some (.ref 138) := g_fld (dc := 9) (j := 8) (t := .ref 138) sh_130 (by decide) (by decide) rfl hi hl
theorem f_130_9 (hi : Nat → Nat → Int32) (hl : Nat → Nat → Int64) : mFld (bH hi hl) 130 9 9 = some (.int (hi 130 9)) := g_fld (dc := 9) (j := 9) (t := .int 0) sh_130 (by decide) (by decide) rfl hi hl
theorem p_130_9 {SA : mSA} {P : Option Value → mH → Prop} {n pe kc ks z : Nat} {os : List mO} {L : mL} {st : List Value} {hi : Nat → Nat → Int32} {hl : Nat → Nat → Int64} {x : Int32} : wB SA n pe P kc ks ((.putfield z, 9, 9, .int 0) :: os) L (.int x :: .ref 130 :: st) (bH hi hl) = wB SA n pe P kc ks os L st (bH (uI hi 130 9 x) hl) := by
  rw [b_putfield, p_fldI (dc := 9) sh_130 (by decide) rfl hi hl 0 x (fun h => wB SA n pe P kc ks os L st h)]
  simp
theorem f_130_10 (hi : Nat → Nat → Int32) (hl : Nat → Nat → Int64) : mFld (bH hi hl) 130 9 10 = some (.ref 139) := g_fld (dc := 9) (j := 10) (t := .ref 139) sh_130 (by decide) (by decide) rfl hi hl
theorem f_130_11 (hi : Nat → Nat → Int32) (hl : Nat → Nat → Int64) : mFld (bH hi hl) 130 9 11 = some (.int (hi 130 11)) := g_fld (dc := 9) (j := 11) (t := .int 0) sh_130 (by decide) (by decide) rfl hi hl
theorem p_130_11 {SA : mSA} {P : Option Value → mH → Prop} {n pe kc ks z : Nat} {os : List mO} {L : mL} {st : List Value} {hi : Nat → Nat → Int32} {hl : Nat → Nat → Int64} {x : Int32} : wB SA n pe P kc ks ((.putfield z, 9, 11, .int 0) :: os) L (.int x :: .ref 130 :: st) (bH hi hl) = wB SA n pe P kc ks os L st (bH (uI hi 130 11 x) hl) := by
  rw [b_putfield, p_fldI (dc := 9) sh_130 (by decide) rfl hi hl 0 x (fun h => wB SA n pe P kc ks os L st h)]
  simp
theorem f_130_12 (hi : Nat → Nat → Int32) (hl : Nat → Nat → Int64) : mFld (bH hi hl) 130 9 12 = some (.ref 140) := g_fld (dc := 9) (j := 12) (t := .ref 140) sh_130 (by decide) (by decide) rfl hi hl
theorem f_130_13 (hi : Nat → Nat → Int32) (hl : Nat → Nat → Int64) : mFld (bH hi hl) 130 9 13 = some (.int (hi 130 13)) := g_fld (dc := 9) (j := 13) (t := .int 0) sh_130 (by decide) (by decide) rfl hi hl
theorem p_130_13 {SA : mSA} {P : Option Value → mH → Prop} {n pe kc ks z : Nat} {os : List mO} {L : mL} {st : List Value} {hi : Nat → Nat → Int32} {hl : Nat → Nat → Int64} {x : Int32} : wB SA n pe P kc ks ((.putfield z, 9, 13, .int 0) :: os) L (.int x :: .ref 130 :: st) (bH hi hl) = wB SA n pe P kc ks os L st (bH (uI hi 130 13 x) hl) := by
  rw [b_putfield, p_fldI (dc := 9) sh_130 (by decide) rfl hi hl 0 x (fun h => wB SA n pe P kc ks os L st h)]
  simp
theorem f_130_14 (hi : Nat → Nat → Int32) (hl : Nat → Nat → Int64) : mFld (bH hi hl) 130 9 14 = some (.ref 141) := g_fld (dc := 9) (j := 14) (t := .ref 141) sh_130 (by decide) (by decide) rfl hi hl
theorem f_130_15 (hi : Nat → Nat → Int32) (hl : Nat → Nat → Int64) : mFld (bH hi hl) 130 9 15 = some (.ref 142) := g_fld (dc := 9) (j := 15) (t := .ref 142) sh_130 (by decide) (by decide) rfl hi hl
theorem f_130_16 (hi : Nat → Nat → Int32) (hl : Nat → Nat → Int64) : mFld (bH hi hl) 130 9 16 = some (.ref 143) := g_fld (dc := 9) (j := 16) (t := .ref 143) sh_130 (by decide) (by decide) rfl hi hl
theorem f_130_17 (hi : Nat → Nat → Int32) (hl : Nat → Nat → Int64) : mFld (bH hi hl) 130 9 17 = some (.ref 144) := g_fld (dc := 9) (j := 17) (t := .ref 144) sh_130 (by decide) (by decide) rfl hi hl
theorem f_130_18 (hi : Nat → Nat → Int32) (hl : Nat → Nat → Int64) : mFld (bH hi hl) 130 9 18 = some (.ref 145) := g_fld (dc := 9) (j := 18) (t := .ref 145) sh_130 (by decide) (by decide) rfl hi hl
theorem f_130_19 (hi : Nat → Nat → Int32) (hl : Nat → Nat → Int64) : mFld (bH hi hl) 130 9 19 = some (.ref 146) := g_fld (dc := 9) (j := 19) (t := .ref 146) sh_130 (by decide) (by decide) rfl hi hl
theorem f_130_20 (hi : Nat → Nat → Int32) (hl : Nat → Nat → Int64) : mFld (bH hi hl) 130 9 20 = some (.ref 147) := g_fld (dc := 9) (j := 20) (t := .ref 147) sh_130 (by decide) (by decide) rfl hi hl
theorem f_130_21 (hi : Nat → Nat → Int32) (hl : Nat → Nat → Int64) : mFld (bH hi hl) 130 9 21 = some (.ref 148) := g_fld (dc := 9) (j := 21) (t := .ref 148) sh_130 (by decide) (by decide) rfl hi hl
theorem f_130_22 (hi : Nat → Nat → Int32) (hl : Nat → Nat → Int64) : mFld (bH hi hl) 130 9 22 = some (.ref 149) := g_fld (dc := 9) (j := 22) (t := .ref 149) sh_130 (by decide) (by decide) rfl hi hl
theorem f_130_23 (hi : Nat → Nat → Int32) (hl : Nat → Nat → Int64) : mFld (bH hi hl) 130 9 23 = some (.ref 150) := g_fld (dc := 9) (j := 23) (t := .ref 150) sh_130 (by decide) (by decide) rfl hi hl
theorem f_130_24 (hi : Nat → Nat → Int32) (hl : Nat → Nat → Int64) : mFld (bH hi hl) 130 9 24 = some (.ref 151) := g_fld (dc := 9) (j := 24) (t := .ref 151) sh_130 (by decide) (by decide) rfl hi hl
theorem f_130_25 (hi : Nat → Nat → Int32) (hl : Nat → Nat → Int64) : mFld (bH hi hl) 130 9 25 = some (.ref 152) := g_fld (dc := 9) (j := 25) (t := .ref 152) sh_130 (by decide) (by decide) rfl hi hl
theorem f_130_26 (hi : Nat → Nat → Int32) (hl : Nat → Nat → Int64) : mFld (bH hi hl) 130 9 26 = some (.ref 153) := g_fld (dc := 9) (j := 26) (t := .ref 153) sh_130 (by decide) (by decide) rfl hi hl
theorem f_130_27 (hi : Nat → Nat → Int32) (hl : Nat → Nat → Int64) : mFld (bH hi hl) 130 9 27 = some (.ref 154) := g_fld (dc := 9) (j := 27) (t := .ref 154) sh_130 (by decide) (by decide) rfl hi hl
theorem f_130_28 (hi : Nat → Nat → Int32) (hl : Nat → Nat → Int64) : mFld (bH hi hl) 130 9 28 = some (.ref 155) := g_fld (dc := 9) (j := 28) (t := .ref 155) sh_130 (by decide) (by decide) rfl hi hl
theorem f_130_29 (hi : Nat → Nat → Int32) (hl : Nat → Nat → Int64) : mFld (bH hi hl) 130 9 29 = some (.ref 156) := g_fld (dc := 9) (j := 29) (t := .ref 156) sh_130 (by decide) (by decide) rfl hi hl
theorem f_130_30 (hi : Nat → Nat → Int32) (hl : Nat → Nat → Int64) : mFld (bH hi hl) 130 9 30 = some (.ref 157) := g_fld (dc := 9) (j := 30) (t := .ref 157) sh_130 (by decide) (by decide) rfl hi hl
theorem f_130_31 (hi : Nat → Nat → Int32) (hl : Nat → Nat → Int64) : mFld (bH hi hl) 130 9 31 = some (.ref 158) := g_fld (dc := 9) (j := 31) (t := .ref 158) sh_130 (by decide) (by decide) rfl hi hl
theorem f_130_32 (hi : Nat → Nat → Int32) (hl : Nat → Nat → Int64) : mFld (bH hi hl) 130 9 32 = some (.int (hi 130 32)) := g_fld (dc := 9) (j := 32) (t := .int 0) sh_130 (by decide) (by decide) rfl hi hl
theorem p_130_32 {SA : mSA} {P : Option Value → mH → Prop} {n pe kc ks z : Nat} {os : List mO} {L : mL} {st : List Value} {hi : Nat → Nat → Int32} {hl : Nat → Nat → Int64} {x : Int32} : wB SA n pe P kc ks ((.putfield z, 9, 32, .int 0) :: os) L (.int x :: .ref 130 :: st) (bH hi hl) = wB SA n pe P kc ks os L st (bH (uI hi 130 32 x) hl) := by
  rw [b_putfield, p_fldI (dc := 9) sh_130 (by decide) rfl hi hl 0 x (fun h => wB SA n pe P kc ks os L st h)]
  simp
theorem f_130_33 (hi : Nat → Nat → Int32) (hl : Nat → Nat → Int64) : mFld (bH hi hl) 130 9 33 = some (.ref 159) := g_fld (dc := 9) (j := 33) (t := .ref 159) sh_130 (by decide) (by decide) rfl hi hl
theorem f_130_34 (hi : Nat → Nat → Int32) (hl : Nat → Nat → Int64) : mFld (bH hi hl) 130 9 34 = some (.ref 160) := g_fld (dc := 9) (j := 34) (t := .ref 160) sh_130 (by decide) (by decide) rfl hi hl
theorem f_130_35 (hi : Nat → Nat → Int32) (hl : Nat → Nat → Int64) : mFld (bH hi hl) 130 9 35 = some (.ref 161) := g_fld (dc := 9) (j := 35) (t := .ref 161) sh_130 (by decide) (by decide) rfl hi hl
theorem f_130_36 (hi : Nat → Nat → Int32) (hl : Nat → Nat → Int64) : mFld (bH hi hl) 130 9 36 = some (.ref 162) := g_fld (dc := 9) (j := 36) (t := .ref 162) sh_130 (by decide) (by decide) rfl hi hl
theorem f_130_37 (hi : Nat → Nat → Int32) (hl : Nat → Nat → Int64) : mFld (bH hi hl) 130 9 37 = some (.ref 163) := g_fld (dc := 9) (j := 37) (t := .ref 163) sh_130 (by decide) (by decide) rfl hi hl
theorem f_130_38 (hi : Nat → Nat → Int32) (hl : Nat → Nat → Int64) : mFld (bH hi hl) 130 9 38 = some (.int (hi 130 38)) := g_fld (dc := 9) (j := 38) (t := .int 0) sh_130 (by decide) (by decide) rfl hi hl
theorem p_130_38 {SA : mSA} {P : Option Value → mH → Prop} {n pe kc ks z : Nat} {os : List mO} {L : mL} {st : List Value} {hi : Nat → Nat → Int32} {hl : Nat → Nat → Int64} {x : Int32} : wB SA n pe P kc ks ((.putfield z, 9, 38, .int 0) :: os) L (.int x :: .ref 130 :: st) (bH hi hl) = wB SA n pe P kc ks os L st (bH (uI hi 130 38 x) hl) := by
  rw [b_putfield, p_fldI (dc := 9) sh_130 (by decide) rfl hi hl 0 x (fun h => wB SA n pe P kc ks os L st h)]
  simp
theorem f_130_39 (hi : Nat → Nat → Int32) (hl : Nat → Nat → Int64) : mFld (bH hi hl) 130 9 39 = some (.ref 164) := g_fld (dc := 9) (j := 39) (t := .ref 164) sh_130 (by decide) (by decide) rfl hi hl
theorem f_130_40 (hi : Nat → Nat → Int32) (hl : Nat → Nat → Int64) : mFld (bH hi hl) 130 9 40 = some (.int (hi 130 40)) := g_fld (dc := 9) (j := 40) (t := .int 0) sh_130 (by decide) (by decide) rfl hi hl
theorem p_130_40 {SA : mSA} {P : Option Value → mH → Prop} {n pe kc ks z : Nat} {os : List mO} {L : mL} {st : List Value} {hi : Nat → Nat → Int32} {hl : Nat → Nat → Int64} {x : Int32} : wB SA n pe P kc ks ((.putfield z, 9, 40, .int 0) :: os) L (.int x :: .ref 130 :: st) (bH hi hl) = wB SA n pe P kc ks os L st (bH (uI hi 130 40 x) hl) := by
  rw [b_putfield, p_fldI (dc := 9) sh_130 (by decide) rfl hi hl 0 x (fun h => wB SA n pe P kc ks os L st h)]
  simp
theorem f_130_41 (hi : Nat → Nat → Int32) (hl : Nat → Nat → Int64) : mFld (bH hi hl) 130 9 41 = some (.ref 165) := g_fld (dc := 9) (j := 41) (t := .ref 165) sh_130 (by decide) (by decide) rfl hi hl
theorem f_130_42 (hi : Nat → Nat → Int32) (hl : Nat → Nat → Int64) : mFld (bH hi hl) 130 9 42 = some (.long (hl 130 42)) := g_fld (dc := 9) (j := 42) (t := .long 0) sh_130 (by decide) (by decide) rfl hi hl
theorem p_130_42 {SA : mSA} {P : Option Value → mH → Prop} {n pe kc ks z : Nat} {os : List mO} {L : mL} {st : List Value} {hi : Nat → Nat → Int32} {hl : Nat → Nat → Int64} {x : Int64} : wB SA n pe P kc ks ((.putfield z, 9, 42, .long 0) :: os) L (.long x :: .ref 130 :: st) (bH hi hl) = wB SA n pe P kc ks os L st (bH hi (uL hl 130 42 x)) := by
  rw [b_putfield, p_fldL (dc := 9) sh_130 (by decide) rfl hi hl 0 x (fun h => wB SA n pe P kc ks os L st h)]
theorem f_130_43 (hi : Nat → Nat → Int32) (hl : Nat → Nat → Int64) : mFld (bH hi hl) 130 9 43 = some (.long (hl 130 43)) := g_fld (dc := 9) (j := 43) (t := .long 0) sh_130 (by decide) (by decide) rfl hi hl
theorem p_130_43 {SA : mSA} {P : Option Value → mH → Prop} {n pe kc ks z : Nat} {os : List mO} {L : mL} {st : List Value} {hi : Nat → Nat → Int32} {hl : Nat → Nat → Int64} {x : Int64} : wB SA n pe P kc ks ((.putfield z, 9, 43, .long 0) :: os) L (.long x :: .ref 130 :: st) (bH hi hl) = wB SA n pe P kc ks os L st (bH hi (uL hl 130 43 x)) := by
  rw [b_putfield, p_fldL (dc := 9) sh_130 (by decide) rfl hi hl 0 x (fun h => wB SA n pe P kc ks os L st h)]
theorem f_130_44 (hi : Nat → Nat → Int32) (hl : Nat → Nat → Int64) : mFld (bH hi hl) 130 9 44 = some (.long (hl 130 44)) := g_fld (dc := 9) (j := 44) (t := .long 0) sh_130 (by decide) (by decide) rfl hi hl
theorem p_130_44 {SA : mSA} {P : Option Value → mH → Prop} {n pe kc ks z : Nat} {os : List mO} {L : mL} {st : List Value} {hi : Nat → Nat → Int32} {hl : Nat → Nat → Int64} {x : Int64} : wB SA n pe P kc ks ((.putfield z, 9, 44, .long 0) :: os) L (.long x :: .ref 130 :: st) (bH hi hl) = wB SA n pe P kc ks os L st (bH hi (uL hl 130 44 x)) := by
  rw [b_putfield, p_fldL (dc := 9) sh_130 (by decide) rfl hi hl 0 x (fun h => wB SA n pe P kc ks os L st h)]
theorem f_130_45 (hi : Nat → Nat → Int32) (hl : Nat → Nat → Int64) : mFld (bH hi hl) 130 9 45 = some (.long (hl 130 45)) := g_fld (dc := 9) (j := 45) (t := .long 0) sh_130 (by decide) (by decide) rfl hi hl
theorem p_130_45 {SA : mSA} {P : Option Value → mH → Prop} {n pe kc ks z : Nat} {os : List mO} {L : mL} {st : List Value} {hi : Nat → Nat → Int32} {hl : Nat → Nat → Int64} {x : Int64} : wB SA n pe P kc ks ((.putfield z, 9, 45, .long 0) :: os) L (.long x :: .ref 130 :: st) (bH hi hl) = wB SA n pe P kc ks os L st (bH hi (uL hl 130 45 x)) := by
  rw [b_putfield, p_fldL (dc := 9) sh_130 (by decide) rfl hi hl 0 x (fun h => wB SA n pe P kc ks os L st h)]
theorem f_130_46 (hi : Nat → Nat → Int32) (hl : Nat → Nat → Int64) : mFld (bH hi hl) 130 9 46 = some (.ref 166) := g_fld (dc := 9) (j := 46) (t := .ref 166) sh_130 (by decide) (by decide) rfl hi hl
theorem f_130_47 (hi : Nat → Nat → Int32) (hl : Nat → Nat → Int64) : mFld (bH hi hl) 130 9 47 = some (.ref 167) := g_fld (dc := 9) (j := 47) (t := .ref 167) sh_130 (by decide) (by decide) rfl hi hl
theorem f_130_48 (hi : Nat → Nat → Int32) (hl : Nat → Nat → Int64) : mFld (bH hi hl) 130 9 48 = some (.ref 168) := g_fld (dc := 9) (j := 48) (t := .ref 168) sh_130 (by decide) (by decide) rfl hi hl
theorem f_130_49 (hi : Nat → Nat → Int32) (hl : Nat → Nat → Int64) : mFld (bH hi hl) 130 9 49 = some (.ref 169) := g_fld (dc := 9) (j := 49) (t := .ref 169) sh_130 (by decide) (by decide) rfl hi hl
theorem f_130_50 (hi : Nat → Nat → Int32) (hl : Nat → Nat → Int64) : mFld (bH hi hl) 130 9 50 = some (.ref 170) := g_fld (dc := 9) (j := 50) (t := .ref 170) sh_130 (by decide) (by decide) rfl hi hl
theorem f_130_51 (hi : Nat → Nat → Int32) (hl : Nat → Nat → Int64) : mFld (bH hi hl) 130 9 51 = some (.ref 171) := g_fld (dc := 9) (j := 51) (t := .ref 171) sh_130 (by decide) (by decide) rfl hi hl
theorem f_130_52 (hi : Nat → Nat → Int32) (hl : Nat → Nat → Int64) : mFld (bH hi hl) 130 9 52 = some (.ref 172) := g_fld (dc := 9) (j := 52) (t := .ref 172) sh_130 (by decide) (by decide) rfl hi hl
theorem f_130_53 (hi : Nat → Nat → Int32) (hl : Nat → Nat → Int64) : mFld (bH hi hl) 130 9 53 = some (.ref 173) := g_fld (dc := 9) (j := 53) (t := .ref 173) sh_130 (by decide) (by decide) rfl hi hl
theorem f_130_54 (hi : Nat → Nat → Int32) (hl : Nat → Nat → Int64) : mFld (bH hi hl) 130 9 54 = some (.int (hi 130 54)) := g_fld (dc := 9) (j := 54) (t := .int 0) sh_130 (by decide) (by decide) rfl hi hl
theorem p_130_54 {SA : mSA} {P : Option Value → mH → Prop} {n pe kc ks z : Nat} {os : List mO} {L : mL} {st : List Value} {hi : Nat → Nat → Int32} {hl : Nat → Nat → Int64} {x : Int32} : wB SA n pe P kc ks ((.putfield z, 9, 54, .int 0) :: os) L (.int x :: .ref 130 :: st) (bH hi hl) = wB SA n pe P kc ks os L st (bH (uI hi 130 54 x) hl) := by
  rw [b_putfield, p_fldI (dc := 9) sh_130 (by decide) rfl hi hl 0 x (fun h => wB SA n pe P kc ks os L st h)]
  simp
theorem f_130_55 (hi : Nat → Nat → Int32) (hl : Nat → Nat → Int64) : mFld (bH hi hl) 130 9 55 = some (.ref 174) := g_fld (dc := 9) (j := 55) (t := .ref 174) sh_130 (by decide) (by decide) rfl hi hl
theorem f_130_56 (hi : Nat → Nat → Int32) (hl : Nat → Nat → Int64) : mFld (bH hi hl) 130 9 56 = some (.ref 175) := g_fld (dc := 9) (j := 56) (t := .ref 175) sh_130 (by decide) (by decide) rfl hi hl
theorem f_130_57 (hi : Nat → Nat → Int32) (hl : Nat → Nat → Int64) : mFld (bH hi hl) 130 9 57 = some (.int (hi 130 57)) := g_fld (dc := 9) (j := 57) (t := .int 0) sh_130 (by decide) (by decide) rfl hi hl
theorem p_130_57 {SA : mSA} {P : Option Value → mH → Prop} {n pe kc ks z : Nat} {os : List mO} {L : mL} {st : List Value} {hi : Nat → Nat → Int32} {hl : Nat → Nat → Int64} {x : Int32} : wB SA n pe P kc ks ((.putfield z, 9, 57, .int 0) :: os) L (.int x :: .ref 130 :: st) (bH hi hl) = wB SA n pe P kc ks os L st (bH (uI hi 130 57 x) hl) := by
  rw [b_putfield, p_fldI (dc := 9) sh_130 (by decide) rfl hi hl 0 x (fun h => wB SA n pe P kc ks os L st h)]
  simp
theorem f_130_58 (hi : Nat → Nat → Int32) (hl : Nat → Nat → Int64) : mFld (bH hi hl) 130 9 58 = some (.ref 176) := g_fld (dc := 9) (j := 58) (t := .ref 176) sh_130 (by decide) (by decide) rfl hi hl
theorem f_130_59 (hi : Nat → Nat → Int32) (hl : Nat → Nat → Int64) : mFld (bH hi hl) 130 9 59 = some (.int (hi 130 59)) := g_fld (dc := 9) (j := 59) (t := .int 0) sh_130 (by decide) (by decide) rfl hi hl
theorem p_130_59 {SA : mSA} {P : Option Value → mH → Prop} {n pe kc ks z : Nat} {os : List mO} {L : mL} {st : List Value} {hi : Nat → Nat → Int32} {hl : Nat → Nat → Int64} {x : Int32} : wB SA n pe P kc ks ((.putfield z, 9, 59, .int 0) :: os) L (.int x :: .ref 130 :: st) (bH hi hl) = wB SA n pe P kc ks os L st (bH (uI hi 130 59 x) hl) := by
  rw [b_putfield, p_fldI (dc := 9) sh_130 (by decide) rfl hi hl 0 x (fun h => wB SA n pe P kc ks os L st h)]
  simp
theorem f_130_60 (hi : Nat → Nat → Int32) (hl : Nat → Nat → Int64) : mFld (bH hi hl) 130 9 60 = some (.ref 177) := g_fld (dc := 9) (j := 60) (t := .ref 177) sh_130 (by decide) (by decide) rfl hi hl
theorem f_130_61 (hi : Nat → Nat → Int32) (hl : Nat → Nat → Int64) : mFld (bH hi hl) 130 9 61 = some (.ref 178) := g_fld (dc := 9) (j := 61) (t := .ref 178) sh_130 (by decide) (by decide) rfl hi hl
theorem f_130_62 (hi : Nat → Nat → Int32) (hl : Nat → Nat → Int64) : mFld (bH hi hl) 130 9 62 = some (.ref 179) := g_fld (dc := 9) (j := 62) (t := .ref 179) sh_130 (by decide) (by decide) rfl hi hl
theorem f_130_63 (hi : Nat → Nat → Int32) (hl : Nat → Nat → Int64) : mFld (bH hi hl) 130 9 63 = some (.ref 180) := g_fld (dc := 9) (j := 63) (t := .ref 180) sh_130 (by decide) (by decide) rfl hi hl
theorem f_130_64 (hi : Nat → Nat → Int32) (hl : Nat → Nat → Int64) : mFld (bH hi hl) 130 9 64 = some (.ref 181) := g_fld (dc := 9) (j := 64) (t := .ref 181) sh_130 (by decide) (by decide) rfl hi hl
theorem f_130_65 (hi : Nat → Nat → Int32) (hl : Nat → Nat → Int64) : mFld (bH hi hl) 130 9 65 = some (.ref 182) := g_fld (dc := 9) (j := 65) (t := .ref 182) sh_130 (by decide) (by decide) rfl hi hl
theorem f_130_66 (hi : Nat → Nat → Int32) (hl : Nat → Nat → Int64) : mFld (bH hi hl) 130 9 66 = some (.ref 183) := g_fld (dc := 9) (j := 66) (t := .ref 183) sh_130 (by decide) (by decide) rfl hi hl
theorem f_130_67 (hi : Nat → Nat → Int32) (hl : Nat → Nat → Int64) : mFld (bH hi hl) 130 9 67 = some (.ref 184) := g_fld (dc := 9) (j := 67) (t := .ref 184) sh_130 (by decide) (by decide) rfl hi hl
theorem f_130_68 (hi : Nat → Nat → Int32) (hl : Nat → Nat → Int64) : mFld (bH hi hl) 130 9 68 = some (.ref 185) := g_fld (dc := 9) (j := 68) (t := .ref 185) sh_130 (by decide) (by decide) rfl hi hl
theorem f_130_69 (hi : Nat → Nat → Int32) (hl : Nat → Nat → Int64) : mFld (bH hi hl) 130 9 69 = some (.ref 186) := g_fld (dc := 9) (j := 69) (t := .ref 186) sh_130 (by decide) (by decide) rfl hi hl
theorem f_130_70 (hi : Nat → Nat → Int32) (hl : Nat → Nat → Int64) : mFld (bH hi hl) 130 9 70 = some (.int (hi 130 70)) := g_fld (dc := 9) (j := 70) (t := .int 0) sh_130 (by decide) (by decide) rfl hi hl
theorem p_130_70 {SA : mSA} {P : Option Value → mH → Prop} {n pe kc ks z : Nat} {os : List mO} {L : mL} {st : List Value} {hi : Nat → Nat → Int32} {hl : Nat → Nat → Int64} {x : Int32} : wB SA n pe P kc ks ((.putfield z, 9, 70, .int 0) :: os) L (.int x :: .ref 130 :: st) (bH hi hl) = wB SA n pe P kc ks os L st (bH (uI hi 130 70 x) hl) := by
  rw [b_putfield, p_fldI (dc := 9) sh_130 (by decide) rfl hi hl 0 x (fun h => wB SA n pe P kc ks os L st h)]
  simp
set_option maxRecDepth 100000 in
theorem sh_131 : shp[131]? = some (.inl (.int, 4800, [])) := by decide +kernel
theorem a_131 (SA : mSA) (hi : Nat → Nat → Int32) (hl : Nat → Nat → Int64) : mArr SA (bH hi hl) 131 = some (.int, 4800, .inl (hi 131)) := g_arrI sh_131 hi hl
theorem e_131 (hi : Nat → Nat → Int32) (hl : Nat → Nat → Int64) : (bH hi hl)[131]? = some (.inl (.int, 4800, .inl (hi 131))) := g_cI sh_131 hi hl
theorem w_131 (hi : Nat → Nat → Int32) (hl : Nat → Nat → Int64) (g : Nat → Int32) : (bH hi hl).set 131 (.inl (.int, 4800, .inl g)) = bH (uA hi 131 g) hl := p_cpyI sh_131 hi hl g
set_option maxRecDepth 100000 in
theorem sh_132 : shp[132]? = some (.inl (.int, 16, [])) := by decide +kernel
theorem a_132 (SA : mSA) (hi : Nat → Nat → Int32) (hl : Nat → Nat → Int64) : mArr SA (bH hi hl) 132 = some (.int, 16, .inl (hi 132)) := g_arrI sh_132 hi hl
theorem e_132 (hi : Nat → Nat → Int32) (hl : Nat → Nat → Int64) : (bH hi hl)[132]? = some (.inl (.int, 16, .inl (hi 132))) := g_cI sh_132 hi hl
theorem w_132 (hi : Nat → Nat → Int32) (hl : Nat → Nat → Int64) (g : Nat → Int32) : (bH hi hl).set 132 (.inl (.int, 16, .inl g)) = bH (uA hi 132 g) hl := p_cpyI sh_132 hi hl g
set_option maxRecDepth 100000 in
theorem sh_133 : shp[133]? = some (.inl (.int, 400, [])) := by decide +kernel
theorem a_133 (SA : mSA) (hi : Nat → Nat → Int32) (hl : Nat → Nat → Int64) : mArr SA (bH hi hl) 133 = some (.int, 400, .inl (hi 133)) := g_arrI sh_133 hi hl
theorem e_133 (hi : Nat → Nat → Int32) (hl : Nat → Nat → Int64) : (bH hi hl)[133]? = some (.inl (.int, 400, .inl (hi 133))) := g_cI sh_133 hi hl
theorem w_133 (hi : Nat → Nat → Int32) (hl : Nat → Nat → Int64) (g : Nat → Int32) : (bH hi hl).set 133 (.inl (.int, 400, .inl g)) = bH (uA hi 133 g) hl := p_cpyI sh_133 hi hl g
set_option maxRecDepth 100000 in
theorem sh_134 : shp[134]? = some (.inl (.int, 3000, [])) := by decide +kernel
theorem a_134 (SA : mSA) (hi : Nat → Nat → Int32) (hl : Nat → Nat → Int64) : mArr SA (bH hi hl) 134 = some (.int, 3000, .inl (hi 134)) := g_arrI sh_134 hi hl
theorem e_134 (hi : Nat → Nat → Int32) (hl : Nat → Nat → Int64) : (bH hi hl)[134]? = some (.inl (.int, 3000, .inl (hi 134))) := g_cI sh_134 hi hl
theorem w_134 (hi : Nat → Nat → Int32) (hl : Nat → Nat → Int64) (g : Nat → Int32) : (bH hi hl).set 134 (.inl (.int, 3000, .inl g)) = bH (uA hi 134 g) hl := p_cpyI sh_134 hi hl g
set_option maxRecDepth 100000 in
theorem sh_135 : shp[135]? = some (.inl (.long, 80, [])) := by decide +kernel
theorem a_135 (SA : mSA) (hi : Nat → Nat → Int32) (hl : Nat → Nat → Int64) : mArr SA (bH hi hl) 135 = some (.long, 80, .inr (.inl (hl 135))) := g_arrL sh_135 hi hl
theorem e_135 (hi : Nat → Nat → Int32) (hl : Nat → Nat → Int64) : (bH hi hl)[135]? = some (.inl (.long, 80, .inr (.inl (hl 135)))) := g_cL sh_135 hi hl
theorem w_135 (hi : Nat → Nat → Int32) (hl : Nat → Nat → Int64) (g : Nat → Int64) : (bH hi hl).set 135 (.inl (.long, 80, .inr (.inl g))) = bH hi (uB hl 135 g) := p_cpyL sh_135 hi hl g
set_option maxRecDepth 100000 in
theorem sh_136 : shp[136]? = some (.inl (.long, 8, [])) := by decide +kernel
theorem a_136 (SA : mSA) (hi : Nat → Nat → Int32) (hl : Nat → Nat → Int64) : mArr SA (bH hi hl) 136 = some (.long, 8, .inr (.inl (hl 136))) := g_arrL sh_136 hi hl
theorem e_136 (hi : Nat → Nat → Int32) (hl : Nat → Nat → Int64) : (bH hi hl)[136]? = some (.inl (.long, 8, .inr (.inl (hl 136)))) := g_cL sh_136 hi hl
theorem w_136 (hi : Nat → Nat → Int32) (hl : Nat → Nat → Int64) (g : Nat → Int64) : (bH hi hl).set 136 (.inl (.long, 8, .inr (.inl g))) = bH hi (uB hl 136 g) := p_cpyL sh_136 hi hl g
set_option maxRecDepth 100000 in
theorem sh_137 : shp[137]? = some (.inl (.int, 64, [])) := by decide +kernel
theorem a_137 (SA : mSA) (hi : Nat → Nat → Int32) (hl : Nat → Nat → Int64) : mArr SA (bH hi hl) 137 = some (.int, 64, .inl (hi 137)) := g_arrI sh_137 hi hl
theorem e_137 (hi : Nat → Nat → Int32) (hl : Nat → Nat → Int64) : (bH hi hl)[137]? = some (.inl (.int, 64, .inl (hi 137))) := g_cI sh_137 hi hl
theorem w_137 (hi : Nat → Nat → Int32) (hl : Nat → Nat → Int64) (g : Nat → Int32) : (bH hi hl).set 137 (.inl (.int, 64, .inl g)) = bH (uA hi 137 g) hl := p_cpyI sh_137 hi hl g
set_option maxRecDepth 100000 in
theorem sh_138 : shp[138]? = some (.inl (.int, 128, [])) := by decide +kernel
theorem a_138 (SA : mSA) (hi : Nat → Nat → Int32) (hl : Nat → Nat → Int64) : mArr SA (bH hi hl) 138 = some (.int, 128, .inl (hi 138)) := g_arrI sh_138 hi hl
theorem e_138 (hi : Nat → Nat → Int32) (hl : Nat → Nat → Int64) : (bH hi hl)[138]? = some (.inl (.int, 128, .inl (hi 138))) := g_cI sh_138 hi hl
theorem w_138 (hi : Nat → Nat → Int32) (hl : Nat → Nat → Int64) (g : Nat → Int32) : (bH hi hl).set 138 (.inl (.int, 128, .inl g)) = bH (uA hi 138 g) hl := p_cpyI sh_138 hi hl g
set_option maxRecDepth 100000 in
theorem sh_139 : shp[139]? = some (.inl (.int, 2000, [])) := by decide +kernel
theorem a_139 (SA : mSA) (hi : Nat → Nat → Int32) (hl : Nat → Nat → Int64) : mArr SA (bH hi hl) 139 = some (.int, 2000, .inl (hi 139)) := g_arrI sh_139 hi hl
theorem e_139 (hi : Nat → Nat → Int32) (hl : Nat → Nat → Int64) : (bH hi hl)[139]? = some (.inl (.int, 2000, .inl (hi 139))) := g_cI sh_139 hi hl
theorem w_139 (hi : Nat → Nat → Int32) (hl : Nat → Nat → Int64) (g : Nat → Int32) : (bH hi hl).set 139 (.inl (.int, 2000, .inl g)) = bH (uA hi 139 g) hl := p_cpyI sh_139 hi hl g
set_option maxRecDepth 100000 in
theorem sh_140 : shp[140]? = some (.inl (.int, 1000, [])) := by decide +kernel
theorem a_140 (SA : mSA) (hi : Nat → Nat → Int32) (hl : Nat → Nat → Int64) : mArr SA (bH hi hl) 140 = some (.int, 1000, .inl (hi 140)) := g_arrI sh_140 hi hl
theorem e_140 (hi : Nat → Nat → Int32) (hl : Nat → Nat → Int64) : (bH hi hl)[140]? = some (.inl (.int, 1000, .inl (hi 140))) := g_cI sh_140 hi hl
theorem w_140 (hi : Nat → Nat → Int32) (hl : Nat → Nat → Int64) (g : Nat → Int32) : (bH hi hl).set 140 (.inl (.int, 1000, .inl g)) = bH (uA hi 140 g) hl := p_cpyI sh_140 hi hl g
set_option maxRecDepth 100000 in
theorem sh_141 : shp[141]? = some (.inl (.long, 16, [])) := by decide +kernel
theorem a_141 (SA : mSA) (hi : Nat → Nat → Int32) (hl : Nat → Nat → Int64) : mArr SA (bH hi hl) 141 = some (.long, 16, .inr (.inl (hl 141))) := g_arrL sh_141 hi hl
theorem e_141 (hi : Nat → Nat → Int32) (hl : Nat → Nat → Int64) : (bH hi hl)[141]? = some (.inl (.long, 16, .inr (.inl (hl 141)))) := g_cL sh_141 hi hl
theorem w_141 (hi : Nat → Nat → Int32) (hl : Nat → Nat → Int64) (g : Nat → Int64) : (bH hi hl).set 141 (.inl (.long, 16, .inr (.inl g))) = bH hi (uB hl 141 g) := p_cpyL sh_141 hi hl g
set_option maxRecDepth 100000 in
theorem sh_142 : shp[142]? = some (.inl (.long, 16, [])) := by decide +kernel
theorem a_142 (SA : mSA) (hi : Nat → Nat → Int32) (hl : Nat → Nat → Int64) : mArr SA (bH hi hl) 142 = some (.long, 16, .inr (.inl (hl 142))) := g_arrL sh_142 hi hl
theorem e_142 (hi : Nat → Nat → Int32) (hl : Nat → Nat → Int64) : (bH hi hl)[142]? = some (.inl (.long, 16, .inr (.inl (hl 142)))) := g_cL sh_142 hi hl
theorem w_142 (hi : Nat → Nat → Int32) (hl : Nat → Nat → Int64) (g : Nat → Int64) : (bH hi hl).set 142 (.inl (.long, 16, .inr (.inl g))) = bH hi (uB hl 142 g) := p_cpyL sh_142 hi hl g
set_option maxRecDepth 100000 in
theorem sh_143 : shp[143]? = some (.inl (.long, 16, [])) := by decide +kernel
theorem a_143 (SA : mSA) (hi : Nat → Nat → Int32) (hl : Nat → Nat → Int64) : mArr SA (bH hi hl) 143 = some (.long, 16, .inr (.inl (hl 143))) := g_arrL sh_143 hi hl
theorem e_143 (hi : Nat → Nat → Int32) (hl : Nat → Nat → Int64) : (bH hi hl)[143]? = some (.inl (.long, 16, .inr (.inl (hl 143)))) := g_cL sh_143 hi hl
theorem w_143 (hi : Nat → Nat → Int32) (hl : Nat → Nat → Int64) (g : Nat → Int64) : (bH hi hl).set 143 (.inl (.long, 16, .inr (.inl g))) = bH hi (uB hl 143 g) := p_cpyL sh_143 hi hl g
set_option maxRecDepth 100000 in
theorem sh_144 : shp[144]? = some (.inl (.long, 16, [])) := by decide +kernel
theorem a_144 (SA : mSA) (hi : Nat → Nat → Int32) (hl : Nat → Nat → Int64) : mArr SA (bH hi hl) 144 = some (.long, 16, .inr (.inl (hl 144))) := g_arrL sh_144 hi hl
theorem e_144 (hi : Nat → Nat → Int32) (hl : Nat → Nat → Int64) : (bH hi hl)[144]? = some (.inl (.long, 16, .inr (.inl (hl 144)))) := g_cL sh_144 hi hl
theorem w_144 (hi : Nat → Nat → Int32) (hl : Nat → Nat → Int64) (g : Nat → Int64) : (bH hi hl).set 144 (.inl (.long, 16, .inr (.inl g))) = bH hi (uB hl 144 g) := p_cpyL sh_144 hi hl g
set_option maxRecDepth 100000 in
theorem sh_145 : shp[145]? = some (.inl (.long, 16, [])) := by decide +kernel
theorem a_145 (SA : mSA) (hi : Nat → Nat → Int32) (hl : Nat → Nat → Int64) : mArr SA (bH hi hl) 145 = some (.long, 16, .inr (.inl (hl 145))) := g_arrL sh_145 hi hl
theorem e_145 (hi : Nat → Nat → Int32) (hl : Nat → Nat → Int64) : (bH hi hl)[145]? = some (.inl (.long, 16, .inr (.inl (hl 145)))) := g_cL sh_145 hi hl
theorem w_145 (hi : Nat → Nat → Int32) (hl : Nat → Nat → Int64) (g : Nat → Int64) : (bH hi hl).set 145 (.inl (.long, 16, .inr (.inl g))) = bH hi (uB hl 145 g) := p_cpyL sh_145 hi hl g
set_option maxRecDepth 100000 in
theorem sh_146 : shp[146]? = some (.inl (.long, 16, [])) := by decide +kernel
theorem a_146 (SA : mSA) (hi : Nat → Nat → Int32) (hl : Nat → Nat → Int64) : mArr SA (bH hi hl) 146 = some (.long, 16, .inr (.inl (hl 146))) := g_arrL sh_146 hi hl
theorem e_146 (hi : Nat → Nat → Int32) (hl : Nat → Nat → Int64) : (bH hi hl)[146]? = some (.inl (.long, 16, .inr (.inl (hl 146)))) := g_cL sh_146 hi hl
theorem w_146 (hi : Nat → Nat → Int32) (hl : Nat → Nat → Int64) (g : Nat → Int64) : (bH hi hl).set 146 (.inl (.long, 16, .inr (.inl g))) = bH hi (uB hl 146 g) := p_cpyL sh_146 hi hl g
set_option maxRecDepth 100000 in
theorem sh_147 : shp[147]? = some (.inl (.long, 16, [])) := by decide +kernel
theorem a_147 (SA : mSA) (hi : Nat → Nat → Int32) (hl : Nat → Nat → Int64) : mArr SA (bH hi hl) 147 = some (.long, 16, .inr (.inl (hl 147))) := g_arrL sh_147 hi hl
theorem e_147 (hi : Nat → Nat → Int32) (hl : Nat → Nat → Int64) : (bH hi hl)[147]? = some (.inl (.long, 16, .inr (.inl (hl 147)))) := g_cL sh_147 hi hl
theorem w_147 (hi : Nat → Nat → Int32) (hl : Nat → Nat → Int64) (g : Nat → Int64) : (bH hi hl).set 147 (.inl (.long, 16, .inr (.inl g))) = bH hi (uB hl 147 g) := p_cpyL sh_147 hi hl g
set_option maxRecDepth 100000 in
theorem sh_148 : shp[148]? = some (.inl (.long, 16, [])) := by decide +kernel
theorem a_148 (SA : mSA) (hi : Nat → Nat → Int32) (hl : Nat → Nat → Int64) : mArr SA (bH hi hl) 148 = some (.long, 16, .inr (.inl (hl 148))) := g_arrL sh_148 hi hl
theorem e_148 (hi : Nat → Nat → Int32) (hl : Nat → Nat → Int64) : (bH hi hl)[148]? = some (.inl (.long, 16, .inr (.inl (hl 148)))) := g_cL sh_148 hi hl
theorem w_148 (hi : Nat → Nat → Int32) (hl : Nat → Nat → Int64) (g : Nat → Int64) : (bH hi hl).set 148 (.inl (.long, 16, .inr (.inl g))) = bH hi (uB hl 148 g) := p_cpyL sh_148 hi hl g
set_option maxRecDepth 100000 in
theorem sh_149 : shp[149]? = some (.inl (.long, 16, [])) := by decide +kernel
theorem a_149 (SA : mSA) (hi : Nat → Nat → Int32) (hl : Nat → Nat → Int64) : mArr SA (bH hi hl) 149 = some (.long, 16, .inr (.inl (hl 149))) := g_arrL sh_149 hi hl
theorem e_149 (hi : Nat → Nat → Int32) (hl : Nat → Nat → Int64) : (bH hi hl)[149]? = some (.inl (.long, 16, .inr (.inl (hl 149)))) := g_cL sh_149 hi hl
theorem w_149 (hi : Nat → Nat → Int32) (hl : Nat → Nat → Int64) (g : Nat → Int64) : (bH hi hl).set 149 (.inl (.long, 16, .inr (.inl g))) = bH hi (uB hl 149 g) := p_cpyL sh_149 hi hl g
set_option maxRecDepth 100000 in
theorem sh_150 : shp[150]? = some (.inl (.long, 16, [])) := by decide +kernel
theorem a_150 (SA : mSA) (hi : Nat → Nat → Int32) (hl : Nat → Nat → Int64) : mArr SA (bH hi hl) 150 = some (.long, 16, .inr (.inl (hl 150))) := g_arrL sh_150 hi hl
theorem e_150 (hi : Nat → Nat → Int32) (hl : Nat → Nat → Int64) : (bH hi hl)[150]? = some (.inl (.long, 16, .inr (.inl (hl 150)))) := g_cL sh_150 hi hl
theorem w_150 (hi : Nat → Nat → Int32) (hl : Nat → Nat → Int64) (g : Nat → Int64) : (bH hi hl).set 150 (.inl (.long, 16, .inr (.inl g))) = bH hi (uB hl 150 g) := p_cpyL sh_150 hi hl g
set_option maxRecDepth 100000 in
theorem sh_151 : shp[151]? = some (.inl (.long, 16, [])) := by decide +kernel
theorem a_151 (SA : mSA) (hi : Nat → Nat → Int32) (hl : Nat → Nat → Int64) : mArr SA (bH hi hl) 151 = some (.long, 16, .inr (.inl (hl 151))) := g_arrL sh_151 hi hl
theorem e_151 (hi : Nat → Nat → Int32) (hl : Nat → Nat → Int64) : (bH hi hl)[151]? = some (.inl (.long, 16, .inr (.inl (hl 151)))) := g_cL sh_151 hi hl
theorem w_151 (hi : Nat → Nat → Int32) (hl : Nat → Nat → Int64) (g : Nat → Int64) : (bH hi hl).set 151 (.inl (.long, 16, .inr (.inl g))) = bH hi (uB hl 151 g) := p_cpyL sh_151 hi hl g
set_option maxRecDepth 100000 in
theorem sh_152 : shp[152]? = some (.inl (.long, 31, [])) := by decide +kernel
theorem a_152 (SA : mSA) (hi : Nat → Nat → Int32) (hl : Nat → Nat → Int64) : mArr SA (bH hi hl) 152 = some (.long, 31, .inr (.inl (hl 152))) := g_arrL sh_152 hi hl
theorem e_152 (hi : Nat → Nat → Int32) (hl : Nat → Nat → Int64) : (bH hi hl)[152]? = some (.inl (.long, 31, .inr (.inl (hl 152)))) := g_cL sh_152 hi hl
theorem w_152 (hi : Nat → Nat → Int32) (hl : Nat → Nat → Int64) (g : Nat → Int64) : (bH hi hl).set 152 (.inl (.long, 31, .inr (.inl g))) = bH hi (uB hl 152 g) := p_cpyL sh_152 hi hl g
set_option maxRecDepth 100000 in
theorem sh_153 : shp[153]? = some (.inl (.long, 16, [])) := by decide +kernel
theorem a_153 (SA : mSA) (hi : Nat → Nat → Int32) (hl : Nat → Nat → Int64) : mArr SA (bH hi hl) 153 = some (.long, 16, .inr (.inl (hl 153))) := g_arrL sh_153 hi hl
theorem e_153 (hi : Nat → Nat → Int32) (hl : Nat → Nat → Int64) : (bH hi hl)[153]? = some (.inl (.long, 16, .inr (.inl (hl 153)))) := g_cL sh_153 hi hl
theorem w_153 (hi : Nat → Nat → Int32) (hl : Nat → Nat → Int64) (g : Nat → Int64) : (bH hi hl).set 153 (.inl (.long, 16, .inr (.inl g))) = bH hi (uB hl 153 g) := p_cpyL sh_153 hi hl g
set_option maxRecDepth 100000 in
theorem sh_154 : shp[154]? = some (.inl (.int, 32, [])) := by decide +kernel
theorem a_154 (SA : mSA) (hi : Nat → Nat → Int32) (hl : Nat → Nat → Int64) : mArr SA (bH hi hl) 154 = some (.int, 32, .inl (hi 154)) := g_arrI sh_154 hi hl
theorem e_154 (hi : Nat → Nat → Int32) (hl : Nat → Nat → Int64) : (bH hi hl)[154]? = some (.inl (.int, 32, .inl (hi 154))) := g_cI sh_154 hi hl
theorem w_154 (hi : Nat → Nat → Int32) (hl : Nat → Nat → Int64) (g : Nat → Int32) : (bH hi hl).set 154 (.inl (.int, 32, .inl g)) = bH (uA hi 154 g) hl := p_cpyI sh_154 hi hl g
set_option maxRecDepth 100000 in
theorem sh_155 : shp[155]? = some (.inl (.int, 32, [])) := by decide +kernel
theorem a_155 (SA : mSA) (hi : Nat → Nat → Int32) (hl : Nat → Nat → Int64) : mArr SA (bH hi hl) 155 = some (.int, 32, .inl (hi 155)) := g_arrI sh_155 hi hl
theorem e_155 (hi : Nat → Nat → Int32) (hl : Nat → Nat → Int64) : (bH hi hl)[155]? = some (.inl (.int, 32, .inl (hi 155))) := g_cI sh_155 hi hl
theorem w_155 (hi : Nat → Nat → Int32) (hl : Nat → Nat → Int64) (g : Nat → Int32) : (bH hi hl).set 155 (.inl (.int, 32, .inl g)) = bH (uA hi 155 g) hl := p_cpyI sh_155 hi hl g
set_option maxRecDepth 100000 in
theorem sh_156 : shp[156]? = some (.inl (.int, 32, [])) := by decide +kernel
theorem a_156 (SA : mSA) (hi : Nat → Nat → Int32) (hl : Nat → Nat → Int64) : mArr SA (bH hi hl) 156 = some (.int, 32, .inl (hi 156)) := g_arrI sh_156 hi hl
theorem e_156 (hi : Nat → Nat → Int32) (hl : Nat → Nat → Int64) : (bH hi hl)[156]? = some (.inl (.int, 32, .inl (hi 156))) := g_cI sh_156 hi hl
theorem w_156 (hi : Nat → Nat → Int32) (hl : Nat → Nat → Int64) (g : Nat → Int32) : (bH hi hl).set 156 (.inl (.int, 32, .inl g)) = bH (uA hi 156 g) hl := p_cpyI sh_156 hi hl g
set_option maxRecDepth 100000 in
theorem sh_157 : shp[157]? = some (.inl (.int, 256, [])) := by decide +kernel
theorem a_157 (SA : mSA) (hi : Nat → Nat → Int32) (hl : Nat → Nat → Int64) : mArr SA (bH hi hl) 157 = some (.int, 256, .inl (hi 157)) := g_arrI sh_157 hi hl
theorem e_157 (hi : Nat → Nat → Int32) (hl : Nat → Nat → Int64) : (bH hi hl)[157]? = some (.inl (.int, 256, .inl (hi 157))) := g_cI sh_157 hi hl
theorem w_157 (hi : Nat → Nat → Int32) (hl : Nat → Nat → Int64) (g : Nat → Int32) : (bH hi hl).set 157 (.inl (.int, 256, .inl g)) = bH (uA hi 157 g) hl := p_cpyI sh_157 hi hl g
set_option maxRecDepth 100000 in
theorem sh_158 : shp[158]? = some (.inl (.int, 240, [])) := by decide +kernel
theorem a_158 (SA : mSA) (hi : Nat → Nat → Int32) (hl : Nat → Nat → Int64) : mArr SA (bH hi hl) 158 = some (.int, 240, .inl (hi 158)) := g_arrI sh_158 hi hl
theorem e_158 (hi : Nat → Nat → Int32) (hl : Nat → Nat → Int64) : (bH hi hl)[158]? = some (.inl (.int, 240, .inl (hi 158))) := g_cI sh_158 hi hl
theorem w_158 (hi : Nat → Nat → Int32) (hl : Nat → Nat → Int64) (g : Nat → Int32) : (bH hi hl).set 158 (.inl (.int, 240, .inl g)) = bH (uA hi 158 g) hl := p_cpyI sh_158 hi hl g
set_option maxRecDepth 100000 in
theorem sh_159 : shp[159]? = some (.inl (.int, 16, [])) := by decide +kernel
theorem a_159 (SA : mSA) (hi : Nat → Nat → Int32) (hl : Nat → Nat → Int64) : mArr SA (bH hi hl) 159 = some (.int, 16, .inl (hi 159)) := g_arrI sh_159 hi hl
theorem e_159 (hi : Nat → Nat → Int32) (hl : Nat → Nat → Int64) : (bH hi hl)[159]? = some (.inl (.int, 16, .inl (hi 159))) := g_cI sh_159 hi hl
theorem w_159 (hi : Nat → Nat → Int32) (hl : Nat → Nat → Int64) (g : Nat → Int32) : (bH hi hl).set 159 (.inl (.int, 16, .inl g)) = bH (uA hi 159 g) hl := p_cpyI sh_159 hi hl g
set_option maxRecDepth 100000 in
theorem sh_160 : shp[160]? = some (.inl (.int, 16, [])) := by decide +kernel
theorem a_160 (SA : mSA) (hi : Nat → Nat → Int32) (hl : Nat → Nat → Int64) : mArr SA (bH hi hl) 160 = some (.int, 16, .inl (hi 160)) := g_arrI sh_160 hi hl
theorem e_160 (hi : Nat → Nat → Int32) (hl : Nat → Nat → Int64) : (bH hi hl)[160]? = some (.inl (.int, 16, .inl (hi 160))) := g_cI sh_160 hi hl
theorem w_160 (hi : Nat → Nat → Int32) (hl : Nat → Nat → Int64) (g : Nat → Int32) : (bH hi hl).set 160 (.inl (.int, 16, .inl g)) = bH (uA hi 160 g) hl := p_cpyI sh_160 hi hl g
set_option maxRecDepth 100000 in
theorem sh_161 : shp[161]? = some (.inl (.int, 32, [])) := by decide +kernel
theorem a_161 (SA : mSA) (hi : Nat → Nat → Int32) (hl : Nat → Nat → Int64) : mArr SA (bH hi hl) 161 = some (.int, 32, .inl (hi 161)) := g_arrI sh_161 hi hl
theorem e_161 (hi : Nat → Nat → Int32) (hl : Nat → Nat → Int64) : (bH hi hl)[161]? = some (.inl (.int, 32, .inl (hi 161))) := g_cI sh_161 hi hl
theorem w_161 (hi : Nat → Nat → Int32) (hl : Nat → Nat → Int64) (g : Nat → Int32) : (bH hi hl).set 161 (.inl (.int, 32, .inl g)) = bH (uA hi 161 g) hl := p_cpyI sh_161 hi hl g
set_option maxRecDepth 100000 in
theorem sh_162 : shp[162]? = some (.inl (.int, 12, [])) := by decide +kernel
theorem a_162 (SA : mSA) (hi : Nat → Nat → Int32) (hl : Nat → Nat → Int64) : mArr SA (bH hi hl) 162 = some (.int, 12, .inl (hi 162)) := g_arrI sh_162 hi hl
theorem e_162 (hi : Nat → Nat → Int32) (hl : Nat → Nat → Int64) : (bH hi hl)[162]? = some (.inl (.int, 12, .inl (hi 162))) := g_cI sh_162 hi hl
theorem w_162 (hi : Nat → Nat → Int32) (hl : Nat → Nat → Int64) (g : Nat → Int32) : (bH hi hl).set 162 (.inl (.int, 12, .inl g)) = bH (uA hi 162 g) hl := p_cpyI sh_162 hi hl g
set_option maxRecDepth 100000 in
theorem sh_163 : shp[163]? = some (.inl (.int, 300, [])) := by decide +kernel
theorem a_163 (SA : mSA) (hi : Nat → Nat → Int32) (hl : Nat → Nat → Int64) : mArr SA (bH hi hl) 163 = some (.int, 300, .inl (hi 163)) := g_arrI sh_163 hi hl
theorem e_163 (hi : Nat → Nat → Int32) (hl : Nat → Nat → Int64) : (bH hi hl)[163]? = some (.inl (.int, 300, .inl (hi 163))) := g_cI sh_163 hi hl
theorem w_163 (hi : Nat → Nat → Int32) (hl : Nat → Nat → Int64) (g : Nat → Int32) : (bH hi hl).set 163 (.inl (.int, 300, .inl g)) = bH (uA hi 163 g) hl := p_cpyI sh_163 hi hl g
set_option maxRecDepth 100000 in
theorem sh_164 : shp[164]? = some (.inl (.int, 400, [])) := by decide +kernel
theorem a_164 (SA : mSA) (hi : Nat → Nat → Int32) (hl : Nat → Nat → Int64) : mArr SA (bH hi hl) 164 = some (.int, 400, .inl (hi 164)) := g_arrI sh_164 hi hl
theorem e_164 (hi : Nat → Nat → Int32) (hl : Nat → Nat → Int64) : (bH hi hl)[164]? = some (.inl (.int, 400, .inl (hi 164))) := g_cI sh_164 hi hl
theorem w_164 (hi : Nat → Nat → Int32) (hl : Nat → Nat → Int64) (g : Nat → Int32) : (bH hi hl).set 164 (.inl (.int, 400, .inl g)) = bH (uA hi 164 g) hl := p_cpyI sh_164 hi hl g
set_option maxRecDepth 100000 in
theorem sh_165 : shp[165]? = some (.inl (.int, 16, [])) := by decide +kernel
theorem a_165 (SA : mSA) (hi : Nat → Nat → Int32) (hl : Nat → Nat → Int64) : mArr SA (bH hi hl) 165 = some (.int, 16, .inl (hi 165)) := g_arrI sh_165 hi hl
theorem e_165 (hi : Nat → Nat → Int32) (hl : Nat → Nat → Int64) : (bH hi hl)[165]? = some (.inl (.int, 16, .inl (hi 165))) := g_cI sh_165 hi hl
theorem w_165 (hi : Nat → Nat → Int32) (hl : Nat → Nat → Int64) (g : Nat → Int32) : (bH hi hl).set 165 (.inl (.int, 16, .inl g)) = bH (uA hi 165 g) hl := p_cpyI sh_165 hi hl g
set_option maxRecDepth 100000 in
theorem sh_166 : shp[166]? = some (.inl (.int, 16, [])) := by decide +kernel
theorem a_166 (SA : mSA) (hi : Nat → Nat → Int32) (hl : Nat → Nat → Int64) : mArr SA (bH hi hl) 166 = some (.int, 16, .inl (hi 166)) := g_arrI sh_166 hi hl
theorem e_166 (hi : Nat → Nat → Int32) (hl : Nat → Nat → Int64) : (bH hi hl)[166]? = some (.inl (.int, 16, .inl (hi 166))) := g_cI sh_166 hi hl
theorem w_166 (hi : Nat → Nat → Int32) (hl : Nat → Nat → Int64) (g : Nat → Int32) : (bH hi hl).set 166 (.inl (.int, 16, .inl g)) = bH (uA hi 166 g) hl := p_cpyI sh_166 hi hl g
set_option maxRecDepth 100000 in
theorem sh_167 : shp[167]? = some (.inl (.int, 16, [])) := by decide +kernel
theorem a_167 (SA : mSA) (hi : Nat → Nat → Int32) (hl : Nat → Nat → Int64) : mArr SA (bH hi hl) 167 = some (.int, 16, .inl (hi 167)) := g_arrI sh_167 hi hl
theorem e_167 (hi : Nat → Nat → Int32) (hl : Nat → Nat → Int64) : (bH hi hl)[167]? = some (.inl (.int, 16, .inl (hi 167))) := g_cI sh_167 hi hl
theorem w_167 (hi : Nat → Nat → Int32) (hl : Nat → Nat → Int64) (g : Nat → Int32) : (bH hi hl).set 167 (.inl (.int, 16, .inl g)) = bH (uA hi 167 g) hl := p_cpyI sh_167 hi hl g
set_option maxRecDepth 100000 in
theorem sh_168 : shp[168]? = some (.inl (.int, 64, [])) := by decide +kernel
theorem a_168 (SA : mSA) (hi : Nat → Nat → Int32) (hl : Nat → Nat → Int64) : mArr SA (bH hi hl) 168 = some (.int, 64, .inl (hi 168)) := g_arrI sh_168 hi hl
theorem e_168 (hi : Nat → Nat → Int32) (hl : Nat → Nat → Int64) : (bH hi hl)[168]? = some (.inl (.int, 64, .inl (hi 168))) := g_cI sh_168 hi hl
theorem w_168 (hi : Nat → Nat → Int32) (hl : Nat → Nat → Int64) (g : Nat → Int32) : (bH hi hl).set 168 (.inl (.int, 64, .inl g)) = bH (uA hi 168 g) hl := p_cpyI sh_168 hi hl g
set_option maxRecDepth 100000 in
theorem sh_169 : shp[169]? = some (.inl (.long, 5, [])) := by decide +kernel
theorem a_169 (SA : mSA) (hi : Nat → Nat → Int32) (hl : Nat → Nat → Int64) : mArr SA (bH hi hl) 169 = some (.long, 5, .inr (.inl (hl 169))) := g_arrL sh_169 hi hl
theorem e_169 (hi : Nat → Nat → Int32) (hl : Nat → Nat → Int64) : (bH hi hl)[169]? = some (.inl (.long, 5, .inr (.inl (hl 169)))) := g_cL sh_169 hi hl
theorem w_169 (hi : Nat → Nat → Int32) (hl : Nat → Nat → Int64) (g : Nat → Int64) : (bH hi hl).set 169 (.inl (.long, 5, .inr (.inl g))) = bH hi (uB hl 169 g) := p_cpyL sh_169 hi hl g
set_option maxRecDepth 100000 in
theorem sh_170 : shp[170]? = some (.inl (.long, 5, [])) := by decide +kernel
theorem a_170 (SA : mSA) (hi : Nat → Nat → Int32) (hl : Nat → Nat → Int64) : mArr SA (bH hi hl) 170 = some (.long, 5, .inr (.inl (hl 170))) := g_arrL sh_170 hi hl
theorem e_170 (hi : Nat → Nat → Int32) (hl : Nat → Nat → Int64) : (bH hi hl)[170]? = some (.inl (.long, 5, .inr (.inl (hl 170)))) := g_cL sh_170 hi hl
theorem w_170 (hi : Nat → Nat → Int32) (hl : Nat → Nat → Int64) (g : Nat → Int64) : (bH hi hl).set 170 (.inl (.long, 5, .inr (.inl g))) = bH hi (uB hl 170 g) := p_cpyL sh_170 hi hl g
set_option maxRecDepth 100000 in
theorem sh_171 : shp[171]? = some (.inl (.long, 5, [])) := by decide +kernel
theorem a_171 (SA : mSA) (hi : Nat → Nat → Int32) (hl : Nat → Nat → Int64) : mArr SA (bH hi hl) 171 = some (.long, 5, .inr (.inl (hl 171))) := g_arrL sh_171 hi hl
theorem e_171 (hi : Nat → Nat → Int32) (hl : Nat → Nat → Int64) : (bH hi hl)[171]? = some (.inl (.long, 5, .inr (.inl (hl 171)))) := g_cL sh_171 hi hl
theorem w_171 (hi : Nat → Nat → Int32) (hl : Nat → Nat → Int64) (g : Nat → Int64) : (bH hi hl).set 171 (.inl (.long, 5, .inr (.inl g))) = bH hi (uB hl 171 g) := p_cpyL sh_171 hi hl g
set_option maxRecDepth 100000 in
theorem sh_172 : shp[172]? = some (.inl (.int, 16, [])) := by decide +kernel
theorem a_172 (SA : mSA) (hi : Nat → Nat → Int32) (hl : Nat → Nat → Int64) : mArr SA (bH hi hl) 172 = some (.int, 16, .inl (hi 172)) := g_arrI sh_172 hi hl
theorem e_172 (hi : Nat → Nat → Int32) (hl : Nat → Nat → Int64) : (bH hi hl)[172]? = some (.inl (.int, 16, .inl (hi 172))) := g_cI sh_172 hi hl
theorem w_172 (hi : Nat → Nat → Int32) (hl : Nat → Nat → Int64) (g : Nat → Int32) : (bH hi hl).set 172 (.inl (.int, 16, .inl g)) = bH (uA hi 172 g) hl := p_cpyI sh_172 hi hl g
set_option maxRecDepth 100000 in
theorem sh_173 : shp[173]? = some (.inl (.int, 10, [])) := by decide +kernel
theorem a_173 (SA : mSA) (hi : Nat → Nat → Int32) (hl : Nat → Nat → Int64) : mArr SA (bH hi hl) 173 = some (.int, 10, .inl (hi 173)) := g_arrI sh_173 hi hl
theorem e_173 (hi : Nat → Nat → Int32) (hl : Nat → Nat → Int64) : (bH hi hl)[173]? = some (.inl (.int, 10, .inl (hi 173))) := g_cI sh_173 hi hl
theorem w_173 (hi : Nat → Nat → Int32) (hl : Nat → Nat → Int64) (g : Nat → Int32) : (bH hi hl).set 173 (.inl (.int, 10, .inl g)) = bH (uA hi 173 g) hl := p_cpyI sh_173 hi hl g
set_option maxRecDepth 100000 in
theorem sh_174 : shp[174]? = some (.inl (.int, 5, [])) := by decide +kernel
theorem a_174 (SA : mSA) (hi : Nat → Nat → Int32) (hl : Nat → Nat → Int64) : mArr SA (bH hi hl) 174 = some (.int, 5, .inl (hi 174)) := g_arrI sh_174 hi hl
theorem e_174 (hi : Nat → Nat → Int32) (hl : Nat → Nat → Int64) : (bH hi hl)[174]? = some (.inl (.int, 5, .inl (hi 174))) := g_cI sh_174 hi hl
theorem w_174 (hi : Nat → Nat → Int32) (hl : Nat → Nat → Int64) (g : Nat → Int32) : (bH hi hl).set 174 (.inl (.int, 5, .inl g)) = bH (uA hi 174 g) hl := p_cpyI sh_174 hi hl g
set_option maxRecDepth 100000 in
theorem sh_175 : shp[175]? = some (.inl (.int, 64, [])) := by decide +kernel
theorem a_175 (SA : mSA) (hi : Nat → Nat → Int32) (hl : Nat → Nat → Int64) : mArr SA (bH hi hl) 175 = some (.int, 64, .inl (hi 175)) := g_arrI sh_175 hi hl
theorem e_175 (hi : Nat → Nat → Int32) (hl : Nat → Nat → Int64) : (bH hi hl)[175]? = some (.inl (.int, 64, .inl (hi 175))) := g_cI sh_175 hi hl
theorem w_175 (hi : Nat → Nat → Int32) (hl : Nat → Nat → Int64) (g : Nat → Int32) : (bH hi hl).set 175 (.inl (.int, 64, .inl g)) = bH (uA hi 175 g) hl := p_cpyI sh_175 hi hl g
set_option maxRecDepth 100000 in
theorem sh_176 : shp[176]? = some (.inl (.int, 96, [])) := by decide +kernel
theorem a_176 (SA : mSA) (hi : Nat → Nat → Int32) (hl : Nat → Nat → Int64) : mArr SA (bH hi hl) 176 = some (.int, 96, .inl (hi 176)) := g_arrI sh_176 hi hl
theorem e_176 (hi : Nat → Nat → Int32) (hl : Nat → Nat → Int64) : (bH hi hl)[176]? = some (.inl (.int, 96, .inl (hi 176))) := g_cI sh_176 hi hl
theorem w_176 (hi : Nat → Nat → Int32) (hl : Nat → Nat → Int64) (g : Nat → Int32) : (bH hi hl).set 176 (.inl (.int, 96, .inl g)) = bH (uA hi 176 g) hl := p_cpyI sh_176 hi hl g
set_option maxRecDepth 100000 in
theorem sh_177 : shp[177]? = some (.inl (.int, 32, [])) := by decide +kernel
theorem a_177 (SA : mSA) (hi : Nat → Nat → Int32) (hl : Nat → Nat → Int64) : mArr SA (bH hi hl) 177 = some (.int, 32, .inl (hi 177)) := g_arrI sh_177 hi hl
theorem e_177 (hi : Nat → Nat → Int32) (hl : Nat → Nat → Int64) : (bH hi hl)[177]? = some (.inl (.int, 32, .inl (hi 177))) := g_cI sh_177 hi hl
theorem w_177 (hi : Nat → Nat → Int32) (hl : Nat → Nat → Int64) (g : Nat → Int32) : (bH hi hl).set 177 (.inl (.int, 32, .inl g)) = bH (uA hi 177 g) hl := p_cpyI sh_177 hi hl g
set_option maxRecDepth 100000 in
theorem sh_178 : shp[178]? = some (.inl (.int, 4, [])) := by decide +kernel
theorem a_178 (SA : mSA) (hi : Nat → Nat → Int32) (hl : Nat → Nat → Int64) : mArr SA (bH hi hl) 178 = some (.int, 4, .inl (hi 178)) := g_arrI sh_178 hi hl
theorem e_178 (hi : Nat → Nat → Int32) (hl : Nat → Nat → Int64) : (bH hi hl)[178]? = some (.inl (.int, 4, .inl (hi 178))) := g_cI sh_178 hi hl
theorem w_178 (hi : Nat → Nat → Int32) (hl : Nat → Nat → Int64) (g : Nat → Int32) : (bH hi hl).set 178 (.inl (.int, 4, .inl g)) = bH (uA hi 178 g) hl := p_cpyI sh_178 hi hl g
set_option maxRecDepth 100000 in
theorem sh_179 : shp[179]? = some (.inl (.int, 4, [])) := by decide +kernel
theorem a_179 (SA : mSA) (hi : Nat → Nat → Int32) (hl : Nat → Nat → Int64) : mArr SA (bH hi hl) 179 = some (.int, 4, .inl (hi 179)) := g_arrI sh_179 hi hl
theorem e_179 (hi : Nat → Nat → Int32) (hl : Nat → Nat → Int64) : (bH hi hl)[179]? = some (.inl (.int, 4, .inl (hi 179))) := g_cI sh_179 hi hl
theorem w_179 (hi : Nat → Nat → Int32) (hl : Nat → Nat → Int64) (g : Nat → Int32) : (bH hi hl).set 179 (.inl (.int, 4, .inl g)) = bH (uA hi 179 g) hl := p_cpyI sh_179 hi hl g
set_option maxRecDepth 100000 in
theorem sh_180 : shp[180]? = some (.inl (.int, 4, [])) := by decide +kernel
theorem a_180 (SA : mSA) (hi : Nat → Nat → Int32) (hl : Nat → Nat → Int64) : mArr SA (bH hi hl) 180 = some (.int, 4, .inl (hi 180)) := g_arrI sh_180 hi hl
theorem e_180 (hi : Nat → Nat → Int32) (hl : Nat → Nat → Int64) : (bH hi hl)[180]? = some (.inl (.int, 4, .inl (hi 180))) := g_cI sh_180 hi hl
theorem w_180 (hi : Nat → Nat → Int32) (hl : Nat → Nat → Int64) (g : Nat → Int32) : (bH hi hl).set 180 (.inl (.int, 4, .inl g)) = bH (uA hi 180 g) hl := p_cpyI sh_180 hi hl g
set_option maxRecDepth 100000 in
theorem sh_181 : shp[181]? = some (.inl (.int, 4, [])) := by decide +kernel
theorem a_181 (SA : mSA) (hi : Nat → Nat → Int32) (hl : Nat → Nat → Int64) : mArr SA (bH hi hl) 181 = some (.int, 4, .inl (hi 181)) := g_arrI sh_181 hi hl
theorem e_181 (hi : Nat → Nat → Int32) (hl : Nat → Nat → Int64) : (bH hi hl)[181]? = some (.inl (.int, 4, .inl (hi 181))) := g_cI sh_181 hi hl
theorem w_181 (hi : Nat → Nat → Int32) (hl : Nat → Nat → Int64) (g : Nat → Int32) : (bH hi hl).set 181 (.inl (.int, 4, .inl g)) = bH (uA hi 181 g) hl := p_cpyI sh_181 hi hl g
set_option maxRecDepth 100000 in
theorem sh_182 : shp[182]? = some (.inl (.long, 12, [])) := by decide +kernel
theorem a_182 (SA : mSA) (hi : Nat → Nat → Int32) (hl : Nat → Nat → Int64) : mArr SA (bH hi hl) 182 = some (.long, 12, .inr (.inl (hl 182))) := g_arrL sh_182 hi hl
theorem e_182 (hi : Nat → Nat → Int32) (hl : Nat → Nat → Int64) : (bH hi hl)[182]? = some (.inl (.long, 12, .inr (.inl (hl 182)))) := g_cL sh_182 hi hl
theorem w_182 (hi : Nat → Nat → Int32) (hl : Nat → Nat → Int64) (g : Nat → Int64) : (bH hi hl).set 182 (.inl (.long, 12, .inr (.inl g))) = bH hi (uB hl 182 g) := p_cpyL sh_182 hi hl g
set_option maxRecDepth 100000 in
theorem sh_183 : shp[183]? = some (.inl (.int, 128, [])) := by decide +kernel
theorem a_183 (SA : mSA) (hi : Nat → Nat → Int32) (hl : Nat → Nat → Int64) : mArr SA (bH hi hl) 183 = some (.int, 128, .inl (hi 183)) := g_arrI sh_183 hi hl
theorem e_183 (hi : Nat → Nat → Int32) (hl : Nat → Nat → Int64) : (bH hi hl)[183]? = some (.inl (.int, 128, .inl (hi 183))) := g_cI sh_183 hi hl
theorem w_183 (hi : Nat → Nat → Int32) (hl : Nat → Nat → Int64) (g : Nat → Int32) : (bH hi hl).set 183 (.inl (.int, 128, .inl g)) = bH (uA hi 183 g) hl := p_cpyI sh_183 hi hl g
set_option maxRecDepth 100000 in
theorem sh_184 : shp[184]? = some (.inl (.int, 48, [])) := by decide +kernel
theorem a_184 (SA : mSA) (hi : Nat → Nat → Int32) (hl : Nat → Nat → Int64) : mArr SA (bH hi hl) 184 = some (.int, 48, .inl (hi 184)) := g_arrI sh_184 hi hl
theorem e_184 (hi : Nat → Nat → Int32) (hl : Nat → Nat → Int64) : (bH hi hl)[184]? = some (.inl (.int, 48, .inl (hi 184))) := g_cI sh_184 hi hl
theorem w_184 (hi : Nat → Nat → Int32) (hl : Nat → Nat → Int64) (g : Nat → Int32) : (bH hi hl).set 184 (.inl (.int, 48, .inl g)) = bH (uA hi 184 g) hl := p_cpyI sh_184 hi hl g
set_option maxRecDepth 100000 in
theorem sh_185 : shp[185]? = some (.inl (.int, 256, [])) := by decide +kernel
theorem a_185 (SA : mSA) (hi : Nat → Nat → Int32) (hl : Nat → Nat → Int64) : mArr SA (bH hi hl) 185 = some (.int, 256, .inl (hi 185)) := g_arrI sh_185 hi hl
theorem e_185 (hi : Nat → Nat → Int32) (hl : Nat → Nat → Int64) : (bH hi hl)[185]? = some (.inl (.int, 256, .inl (hi 185))) := g_cI sh_185 hi hl
theorem w_185 (hi : Nat → Nat → Int32) (hl : Nat → Nat → Int64) (g : Nat → Int32) : (bH hi hl).set 185 (.inl (.int, 256, .inl g)) = bH (uA hi 185 g) hl := p_cpyI sh_185 hi hl g
set_option maxRecDepth 100000 in
theorem sh_186 : shp[186]? = some (.inl (.int, 129, [])) := by decide +kernel
theorem a_186 (SA : mSA) (hi : Nat → Nat → Int32) (hl : Nat → Nat → Int64) : mArr SA (bH hi hl) 186 = some (.int, 129, .inl (hi 186)) := g_arrI sh_186 hi hl
theorem e_186 (hi : Nat → Nat → Int32) (hl : Nat → Nat → Int64) : (bH hi hl)[186]? = some (.inl (.int, 129, .inl (hi 186))) := g_cI sh_186 hi hl
theorem w_186 (hi : Nat → Nat → Int32) (hl : Nat → Nat → Int64) (g : Nat → Int32) : (bH hi hl).set 186 (.inl (.int, 129, .inl g)) = bH (uA hi 186 g) hl := p_cpyI sh_186 hi hl g

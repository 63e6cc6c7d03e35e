/-! PART 13.91: calls of an object: the rows by number of arguments -/
theorem v_virt0 (SA : mSA) (n pe : Nat) (P : Option Value → mH → Prop) (kc ks : Nat) (os : List mO) (a : Nat) (L : mL) (st : List Value) (h : mH) (z : Nat) (r : Nat) (ci : Nat)  : wB SA n pe P kc ks ((.invokevirtual z, a, 0, .ref ci) :: os) L (.ref r :: st) h = (mWd (.ref r :: st) ≤ 8 ∧ mCls h r = some ci ∧ mCt SA 0 0 a [.ref r] h (fun w h2 => wB SA n pe P kc ks os L (w.toList ++ st) h2)) := by
  rw [b_invokevirtual, c_call0]
  exact propext ⟨fun ⟨q1, _, _, e, q2⟩ => by cases e; exact ⟨q1, q2⟩, fun ⟨q1, q2⟩ => ⟨q1, _, _, rfl, q2⟩⟩
theorem v_poly0 (SA : mSA) (n pe : Nat) (P : Option Value → mH → Prop) (kc ks : Nat) (os : List mO) (a : Nat) (L : mL) (st : List Value) (h : mH) (z : Nat) (r : Nat) (m2 : Int64)  : wB SA n pe P kc ks ((.invokevirtual z, a, 0, .long m2) :: os) L (.ref r :: st) h = (mWd (.ref r :: st) ≤ 8 ∧ ((mCls h r = some 0 ∧ mCt SA 0 0 a [.ref r] h (fun w h2 => wB SA n pe P kc ks os L (w.toList ++ st) h2)) ∨ (mCls h r = some 7 ∧ mCt SA 0 0 m2.toInt.toNat [.ref r] h (fun w h2 => wB SA n pe P kc ks os L (w.toList ++ st) h2)))) := by
  rw [b_invokepoly, c_call0]
  exact propext ⟨fun ⟨q1, _, _, e, q2⟩ => by cases e; exact ⟨q1, q2⟩, fun ⟨q1, q2⟩ => ⟨q1, _, _, rfl, q2⟩⟩
theorem v_virt1 (SA : mSA) (n pe : Nat) (P : Option Value → mH → Prop) (kc ks : Nat) (os : List mO) (a : Nat) (L : mL) (st : List Value) (h : mH) (z : Nat) (r : Nat) (ci : Nat) (a0 : Value) : wB SA n pe P kc ks ((.invokevirtual z, a, 1, .ref ci) :: os) L (a0 :: .ref r :: st) h = (mWd (.ref r :: st) ≤ 8 ∧ mCls h r = some ci ∧ mCt SA 0 0 a [.ref r, a0] h (fun w h2 => wB SA n pe P kc ks os L (w.toList ++ st) h2)) := by
  rw [b_invokevirtual, c_call1]
  exact propext ⟨fun ⟨q1, _, _, e, q2⟩ => by cases e; exact ⟨q1, q2⟩, fun ⟨q1, q2⟩ => ⟨q1, _, _, rfl, q2⟩⟩
theorem v_poly1 (SA : mSA) (n pe : Nat) (P : Option Value → mH → Prop) (kc ks : Nat) (os : List mO) (a : Nat) (L : mL) (st : List Value) (h : mH) (z : Nat) (r : Nat) (m2 : Int64) (a0 : Value) : wB SA n pe P kc ks ((.invokevirtual z, a, 1, .long m2) :: os) L (a0 :: .ref r :: st) h = (mWd (.ref r :: st) ≤ 8 ∧ ((mCls h r = some 0 ∧ mCt SA 0 0 a [.ref r, a0] h (fun w h2 => wB SA n pe P kc ks os L (w.toList ++ st) h2)) ∨ (mCls h r = some 7 ∧ mCt SA 0 0 m2.toInt.toNat [.ref r, a0] h (fun w h2 => wB SA n pe P kc ks os L (w.toList ++ st) h2)))) := by
  rw [b_invokepoly, c_call1]
  exact propext ⟨fun ⟨q1, _, _, e, q2⟩ => by cases e; exact ⟨q1, q2⟩, fun ⟨q1, q2⟩ => ⟨q1, _, _, rfl, q2⟩⟩
theorem v_virt2 (SA : mSA) (n pe : Nat) (P : Option Value → mH → Prop) (kc ks : Nat) (os : List mO) (a : Nat) (L : mL) (st : List Value) (h : mH) (z : Nat) (r : Nat) (ci : Nat) (a0 a1 : Value) : wB SA n pe P kc ks ((.invokevirtual z, a, 2, .ref ci) :: os) L (a1 :: a0 :: .ref r :: st) h = (mWd (.ref r :: st) ≤ 8 ∧ mCls h r = some ci ∧ mCt SA 0 0 a [.ref r, a0, a1] h (fun w h2 => wB SA n pe P kc ks os L (w.toList ++ st) h2)) := by
  rw [b_invokevirtual, c_call2]
  exact propext ⟨fun ⟨q1, _, _, e, q2⟩ => by cases e; exact ⟨q1, q2⟩, fun ⟨q1, q2⟩ => ⟨q1, _, _, rfl, q2⟩⟩
theorem v_poly2 (SA : mSA) (n pe : Nat) (P : Option Value → mH → Prop) (kc ks : Nat) (os : List mO) (a : Nat) (L : mL) (st : List Value) (h : mH) (z : Nat) (r : Nat) (m2 : Int64) (a0 a1 : Value) : wB SA n pe P kc ks ((.invokevirtual z, a, 2, .long m2) :: os) L (a1 :: a0 :: .ref r :: st) h = (mWd (.ref r :: st) ≤ 8 ∧ ((mCls h r = some 0 ∧ mCt SA 0 0 a [.ref r, a0, a1] h (fun w h2 => wB SA n pe P kc ks os L (w.toList ++ st) h2)) ∨ (mCls h r = some 7 ∧ mCt SA 0 0 m2.toInt.toNat [.ref r, a0, a1] h (fun w h2 => wB SA n pe P kc ks os L (w.toList ++ st) h2)))) := by
  rw [b_invokepoly, c_call2]
  exact propext ⟨fun ⟨q1, _, _, e, q2⟩ => by cases e; exact ⟨q1, q2⟩, fun ⟨q1, q2⟩ => ⟨q1, _, _, rfl, q2⟩⟩
theorem v_virt3 (SA : mSA) (n pe : Nat) (P : Option Value → mH → Prop) (kc ks : Nat) (os : List mO) (a : Nat) (L : mL) (st : List Value) (h : mH) (z : Nat) (r : Nat) (ci : Nat) (a0 a1 a2 : Value) : wB SA n pe P kc ks ((.invokevirtual z, a, 3, .ref ci) :: os) L (a2 :: a1 :: a0 :: .ref r :: st) h = (mWd (.ref r :: st) ≤ 8 ∧ mCls h r = some ci ∧ mCt SA 0 0 a [.ref r, a0, a1, a2] h (fun w h2 => wB SA n pe P kc ks os L (w.toList ++ st) h2)) := by
  rw [b_invokevirtual, c_call3]
  exact propext ⟨fun ⟨q1, _, _, e, q2⟩ => by cases e; exact ⟨q1, q2⟩, fun ⟨q1, q2⟩ => ⟨q1, _, _, rfl, q2⟩⟩
theorem v_poly3 (SA : mSA) (n pe : Nat) (P : Option Value → mH → Prop) (kc ks : Nat) (os : List mO) (a : Nat) (L : mL) (st : List Value) (h : mH) (z : Nat) (r : Nat) (m2 : Int64) (a0 a1 a2 : Value) : wB SA n pe P kc ks ((.invokevirtual z, a, 3, .long m2) :: os) L (a2 :: a1 :: a0 :: .ref r :: st) h = (mWd (.ref r :: st) ≤ 8 ∧ ((mCls h r = some 0 ∧ mCt SA 0 0 a [.ref r, a0, a1, a2] h (fun w h2 => wB SA n pe P kc ks os L (w.toList ++ st) h2)) ∨ (mCls h r = some 7 ∧ mCt SA 0 0 m2.toInt.toNat [.ref r, a0, a1, a2] h (fun w h2 => wB SA n pe P kc ks os L (w.toList ++ st) h2)))) := by
  rw [b_invokepoly, c_call3]
  exact propext ⟨fun ⟨q1, _, _, e, q2⟩ => by cases e; exact ⟨q1, q2⟩, fun ⟨q1, q2⟩ => ⟨q1, _, _, rfl, q2⟩⟩
theorem v_virt4 (SA : mSA) (n pe : Nat) (P : Option Value → mH → Prop) (kc ks : Nat) (os : List mO) (a : Nat) (L : mL) (st : List Value) (h : mH) (z : Nat) (r : Nat) (ci : Nat) (a0 a1 a2 a3 : Value) : wB SA n pe P kc ks ((.invokevirtual z, a, 4, .ref ci) :: os) L (a3 :: a2 :: a1 :: a0 :: .ref r :: st) h = (mWd (.ref r :: st) ≤ 8 ∧ mCls h r = some ci ∧ mCt SA 0 0 a [.ref r, a0, a1, a2, a3] h (fun w h2 => wB SA n pe P kc ks os L (w.toList ++ st) h2)) := by
  rw [b_invokevirtual, c_call4]
  exact propext ⟨fun ⟨q1, _, _, e, q2⟩ => by cases e; exact ⟨q1, q2⟩, fun ⟨q1, q2⟩ => ⟨q1, _, _, rfl, q2⟩⟩
theorem v_poly4 (SA : mSA) (n pe : Nat) (P : Option Value → mH → Prop) (kc ks : Nat) (os : List mO) (a : Nat) (L : mL) (st : List Value) (h : mH) (z : Nat) (r : Nat) (m2 : Int64) (a0 a1 a2 a3 : Value) : wB SA n pe P kc ks ((.invokevirtual z, a, 4, .long m2) :: os) L (a3 :: a2 :: a1 :: a0 :: .ref r :: st) h = (mWd (.ref r :: st) ≤ 8 ∧ ((mCls h r = some 0 ∧ mCt SA 0 0 a [.ref r, a0, a1, a2, a3] h (fun w h2 => wB SA n pe P kc ks os L (w.toList ++ st) h2)) ∨ (mCls h r = some 7 ∧ mCt SA 0 0 m2.toInt.toNat [.ref r, a0, a1, a2, a3] h (fun w h2 => wB SA n pe P kc ks os L (w.toList ++ st) h2)))) := by
  rw [b_invokepoly, c_call4]
  exact propext ⟨fun ⟨q1, _, _, e, q2⟩ => by cases e; exact ⟨q1, q2⟩, fun ⟨q1, q2⟩ => ⟨q1, _, _, rfl, q2⟩⟩
theorem v_virt5 (SA : mSA) (n pe : Nat) (P : Option Value → mH → Prop) (kc ks : Nat) (os : List mO) (a : Nat) (L : mL) (st : List Value) (h : mH) (z : Nat) (r : Nat) (ci : Nat) (a0 a1 a2 a3 a4 : Value) : wB SA n pe P kc ks ((.invokevirtual z, a, 5, .ref ci) :: os) L (a4 :: a3 :: a2 :: a1 :: a0 :: .ref r :: st) h = (mWd (.ref r :: st) ≤ 8 ∧ mCls h r = some ci ∧ mCt SA 0 0 a [.ref r, a0, a1, a2, a3, a4] h (fun w h2 => wB SA n pe P kc ks os L (w.toList ++ st) h2)) := by
  rw [b_invokevirtual, c_call5]
  exact propext ⟨fun ⟨q1, _, _, e, q2⟩ => by cases e; exact ⟨q1, q2⟩, fun ⟨q1, q2⟩ => ⟨q1, _, _, rfl, q2⟩⟩
theorem v_poly5 (SA : mSA) (n pe : Nat) (P : Option Value → mH → Prop) (kc ks : Nat) (os : List mO) (a : Nat) (L : mL) (st : List Value) (h : mH) (z : Nat) (r : Nat) (m2 : Int64) (a0 a1 a2 a3 a4 : Value) : wB SA n pe P kc ks ((.invokevirtual z, a, 5, .long m2) :: os) L (a4 :: a3 :: a2 :: a1 :: a0 :: .ref r :: st) h = (mWd (.ref r :: st) ≤ 8 ∧ ((mCls h r = some 0 ∧ mCt SA 0 0 a [.ref r, a0, a1, a2, a3, a4] h (fun w h2 => wB SA n pe P kc ks os L (w.toList ++ st) h2)) ∨ (mCls h r = some 7 ∧ mCt SA 0 0 m2.toInt.toNat [.ref r, a0, a1, a2, a3, a4] h (fun w h2 => wB SA n pe P kc ks os L (w.toList ++ st) h2)))) := by
  rw [b_invokepoly, c_call5]
  exact propext ⟨fun ⟨q1, _, _, e, q2⟩ => by cases e; exact ⟨q1, q2⟩, fun ⟨q1, q2⟩ => ⟨q1, _, _, rfl, q2⟩⟩
theorem v_virt6 (SA : mSA) (n pe : Nat) (P : Option Value → mH → Prop) (kc ks : Nat) (os : List mO) (a : Nat) (L : mL) (st : List Value) (h : mH) (z : Nat) (r : Nat) (ci : Nat) (a0 a1 a2 a3 a4 a5 : Value) : wB SA n pe P kc ks ((.invokevirtual z, a, 6, .ref ci) :: os) L (a5 :: a4 :: a3 :: a2 :: a1 :: a0 :: .ref r :: st) h = (mWd (.ref r :: st) ≤ 8 ∧ mCls h r = some ci ∧ mCt SA 0 0 a [.ref r, a0, a1, a2, a3, a4, a5] h (fun w h2 => wB SA n pe P kc ks os L (w.toList ++ st) h2)) := by
  rw [b_invokevirtual, c_call6]
  exact propext ⟨fun ⟨q1, _, _, e, q2⟩ => by cases e; exact ⟨q1, q2⟩, fun ⟨q1, q2⟩ => ⟨q1, _, _, rfl, q2⟩⟩
theorem v_poly6 (SA : mSA) (n pe : Nat) (P : Option Value → mH → Prop) (kc ks : Nat) (os : List mO) (a : Nat) (L : mL) (st : List Value) (h : mH) (z : Nat) (r : Nat) (m2 : Int64) (a0 a1 a2 a3 a4 a5 : Value) : wB SA n pe P kc ks ((.invokevirtual z, a, 6, .long m2) :: os) L (a5 :: a4 :: a3 :: a2 :: a1 :: a0 :: .ref r :: st) h = (mWd (.ref r :: st) ≤ 8 ∧ ((mCls h r = some 0 ∧ mCt SA 0 0 a [.ref r, a0, a1, a2, a3, a4, a5] h (fun w h2 => wB SA n pe P kc ks os L (w.toList ++ st) h2)) ∨ (mCls h r = some 7 ∧ mCt SA 0 0 m2.toInt.toNat [.ref r, a0, a1, a2, a3, a4, a5] h (fun w h2 => wB SA n pe P kc ks os L (w.toList ++ st) h2)))) := by
  rw [b_invokepoly, c_call6]
  exact propext ⟨fun ⟨q1, _, _, e, q2⟩ => by cases e; exact ⟨q1, q2⟩, fun ⟨q1, q2⟩ => ⟨q1, _, _, rfl, q2⟩⟩
theorem v_virt7 (SA : mSA) (n pe : Nat) (P : Option Value → mH → Prop) (kc ks : Nat) (os : List mO) (a : Nat) (L : mL) (st : List Value) (h : mH) (z : Nat) (r : Nat) (ci : Nat) (a0 a1 a2 a3 a4 a5 a6 : Value) : wB SA n pe P kc ks ((.invokevirtual z, a, 7, .ref ci) :: os) L (a6 :: a5 :: a4 :: a3 :: a2 :: a1 :: a0 :: .ref r :: st) h = (mWd (.ref r :: st) ≤ 8 ∧ mCls h r = some ci ∧ mCt SA 0 0 a [.ref r, a0, a1, a2, a3, a4, a5, a6] h (fun w h2 => wB SA n pe P kc ks os L (w.toList ++ st) h2)) := by
  rw [b_invokevirtual, c_call7]
  exact propext ⟨fun ⟨q1, _, _, e, q2⟩ => by cases e; exact ⟨q1, q2⟩, fun ⟨q1, q2⟩ => ⟨q1, _, _, rfl, q2⟩⟩
theorem v_poly7 (SA : mSA) (n pe : Nat) (P : Option Value → mH → Prop) (kc ks : Nat) (os : List mO) (a : Nat) (L : mL) (st : List Value) (h : mH) (z : Nat) (r : Nat) (m2 : Int64) (a0 a1 a2 a3 a4 a5 a6 : Value) : wB SA n pe P kc ks ((.invokevirtual z, a, 7, .long m2) :: os) L (a6 :: a5 :: a4 :: a3 :: a2 :: a1 :: a0 :: .ref r :: st) h = (mWd (.ref r :: st) ≤ 8 ∧ ((mCls h r = some 0 ∧ mCt SA 0 0 a [.ref r, a0, a1, a2, a3, a4, a5, a6] h (fun w h2 => wB SA n pe P kc ks os L (w.toList ++ st) h2)) ∨ (mCls h r = some 7 ∧ mCt SA 0 0 m2.toInt.toNat [.ref r, a0, a1, a2, a3, a4, a5, a6] h (fun w h2 => wB SA n pe P kc ks os L (w.toList ++ st) h2)))) := by
  rw [b_invokepoly, c_call7]
  exact propext ⟨fun ⟨q1, _, _, e, q2⟩ => by cases e; exact ⟨q1, q2⟩, fun ⟨q1, q2⟩ => ⟨q1, _, _, rfl, q2⟩⟩
theorem v_spec0 (SA : mSA) (n pe : Nat) (P : Option Value → mH → Prop) (kc ks : Nat) (os : List mO) (a : Nat) (L : mL) (st : List Value) (h : mH) (z : Nat) (r : Nat) (v : Value)  (hz : ¬ a = 9000) : wB SA n pe P kc ks ((.invokespecial z, a, 0, v) :: os) L (.ref r :: st) h = (mWd (.ref r :: st) ≤ 8 ∧ ∃ mc ms, mc ≤ kc ∧ ms ≤ ks ∧ mCt SA mc ms a [.ref r] h (fun w h2 => wB SA n pe P (kc - mc) (ks - ms) os L (w.toList ++ st) h2)) := by
  rw [b_invokespecial (hz := hz), c_call0]
  exact propext ⟨fun ⟨q1, _, _, mc, ms, e, q2⟩ => by cases e; exact ⟨q1, mc, ms, q2⟩, fun ⟨q1, mc, ms, q2⟩ => ⟨q1, _, _, mc, ms, rfl, q2⟩⟩
theorem v_spec1 (SA : mSA) (n pe : Nat) (P : Option Value → mH → Prop) (kc ks : Nat) (os : List mO) (a : Nat) (L : mL) (st : List Value) (h : mH) (z : Nat) (r : Nat) (v : Value) (a0 : Value) (hz : ¬ a = 9000) : wB SA n pe P kc ks ((.invokespecial z, a, 1, v) :: os) L (a0 :: .ref r :: st) h = (mWd (.ref r :: st) ≤ 8 ∧ ∃ mc ms, mc ≤ kc ∧ ms ≤ ks ∧ mCt SA mc ms a [.ref r, a0] h (fun w h2 => wB SA n pe P (kc - mc) (ks - ms) os L (w.toList ++ st) h2)) := by
  rw [b_invokespecial (hz := hz), c_call1]
  exact propext ⟨fun ⟨q1, _, _, mc, ms, e, q2⟩ => by cases e; exact ⟨q1, mc, ms, q2⟩, fun ⟨q1, mc, ms, q2⟩ => ⟨q1, _, _, mc, ms, rfl, q2⟩⟩
theorem v_spec2 (SA : mSA) (n pe : Nat) (P : Option Value → mH → Prop) (kc ks : Nat) (os : List mO) (a : Nat) (L : mL) (st : List Value) (h : mH) (z : Nat) (r : Nat) (v : Value) (a0 a1 : Value) (hz : ¬ a = 9000) : wB SA n pe P kc ks ((.invokespecial z, a, 2, v) :: os) L (a1 :: a0 :: .ref r :: st) h = (mWd (.ref r :: st) ≤ 8 ∧ ∃ mc ms, mc ≤ kc ∧ ms ≤ ks ∧ mCt SA mc ms a [.ref r, a0, a1] h (fun w h2 => wB SA n pe P (kc - mc) (ks - ms) os L (w.toList ++ st) h2)) := by
  rw [b_invokespecial (hz := hz), c_call2]
  exact propext ⟨fun ⟨q1, _, _, mc, ms, e, q2⟩ => by cases e; exact ⟨q1, mc, ms, q2⟩, fun ⟨q1, mc, ms, q2⟩ => ⟨q1, _, _, mc, ms, rfl, q2⟩⟩
theorem nar_b0 : mNarV (.int 1) 0 = True := by unfold mNarV; simp
theorem nar_b1 : mNarV (.int 1) 1 = True := by unfold mNarV; simp
theorem nar_i (x : Int32) : mNarV (.int 0) x = True := by unfold mNarV; simp
theorem wLen_b (n : Nat) (x : (Nat → Int32) ⊕ (Nat → Int64) ⊕ (Nat → UInt32) ⊕ (Nat → UInt64) ⊕ (Nat → Option Nat)) (K : Value → Prop) : wLen (some (.byte, n, x)) K = K (.int (nI n)) := by rw [wLen_some]; simp
theorem wLen_i (n : Nat) (x : (Nat → Int32) ⊕ (Nat → Int64) ⊕ (Nat → UInt32) ⊕ (Nat → UInt64) ⊕ (Nat → Option Nat)) (K : Value → Prop) : wLen (some (.int, n, x)) K = K (.int (nI n)) := by rw [wLen_some]; simp
theorem wLen_l (n : Nat) (x : (Nat → Int32) ⊕ (Nat → Int64) ⊕ (Nat → UInt32) ⊕ (Nat → UInt64) ⊕ (Nat → Option Nat)) (K : Value → Prop) : wLen (some (.long, n, x)) K = K (.int (nI n)) := by rw [wLen_some]; simp
theorem cl_0 : (0 : Int32).toNatClampNeg = 0 := by decide
theorem cl_1 : (1 : Int32).toNatClampNeg = 1 := by decide
theorem cl_2 : (2 : Int32).toNatClampNeg = 2 := by decide
theorem cl_3 : (3 : Int32).toNatClampNeg = 3 := by decide
theorem cl_4 : (4 : Int32).toNatClampNeg = 4 := by decide
theorem cl_5 : (5 : Int32).toNatClampNeg = 5 := by decide
theorem cl_6 : (6 : Int32).toNatClampNeg = 6 := by decide
theorem cl_7 : (7 : Int32).toNatClampNeg = 7 := by decide
theorem cl_8 : (8 : Int32).toNatClampNeg = 8 := by decide
theorem cl_9 : (9 : Int32).toNatClampNeg = 9 := by decide
theorem cl_10 : (10 : Int32).toNatClampNeg = 10 := by decide
theorem cl_11 : (11 : Int32).toNatClampNeg = 11 := by decide
theorem cl_12 : (12 : Int32).toNatClampNeg = 12 := by decide
theorem cl_13 : (13 : Int32).toNatClampNeg = 13 := by decide
theorem cl_14 : (14 : Int32).toNatClampNeg = 14 := by decide
theorem cl_15 : (15 : Int32).toNatClampNeg = 15 := by decide
theorem cl_16 : (16 : Int32).toNatClampNeg = 16 := by decide
theorem cl_17 : (17 : Int32).toNatClampNeg = 17 := by decide
theorem cl_18 : (18 : Int32).toNatClampNeg = 18 := by decide
theorem cl_19 : (19 : Int32).toNatClampNeg = 19 := by decide
theorem cl_20 : (20 : Int32).toNatClampNeg = 20 := by decide
theorem cl_21 : (21 : Int32).toNatClampNeg = 21 := by decide
theorem cl_22 : (22 : Int32).toNatClampNeg = 22 := by decide
theorem cl_23 : (23 : Int32).toNatClampNeg = 23 := by decide
theorem cl_24 : (24 : Int32).toNatClampNeg = 24 := by decide
theorem cl_25 : (25 : Int32).toNatClampNeg = 25 := by decide
theorem cl_26 : (26 : Int32).toNatClampNeg = 26 := by decide
theorem cl_27 : (27 : Int32).toNatClampNeg = 27 := by decide
theorem cl_28 : (28 : Int32).toNatClampNeg = 28 := by decide
theorem cl_29 : (29 : Int32).toNatClampNeg = 29 := by decide
theorem cl_30 : (30 : Int32).toNatClampNeg = 30 := by decide
theorem cl_31 : (31 : Int32).toNatClampNeg = 31 := by decide
theorem cl_32 : (32 : Int32).toNatClampNeg = 32 := by decide
theorem cl_33 : (33 : Int32).toNatClampNeg = 33 := by decide
theorem cl_34 : (34 : Int32).toNatClampNeg = 34 := by decide
theorem cl_35 : (35 : Int32).toNatClampNeg = 35 := by decide
theorem cl_36 : (36 : Int32).toNatClampNeg = 36 := by decide
theorem cl_37 : (37 : Int32).toNatClampNeg = 37 := by decide
theorem cl_38 : (38 : Int32).toNatClampNeg = 38 := by decide
theorem cl_39 : (39 : Int32).toNatClampNeg = 39 := by decide
theorem cl_40 : (40 : Int32).toNatClampNeg = 40 := by decide
theorem cl_41 : (41 : Int32).toNatClampNeg = 41 := by decide
theorem cl_42 : (42 : Int32).toNatClampNeg = 42 := by decide
theorem cl_43 : (43 : Int32).toNatClampNeg = 43 := by decide
theorem cl_44 : (44 : Int32).toNatClampNeg = 44 := by decide
theorem cl_45 : (45 : Int32).toNatClampNeg = 45 := by decide
theorem cl_46 : (46 : Int32).toNatClampNeg = 46 := by decide
theorem cl_47 : (47 : Int32).toNatClampNeg = 47 := by decide
theorem cl_48 : (48 : Int32).toNatClampNeg = 48 := by decide
theorem cl_49 : (49 : Int32).toNatClampNeg = 49 := by decide
theorem cl_50 : (50 : Int32).toNatClampNeg = 50 := by decide
theorem cl_51 : (51 : Int32).toNatClampNeg = 51 := by decide
theorem cl_52 : (52 : Int32).toNatClampNeg = 52 := by decide
theorem cl_53 : (53 : Int32).toNatClampNeg = 53 := by decide
theorem cl_54 : (54 : Int32).toNatClampNeg = 54 := by decide
theorem cl_55 : (55 : Int32).toNatClampNeg = 55 := by decide
theorem cl_56 : (56 : Int32).toNatClampNeg = 56 := by decide
theorem cl_57 : (57 : Int32).toNatClampNeg = 57 := by decide
theorem cl_58 : (58 : Int32).toNatClampNeg = 58 := by decide
theorem cl_59 : (59 : Int32).toNatClampNeg = 59 := by decide
theorem cl_60 : (60 : Int32).toNatClampNeg = 60 := by decide
theorem cl_61 : (61 : Int32).toNatClampNeg = 61 := by decide
theorem cl_62 : (62 : Int32).toNatClampNeg = 62 := by decide
theorem cl_63 : (63 : Int32).toNatClampNeg = 63 := by decide
theorem cl_64 : (64 : Int32).toNatClampNeg = 64 := by decide
theorem cl_65 : (65 : Int32).toNatClampNeg = 65 := by decide
theorem cl_66 : (66 : Int32).toNatClampNeg = 66 := by decide
theorem cl_67 : (67 : Int32).toNatClampNeg = 67 := by decide
theorem cl_68 : (68 : Int32).toNatClampNeg = 68 := by decide
theorem cl_69 : (69 : Int32).toNatClampNeg = 69 := by decide
theorem cl_70 : (70 : Int32).toNatClampNeg = 70 := by decide
theorem cl_71 : (71 : Int32).toNatClampNeg = 71 := by decide
theorem cl_72 : (72 : Int32).toNatClampNeg = 72 := by decide
theorem cl_73 : (73 : Int32).toNatClampNeg = 73 := by decide
theorem cl_74 : (74 : Int32).toNatClampNeg = 74 := by decide
theorem cl_75 : (75 : Int32).toNatClampNeg = 75 := by decide
theorem cl_76 : (76 : Int32).toNatClampNeg = 76 := by decide
theorem cl_77 : (77 : Int32).toNatClampNeg = 77 := by decide
theorem cl_78 : (78 : Int32).toNatClampNeg = 78 := by decide
theorem cl_79 : (79 : Int32).toNatClampNeg = 79 := by decide
theorem cl_80 : (80 : Int32).toNatClampNeg = 80 := by decide
theorem vin {i : Int32} {n : Nat} (h : (decide (i < 0) || decide (n ≤ i.toNatClampNeg)) = false) : vp_in i n := by
  simp only [Bool.or_eq_false_iff, decide_eq_false_iff_not] at h
  exact fun q => q.elim h.1 h.2

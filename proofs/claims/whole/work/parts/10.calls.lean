/-! PART 10: calls over pictures, and a method's contract out of its code (m_met) -/
theorem mWd_eq (st : List Value) : (st.map fun v => v.category).sum = mWd st := by
  induction st with
  | nil => rfl
  | cons a t ih => simp only [List.map_cons, List.sum_cons, ih, mWd]
theorem mPop_eq : ∀ (k : Nat) (acc st as r : List Value), mPop k acc st = some (as, r) → as.reverse ++ r = acc.reverse ++ st ∧ as.length = acc.length + k
  | 0, acc, st, as, r, h => by
    simp only [mPop, Option.some.injEq, Prod.mk.injEq] at h
    obtain ⟨rfl, rfl⟩ := h
    exact ⟨rfl, rfl⟩
  | k + 1, acc, [], as, r, h => by simp [mPop] at h
  | k + 1, acc, v :: st, as, r, h => by
    obtain ⟨h1, h2⟩ := mPop_eq k (v :: acc) st as r h
    refine ⟨by rw [h1]; simp, by rw [h2]; simp; omega⟩
theorem mGood (a : Nat) (ha : a < 243) : GoodIn mAllW (mWs a) := by
  intro w hw
  rcases List.mem_cons.mp hw with rfl | hw
  · exact ⟨mCode_ok ha, good_of_word (List.mem_filter.mp (mCode_ok ha)).2⟩
  · exact ⟨hw, good_of_word (List.mem_filter.mp hw).2⟩
theorem mBlind {D : va_G} {dA : FieldType → ClassId} {ad : Nat → Nat} {B : Nat} {SA : mSA} {h : mH} {as : List Value} : FrameBlind (va_Pc as (mPre D dA ad B SA h)) := by
  intro a U g mk q
  exact ⟨q.1, mK_calling g mk a q.2.1, q.2.2⟩
theorem m_call {p : Program} {l : Launch} {e : Env} {R : Room} {s : State} {m : MethodId} {args : Array Value} {below : List Frame} {meth : Method} {c : Code} {H : Heap} {locs : List Loc} {cells slots mc ms pc : Nat} {ls : Array Slot} {st0 rest : List Value} {Qf : State → Prop} {D : va_G} {dA : FieldType → ClassId} {ad : Nat → Nat} {B : Nat} {h : mH} {Q : Option Value → mH → Prop} {a : Array Value}
    (hr : va_Run p l e R s m args below meth c H locs cells slots mc ms (F0 m pc ls st0) rest (mPost D dA ad B mc h Q a) (fun q => B ≤ q)) (hR : mR D dA ad B s h H locs cells)
    (kk : ∀ v h' H1 locs1, Q v h' → mR D dA ad B s h' H1 locs1 (cells + mc) → W p l e R s m args below meth c H1 locs1 (cells + mc) (slots + ms) Qf (F0 m (pc + 3) ls ((v.map (tv ad)).toList ++ rest))) : W p l e R s m args below meth c H locs cells slots Qf (F0 m pc ls st0) := by
  intro T hT X
  obtain ⟨v, st₀, t, T', L, h0, X', hL, e1, e2, ⟨⟨w, h', hv, hq, hP', hl1, hl2, hf⟩, hz, hkp⟩, st⟩ := hr T hT X
  cases hv
  rw [h0] at hz hkp
  obtain ⟨-, hS, h3, h4, h5, h6⟩ := hR
  have hS' : va_S (fun q => B ≤ q) s.heap T'.heap (locs ++ L) := by
    refine ⟨by rw [e1]; exact Nat.le_trans hS.1 hz, fun q g1 g2 => ?_, fun q hq => ?_⟩
    · rw [e1, hkp q (Nat.lt_of_lt_of_le g1 hS.1) g2]; exact hS.2.1 q g1 g2
    · rcases List.mem_append.mp hq with h | h
      · exact hS.2.2 q h
      · exact hL q h
  obtain ⟨t2, a1, b1⟩ := kk w h' T'.heap (locs ++ L) hq ⟨by rw [e1]; exact hP', hS', by omega, hl2, hf, h6⟩ T' rfl X'
  exact ⟨t2, st t2 a1, b1⟩
theorem mArgs_ok {y : MethodName} {k : Nat} (h : mArgsB y k = true) : (y.cls ≠ "java/lang/invoke/MethodHandle" ∧ y.cls ≠ "java/lang/invoke/VarHandle") ∧ ∀ sig, parseMethodDescriptor y.desc = some sig → k = sig.parameters.length := by
  simp only [mArgsB, mNotMH, Bool.and_eq_true, decide_eq_true_eq] at h
  refine ⟨h.2, fun sig hs => ?_⟩
  have h2 := h.1
  rw [hs] at h2
  exact (Option.some.inj h2).symm
section
variable {SA : mSA} {kc ks n pc : Nat} {L : mL} {h : mH} {P : Option Value → mH → Prop} {r : List Value}
theorem mTl (ad : Nat → Nat) (v : Option Value) (r : List Value) : (v.toList ++ r).map (tv ad) = (v.map (tv ad)).toList ++ r.map (tv ad) := by cases v <;> simp
theorem mBackB {p : Program} {l : Launch} {e : Env} {R : Room} {s : State} {m : MethodId} {args : Array Value} {below : List Frame} {meth : Method} {c : Code} {D : va_G} {dA : FieldType → ClassId} {ad : Nat → Nat} {B : Nat} {Qf : State → Prop} {mc0 a idx k mc ms : Nat} (hC : mC p l e R s m args below meth c D dA ad B Qf SA n mc0 P) (ha : a < 243) (har : mArgsB (mt a).1 k = true) (hrm : mRoomB n a = true) (hi : Cond.initialized (mt a).1.cls ∈ mAllW) (hw : Cond.methodLink (mt n).1.cls idx (mt a).1 ∈ mAllW) :
    CallB R s args (mt n).1.cls idx (mt a).1 (mBy (mt a)) (mLo (mt a)) (mRe (mt a)) (mWs a) { frames := mFr (mt a), cells := mc, slots := ms, locals := mWo (mt a) } mc ms k := by
  have hts := hC.2.2.2.2.1
  have hfr := hC.2.2.2.2.2.2.1
  have hlo := hC.2.2.2.2.2.2.2.1
  simp only [mRoomB, Bool.and_eq_true, decide_eq_true_eq] at hrm
  obtain ⟨q1, q2⟩ := mArgs_ok har
  exact ⟨rfl, rfl, Nat.le_trans hrm.1 hfr, Nat.le_trans hrm.2 hlo, pay_in hts (mGood a ha), List.mem_cons_self, hts _ (mCode_ok ha), hts _ hi, q1, q2, hts _ hw⟩
theorem s_static {a idx k : Nat} {as : List Value} (ha : a < 243) (har : mArgsB (mt a).1 k = true) (hrm : mRoomB n a = true) (hi : Cond.initialized (mt a).1.cls ∈ mAllW) (hw : Cond.methodLink (mt n).1.cls idx (mt a).1 ∈ mAllW) (hst : Cond.static (mt a).1 ∈ mAllW) (hln : as.length = k) (hwd : mWd r ≤ 8) (hd : decode (mBy (mt n)) pc = .ok (.invokestatic idx, 3))
    (hct : mCt SA 0 0 a as h (fun v h' => mV SA kc ks n (pc + 3) L (v.toList ++ r) h' P)) : mV SA kc ks n pc L (as.reverse ++ r) h P := by
  intro p l e R s m args below meth c D dA ad B Qf mc0 H locs cells slots ls hC hc hs hR hL
  intro T hT X
  have hK := hC.2.2.2.2.2.2.2.2.1
  have hsz := mSize hK.2.1 hR hT X
  have hmc := hC.2.2.2.2.2.2.2.2.2.1
  refine m_call (mc := 0) (ms := 0) (va_runS (As := as.map (tv ad)) (rest := r.map (tv ad)) ⟨hC.1, hC.2.1, hC.2.2.1, hC.2.2.2.1, hC.2.2.2.2.1⟩ (hct l D dA ad B) ⟨mBackB (k := k) hC ha har hrm hi hw, hC.2.2.2.2.1 _ hst⟩ ⟨mBlind, fun U hU hW => ⟨rfl, mK_moved hK hR.2.1 hU hW, by rw [hU]; exact hR.1, by rw [hU]; exact hsz, hR.2.2.2.1, hR.2.2.2.2.1⟩⟩ rfl (by rw [List.length_map]; exact hln) hL.1 (by show List.map (tv ad) (as.reverse ++ r) = _; rw [List.map_append, List.map_reverse]) (lv_room (by rw [tv_cats, mWd_eq]; exact hwd)) hd ⟨by omega, by omega⟩) hR (fun v h' H1 locs1 hq hR1 => ?_) T hT X
  rw [← mTl]
  exact hq p l e R s m args below meth c D dA ad B Qf mc0 H1 locs1 (cells + 0) (slots + 0) ls hC hc hs hR1 hL
theorem s_special {a idx k b mc ms : Nat} {as : List Value} (ha : a < 243) (har : mArgsB (mt a).1 k = true) (hrm : mRoomB n a = true) (hi : Cond.initialized (mt a).1.cls ∈ mAllW) (hw : Cond.methodLink (mt n).1.cls idx (mt a).1 ∈ mAllW ∨ Cond.methodLinkNest (mt n).1.cls idx (mt a).1 RX9 ∈ mNW) (hin : Cond.instanceMethod (mt a).1 ∈ mAllW) (hnm : (mt a).1.name = "<init>") (hre : mRe (mt a) = none) (hln : as.length = k) (hwd : mWd r ≤ 8) (hmc : mc ≤ kc) (hms : ms ≤ ks) (hd : decode (mBy (mt n)) pc = .ok (.invokespecial idx, 3))
    (hct : mCt SA mc ms a (.ref b :: as) h (fun v h' => mV SA (kc - mc) (ks - ms) n (pc + 3) L (v.toList ++ r) h' P)) : mV SA kc ks n pc L (as.reverse ++ .ref b :: r) h P := by
  intro p l e R s m args below meth c D dA ad B Qf mc0 H locs cells slots ls hC hc hs hR hL
  intro T hT X
  have hK := hC.2.2.2.2.2.2.2.2.1
  have hsz := mSize hK.2.1 hR hT X
  have hmc0 := hC.2.2.2.2.2.2.2.2.2.1
  have hts := hC.2.2.2.2.1
  have hpre : PreS s H (va_Pc ((Value.ref b :: as).map (tv ad)) (mPre D dA ad B SA h)) (.ref (ad b) :: as.map (tv ad)) := ⟨mBlind, fun U hU hW => ⟨rfl, mK_moved hK hR.2.1 hU hW, by rw [hU]; exact hR.1, by rw [hU]; exact hsz, hR.2.2.2.1, hR.2.2.2.2.1⟩⟩
  have hstk : (F0 m pc ls ((as.reverse ++ Value.ref b :: r).map (tv ad))).stack = (as.map (tv ad)).reverse ++ .ref (ad b) :: r.map (tv ad) := by
    show List.map (tv ad) (as.reverse ++ Value.ref b :: r) = _
    rw [List.map_append, List.map_reverse]; rfl
  have fin : va_Run p l e R s m args below meth c H locs cells slots mc ms (F0 m pc ls ((as.reverse ++ Value.ref b :: r).map (tv ad))) (r.map (tv ad)) (mPost D dA ad B mc h (fun v h' => mV SA (kc - mc) (ks - ms) n (pc + 3) L (v.toList ++ r) h' P) (Value.ref (ad b) :: as.map (tv ad)).toArray) (fun q => B ≤ q) := by
    have hM := hct l D dA ad B
    rcases hw with hw | hw
    · have hB := mBackB (k := k) (mc := mc) (ms := ms) hC ha har hrm hi hw
      rw [hre] at hB
      exact va_runI (As := as.map (tv ad)) (rest := r.map (tv ad)) ⟨hC.1, hC.2.1, hC.2.2.1, hC.2.2.2.1, hts⟩ hM ⟨hB, hnm, hts _ hin⟩ hpre rfl (by rw [List.length_map]; exact hln) hL.1 hstk (lv_room (by rw [tv_cats, mWd_eq]; exact hwd)) hd ⟨by omega, by omega⟩
    · have hrm2 := hrm
      simp only [mRoomB, Bool.and_eq_true, decide_eq_true_eq] at hrm2
      obtain ⟨q1, q2⟩ := mArgs_ok har
      have hcode := hts _ (mCode_ok ha)
      have hcm : Cond.code (mt a).1 (mBy (mt a)) (mLo (mt a)) (mRe (mt a)) ∈ mWs a := List.mem_cons_self
      rw [hre] at hcode hcm
      exact va_runIN (host := RX9) (As := as.map (tv ad)) (rest := r.map (tv ad)) ⟨hC.1, hC.2.1, hC.2.2.1, hC.2.2.2.1, hts⟩ hM ⟨⟨⟨rfl, rfl, Nat.le_trans hrm2.1 hC.2.2.2.2.2.2.1, Nat.le_trans hrm2.2 hC.2.2.2.2.2.2.2.1, pay_in hts (mGood a ha), hcm⟩, hcode, hts _ hi, q1, q2, va_Nw.use rfl (hK.2.2.2.2.2.2 _ hw)⟩, hnm, hts _ hin⟩ hpre rfl (by rw [List.length_map]; exact hln) hL.1 hstk (lv_room (by rw [tv_cats, mWd_eq]; exact hwd)) hd ⟨by omega, by omega⟩
  refine m_call fin hR (fun v h' H1 locs1 hq hR1 => ?_) T hT X
  rw [← mTl]
  exact hq p l e R s m args below meth c D dA ad B Qf mc0 H1 locs1 (cells + mc) (slots + ms) ls hC (by omega) (by omega) hR1 hL
theorem mCls_recv {p : Program} {l : Launch} {e : Env} {R : Room} {s : State} {m : MethodId} {args : Array Value} {below : List Frame} {meth : Method} {c : Code} {D : va_G} {dA : FieldType → ClassId} {ad : Nat → Nat} {B : Nat} {Qf : State → Prop} {mc0 k ci cells : Nat} {H : Heap} {locs : List Loc} (hC : mC p l e R s m args below meth c D dA ad B Qf SA n mc0 P) (hR : mR D dA ad B s h H locs cells) (hk : mCls h k = some ci) : ∃ cellB : Cell, H[ad k]? = some cellB ∧ cellB.vm.isStatics = false ∧ s.vm.findClass (mClsN ci) = some cellB.cls := by
  have hK := hC.2.2.2.2.2.2.2.2.1
  unfold mCls at hk
  split at hk
  · split at hk
    · rename_i o hq
      obtain ⟨oc, ofs⟩ := o
      cases hk
      have he := tW_get (dA := dA) (ad := ad) hq
      obtain ⟨w, hw, -⟩ := hR.1 k _ he
      have h9 : ¬ oc = 999 := by
        intro z
        subst z
        simp [vwCl] at hw
      have := va_recv hK.1 hR.1 hw he
      unfold mClsN
      rw [if_neg h9, hw]
      exact this
    · cases hk
  · split at hk
    · rename_i h2
      cases hk
      obtain ⟨g1, -, -⟩ := hK.2.2.2.2.1 (k - 2000000) (by omega)
      rw [show 2000000 + (k - 2000000) = k by omega] at g1
      obtain ⟨cell, e1, e2, e3, -⟩ := g1.kept (H1 := H) (fun a ha hna => hR.2.1.2.1 a ha hna)
      exact ⟨cell, e1, e2, e3⟩
    · cases hk
theorem s_virtual {a idx k b ci p0 : Nat} {q : List Nat} {as : List Value} (hv : mVirtB (mt n).1.cls idx ci a k p0 q = true) (hrm : mRoomB n a = true) (hci : mCls h b = some ci) (hln : as.length = k) (hwd : mWd r ≤ 8) (hd : decode (mBy (mt n)) pc = .ok (.invokevirtual idx, 3))
    (hct : mCt SA 0 0 a (.ref b :: as) h (fun v h' => mV SA kc ks n (pc + 3) L (v.toList ++ r) h' P)) : mV SA kc ks n pc L (as.reverse ++ .ref b :: r) h P := by
  intro p l e R s m args below meth c D dA ad B Qf mc0 H locs cells slots ls hC hc hs hR hL
  intro T hT X
  have hK := hC.2.2.2.2.2.2.2.2.1
  have hsz := mSize hK.2.1 hR hT X
  have hmc0 := hC.2.2.2.2.2.2.2.2.2.1
  have hts := hC.2.2.2.2.1
  simp only [mVirtB, Bool.and_eq_true, Bool.or_eq_true, decide_eq_true_eq] at hv
  obtain ⟨⟨⟨⟨ha, har⟩, hin⟩, hini⟩, hor⟩ := hv
  have hpre : PreV s H (mClsN ci) (ad b) (va_Pc ((Value.ref b :: as).map (tv ad)) (mPre D dA ad B SA h)) (as.map (tv ad)) := ⟨mBlind, mCls_recv hC hR hci, fun U hU hW => ⟨rfl, mK_moved hK hR.2.1 hU hW, by rw [hU]; exact hR.1, by rw [hU]; exact hsz, hR.2.2.2.1, hR.2.2.2.2.1⟩⟩
  have hstk : (F0 m pc ls ((as.reverse ++ Value.ref b :: r).map (tv ad))).stack = (as.map (tv ad)).reverse ++ .ref (ad b) :: r.map (tv ad) := by
    show List.map (tv ad) (as.reverse ++ Value.ref b :: r) = _
    rw [List.map_append, List.map_reverse]; rfl
  have fin : va_Run p l e R s m args below meth c H locs cells slots 0 0 (F0 m pc ls ((as.reverse ++ Value.ref b :: r).map (tv ad))) (r.map (tv ad)) (mPost D dA ad B 0 h (fun v h' => mV SA kc ks n (pc + 3) L (v.toList ++ r) h' P) (Value.ref (ad b) :: as.map (tv ad)).toArray) (fun q => B ≤ q) := by
    have hM := hct l D dA ad B
    rcases hor with ⟨hw, hsel⟩ | ⟨⟨⟨hw, hsm⟩, hsel⟩, hdcl⟩
    · exact va_runV (C := mClsN ci) (As := as.map (tv ad)) (rest := r.map (tv ad)) ⟨hC.1, hC.2.1, hC.2.2.1, hC.2.2.2.1, hts⟩ hM ⟨mBackB (k := k) hC ha har hrm (mAt_in hini) (mAt_in hw), hts _ (mAt_in hin), hts _ (mAt_in hsel)⟩ hpre rfl (by rw [List.length_map]; exact hln) hL.1 hstk (lv_room (by rw [tv_cats, mWd_eq]; exact hwd)) hd ⟨by omega, by omega⟩
    · have hrm2 := hrm
      simp only [mRoomB, Bool.and_eq_true, decide_eq_true_eq] at hrm2
      obtain ⟨q1, q2⟩ := mArgs_ok har
      exact va_runU (C := mClsN ci) (owner := RX1) (x := ⟨RX1, (mt a).1.name, (mt a).1.desc⟩) (As := as.map (tv ad)) (rest := r.map (tv ad)) ⟨hC.1, hC.2.1, hC.2.2.1, hC.2.2.2.1, hts⟩ hM ⟨⟨rfl, rfl, Nat.le_trans hrm2.1 hC.2.2.2.2.2.2.1, Nat.le_trans hrm2.2 hC.2.2.2.2.2.2.2.1, pay_in hts (mGood a ha), List.mem_cons_self⟩, hts _ (mCode_ok ha), hts _ (mAt_in hini), ⟨by decide, by decide⟩, q2, hts _ (mAt_in hw), hts _ (mAt_in hsm), va_Decl.abs (hK.2.2.2.2.2.2 _ hdcl), hts _ (mAt_in hsel), hts _ (mAt_in hin)⟩ hpre rfl (by rw [List.length_map]; exact hln) hL.1 hstk (lv_room (by rw [tv_cats, mWd_eq]; exact hwd)) hd ⟨by omega, by omega⟩
  refine m_call fin hR (fun v h' H1 locs1 hq hR1 => ?_) T hT X
  rw [← mTl]
  exact hq p l e R s m args below meth c D dA ad B Qf mc0 H1 locs1 (cells + 0) (slots + 0) ls hC hc hs hR1 hL
theorem s_max {idx : Nat} {x y : Int32} (h1 : Cond.methodLink (mt n).1.cls idx Lib.Math.max.name ∈ mAllW) (h2 : Cond.static Lib.Math.max.name ∈ mAllW) (h3 : Cond.initialized "java/lang/Math" ∈ mAllW) (h4 : Cond.code Lib.Math.max.name Lib.Math.max.code 2 (some .int) ∈ mAllW) (hroom : 1 ≤ mFr (mt n)) (hwo : 21 ≤ mWo (mt n)) (hwd : mWd r ≤ 8) (hd : decode (mBy (mt n)) pc = .ok (.invokestatic idx, 3)) (hk : mV SA kc ks n (pc + 3) L (.int (if x < y then y else x) :: r) h P) : mV SA kc ks n pc L (.int y :: .int x :: r) h P := by
  intro p l e R s m args below meth c D dA ad B Qf mc0 H locs cells slots ls hC hc hs hR hL
  have hts := hC.2.2.2.2.1
  have hfr := hC.2.2.2.2.2.2.1
  have hlo := hC.2.2.2.2.2.2.2.1
  have hmc := hC.2.2.2.2.2.2.2.2.2.1
  have hw8 : ((r.map (tv ad)).map fun v => v.category).sum ≤ 8 := by rw [tv_cats, mWd_eq]; exact hwd
  exact va_mmax hC.1 hC.2.1 (by rw [hC.2.2.1]; exact hL.1.symm) hC.2.2.2.1 (hts _ h1) (hts _ h2) (hts _ h3) (hts _ h4) (by omega) (by omega) (by omega) (by omega) hd (hk p l e R s m args below meth c D dA ad B Qf mc0 H locs cells slots ls hC hc hs hR hL)
theorem s_min {idx : Nat} {x y : Int32} (h1 : Cond.methodLink (mt n).1.cls idx Lib.Math.min.name ∈ mAllW) (h2 : Cond.static Lib.Math.min.name ∈ mAllW) (h3 : Cond.initialized "java/lang/Math" ∈ mAllW) (h4 : Cond.code Lib.Math.min.name Lib.Math.min.code 2 (some .int) ∈ mAllW) (hroom : 1 ≤ mFr (mt n)) (hwo : 21 ≤ mWo (mt n)) (hwd : mWd r ≤ 8) (hd : decode (mBy (mt n)) pc = .ok (.invokestatic idx, 3)) (hk : mV SA kc ks n (pc + 3) L (.int (if y < x then y else x) :: r) h P) : mV SA kc ks n pc L (.int y :: .int x :: r) h P := by
  intro p l e R s m args below meth c D dA ad B Qf mc0 H locs cells slots ls hC hc hs hR hL
  have hts := hC.2.2.2.2.1
  have hfr := hC.2.2.2.2.2.2.1
  have hlo := hC.2.2.2.2.2.2.2.1
  have hmc := hC.2.2.2.2.2.2.2.2.2.1
  have hw8 : ((r.map (tv ad)).map fun v => v.category).sum ≤ 8 := by rw [tv_cats, mWd_eq]; exact hwd
  exact va_mmin hC.1 hC.2.1 (by rw [hC.2.2.1]; exact hL.1.symm) hC.2.2.2.1 (hts _ h1) (hts _ h2) (hts _ h3) (hts _ h4) (by omega) (by omega) (by omega) (by omega) hd (hk p l e R s m args below meth c D dA ad B Qf mc0 H locs cells slots ls hC hc hs hR hL)
theorem s_objInit {idx b : Nat} (h1 : Cond.methodLink (mt n).1.cls idx Lib.objectInit ∈ mAllW) (h2 : Cond.instanceMethod Lib.objectInit ∈ mAllW) (h3 : Cond.code Lib.objectInit ⟨#[0xb1]⟩ 1 none ∈ mAllW) (hroom : 1 ≤ mFr (mt n)) (hwo : 20 ≤ mWo (mt n)) (hwd : mWd r ≤ 8) (hd : decode (mBy (mt n)) pc = .ok (.invokespecial idx, 3)) (hk : mV SA kc ks n (pc + 3) L r h P) : mV SA kc ks n pc L (.ref b :: r) h P := by
  intro p l e R s m args below meth c D dA ad B Qf mc0 H locs cells slots ls hC hc hs hR hL
  have hts := hC.2.2.2.2.1
  have hfr := hC.2.2.2.2.2.2.1
  have hlo := hC.2.2.2.2.2.2.2.1
  exact W.objInit hC.1 hC.2.1 hC.2.2.2.1 (hts _ h1) (hts _ h2) (hts _ h3) rfl (by show ls.size = _; rw [hC.2.2.1]; exact hL.1) rfl hd (by omega) (by
    have : 2 * (F0 m pc ls ((Value.ref b :: r).map (tv ad))).monitorRoom + ((r.map (tv ad)).map fun v => v.category).sum ≤ 8 := lv_room (by rw [tv_cats, mWd_eq]; exact hwd)
    omega) (hk p l e R s m args below meth c D dA ad B Qf mc0 H locs cells slots ls hC hc hs hR hL)
end
theorem mPlain_all : mtab.all (fun y => Jvm.plainName y.1.cls) = true := by decide +kernel
theorem mPlain_ok (n : Nat) : Jvm.plainName (mt n).1.cls = true := by
  rcases mt_in n with h | h
  · exact List.all_eq_true.mp mPlain_all _ h
  · rw [h]; decide +kernel
/-- the locals of a method that is called with these arguments -/
def mEnt (n : Nat) (as : List Value) : mL := mIn as ++ List.replicate (mLo (mt n) - (mIn as).length) none
theorem mIn_len (ad : Nat → Nat) : ∀ as : List Value, (lg_sl (as.map (tv ad))).length = (mIn as).length
  | [] => rfl
  | v :: r => by
    have ih := mIn_len ad r
    simp only [lg_sl, List.map_cons, List.flatMap_cons, List.length_append, mIn, tv_cat] at ih ⊢
    by_cases hc : v.category = 2 <;> simp [hc, ih] <;> omega
theorem m_met {SA : mSA} {mc ms n : Nat} {as : List Value} {h : mH} {P : Option Value → mH → Prop} (hlen : (mIn as).length ≤ mLo (mt n)) (hV : mV SA mc ms n 0 (mEnt n as) [] h P) : mCt SA mc ms n as h P := by
  intro l D dA ad B
  refine Met.ofW (cc := mBy (mt n)) (maxL := mLo (mt n)) (ret := mRe (mt n)) (mPlain_ok n) rfl ?_
  intro p e s m args below meth c s₁ B0 hml hv
  obtain ⟨rfl, hK, hP, hsz, hl, hf⟩ := hv
  have hts : ∀ w ∈ mWs n, w.before (as.map (tv ad)).toArray s = true := atoms_spec (ws := mWs n) B0.pre
  have hlocks := B0.notSynchronized
  rw [lg_entry_eq]
  have hL := lv_entry (as.map (tv ad)) (n := mLo (mt n)) (by rw [mIn_len]; exact hlen)
  have hL2 : lv_has (lg_sl (as.map (tv ad)) ++ List.replicate (mLo (mt n) - (lg_sl (as.map (tv ad))).length) Slot.unset).toArray (mLo (mt n)) (mP ad 0 (mEnt n as)) := lv_less hL (mIn_args ad as 0 _)
  have hret : meth.sig.returnType = mRe (mt n) := B0.returns
  refine hV p l e _ s m _ below meth c D dA ad B _ mc s.heap [] 0 0 _ ⟨B0.exec, B0.bytes, hml, findClass_of_methodNamed B0.named, fun w hw => hts w (List.mem_cons_of_mem _ hw), (name_of_methodNamed B0.named B0.method).1, Nat.le_refl _, Nat.le_refl _, hK, Nat.le_refl _, ?_⟩ (by omega) (by show 0 + ms ≤ ms; omega) ⟨hP, va_S.rf, by omega, hl, hf, by omega⟩ hL2
  intro v h' H locs slots pc ls hp hR hs hm
  have hq : ∀ t : State, t.heap = H → s.WarmedH t.vm → mPost D dA ad B mc h P (as.map (tv ad)).toArray s (.returned (v.map (tv ad))) t := by
    intro t ht hW
    refine ⟨⟨v, h', rfl, hp, by rw [ht]; exact hR.1, ?_, hR.2.2.2.1, hR.2.2.2.2.1⟩, hR.2.1.F ht⟩
    have := hR.2.2.1
    omega
  have hfr : ∀ q ∈ locs, (fun q => B ≤ q) q.base := hR.2.1.2.2
  refine W.widen (k := mc) (n := ms) (Nat.le_refl _) hs ?_
  match v, hm, hq with
  | none, hm, hq => exact W.vret B0.exec B0.bytes (by rw [hret]; exact hm.2) hq hfr hm.1
  | some (.int x), hm, hq =>
    obtain ⟨h1, ty, h2, h3⟩ := hm
    exact W.zret B0.exec B0.bytes (by rw [hret]; exact h2) h3 hq hfr h1
  | some (.long x), hm, hq => exact W.lret B0.exec B0.bytes (by rw [hret]; exact hm.2) hq hfr hm.1
  | some (.ref k), hm, hq =>
    obtain ⟨h1, c0, h2⟩ := hm
    exact W.aret B0.exec B0.bytes (by rw [hret]; exact h2) (Or.inl ⟨c0, rfl⟩) (Or.inr ⟨ad k, rfl⟩) hq hfr h1
  | some (.float x), hm, hq => exact hm.elim
  | some (.double x), hm, hq => exact hm.elim
  | some .null, hm, hq => exact hm.elim
  | some (.retAddr x), hm, hq => exact hm.elim

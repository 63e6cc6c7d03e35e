/-! PART 09: each instruction over pictures: arrays, new cells, System.arraycopy -/
section
variable {SA : mSA} {kc ks n pc : Nat} {L : mL} {h : mH} {P : Option Value → mH → Prop} {r : List Value}
theorem mArr_own {k : Nat} {e : FieldType × vp_A} (hk : k < 1000000) (ha : mArr SA h k = some e) : h[k]? = some (.inl e) := by
  unfold mArr at ha
  rw [if_pos hk] at ha
  split at ha
  · rename_i q hq; cases ha; exact hq
  · cases ha
theorem mArr_sta {k : Nat} {e : FieldType × vp_A} (hk : ¬ k < 1000000) (ha : mArr SA h k = some e) : SA k = some e := by
  unfold mArr at ha
  rw [if_neg hk] at ha
  exact ha
theorem s_iaload {i : Int32} {k N : Nat} {f : Nat → Int32} (ha : mArr SA h k = some (.int, N, .inl f)) (hin : vp_in i N) (hd : decode (mBy (mt n)) pc = .ok (.iaload, 1)) (hk : mV SA kc ks n (pc + 1) L (.int (f i.toNatClampNeg) :: r) h P) : mV SA kc ks n pc L (.int i :: .ref k :: r) h P := by
  intro p l e R s m args below meth c D dA ad B Qf mc0 H locs cells slots ls hC hc hs hR hL
  have hK := hC.2.2.2.2.2.2.2.2.1
  by_cases hlt : k < 1000000
  · exact va_iald hC.1 hC.2.1 hK.1 hR.1 k 0 (tW_get (dA := dA) (ad := ad) (mArr_own hlt ha)) rfl hin hd (hk p l e R s m args below meth c D dA ad B Qf mc0 H locs cells slots ls hC hc hs hR hL)
  · exact va_ti hC.1 hC.2.1 (hK.2.2.2.1 k _ (mArr_sta hlt ha)) hR.2.1 hin rfl hd (hk p l e R s m args below meth c D dA ad B Qf mc0 H locs cells slots ls hC hc hs hR hL)
theorem s_baload {i : Int32} {k N : Nat} {f : Nat → Int32} (ha : mArr SA h k = some (.byte, N, .inl f)) (hin : vp_in i N) (hd : decode (mBy (mt n)) pc = .ok (.baload, 1)) (hk : mV SA kc ks n (pc + 1) L (.int (f i.toNatClampNeg) :: r) h P) : mV SA kc ks n pc L (.int i :: .ref k :: r) h P := by
  intro p l e R s m args below meth c D dA ad B Qf mc0 H locs cells slots ls hC hc hs hR hL
  have hK := hC.2.2.2.2.2.2.2.2.1
  by_cases hlt : k < 1000000
  · exact va_bald hC.1 hC.2.1 hK.1 hR.1 k 2 (tW_get (dA := dA) (ad := ad) (mArr_own hlt ha)) rfl hin hd (hk p l e R s m args below meth c D dA ad B Qf mc0 H locs cells slots ls hC hc hs hR hL)
  · exact va_tb hC.1 hC.2.1 (hK.2.2.2.1 k _ (mArr_sta hlt ha)) hR.2.1 hin rfl hd (hk p l e R s m args below meth c D dA ad B Qf mc0 H locs cells slots ls hC hc hs hR hL)
theorem s_laload {i : Int32} {k N : Nat} {f : Nat → Int64} (ha : mArr SA h k = some (.long, N, .inr (.inl f))) (hin : vp_in i N) (hd : decode (mBy (mt n)) pc = .ok (.laload, 1)) (hk : mV SA kc ks n (pc + 1) L (.long (f i.toNatClampNeg) :: r) h P) : mV SA kc ks n pc L (.int i :: .ref k :: r) h P := by
  intro p l e R s m args below meth c D dA ad B Qf mc0 H locs cells slots ls hC hc hs hR hL
  have hK := hC.2.2.2.2.2.2.2.2.1
  by_cases hlt : k < 1000000
  · exact va_lald hC.1 hC.2.1 hK.1 hR.1 k 1 (tW_get (dA := dA) (ad := ad) (mArr_own hlt ha)) rfl hin hd (hk p l e R s m args below meth c D dA ad B Qf mc0 H locs cells slots ls hC hc hs hR hL)
  · exact va_tl hC.1 hC.2.1 (hK.2.2.2.1 k _ (mArr_sta hlt ha)) hR.2.1 hin rfl hd (hk p l e R s m args below meth c D dA ad B Qf mc0 H locs cells slots ls hC hc hs hR hL)
theorem s_alen {k : Nat} {x : FieldType × vp_A} (ha : mArr SA h k = some x) (hty : x.1 = .int ∨ x.1 = .long ∨ x.1 = .byte) (hd : decode (mBy (mt n)) pc = .ok (.arraylength, 1)) (hk : mV SA kc ks n (pc + 1) L (.int (nI x.2.1) :: r) h P) : mV SA kc ks n pc L (.ref k :: r) h P := by
  intro p l e R s m args below meth c D dA ad B Qf mc0 H locs cells slots ls hC hc hs hR hL
  have hK := hC.2.2.2.2.2.2.2.2.1
  by_cases hlt : k < 1000000
  · have he := tW_get (dA := dA) (ad := ad) (mArr_own hlt ha)
    obtain ⟨ty, a⟩ := x
    rcases hty with rfl | rfl | rfl
    · exact va_alen (ty := .int) hC.1 hC.2.1 hK.1 hR.1 k 0 he rfl rfl hd (hk p l e R s m args below meth c D dA ad B Qf mc0 H locs cells slots ls hC hc hs hR hL)
    · exact va_alen (ty := .long) hC.1 hC.2.1 hK.1 hR.1 k 1 he rfl rfl hd (hk p l e R s m args below meth c D dA ad B Qf mc0 H locs cells slots ls hC hc hs hR hL)
    · exact va_alen (ty := .byte) hC.1 hC.2.1 hK.1 hR.1 k 2 he rfl rfl hd (hk p l e R s m args below meth c D dA ad B Qf mc0 H locs cells slots ls hC hc hs hR hL)
  · exact va_tlen hC.1 hC.2.1 (hK.2.2.2.1 k _ (mArr_sta hlt ha)) hR.2.1 rfl hd (hk p l e R s m args below meth c D dA ad B Qf mc0 H locs cells slots ls hC hc hs hR hL)
theorem s_aaload {i : Int32} {k N q t0 : Nat} {c0 : String} {f : Nat → Option Nat} (ha : h[k]? = some (.inl (.object c0, N, .inr (.inr (.inr (.inr f)))))) (ht0 : mTy[t0]? = some (.object c0)) (hin : vp_in i N) (hq : f i.toNatClampNeg = some q) (hd : decode (mBy (mt n)) pc = .ok (.aaload, 1)) (hk : mV SA kc ks n (pc + 1) L (.ref q :: r) h P) : mV SA kc ks n pc L (.int i :: .ref k :: r) h P := by
  intro p l e R s m args below meth c D dA ad B Qf mc0 H locs cells slots ls hC hc hs hR hL
  have hK := hC.2.2.2.2.2.2.2.2.1
  have hz := hk p l e R s m args below meth c D dA ad B Qf mc0 H locs cells slots ls hC hc hs hR hL
  refine va_aldq (C := c0) hC.1 hC.2.1 hK.1 hR.1 k t0 (tW_get (dA := dA) (ad := ad) ha) (by rw [List.getElem?_map, ht0]; rfl) hin hd ?_
  simp only [hq, Option.map_some]
  exact hz
theorem s_iastore {x i : Int32} {k N : Nat} {f : Nat → Int32} (ha : h[k]? = some (.inl (.int, N, .inl f))) (hin : vp_in i N) (hd : decode (mBy (mt n)) pc = .ok (.iastore, 1)) (hk : mV SA kc ks n (pc + 1) L r (h.set k (.inl (.int, N, .inl (upd f i.toNatClampNeg x)))) P) : mV SA kc ks n pc L (.int x :: .int i :: .ref k :: r) h P := by
  intro p l e R s m args below meth c D dA ad B Qf mc0 H locs cells slots ls hC hc hs hR hL
  have hK := hC.2.2.2.2.2.2.2.2.1
  exact va_iast hC.1 hC.2.1 hK.1 hR.1 (mR_D (D := D) hK.2.1 hR.2.2.2.1) hR.2.1 k 0 (tW_get (dA := dA) (ad := ad) ha) rfl hin hd (fun H1 locs1 hP1 _ hS1 => hk p l e R s m args below meth c D dA ad B Qf mc0 H1 locs1 cells slots ls hC hc hs (mR_set hR (e := .inl (.int, N, .inl (upd f i.toNatClampNeg x))) hP1 hS1 (fun _ _ z => by cases z)) hL)
theorem s_lastore {x : Int64} {i : Int32} {k N : Nat} {f : Nat → Int64} (ha : h[k]? = some (.inl (.long, N, .inr (.inl f)))) (hin : vp_in i N) (hd : decode (mBy (mt n)) pc = .ok (.lastore, 1)) (hk : mV SA kc ks n (pc + 1) L r (h.set k (.inl (.long, N, .inr (.inl (vp_updL f i.toNatClampNeg x))))) P) : mV SA kc ks n pc L (.long x :: .int i :: .ref k :: r) h P := by
  intro p l e R s m args below meth c D dA ad B Qf mc0 H locs cells slots ls hC hc hs hR hL
  have hK := hC.2.2.2.2.2.2.2.2.1
  exact va_last hC.1 hC.2.1 hK.1 hR.1 (mR_D (D := D) hK.2.1 hR.2.2.2.1) hR.2.1 k 1 (tW_get (dA := dA) (ad := ad) ha) rfl hin hd (fun H1 locs1 hP1 _ hS1 => hk p l e R s m args below meth c D dA ad B Qf mc0 H1 locs1 cells slots ls hC hc hs (mR_set hR (e := .inl (.long, N, .inr (.inl (vp_updL f i.toNatClampNeg x)))) hP1 hS1 (fun _ _ z => by cases z)) hL)
theorem s_bastore {x i : Int32} {k N : Nat} {f : Nat → Int32} (ha : h[k]? = some (.inl (.byte, N, .inl f))) (hin : vp_in i N) (hd : decode (mBy (mt n)) pc = .ok (.bastore, 1)) (hk : mV SA kc ks n (pc + 1) L r (h.set k (.inl (.byte, N, .inl (upd f i.toNatClampNeg x.toInt8.toInt32)))) P) : mV SA kc ks n pc L (.int x :: .int i :: .ref k :: r) h P := by
  intro p l e R s m args below meth c D dA ad B Qf mc0 H locs cells slots ls hC hc hs hR hL
  have hK := hC.2.2.2.2.2.2.2.2.1
  have hf := hR.2.2.2.2.1 k N f ha
  refine va_bast hC.1 hC.2.1 hK.1 hR.1 (mR_D (D := D) hK.2.1 hR.2.2.2.1) hR.2.1 k 2 (tW_get (dA := dA) (ad := ad) ha) rfl hin hd (fun H1 locs1 hP1 _ hS1 => ?_)
  rw [vp_nar_byte] at hP1
  refine hk p l e R s m args below meth c D dA ad B Qf mc0 H1 locs1 cells slots ls hC hc hs (mR_set hR (e := .inl (.byte, N, .inl (upd f i.toNatClampNeg x.toInt8.toInt32))) hP1 hS1 (fun N2 f2 z j => ?_)) hL
  simp only [Sum.inl.injEq, Prod.mk.injEq, true_and] at z
  obtain ⟨-, rfl⟩ := z
  unfold upd
  by_cases hj : j = i.toNatClampNeg
  · simp only [hj, if_true]; exact pk_fb x
  · simp only [hj, if_false]; exact hf j
theorem s_aastore {q k N ci t0 : Nat} {i : Int32} {f : Nat → Option Nat} {fs : List Value} {w : vw_C} (hw : vwCl[ci]? = some w) (ht0 : mTy[t0]? = some (.object w.1)) (ha : h[k]? = some (.inl (.object w.1, N, .inr (.inr (.inr (.inr f)))))) (hq : h[q]? = some (.inr (ci, fs))) (hin : vp_in i N) (hd : decode (mBy (mt n)) pc = .ok (.aastore, 1)) (hk : mV SA kc ks n (pc + 1) L r (h.set k (.inl (.object w.1, N, .inr (.inr (.inr (.inr (va_up f i.toNatClampNeg (some q)))))))) P) : mV SA kc ks n pc L (.ref q :: .int i :: .ref k :: r) h P := by
  intro p l e R s m args below meth c D dA ad B Qf mc0 H locs cells slots ls hC hc hs hR hL
  have hK := hC.2.2.2.2.2.2.2.2.1
  refine va_astq hC.1 hC.2.1 hK.1 hR.1 (mR_D (D := D) hK.2.1 hR.2.2.2.1) hR.2.1 k t0 q ci (tW_get (dA := dA) (ad := ad) ha) (by rw [List.getElem?_map, ht0]; rfl) (tW_get (dA := dA) (ad := ad) hq) hw hin hd (fun H1 locs1 hP1 _ hS1 => ?_)
  have e1 : (Sum.inl (dA (.object w.1), N, .inr (.inr (.inr (.inr (va_up (fun j => (f j).map ad) i.toNatClampNeg (some (ad q))))))) : va_E) = tE dA ad (.inl (.object w.1, N, .inr (.inr (.inr (.inr (va_up f i.toNatClampNeg (some q))))))) := by
    simp only [tE, tA, Sum.inl.injEq, Prod.mk.injEq, Sum.inr.injEq, true_and]
    funext j
    unfold va_up
    by_cases hj : j = i.toNatClampNeg <;> simp [hj]
  have hP2 : va_P D vwCl ((tW dA ad h).set k (ad k, tE dA ad (.inl (.object w.1, N, .inr (.inr (.inr (.inr (va_up f i.toNatClampNeg (some q))))))))) H1 := by rw [← e1]; exact hP1
  exact hk p l e R s m args below meth c D dA ad B Qf mc0 H1 locs1 cells slots ls hC hc hs (mR_set hR hP2 hS1 (fun _ _ z => by cases z)) hL
theorem s_copyI {nn dp sp : Int32} {k0 k1 n0 n1 idx t0 : Nat} {ty : FieldType} {f g : Nat → Int32} (hroom : 1 ≤ mFr (mt n)) (hwo : 26 ≤ mWo (mt n)) (hwd : mWd r ≤ 8) (hw1 : Cond.methodLink (mt n).1.cls idx arraycopyName ∈ mAllW) (hw2 : Cond.native arraycopyName ∈ mAllW) (hw3 : Cond.static arraycopyName ∈ mAllW) (hw4 : Cond.initialized "java/lang/System" ∈ mAllW) (hty : ty = .int ∨ ty = .byte)
    (ha0 : h[k0]? = some (.inl (ty, n0, .inl f))) (ha1 : h[k1]? = some (.inl (ty, n1, .inl g))) (h1 : ¬ sp < 0) (h2 : ¬ dp < 0) (h3 : ¬ nn < 0) (h4 : sp.toNatClampNeg + nn.toNatClampNeg ≤ n0) (h5 : dp.toNatClampNeg + nn.toNatClampNeg ≤ n1) (hd : decode (mBy (mt n)) pc = .ok (.invokestatic idx, 3))
    (hk : mV SA kc ks n (pc + 3) L r (h.set k1 (.inl (ty, n1, .inl (va_cpy f g sp.toNatClampNeg dp.toNatClampNeg nn.toNatClampNeg)))) P) : mV SA kc ks n pc L (.int nn :: .int dp :: .ref k1 :: .int sp :: .ref k0 :: r) h P := by
  intro p l e R s m args below meth c D dA ad B Qf mc0 H locs cells slots ls hC hc hs hR hL
  have hK := hC.2.2.2.2.2.2.2.2.1
  have hfr := hC.2.2.2.2.2.2.1
  have hlo := hC.2.2.2.2.2.2.2.1
  have hts := hC.2.2.2.2.1
  have hwd' : ((r.map (tv ad)).map fun v => v.category).sum ≤ 8 := by
    rw [tv_cats]
    have : ∀ st : List Value, (st.map fun v => v.category).sum = mWd st := by
      intro st
      induction st with
      | nil => rfl
      | cons a t ih => simp only [List.map_cons, List.sum_cons, ih, mWd]
    rw [this]; exact hwd
  have hnw : nativeFrameWords "java/lang/System" "arraycopy" 5 = 7 := by decide +kernel
  have key : ∀ t0 : Nat, mTy[t0]? = some ty → refKind ty = false → (∀ i, i < nn.toNatClampNeg → fits ty (.int (f (sp.toNatClampNeg + i))) = true) → (∀ j, ty = .byte → fits .byte (.int (va_cpy f g sp.toNatClampNeg dp.toNatClampNeg nn.toNatClampNeg j)) = true) → W p l e R s m args below meth c H locs cells slots Qf (F0 m pc ls ((.int nn :: .int dp :: .ref k1 :: .int sp :: .ref k0 :: r).map (tv ad))) := by
    intro t0 ht0 hrk hfit hfit2
    have ht : (mTy.map fun ty => (dA ty, ty))[t0]? = some (dA ty, ty) := by rw [List.getElem?_map, ht0]; rfl
    exact va_copyi hC.1 hC.2.1 (by rw [hC.2.2.1]; exact hL.1.symm) hC.2.2.2.1 (hts _ hw1) (hts _ hw2) (hts _ hw3) (hts _ hw4) hK.1 hR.1 (mR_D (D := D) hK.2.1 hR.2.2.2.1) hR.2.1 k0 k1 t0 t0 (tW_get (dA := dA) (ad := ad) ha0) (tW_get (dA := dA) (ad := ad) ha1) ht ht hrk h1 h2 h3 h4 h5 hfit (by omega) (by rw [hnw]; omega) hd
      (fun H1 locs1 hP1 _ hS1 => hk p l e R s m args below meth c D dA ad B Qf mc0 H1 locs1 cells slots ls hC hc hs (mR_set hR (e := .inl (ty, n1, .inl (va_cpy f g sp.toNatClampNeg dp.toNatClampNeg nn.toNatClampNeg))) hP1 hS1 (fun N2 f2 z j => by
        simp only [Sum.inl.injEq, Prod.mk.injEq] at z
        obtain ⟨z1, -, z2⟩ := z
        subst z2
        exact hfit2 j z1)) hL)
  rcases hty with rfl | rfl
  · exact key 0 rfl rfl (fun _ _ => rfl) (fun _ z => by cases z)
  · refine key 2 rfl rfl (fun i _ => hR.2.2.2.2.1 k0 n0 f ha0 _) (fun j _ => ?_)
    unfold va_cpy
    split
    · exact hR.2.2.2.2.1 k0 n0 f ha0 _
    · exact hR.2.2.2.2.1 k1 n1 g ha1 _
theorem s_copyL {nn dp sp : Int32} {k0 k1 n0 n1 idx : Nat} {f g : Nat → Int64} (hroom : 1 ≤ mFr (mt n)) (hwo : 26 ≤ mWo (mt n)) (hwd : mWd r ≤ 8) (hw1 : Cond.methodLink (mt n).1.cls idx arraycopyName ∈ mAllW) (hw2 : Cond.native arraycopyName ∈ mAllW) (hw3 : Cond.static arraycopyName ∈ mAllW) (hw4 : Cond.initialized "java/lang/System" ∈ mAllW)
    (ha0 : h[k0]? = some (.inl (.long, n0, .inr (.inl f)))) (ha1 : h[k1]? = some (.inl (.long, n1, .inr (.inl g)))) (h1 : ¬ sp < 0) (h2 : ¬ dp < 0) (h3 : ¬ nn < 0) (h4 : sp.toNatClampNeg + nn.toNatClampNeg ≤ n0) (h5 : dp.toNatClampNeg + nn.toNatClampNeg ≤ n1) (hd : decode (mBy (mt n)) pc = .ok (.invokestatic idx, 3))
    (hk : mV SA kc ks n (pc + 3) L r (h.set k1 (.inl (.long, n1, .inr (.inl (va_cpy f g sp.toNatClampNeg dp.toNatClampNeg nn.toNatClampNeg))))) P) : mV SA kc ks n pc L (.int nn :: .int dp :: .ref k1 :: .int sp :: .ref k0 :: r) h P := by
  intro p l e R s m args below meth c D dA ad B Qf mc0 H locs cells slots ls hC hc hs hR hL
  have hK := hC.2.2.2.2.2.2.2.2.1
  have hfr := hC.2.2.2.2.2.2.1
  have hlo := hC.2.2.2.2.2.2.2.1
  have hts := hC.2.2.2.2.1
  have hwd' : ((r.map (tv ad)).map fun v => v.category).sum ≤ 8 := by
    rw [tv_cats]
    have : ∀ st : List Value, (st.map fun v => v.category).sum = mWd st := by
      intro st
      induction st with
      | nil => rfl
      | cons a t ih => simp only [List.map_cons, List.sum_cons, ih, mWd]
    rw [this]; exact hwd
  have hnw : nativeFrameWords "java/lang/System" "arraycopy" 5 = 7 := by decide +kernel
  exact va_copyl (ty := .long) hC.1 hC.2.1 (by rw [hC.2.2.1]; exact hL.1.symm) hC.2.2.2.1 (hts _ hw1) (hts _ hw2) (hts _ hw3) (hts _ hw4) hK.1 hR.1 (mR_D (D := D) hK.2.1 hR.2.2.2.1) hR.2.1 k0 k1 1 1 (tW_get (dA := dA) (ad := ad) ha0) (tW_get (dA := dA) (ad := ad) ha1) rfl rfl rfl h1 h2 h3 h4 h5 (fun _ _ => rfl) (by omega) (by rw [hnw]; omega) hd
      (fun H1 locs1 hP1 _ hS1 => hk p l e R s m args below meth c D dA ad B Qf mc0 H1 locs1 cells slots ls hC hc hs (mR_set hR (e := .inl (.long, n1, .inr (.inl (va_cpy f g sp.toNatClampNeg dp.toNatClampNeg nn.toNatClampNeg)))) hP1 hS1 (fun _ _ z => by cases z)) hL)
theorem s_newarray {t : ArrayType} {i : Int32} (ht : t = .int ∨ t = .long ∨ t = .byte) (hw : Cond.arrayClass (newarray.typeOf t) ∈ mAllW) (hi : ¬ i < 0) (hb : i.toNatClampNeg ≤ 100000) (hks : i.toNatClampNeg ≤ ks) (hl : h.length < 1000000) (hd : decode (mBy (mt n)) pc = .ok (.newarray t, 2)) (hk : mV SA kc (ks - i.toNatClampNeg) n (pc + 2) L (.ref h.length :: r) (h ++ [.inl (newarray.typeOf t, i.toNatClampNeg, mZero (newarray.typeOf t))]) P) : mV SA (kc + 1) ks n pc L (.int i :: r) h P := by
  intro p l e R s m args below meth c D dA ad B Qf mc0 H locs cells slots ls hC hc hs hR hL
  have hK := hC.2.2.2.2.2.2.2.2.1
  have hmc := hC.2.2.2.2.2.2.2.2.2.1
  have hA : ∀ q : Nat, s.heap.size ≤ q → (fun q => B ≤ q) q := fun q hq => Nat.le_trans hR.2.2.2.2.2 hq
  have key : ∀ (t0 : Nat) (ty : FieldType), newarray.typeOf t = ty → mTy[t0]? = some ty → (∀ cA cB, va_RA s cA ty → va_RA s cB ty → cA = cB) → componentBytes ty ≤ 8 → (∀ cA : ClassId, vp_cell cA (i.toNatClampNeg, mZero ty) = arrV cA i.toNatClampNeg (fun _ => defaultValue ty)) → (tA ad (i.toNatClampNeg, mZero ty) = (i.toNatClampNeg, mZero ty)) → (∀ n f, (Sum.inl (ty, i.toNatClampNeg, mZero ty) : mE) = .inl (.byte, n, .inl f) → ∀ j, fits .byte (.int (f j)) = true) → W p l e R s m args below meth c H locs cells slots Qf (F0 m pc ls ((.int i :: r).map (tv ad))) := by
    intro t0 ty hty ht0 hRA hcb hcell htA hfz
    subst hty
    have hmul : i.toNatClampNeg * componentBytes (newarray.typeOf t) ≤ 100000 * 8 := Nat.mul_le_mul hb hcb
    refine va_newa hC.1 hC.2.1 (hC.2.2.2.2.1 _ hw) rfl hK.1 hR.1 (mR_D (D := D) hK.2.1 hR.2.2.2.1) hR.2.1 hA hcell hi rfl (by omega) (by omega) (by omega) hd (fun q cA H1 hK1 hP1 hD1 hS1 => ?_)
    intro T hT X
    have hq := mNew hK.2.1 hl hR hP1 hD1 hT X
    have hcA : cA = dA (newarray.typeOf t) := hRA _ _ (hK1.2 mTy.length _ (by rw [List.getElem?_append_right (by rw [List.length_map]; exact Nat.le_refl _), List.length_map, Nat.sub_self]; rfl)).2 (hK.1.2 t0 _ (by rw [List.getElem?_map, ht0]; rfl)).2
    subst hcA
    subst hq
    have hP2 : va_P D vwCl (tW dA ad h ++ [(ad h.length, tE dA ad (.inl (newarray.typeOf t, i.toNatClampNeg, mZero (newarray.typeOf t))))]) H1 := by
      have e1 : tE dA ad (.inl (newarray.typeOf t, i.toNatClampNeg, mZero (newarray.typeOf t))) = .inl (dA (newarray.typeOf t), i.toNatClampNeg, mZero (newarray.typeOf t)) := by
        show Sum.inl (dA (newarray.typeOf t), tA ad (i.toNatClampNeg, mZero (newarray.typeOf t))) = _
        rw [htA]
      rw [e1]; exact hP1
    exact hk p l e R s m args below meth c D dA ad B Qf mc0 H1 locs (cells + 1) (slots + i.toNatClampNeg) ls hC (by omega) (by omega) (mR_push hR hl hP2 hS1 hfz) hL T hT X
  rcases ht with rfl | rfl | rfl
  · exact key 0 .int rfl rfl (fun a b h1 h2 => Option.some.inj (h1.symm.trans h2)) (by decide) (fun _ => rfl) rfl (fun _ _ z => by cases z)
  · exact key 1 .long rfl rfl (fun a b h1 h2 => Option.some.inj (h1.symm.trans h2)) (by decide) (fun _ => rfl) rfl (fun _ _ z => by cases z)
  · exact key 2 .byte rfl rfl (fun a b h1 h2 => Option.some.inj (h1.symm.trans h2)) (by decide) (fun _ => rfl) rfl (fun n f z j => by
      simp only [mZero, Sum.inl.injEq, Prod.mk.injEq, true_and] at z
      obtain ⟨-, rfl⟩ := z
      exact (by decide : fits .byte (.int 0) = true))
theorem s_anewarray {i : Int32} {c0 : String} {idx t0 : Nat} (hw : Cond.classLink (mt n).1.cls idx c0 ∈ mAllW) (hov : Cond.arrayOver (.object c0) ∈ mNW) (ht0 : mTy[t0]? = some (.object c0)) (hi : ¬ i < 0) (hb : i.toNatClampNeg ≤ 100000) (hks : i.toNatClampNeg ≤ ks) (hl : h.length < 1000000) (hd : decode (mBy (mt n)) pc = .ok (.anewarray idx, 3)) (hk : mV SA kc (ks - i.toNatClampNeg) n (pc + 3) L (.ref h.length :: r) (h ++ [.inl (.object c0, i.toNatClampNeg, .inr (.inr (.inr (.inr (fun _ => none)))))]) P) : mV SA (kc + 1) ks n pc L (.int i :: r) h P := by
  intro p l e R s m args below meth c D dA ad B Qf mc0 H locs cells slots ls hC hc hs hR hL
  have hK := hC.2.2.2.2.2.2.2.2.1
  have hmc := hC.2.2.2.2.2.2.2.2.2.1
  have hA : ∀ q : Nat, s.heap.size ≤ q → (fun q => B ≤ q) q := fun q hq => Nat.le_trans hR.2.2.2.2.2 hq
  refine va_newq (C := c0) hC.1 hC.2.1 hC.2.2.2.1 (hC.2.2.2.2.1 _ hw) (hK.2.2.2.2.2.2 _ hov) hK.1 hR.1 (mR_D (D := D) hK.2.1 hR.2.2.2.1) hR.2.1 hA hi rfl (by omega) (by omega) (by omega) hd (fun q cA H1 hK1 hP1 hD1 hS1 => ?_)
  intro T hT X
  have hq := mNew hK.2.1 hl hR hP1 hD1 hT X
  have hcA : cA = dA (.object c0) := by
    obtain ⟨_, _, -, -, -, h1⟩ := (hK1.2 mTy.length _ (by rw [List.getElem?_append_right (by rw [List.length_map]; exact Nat.le_refl _), List.length_map, Nat.sub_self]; rfl)).2
    obtain ⟨_, _, -, -, -, h2⟩ := (hK.1.2 t0 _ (by rw [List.getElem?_map, ht0]; rfl)).2
    exact Option.some.inj (h1.symm.trans h2)
  subst hcA
  subst hq
  exact hk p l e R s m args below meth c D dA ad B Qf mc0 H1 locs (cells + 1) (slots + i.toNatClampNeg) ls hC (by omega) (by omega) (mR_push (e := .inl (.object c0, i.toNatClampNeg, .inr (.inr (.inr (.inr (fun _ => none)))))) hR hl hP1 hS1 (fun _ _ z => by cases z)) hL T hT X
theorem mDef_ok (ci : Nat) (w : vw_C) (hw : vwCl[ci]? = some w) : ∀ j, j < w.2.2 → defaultValue (mTyOf ci j) = vp_V (mDef ci) j := by
  match ci, hw with
  | 0, hw => cases hw; decide +kernel
  | 1, hw => cases hw; decide +kernel
  | 2, hw => cases hw; decide +kernel
  | 3, hw => cases hw; decide +kernel
  | 4, hw => cases hw; decide +kernel
  | 5, hw => cases hw; decide +kernel
  | 6, hw => cases hw; decide +kernel
  | 7, hw => cases hw; decide +kernel
  | 8, hw => cases hw; decide +kernel
  | 9, hw => cases hw; decide +kernel
  | k + 10, hw => simp [vwCl] at hw
theorem mDef_tv (ad : Nat → Nat) (ci : Nat) : (mDef ci).map (tv ad) = mDef ci := by
  match ci with
  | 0 => rfl
  | 1 => rfl
  | 2 => rfl
  | 3 => rfl
  | 4 => rfl
  | 5 => rfl
  | 6 => rfl
  | 7 => rfl
  | 8 => rfl
  | 9 => rfl
  | k + 10 => rfl
theorem s_new {ci idx : Nat} {w : vw_C} (hw : vwCl[ci]? = some w) (h1 : Cond.classLink (mt n).1.cls idx w.1 ∈ mAllW) (h2 : Cond.instantiable w.1 w.2.2 ∈ mAllW) (h3 : Cond.initialized w.1 ∈ mAllW) (hks : w.2.2 ≤ ks) (hl : h.length < 1000000) (hd : decode (mBy (mt n)) pc = .ok (.new idx, 3)) (hk : mV SA kc (ks - w.2.2) n (pc + 3) L (.ref h.length :: r) (h ++ [.inr (ci, mDef ci)]) P) : mV SA (kc + 1) ks n pc L r h P := by
  intro p l e R s m args below meth c D dA ad B Qf mc0 H locs cells slots ls hC hc hs hR hL
  have hK := hC.2.2.2.2.2.2.2.2.1
  have hmc := hC.2.2.2.2.2.2.2.2.2.1
  have hts := hC.2.2.2.2.1
  have hA : ∀ q : Nat, s.heap.size ≤ q → (fun q => B ≤ q) q := fun q hq => Nat.le_trans hR.2.2.2.2.2 hq
  obtain ⟨c1, c2, c3⟩ := mCl_ok ci w hw
  refine va_new (ci := ci) (fs := mDef ci) hC.1 hC.2.1 hts c1 (mTyOf ci) c2 hC.2.2.2.1 (hts _ h1) (hts _ h2) (hts _ h3) hK.1 hR.1 (mR_D (D := D) hK.2.1 hR.2.2.2.1) hR.2.1 hA hw (mDef_ok ci w hw) (by omega) (by omega) hd (fun q H1 hP1 hD1 hS1 => ?_)
  intro T hT X
  have hq := mNew hK.2.1 hl hR hP1 hD1 hT X
  subst hq
  have hP2 : va_P D vwCl (tW dA ad h ++ [(ad h.length, tE dA ad (.inr (ci, mDef ci)))]) H1 := by
    have e1 : tE dA ad (.inr (ci, mDef ci)) = .inr (ci, mDef ci) := by
      show Sum.inr (ci, (mDef ci).map (tv ad)) = _
      rw [mDef_tv]
    rw [e1]; exact hP1
  exact hk p l e R s m args below meth c D dA ad B Qf mc0 H1 locs (cells + 1) (slots + w.2.2) ls hC (by omega) (by omega) (mR_push hR hl hP2 hS1 (fun _ _ z => by cases z)) hL T hT X
end

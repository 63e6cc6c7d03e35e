/-! PART 08: each instruction over pictures: constants of the pool, fields, arrays, new cells -/
set_option maxRecDepth 100000 in
theorem mLay_0 : (List.range 12).all (fun k => mAt (([336, 338, 340, 318, 320, 322, 324, 326, 328, 330, 332, 334] : List Nat).getD k 0) (u_lay RX0 TX0 k)) = true := by decide +kernel
set_option maxRecDepth 100000 in
theorem mLay_1 : (List.range 10).all (fun k => mAt (([399, 401, 403, 405, 407, 409, 411, 413, 415, 417] : List Nat).getD k 0) (u_lay RX2 TX2 k)) = true := by decide +kernel
set_option maxRecDepth 100000 in
theorem mLay_2 : (List.range 11).all (fun k => mAt (([250, 252, 254, 256, 258, 260, 262, 264, 266, 268, 270] : List Nat).getD k 0) (u_lay RX3 TX3 k)) = true := by decide +kernel
set_option maxRecDepth 100000 in
theorem mLay_3 : (List.range 8).all (fun k => mAt (([156, 158, 160, 162, 164, 166, 168, 170] : List Nat).getD k 0) (u_lay RX4 TX4 k)) = true := by decide +kernel
set_option maxRecDepth 100000 in
theorem mLay_4 : (List.range 5).all (fun k => mAt (([204, 206, 208, 210, 212] : List Nat).getD k 0) (u_lay RX5 TX5 k)) = true := by decide +kernel
set_option maxRecDepth 100000 in
theorem mLay_5 : (List.range 4).all (fun k => mAt (([222, 224, 226, 228] : List Nat).getD k 0) (u_lay RX6 TX6 k)) = true := by decide +kernel
set_option maxRecDepth 100000 in
theorem mLay_6 : (List.range 2).all (fun k => mAt (([191, 193] : List Nat).getD k 0) (u_lay RX7 TX7 k)) = true := by decide +kernel
set_option maxRecDepth 100000 in
theorem mLay_7 : (List.range 9).all (fun k => mAt (([367, 368, 369, 355, 357, 359, 361, 363, 365] : List Nat).getD k 0) (u_lay RX8 TX8 k)) = true := by decide +kernel
set_option maxRecDepth 100000 in
theorem mLay_8 : (List.range 15).all (fun k => mAt (([435, 437, 439, 441, 443, 445, 447, 449, 451, 453, 455, 457, 459, 461, 463] : List Nat).getD k 0) (u_lay RX9 TX9 k)) = true := by decide +kernel
set_option maxRecDepth 100000 in
theorem mLay_9 : (List.range 71).all (fun k => mAt (([1181, 1183, 1185, 1187, 1189, 1191, 1193, 1195, 1197, 1199, 1201, 1203, 1205, 1207, 1209, 1211, 1213, 1215, 1217, 1219, 1221, 1223, 1225, 1227, 1229, 1231, 1233, 1235, 1237, 1239, 1241, 1243, 1245, 1247, 1249, 1251, 1253, 1255, 1257, 1259, 1261, 1263, 1265, 1267, 1269, 1271, 1273, 1275, 1277, 1279, 1281, 1283, 1285, 1287, 1289, 1291, 1293, 1295, 1297, 1299, 1301, 1303, 1305, 1307, 1309, 1311, 1313, 1315, 1317, 1319, 1321] : List Nat).getD k 0) (u_lay RX10 TX10 k)) = true := by decide +kernel
theorem mLay_of {C : String} {T : u_T} {N : Nat} {f : Nat → Nat} (h : (List.range N).all (fun k => mAt (f k) (u_lay C T k)) = true) : ∀ w ∈ u_ws C T N, w ∈ mAllW := by
  intro w hw
  obtain ⟨k, hk, rfl⟩ := List.mem_map.mp hw
  exact mAt_in (List.all_eq_true.mp h k hk)
theorem mCl_ok (ci : Nat) (r : vw_C) (hr : vwCl[ci]? = some r) : (∀ w ∈ u_ws r.1 r.2.1 r.2.2, w ∈ mAllW) ∧ (∀ k, k < r.2.2 → parseFieldDescriptor (r.2.1 k).2.2.1 = some (mTyOf ci k)) ∧ (∀ a, a < r.2.2 → ∀ b, b < r.2.2 → a ≠ b → (r.2.1 a).2.1 ≠ (r.2.1 b).2.1) := by
  match ci, hr with
  | 0, hr => cases hr; exact ⟨mLay_of mLay_0, tyX0_ok, nmX0⟩
  | 1, hr => cases hr; exact ⟨mLay_of mLay_1, tyX2_ok, nmX2⟩
  | 2, hr => cases hr; exact ⟨mLay_of mLay_2, tyX3_ok, nmX3⟩
  | 3, hr => cases hr; exact ⟨mLay_of mLay_3, tyX4_ok, nmX4⟩
  | 4, hr => cases hr; exact ⟨mLay_of mLay_4, tyX5_ok, nmX5⟩
  | 5, hr => cases hr; exact ⟨mLay_of mLay_5, tyX6_ok, nmX6⟩
  | 6, hr => cases hr; exact ⟨mLay_of mLay_6, tyX7_ok, nmX7⟩
  | 7, hr => cases hr; exact ⟨mLay_of mLay_7, tyX8_ok, nmX8⟩
  | 8, hr => cases hr; exact ⟨mLay_of mLay_8, tyX9_ok, nmX9⟩
  | 9, hr => cases hr; exact ⟨mLay_of mLay_9, tyX10_ok, nmX10⟩
  | k + 10, hr => simp [vwCl] at hr
set_option maxRecDepth 100000 in
theorem mOwn_all : mtab.all (fun y => decide (mOwn (mCn y) = y.1.cls)) = true := by decide +kernel
theorem mt_in (n : Nat) : mt n ∈ mtab ∨ mt n = (yX0_init, cX0_init, 0, none, 0, 0, 0) := by
  unfold mt
  rw [List.getD_eq_getElem?_getD]
  cases hg : mtab[n]? with
  | none => exact Or.inr rfl
  | some y => exact Or.inl (List.mem_of_getElem? hg)
theorem mOwn_ok (n : Nat) : mOwn (mCn (mt n)) = (mt n).1.cls := by
  rcases mt_in n with h | h
  · have := List.all_eq_true.mp mOwn_all _ h
    simpa using this
  · rw [h]; decide +kernel
section
variable {SA : mSA} {kc ks n pc : Nat} {L : mL} {h : mH} {P : Option Value → mH → Prop} {r : List Value}
theorem m_ldcwS {p : Program} {l : Launch} {e : Env} {R : Room} {s : State} {m : MethodId} {args : Array Value} {below : List Frame} {meth : Method} {c : Code} {H : Heap} {locs : List Loc} {cells slots : Nat} {Q : State → Prop} {cc : ByteArray} {pc : Nat} {ls : Array Slot} {rest : List Value} (hexec : p.tables.exec = Jvm.exec) (hb : c.code = cc) {own tx : String} {index q : Nat} (hown : s.vm.findClass own = some m.cls) (hZ : vk_R own index tx q s) (hdg : decode cc pc = .ok (.ldc_w index, 3))
    (k : W p l e R s m args below meth c H locs cells slots Q (F0 m (pc + 3) ls (.ref q :: rest))) : W p l e R s m args below meth c H locs cells slots Q (F0 m pc ls rest) := by
  intro T hT X
  obtain ⟨t, a1, b1⟩ := k T hT X
  refine ⟨t, ?_, b1⟩
  obtain ⟨kk, cf, i, a', hk, hcf, hcp, -, hr, hev'⟩ := Cond.stringRef_spec hown hZ.1
  cases hZ.2.symm.trans hev'
  obtain ⟨k', hk', he⟩ := X.warmed.alike.2.2 _ _ hk
  have hr' : k'.resolved[index]? = some (some (.string q)) := by
    rcases X.warmed.entry hk hk' index with h | ⟨h, -⟩
    · rw [h]; exact hr
    · rw [hr] at h; cases h
  have hdg' : decode c.code (F0 m pc ls rest).pc = .ok (.ldc_w index, 3) := by rw [hb]; exact hdg
  jvm_step X.here [hexec, hdg', ldc_w.wp_string (e := e) (s := T) (f := F0 m pc ls rest) X.here.top hk' (by rw [he]; exact hcf) hcp hr']
  exact a1
theorem s_ldcI {idx : Nat} {v : Int32} (hw : Cond.constant (mt n).1.cls idx v ∈ mAllW) (hd : decode (mBy (mt n)) pc = .ok (.ldc idx, 2)) (hk : mV SA kc ks n (pc + 2) L (.int v :: r) h P) : mV SA kc ks n pc L r h P := by
  intro p l e R s m args below meth c D dA ad B Qf mc0 H locs cells slots ls hC hc hs hR hL
  exact lv_ldc hC.1 hC.2.1 hC.2.2.2.1 (hC.2.2.2.2.1 _ hw) hd (hk p l e R s m args below meth c D dA ad B Qf mc0 H locs cells slots ls hC hc hs hR hL)
theorem s_ldc2 {idx : Nat} {v : Int64} (hw : Cond.constantLong (mt n).1.cls idx v ∈ mAllW) (hd : decode (mBy (mt n)) pc = .ok (.ldc2_w idx, 3)) (hk : mV SA kc ks n (pc + 3) L (.long v :: r) h P) : mV SA kc ks n pc L r h P := by
  intro p l e R s m args below meth c D dA ad B Qf mc0 H locs cells slots ls hC hc hs hR hL
  exact lv_ldc2 hC.1 hC.2.1 hC.2.2.2.1 (hC.2.2.2.2.1 _ hw) hd (hk p l e R s m args below meth c D dA ad B Qf mc0 H locs cells slots ls hC hc hs hR hL)
theorem s_ldcS {idx i : Nat} {q : String × Nat × String} (hq : mStrs[i]? = some q) (h1 : q.1 = (mt n).1.cls) (h2 : q.2.1 = idx) (hd : decode (mBy (mt n)) pc = .ok (.ldc idx, 2)) (hk : mV SA kc ks n (pc + 2) L (.ref (2000000 + i) :: r) h P) : mV SA kc ks n pc L r h P := by
  intro p l e R s m args below meth c D dA ad B Qf mc0 H locs cells slots ls hC hc hs hR hL
  have hz := hC.2.2.2.2.2.2.2.2.1.2.2.2.2.2.1 i q hq
  rw [h1, h2] at hz
  exact va_ldcS hC.1 hC.2.1 hC.2.2.2.1 hz hd (hk p l e R s m args below meth c D dA ad B Qf mc0 H locs cells slots ls hC hc hs hR hL)
theorem s_ldcwS {idx i : Nat} {q : String × Nat × String} (hq : mStrs[i]? = some q) (h1 : q.1 = (mt n).1.cls) (h2 : q.2.1 = idx) (hd : decode (mBy (mt n)) pc = .ok (.ldc_w idx, 3)) (hk : mV SA kc ks n (pc + 3) L (.ref (2000000 + i) :: r) h P) : mV SA kc ks n pc L r h P := by
  intro p l e R s m args below meth c D dA ad B Qf mc0 H locs cells slots ls hC hc hs hR hL
  have hz := hC.2.2.2.2.2.2.2.2.1.2.2.2.2.2.1 i q hq
  rw [h1, h2] at hz
  exact m_ldcwS hC.1 hC.2.1 hC.2.2.2.1 hz hd (hk p l e R s m args below meth c D dA ad B Qf mc0 H locs cells slots ls hC hc hs hR hL)
theorem s_getstatic {idx : Nat} {q : String × String × String × Value} (hq : q ∈ mStat) (hw : Cond.fieldLink (mt n).1.cls idx q.1 q.2.1 q.2.2.1 ∈ mAllW) (hd : decode (mBy (mt n)) pc = .ok (.getstatic idx, 3)) (hk : mV SA kc ks n (pc + 3) L (q.2.2.2 :: r) h P) : mV SA kc ks n pc L r h P := by
  intro p l e R s m args below meth c D dA ad B Qf mc0 H locs cells slots ls hC hc hs hR hL
  exact va_gets hC.1 hC.2.1 (hC.2.2.2.2.2.2.2.2.1.2.2.1 q hq) hR.2.1 hC.2.2.2.1 (hC.2.2.2.2.1 _ hw) (fun x hx => hx) hd (hk p l e R s m args below meth c D dA ad B Qf mc0 H locs cells slots ls hC hc hs hR hL)
theorem mAdm_in {dc ci : Nat} (hd : ¬ dc = 999) (h : mAdm dc ci = true) : ci ∈ mAdmL dc ∨ (dc = 50 ∧ ci = 50) := by
  simp only [mAdm, Bool.or_eq_true, Bool.and_eq_true, beq_iff_eq] at h
  unfold mAdmL
  by_cases h5 : dc = 50
  · rw [if_pos h5]
    rcases h with h | ⟨-, h | h⟩
    · exact Or.inr ⟨h5, by omega⟩
    · exact Or.inl (by simp [h])
    · exact Or.inl (by simp [h])
  · rw [if_neg h5]
    rcases h with h | ⟨h, -⟩
    · exact Or.inl (by simp [h])
    · exact absurd h h5
theorem s_getfield {idx k dc j ci : Nat} {v0 w : Value} {fs : List Value} {ps : List Nat} (hl : mFieldB (mt n).1.cls idx dc j v0 ps = true) (hdc : ¬ dc = 999) (hk0 : h[k]? = some (.inr (ci, fs))) (ha : mAdm dc ci = true) (hv : fs[j]? = some w) (hd : decode (mBy (mt n)) pc = .ok (.getfield idx, 3)) (hk : mV SA kc ks n (pc + 3) L (w :: r) h P) : mV SA kc ks n pc L (.ref k :: r) h P := by
  intro p l e R s m args below meth c D dA ad B Qf mc0 H locs cells slots ls hC hc hs hR hL
  unfold mFieldB at hl
  rw [if_neg hdc] at hl
  have hK := hC.2.2.2.2.2.2.2.2.1
  rcases mAdm_in hdc ha with hin | ⟨-, rfl⟩
  · have hl2 := List.all_eq_true.mp hl ci hin
    cases hr : vwCl[ci]? with
    | none => rw [hr] at hl2; cases hl2
    | some q =>
      rw [hr] at hl2
      simp only [Bool.and_eq_true, Bool.or_eq_true, decide_eq_true_eq] at hl2
      obtain ⟨hj, hw⟩ := hl2
      have he := tW_get (dA := dA) (ad := ad) hk0
      have hvv : (fs.map (tv ad))[j]? = some (tv ad w) := by rw [List.getElem?_map, hv]; rfl
      rcases hw with hw | ⟨hw, hw2⟩
      · exact va_get (cl := vwCl) (ref := (q.2.1 j).1) hC.1 hC.2.1 hC.2.2.2.2.1 (mCl_ok ci q hr).1 hC.2.2.2.1 hK.1 hR.1 k he hr j hj (hC.2.2.2.2.1 _ (mAt_in hw)) (fun x hx => hx) hvv hd (hk p l e R s m args below meth c D dA ad B Qf mc0 H locs cells slots ls hC hc hs hR hL)
      · exact va_get (cl := vwCl) (ref := q.1) hC.1 hC.2.1 hC.2.2.2.2.1 (mCl_ok ci q hr).1 hC.2.2.2.1 hK.1 hR.1 k he hr j hj (hC.2.2.2.2.1 _ (mAt_in hw)) (fun x hx => u_same (hC.2.2.2.2.1 _ (mAt_in hw2)) x hx) hvv hd (hk p l e R s m args below meth c D dA ad B Qf mc0 H locs cells slots ls hC hc hs hR hL)
  · have hlt := (hR.1 k _ (tW_get (dA := dA) (ad := ad) hk0))
    obtain ⟨q, hq, -⟩ := hlt
    simp [vwCl] at hq
theorem s_getfieldS {idx i j : Nat} {v0 w : Value} {ps : List Nat} (hl : mFieldB (mt n).1.cls idx 999 j v0 ps = true) (hi : i < 14) (hj : (j = 0 ∧ w = .ref (1001000 + i)) ∨ (j = 1 ∧ w = .int 0)) (hd : decode (mBy (mt n)) pc = .ok (.getfield idx, 3)) (hk : mV SA kc ks n (pc + 3) L (w :: r) h P) : mV SA kc ks n pc L (.ref (2000000 + i) :: r) h P := by
  intro p l e R s m args below meth c D dA ad B Qf mc0 H locs cells slots ls hC hc hs hR hL
  unfold mFieldB at hl
  rw [if_pos rfl] at hl
  obtain ⟨-, g2, g3⟩ := hC.2.2.2.2.2.2.2.2.1.2.2.2.2.1 i hi
  rcases hj with ⟨rfl, rfl⟩ | ⟨rfl, rfl⟩
  · exact vk_getf (ref := "java/lang/String") hC.1 hC.2.1 g3 hR.2.1 hC.2.2.2.1 (hC.2.2.2.2.1 _ (mAt_in hl)) (fun x hx => hx) hd (hk p l e R s m args below meth c D dA ad B Qf mc0 H locs cells slots ls hC hc hs hR hL)
  · exact vk_getf (ref := "java/lang/String") hC.1 hC.2.1 g2 hR.2.1 hC.2.2.2.1 (hC.2.2.2.2.1 _ (mAt_in hl)) (fun x hx => hx) hd (hk p l e R s m args below meth c D dA ad B Qf mc0 H locs cells slots ls hC hc hs hR hL)
theorem mOk_fits {ad : Nat → Nat} {ty : FieldType} {t w : Value} (h1 : mTyV ty t = true) (h2 : mOkV t w) : narrow ty (tv ad w) = tv ad w ∧ fits ty (tv ad w) = true := by
  unfold mTyV at h1
  split at h1
  · cases w <;> simp [mOkV] at h2 <;> exact ⟨rfl, rfl⟩
  · cases w <;> simp [mOkV] at h2
    rcases h2 (by decide) with rfl | rfl
    · exact ⟨(by decide : narrow .boolean (.int 0) = .int 0), (by decide : fits .boolean (.int 0) = true)⟩
    · exact ⟨(by decide : narrow .boolean (.int 1) = .int 1), (by decide : fits .boolean (.int 1) = true)⟩
  · cases w <;> simp [mOkV] at h2 <;> exact ⟨rfl, rfl⟩
  · cases w <;> simp [mOkV] at h2 <;> exact ⟨rfl, rfl⟩
  · cases w <;> simp [mOkV] at h2 <;> exact ⟨rfl, rfl⟩
  · cases h1
theorem s_putfield {idx k dc j ci : Nat} {v0 w : Value} {fs : List Value} {ps : List Nat} (hl : mFieldB (mt n).1.cls idx dc j v0 ps = true) (hl2 : mPutB (mt n).1.cls dc j v0 = true) (hdc : ¬ dc = 999) (hfn : (mAdmL dc).all (fun ci => !mFinal ci j) = true ∨ (mt n).1.name = "<init>") (hk0 : h[k]? = some (.inr (ci, fs))) (ha : mAdm dc ci = true) (hj : j < fs.length) (hv : mOkV v0 w) (hd : decode (mBy (mt n)) pc = .ok (.putfield idx, 3)) (hk : mV SA kc ks n (pc + 3) L r (h.set k (.inr (ci, fs.set j w))) P) : mV SA kc ks n pc L (w :: .ref k :: r) h P := by
  intro p l e R s m args below meth c D dA ad B Qf mc0 H locs cells slots ls hC hc hs hR hL
  unfold mFieldB at hl
  rw [if_neg hdc] at hl
  unfold mPutB at hl2
  have hK := hC.2.2.2.2.2.2.2.2.1
  rcases mAdm_in hdc ha with hin | ⟨-, rfl⟩
  · have hl3 := List.all_eq_true.mp hl ci hin
    have hl4 := List.all_eq_true.mp hl2 ci hin
    have hD := mR_D (D := D) (dA := dA) hK.2.1 hR.2.2.2.1
    cases hr : vwCl[ci]? with
    | none => rw [hr] at hl3; cases hl3
    | some q =>
      rw [hr] at hl3 hl4
      simp only [Bool.and_eq_true, Bool.or_eq_true, decide_eq_true_eq, Bool.not_eq_true'] at hl3 hl4
      obtain ⟨hjN, hw⟩ := hl3
      obtain ⟨hty, hfin⟩ := hl4
      obtain ⟨hnar, hfit⟩ := mOk_fits (ad := ad) hty hv
      have he := tW_get (dA := dA) (ad := ad) hk0
      have hjl : j < (fs.map (tv ad)).length := by rw [List.length_map]; exact hj
      obtain ⟨c1, c2, c3⟩ := mCl_ok ci q hr
      have hgo : ∀ (H1 : Heap) (locs1 : List Loc), va_P D vwCl ((tW dA ad h).set k (ad k, .inr (ci, (fs.map (tv ad)).set j (tv ad w)))) H1 → va_D (fun q => B ≤ q) ((tW dA ad h).set k (ad k, .inr (ci, (fs.map (tv ad)).set j (tv ad w)))) → va_S (fun q => B ≤ q) s.heap H1 locs1 → W p l e R s m args below meth c H1 locs1 cells slots Qf (F0 m (pc + 3) ls (r.map (tv ad))) := by
        intro H1 locs1 hP1 hD1 hS1
        have e1 : (Sum.inr (ci, (fs.map (tv ad)).set j (tv ad w)) : va_E) = tE dA ad (.inr (ci, fs.set j w)) := by simp [tE, List.map_set]
        rw [e1] at hP1
        exact hk p l e R s m args below meth c D dA ad B Qf mc0 H1 locs1 cells slots ls hC hc hs (mR_set hR hP1 hS1 (fun _ _ z => by cases z)) hL
      have hex : ∃ ref, (Cond.fieldLink (mt n).1.cls idx ref (q.2.1 j).2.1 (q.2.1 j).2.2.1).before args s = true ∧ ∀ x, s.fieldFound? (q.2.1 j).1 (q.2.1 j).2.1 (q.2.1 j).2.2.1 = some x → s.fieldFound? ref (q.2.1 j).2.1 (q.2.1 j).2.2.1 = some x := by
        rcases hw with hw | ⟨hw, hw2⟩
        · exact ⟨_, hC.2.2.2.2.1 _ (mAt_in hw), fun x hx => hx⟩
        · exact ⟨_, hC.2.2.2.2.1 _ (mAt_in hw), fun x hx => u_same (hC.2.2.2.2.1 _ (mAt_in hw2)) x hx⟩
      obtain ⟨ref, hlink, hsame⟩ := hex
      rcases hfin with hfin | hfin
      · exact va_put (cl := vwCl) (ref := ref) hC.1 hC.2.1 hC.2.2.2.2.1 c1 (mTyOf ci) c2 c3 hC.2.2.2.1 hK.1 hR.1 hD hR.2.1 k he hr j hjN hlink hsame hfin (c2 j hjN) hnar hfit hjl hd hgo
      · by_cases hff : (q.2.1 j).2.2.2 = true
        · have hin2 : (mt n).1.name = "<init>" := by
            rcases hfn with hfn | hfn
            · have := List.all_eq_true.mp hfn ci hin
              simp only [mFinal, hr, hff, Bool.not_true] at this
              cases this
            · exact hfn
          exact va_putF (cl := vwCl) (ref := ref) hC.1 hC.2.1 hC.2.2.2.2.1 c1 (mTyOf ci) c2 c3 hC.2.2.2.1 hK.1 hR.1 hD hR.2.1 k he hr j hjN hlink hsame hff (by rw [hC.2.2.2.2.2.1]; exact hin2) hfin (c2 j hjN) hnar hfit hjl hd hgo
        · exact va_put (cl := vwCl) (ref := ref) hC.1 hC.2.1 hC.2.2.2.2.1 c1 (mTyOf ci) c2 c3 hC.2.2.2.1 hK.1 hR.1 hD hR.2.1 k he hr j hjN hlink hsame (by simpa using hff) (c2 j hjN) hnar hfit hjl hd hgo
  · obtain ⟨q, hq, -⟩ := (hR.1 k _ (tW_get (dA := dA) (ad := ad) hk0))
    simp [vwCl] at hq
end


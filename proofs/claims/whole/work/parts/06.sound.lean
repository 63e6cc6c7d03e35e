/-! PART 06: what a picture stands for, and the two judgements over pictures: mV (from here the code comes to its end with P) and mCt (a method's contract) -/
def mTy : List FieldType := [.int, .long, .byte, .object RX7, .object RX2]
def mAv (a : vp_A) : Nat → Value := match a.2 with
  | .inl f => fun j => .int (f j)
  | .inr (.inl f) => fun j => .long (f j)
  | _ => fun _ => .null
def mFitH (h : mH) : Prop := ∀ (k n : Nat) (f : Nat → Int32), h[k]? = some (.inl (.byte, n, .inl f)) → ∀ j, fits .byte (.int (f j)) = true
def mK (D : va_G) (dA : FieldType → ClassId) (ad : Nat → Nat) (B : Nat) (SA : mSA) (U : State) : Prop :=
  va_K D vwCl (mTy.map fun ty => (dA ty, ty)) U ∧ (∀ k, k < 1000000 → ad k = B + k) ∧
  (∀ q ∈ mStat, va_Z q.1 q.2.1 q.2.2.1 (tv ad q.2.2.2) (fun q => B ≤ q) U U.heap) ∧
  (∀ k e, SA k = some e → va_T e.1 (ad k) e.2.1 (mAv e.2) (fun q => B ≤ q) U U.heap) ∧
  (∀ i, i < 14 → va_O "java/lang/String" (ad (2000000 + i)) (fun q => B ≤ q) U U.heap ∧ va_OF "java/lang/String" "coder" "B" (.int 0) (ad (2000000 + i)) (fun q => B ≤ q) U U.heap ∧ va_OF "java/lang/String" "value" "[B" (.ref (ad (1001000 + i))) (ad (2000000 + i)) (fun q => B ≤ q) U U.heap) ∧
  (∀ i q, mStrs[i]? = some q → vk_R q.1 q.2.1 q.2.2 (ad (2000000 + i)) U) ∧
  (∀ w ∈ mNW, va_Nw w U)
def mR (D : va_G) (dA : FieldType → ClassId) (ad : Nat → Nat) (B : Nat) (s : State) (h : mH) (H : Heap) (locs : List Loc) (cells : Nat) : Prop :=
  va_P D vwCl (tW dA ad h) H ∧ va_S (fun q => B ≤ q) s.heap H locs ∧ s.heap.size + cells = B + h.length ∧ h.length ≤ 1000000 ∧ mFitH h ∧ B ≤ s.heap.size
/-- a return instruction of the method's own kind -/
def mRt (n : Nat) (v : Option Value) (pc : Nat) : Prop := match v with
  | none => decode (mBy (mt n)) pc = .ok (.return_, 1) ∧ mRe (mt n) = none
  | some (.int x) => decode (mBy (mt n)) pc = .ok (.ireturn, 1) ∧ ∃ ty, mRe (mt n) = some ty ∧ narrow ty (.int x) = .int x
  | some (.long _) => decode (mBy (mt n)) pc = .ok (.lreturn, 1) ∧ mRe (mt n) = some .long
  | some (.ref _) => decode (mBy (mt n)) pc = .ok (.areturn, 1) ∧ ∃ c, mRe (mt n) = some (.object c)
  | _ => False
def mC (p : Program) (l : Launch) (e : Env) (R : Room) (s : State) (m : MethodId) (args : Array Value) (below : List Frame) (meth : Method) (c : Code) (D : va_G) (dA : FieldType → ClassId) (ad : Nat → Nat) (B : Nat) (Qf : State → Prop) (SA : mSA) (n mc0 : Nat) (P : Option Value → mH → Prop) : Prop :=
  p.tables.exec = Jvm.exec ∧ c.code = mBy (mt n) ∧ c.maxLocals = mLo (mt n) ∧ s.vm.findClass (mt n).1.cls = some m.cls ∧ (∀ w ∈ mAllW, w.before args s = true) ∧ meth.name = (mt n).1.name ∧ mFr (mt n) ≤ R.frames ∧ mWo (mt n) ≤ R.locals ∧ mK D dA ad B SA s ∧ mc0 ≤ R.cells ∧
  (∀ v h H locs slots pc ls, P v h → mR D dA ad B s h H locs mc0 → slots ≤ R.slots → mRt n v pc → W p l e R s m args below meth c H locs mc0 slots Qf (F0 m pc ls ((v.map (tv ad)).toList)))
def mV (SA : mSA) (kc ks n pc : Nat) (L : mL) (st : List Value) (h : mH) (P : Option Value → mH → Prop) : Prop :=
  ∀ (p : Program) (l : Launch) (e : Env) (R : Room) (s : State) (m : MethodId) (args : Array Value) (below : List Frame) (meth : Method) (c : Code) (D : va_G) (dA : FieldType → ClassId) (ad : Nat → Nat) (B : Nat) (Qf : State → Prop) (mc0 : Nat) (H : Heap) (locs : List Loc) (cells slots : Nat) (ls : Array Slot),
    mC p l e R s m args below meth c D dA ad B Qf SA n mc0 P → cells + kc = mc0 → slots + ks ≤ R.slots → mR D dA ad B s h H locs cells → lv_has ls (mLo (mt n)) (mP ad 0 L) →
    W p l e R s m args below meth c H locs cells slots Qf (F0 m pc ls (st.map (tv ad)))
def mWs (n : Nat) : List Cond := Cond.code (mt n).1 (mBy (mt n)) (mLo (mt n)) (mRe (mt n)) :: mAllW
def mPre (D : va_G) (dA : FieldType → ClassId) (ad : Nat → Nat) (B : Nat) (SA : mSA) (h : mH) (U : State) : Prop := mK D dA ad B SA U ∧ va_P D vwCl (tW dA ad h) U.heap ∧ U.heap.size = B + h.length ∧ h.length ≤ 1000000 ∧ mFitH h
def mPost (D : va_G) (dA : FieldType → ClassId) (ad : Nat → Nat) (B mc : Nat) (h : mH) (P : Option Value → mH → Prop) : Array Value → State → Outcome → State → Prop := fun _ st o t =>
  (∃ v h', o = .returned (v.map (tv ad)) ∧ P v h' ∧ va_P D vwCl (tW dA ad h') t.heap ∧ h'.length = h.length + mc ∧ h'.length ≤ 1000000 ∧ mFitH h') ∧ va_F (fun q => B ≤ q) st t
def mCt (SA : mSA) (mc ms n : Nat) (as : List Value) (h : mH) (P : Option Value → mH → Prop) : Prop :=
  ∀ (l : Launch) (D : va_G) (dA : FieldType → ClassId) (ad : Nat → Nat) (B : Nat),
    Met l (mt n).1 (mWs n) { frames := mFr (mt n), cells := mc, slots := ms, locals := mWo (mt n) } (va_Pc (as.map (tv ad)) (mPre D dA ad B SA h)) (mPost D dA ad B mc h P) mc ms (fun q => B ≤ q)
/-- a block of code, from its first instruction to pe -/
def wB (SA : mSA) (n pe : Nat) (P : Option Value → mH → Prop) : Nat → Nat → List mO → mL → List Value → mH → Prop
  | kc, ks, [], L, st, h => mV SA kc ks n pe L st h P
  | kc, ks, o :: os, L, st, h => wI SA (fun kc ks pc L st h => mV SA kc ks n pc L st h P) (mCt SA) P kc ks o (fun kc ks L st h => wB SA n pe P kc ks os L st h) L st h
/-! facts -/
theorem mNW_kind : ∀ w ∈ mNW, (∃ C, w = .arrayOver (.object C)) ∨ (∃ a i x h, w = .methodLinkNest a i x h) ∨ ∃ x, w = .declares x := by
  intro w hw
  simp only [mNW, List.mem_cons, List.not_mem_nil, or_false] at hw
  rcases hw with rfl | rfl | rfl | rfl | rfl | rfl | rfl | rfl | rfl | rfl | rfl | rfl <;> first | exact Or.inl ⟨_, rfl⟩ | exact Or.inr (Or.inl ⟨_, _, _, _, rfl⟩) | exact Or.inr (Or.inr ⟨_, rfl⟩)
theorem mNW_warm {w : Cond} (hw : w ∈ mNW) {s U : State} (hW : s.WarmedH U.vm) (hz : va_Nw w s) : va_Nw w U := by
  rcases mNW_kind w hw with ⟨C, rfl⟩ | ⟨a, i, x, h, rfl⟩ | ⟨x, rfl⟩
  · exact va_AO.moved hW.alike hz
  · exact va_Nw.warmM hW hz
  · exact va_Nw.warmD hW hz
theorem mNW_same {w : Cond} (hw : w ∈ mNW) {u U : State} (hv : u.vm = U.vm) (hz : va_Nw w u) : va_Nw w U := by
  rcases mNW_kind w hw with ⟨C, rfl⟩ | ⟨a, i, x, h, rfl⟩ | ⟨x, rfl⟩
  · exact va_AO.moved (by rw [hv]; exact Vm.Alike.refl U.vm) hz
  · exact va_Nw.same rfl hv hz
  · exact va_Nw.same rfl hv hz
theorem mR_D {D : va_G} {dA : FieldType → ClassId} {ad : Nat → Nat} {B : Nat} {h : mH} (had : ∀ k, k < 1000000 → ad k = B + k) (hl : h.length ≤ 1000000) : va_D (fun q => B ≤ q) (tW dA ad h) := by
  have key : ∀ (k : Nat) (q : Nat × va_E), (tW dA ad h)[k]? = some q → q.1 = B + k := by
    intro k q hk
    obtain ⟨e, h1, rfl⟩ := tW_at hk
    have hlt : k < h.length := (List.getElem?_eq_some_iff.mp h1).1
    exact had k (by omega)
  refine ⟨fun i j p q hi hj e => ?_, fun k q hk => ?_⟩
  · rw [key i p hi, key j q hj] at e; omega
  · rw [key k q hk]; exact Nat.le_add_right _ _
theorem mK_moved {D : va_G} {dA : FieldType → ClassId} {ad : Nat → Nat} {B : Nat} {SA : mSA} {s U : State} {H : Heap} {locs : List Loc} (hK : mK D dA ad B SA s) (hS : va_S (fun q => B ≤ q) s.heap H locs) (hU : U.heap = H) (hW : s.WarmedH U.vm) : mK D dA ad B SA U := by
  obtain ⟨h1, h2, h3, h4, h5, h6, h7⟩ := hK
  refine ⟨va_K.moved hW.alike h1, h2, fun q hq => ?_, fun k e he => ?_, fun i hi => ?_, fun i q hq => (h6 i q hq).warm hW, fun w hw => ?_⟩
  · rw [hU]; exact ((h3 q hq).kept (H1 := H) (fun a ha hna => hS.2.1 a ha hna)).moved hW.alike
  · rw [hU]; exact ((h4 k e he).kept (H1 := H) (fun a ha hna => hS.2.1 a ha hna)).moved hW.alike
  · obtain ⟨g1, g2, g3⟩ := h5 i hi
    rw [hU]
    exact ⟨(g1.kept (H1 := H) (fun a ha hna => hS.2.1 a ha hna)).moved hW.alike, (g2.kept (H1 := H) (fun a ha hna => hS.2.1 a ha hna)).moved hW.alike, (g3.kept (H1 := H) (fun a ha hna => hS.2.1 a ha hna)).moved hW.alike⟩
  · exact mNW_warm hw hW (h7 w hw)
/-- a call leaves a picture's facts as they are -/
theorem mK_calling {D : va_G} {dA : FieldType → ClassId} {ad : Nat → Nat} {B : Nat} {SA : mSA} {U : State} (g : JFrame) (mk : MethodId) (a : Array Value) (hK : mK D dA ad B SA U) : mK D dA ad B SA (U.calling g mk a) := by
  obtain ⟨h1, h2, h3, h4, h5, h6, h7⟩ := hK
  have hv : U.vm.Alike (U.calling g mk a).vm := Vm.Alike.refl U.vm
  exact ⟨va_K.moved hv h1, h2, fun q hq => (h3 q hq).moved hv, fun k e he => (h4 k e he).moved hv, fun i hi => ⟨(h5 i hi).1.moved hv, (h5 i hi).2.1.moved hv, (h5 i hi).2.2.moved hv⟩, fun i q hq => (h6 i q hq).same rfl, fun w hw => mNW_same (u := U) hw rfl (h7 w hw)⟩
theorem mLow {D : va_G} {dA : FieldType → ClassId} {ad : Nat → Nat} {B : Nat} {s : State} {h : mH} {H : Heap} {locs : List Loc} {cells : Nat} (had : ∀ k, k < 1000000 → ad k = B + k) (hR : mR D dA ad B s h H locs cells) : B + h.length ≤ H.size := by
  obtain ⟨hP, hS, -, hl, -, hB⟩ := hR
  by_cases h0 : h.length = 0
  · rw [h0]; exact Nat.le_trans hB hS.1
  · have hlt : h.length - 1 < h.length := by omega
    have h1 := (hP (h.length - 1) _ (tW_get (List.getElem?_eq_getElem hlt))).lt
    rw [had _ (by omega)] at h1
    omega
theorem mUp {p : Program} {l : Launch} {e : Env} {R : Room} {s : State} {m : MethodId} {args : Array Value} {below : List Frame} {meth : Method} {c : Code} {T : State} {locs : List Loc} {cells slots : Nat} (X : Stand p l e R s m args below meth c T locs cells slots) : T.heap.size ≤ s.heap.size + cells := X.same.2.2.1
theorem mSize {D : va_G} {dA : FieldType → ClassId} {ad : Nat → Nat} {B : Nat} {p : Program} {l : Launch} {e : Env} {R : Room} {s : State} {m : MethodId} {args : Array Value} {below : List Frame} {meth : Method} {c : Code} {T : State} {locs : List Loc} {cells slots : Nat} {h : mH} {H : Heap} (had : ∀ k, k < 1000000 → ad k = B + k) (hR : mR D dA ad B s h H locs cells) (hT : T.heap = H) (X : Stand p l e R s m args below meth c T locs cells slots) : H.size = B + h.length := by
  have h1 := mLow had hR
  have h2 := mUp X
  rw [hT] at h2
  have h3 := hR.2.2.1
  omega
/-- a cell changed -/
theorem mR_set {D : va_G} {dA : FieldType → ClassId} {ad : Nat → Nat} {B : Nat} {s : State} {h : mH} {H H1 : Heap} {locs locs1 : List Loc} {cells k : Nat} {e : mE} (hR : mR D dA ad B s h H locs cells) (hP : va_P D vwCl ((tW dA ad h).set k (ad k, tE dA ad e)) H1) (hS : va_S (fun q => B ≤ q) s.heap H1 locs1) (hf : ∀ n f, e = .inl (.byte, n, .inl f) → ∀ j, fits .byte (.int (f j)) = true) : mR D dA ad B s (h.set k e) H1 locs1 cells := by
  obtain ⟨-, -, h3, h4, h5, h6⟩ := hR
  rw [tW_set] at hP
  refine ⟨hP, hS, by rw [List.length_set]; exact h3, by rw [List.length_set]; exact h4, fun i n f hi => ?_, h6⟩
  rw [List.getElem?_set] at hi
  by_cases hk : k = i
  · rw [if_pos hk] at hi
    by_cases hl : i < h.length
    · simp only [hk, hl, if_true, Option.some.injEq] at hi
      exact hf n f hi
    · simp [hk, hl] at hi
  · rw [if_neg hk] at hi
    exact h5 i n f hi
/-- a cell more -/
theorem mR_push {D : va_G} {dA : FieldType → ClassId} {ad : Nat → Nat} {B : Nat} {s : State} {h : mH} {H H1 : Heap} {locs locs1 : List Loc} {cells : Nat} {e : mE} (hR : mR D dA ad B s h H locs cells) (hl : h.length < 1000000) (hP : va_P D vwCl (tW dA ad h ++ [(ad h.length, tE dA ad e)]) H1) (hS : va_S (fun q => B ≤ q) s.heap H1 locs1) (hf : ∀ n f, e = .inl (.byte, n, .inl f) → ∀ j, fits .byte (.int (f j)) = true) : mR D dA ad B s (h ++ [e]) H1 locs1 (cells + 1) := by
  obtain ⟨-, -, h3, h4, h5, h6⟩ := hR
  rw [tW_push] at hP
  refine ⟨hP, hS, by simp; omega, by simp; omega, fun i n f hi => ?_, h6⟩
  by_cases hk : i < h.length
  · rw [List.getElem?_append_left hk] at hi
    exact h5 i n f hi
  · rw [List.getElem?_append_right (by omega)] at hi
    have hz : i - h.length < 1 := (List.getElem?_eq_some_iff.mp hi).1
    rw [show i - h.length = 0 by omega] at hi
    simp only [List.getElem?_cons_zero, Option.some.injEq] at hi
    exact hf n f hi
/-- the address of a new cell -/
theorem mNew {D : va_G} {dA : FieldType → ClassId} {ad : Nat → Nat} {B : Nat} {p : Program} {l : Launch} {e : Env} {R : Room} {s : State} {m : MethodId} {args : Array Value} {below : List Frame} {meth : Method} {c : Code} {T : State} {locs locs1 : List Loc} {cells slots q : Nat} {h : mH} {H H1 : Heap} {x : va_E} (had : ∀ k, k < 1000000 → ad k = B + k) (hl : h.length < 1000000) (hR : mR D dA ad B s h H locs cells) (hP : va_P D vwCl (tW dA ad h ++ [(q, x)]) H1) (hD : va_D (fun q => B ≤ q) (tW dA ad h ++ [(q, x)])) (hT : T.heap = H1) (X : Stand p l e R s m args below meth c T locs1 (cells + 1) slots) : q = ad h.length := by
  have hg : (tW dA ad h ++ [(q, x)])[(tW dA ad h).length]? = some (q, x) := by simp
  have h1 := (hP _ _ hg).lt
  have h2 := hD.2 _ _ hg
  have h3 := mUp X
  rw [hT] at h3
  have h4 := hR.2.2.1
  rw [had _ hl]
  simp only at h1 h2
  by_cases hq : q = B + h.length
  · exact hq
  · exfalso
    have hlt : q - B < h.length := by omega
    have hgk : (tW dA ad h ++ [(q, x)])[q - B]? = some (ad (q - B), tE dA ad h[q - B]) := by
      rw [List.getElem?_append_left (by rw [tW_len]; exact hlt)]
      exact tW_get (List.getElem?_eq_getElem hlt)
    have := hD.1 _ _ _ _ hgk hg (by show ad (q - B) = q; rw [had _ (by omega)]; omega)
    rw [tW_len] at this
    omega

/-! PART 02: PICTURES. A picture of the heap is a list of cells by number (mH), of the locals a list (mL); a reference in a picture is the number of its cell (own cells below 1000000, tables from 1000000 on, texts from 2000000 on). 'ad' says at which address each of them lies; retAddr stands for the one static of the JDK of which only 'a reference or null' is known (ad 3000000 says which). -/
abbrev mE : Type := (FieldType × vp_A) ⊕ (Nat × List Value)
abbrev mH : Type := List mE
abbrev mL : Type := List (Option Value)
abbrev mO : Type := Instr × Nat × Nat × Value
abbrev mM : Type := MethodName × ByteArray × Nat × Option FieldType × Nat × Nat × Nat
abbrev mSA : Type := Nat → Option (FieldType × vp_A)
def tv (ad : Nat → Nat) : Value → Value
  | .ref k => .ref (ad k)
  | .retAddr _ => (match ad 3000000 with
    | 0 => .null
    | t + 1 => .ref t)
  | v => v
def tA (ad : Nat → Nat) (a : vp_A) : vp_A := (a.1, match a.2 with
  | .inr (.inr (.inr (.inr f))) => .inr (.inr (.inr (.inr fun j => (f j).map ad)))
  | x => x)
def tE (dA : FieldType → ClassId) (ad : Nat → Nat) : mE → va_E
  | .inl e => .inl (dA e.1, tA ad e.2)
  | .inr o => .inr (o.1, o.2.map (tv ad))
def tW (dA : FieldType → ClassId) (ad : Nat → Nat) (h : mH) : va_W := h.mapIdx fun k e => (ad k, tE dA ad e)
theorem tv_cat (ad : Nat → Nat) (v : Value) : (tv ad v).category = v.category := by
  cases v with
  | retAddr k =>
    show (match ad 3000000 with
      | 0 => Value.null
      | t + 1 => Value.ref t).category = _
    cases ad 3000000 <;> rfl
  | _ => rfl
theorem tv_cats (ad : Nat → Nat) (st : List Value) : ((st.map (tv ad)).map fun v => v.category) = st.map fun v => v.category := by
  rw [List.map_map]; exact List.map_congr_left fun v _ => tv_cat ad v
theorem tW_get {dA : FieldType → ClassId} {ad : Nat → Nat} {h : mH} {k : Nat} {e : mE} (hk : h[k]? = some e) : (tW dA ad h)[k]? = some (ad k, tE dA ad e) := by
  simp [tW, List.getElem?_mapIdx, hk]
theorem tW_at {dA : FieldType → ClassId} {ad : Nat → Nat} {h : mH} {k : Nat} {q : Nat × va_E} (hk : (tW dA ad h)[k]? = some q) : ∃ e, h[k]? = some e ∧ q = (ad k, tE dA ad e) := by
  simp only [tW, List.getElem?_mapIdx, Option.map_eq_some_iff] at hk
  obtain ⟨e, h1, h2⟩ := hk
  exact ⟨e, h1, h2.symm⟩
theorem tW_len (dA : FieldType → ClassId) (ad : Nat → Nat) (h : mH) : (tW dA ad h).length = h.length := by simp [tW]
theorem tW_set (dA : FieldType → ClassId) (ad : Nat → Nat) (h : mH) (k : Nat) (e : mE) : (tW dA ad h).set k (ad k, tE dA ad e) = tW dA ad (h.set k e) := by
  apply List.ext_getElem?
  intro i
  by_cases hi : i = k
  · subst hi
    simp only [tW, List.getElem?_mapIdx, List.getElem?_set, List.length_mapIdx]
    by_cases hl : i < h.length <;> simp [hl]
  · simp only [tW, List.getElem?_mapIdx, List.getElem?_set, Ne.symm hi, if_false]
theorem tW_push (dA : FieldType → ClassId) (ad : Nat → Nat) (h : mH) (e : mE) : tW dA ad h ++ [(ad h.length, tE dA ad e)] = tW dA ad (h ++ [e]) := by
  simp [tW, List.mapIdx_append]
/-! locals -/
def mCut : Option Value → Option Value
  | some (.long _) => none
  | some (.double _) => none
  | x => x
def mG : mL → Nat → Option Value
  | [], _ => none
  | x :: _, 0 => x
  | _ :: r, n + 1 => mG r n
def mS1 : mL → Nat → Value → mL
  | [], _, _ => []
  | _ :: r, 0, v => some v :: r
  | x :: r, 1, v => mCut x :: mS1 r 0 v
  | x :: r, n + 2, v => x :: mS1 r (n + 1) v
def mD1 : mL → mL
  | [] => []
  | _ :: r => none :: r
def mS2 : mL → Nat → Value → mL
  | [], _, _ => []
  | _ :: r, 0, v => some v :: mD1 r
  | x :: r, 1, v => mCut x :: mS2 r 0 v
  | x :: r, n + 2, v => x :: mS2 r (n + 1) v
def mP (ad : Nat → Nat) : Nat → mL → List (Nat × Value)
  | _, [] => []
  | i, none :: r => mP ad (i + 1) r
  | i, some v :: r => (i, tv ad v) :: mP ad (i + 1) r
theorem mP_mem {ad : Nat → Nat} : ∀ (L : mL) (k i : Nat) (v : Value), mG L i = some v → (k + i, tv ad v) ∈ mP ad k L
  | [], k, i, v, h => by simp [mG] at h
  | x :: r, k, 0, v, h => by
    simp only [mG] at h
    subst h
    simp [mP]
  | x :: r, k, i + 1, v, h => by
    simp only [mG] at h
    have := mP_mem (ad := ad) r (k + 1) i v h
    rw [show k + 1 + i = k + (i + 1) by omega] at this
    cases x with
    | none => exact this
    | some w => exact List.mem_cons_of_mem _ this
theorem mP_of {ad : Nat → Nat} : ∀ (L : mL) (k : Nat) (q : Nat × Value), q ∈ mP ad k L → ∃ i v, mG L i = some v ∧ q = (k + i, tv ad v)
  | [], k, q, h => by simp [mP] at h
  | none :: r, k, q, h => by
    obtain ⟨i, v, h1, h2⟩ := mP_of (ad := ad) r (k + 1) q h
    exact ⟨i + 1, v, h1, by rw [h2, show k + 1 + i = k + (i + 1) by omega]⟩
  | some w :: r, k, q, h => by
    rcases List.mem_cons.mp h with h | h
    · exact ⟨0, w, rfl, h⟩
    · obtain ⟨i, v, h1, h2⟩ := mP_of (ad := ad) r (k + 1) q h
      exact ⟨i + 1, v, h1, by rw [h2, show k + 1 + i = k + (i + 1) by omega]⟩
theorem mCut_some {x : Option Value} {w : Value} (h : mCut x = some w) : x = some w ∧ w.category = 1 := by
  cases x with
  | none => simp [mCut] at h
  | some y => cases y <;> simp [mCut] at h <;> subst h <;> exact ⟨rfl, rfl⟩
theorem mS1_get : ∀ (L : mL) (i j : Nat) (v w : Value), mG (mS1 L i v) j = some w → (j = i ∧ w = v) ∨ (j ≠ i ∧ mG L j = some w ∧ ¬ (j + 1 = i ∧ w.category = 2))
  | [], i, j, v, w, h => by simp [mS1, mG] at h
  | x :: r, 0, 0, v, w, h => by simp only [mS1, mG] at h; exact Or.inl ⟨rfl, (Option.some.inj h).symm⟩
  | x :: r, 0, j + 1, v, w, h => by simp only [mS1, mG] at h; exact Or.inr ⟨by omega, h, by omega⟩
  | x :: r, 1, 0, v, w, h => by
    simp only [mS1, mG] at h
    obtain ⟨h1, h2⟩ := mCut_some h
    exact Or.inr ⟨by omega, h1, by omega⟩
  | x :: r, 1, j + 1, v, w, h => by
    simp only [mS1, mG] at h
    rcases mS1_get r 0 j v w h with ⟨h1, h2⟩ | ⟨h1, h2, h3⟩
    · exact Or.inl ⟨by omega, h2⟩
    · exact Or.inr ⟨by omega, h2, by omega⟩
  | x :: r, i + 2, 0, v, w, h => by simp only [mS1, mG] at h; exact Or.inr ⟨by omega, h, by omega⟩
  | x :: r, i + 2, j + 1, v, w, h => by
    simp only [mS1, mG] at h
    rcases mS1_get r (i + 1) j v w h with ⟨h1, h2⟩ | ⟨h1, h2, h3⟩
    · exact Or.inl ⟨by omega, h2⟩
    · exact Or.inr ⟨by omega, h2, fun q => h3 ⟨by omega, q.2⟩⟩
theorem mD1_get (r : mL) (j : Nat) (w : Value) (h : mG (mD1 r) j = some w) : j ≠ 0 ∧ mG r j = some w := by
  cases r with
  | nil => simp [mD1, mG] at h
  | cons x r =>
    cases j with
    | zero => simp [mD1, mG] at h
    | succ j => exact ⟨by omega, h⟩
theorem mS2_get : ∀ (L : mL) (i j : Nat) (v w : Value), mG (mS2 L i v) j = some w → (j = i ∧ w = v) ∨ (j ≠ i ∧ j ≠ i + 1 ∧ mG L j = some w ∧ ¬ (j + 1 = i ∧ w.category = 2))
  | [], i, j, v, w, h => by simp [mS2, mG] at h
  | x :: r, 0, 0, v, w, h => by simp only [mS2, mG] at h; exact Or.inl ⟨rfl, (Option.some.inj h).symm⟩
  | x :: r, 0, j + 1, v, w, h => by
    simp only [mS2, mG] at h
    obtain ⟨h1, h2⟩ := mD1_get r j w h
    exact Or.inr ⟨by omega, by omega, h2, by omega⟩
  | x :: r, 1, 0, v, w, h => by
    simp only [mS2, mG] at h
    obtain ⟨h1, h2⟩ := mCut_some h
    exact Or.inr ⟨by omega, by omega, h1, by omega⟩
  | x :: r, 1, j + 1, v, w, h => by
    simp only [mS2, mG] at h
    rcases mS2_get r 0 j v w h with ⟨h1, h2⟩ | ⟨h1, h1', h2, h3⟩
    · exact Or.inl ⟨by omega, h2⟩
    · exact Or.inr ⟨by omega, by omega, h2, by omega⟩
  | x :: r, i + 2, 0, v, w, h => by simp only [mS2, mG] at h; exact Or.inr ⟨by omega, by omega, h, by omega⟩
  | x :: r, i + 2, j + 1, v, w, h => by
    simp only [mS2, mG] at h
    rcases mS2_get r (i + 1) j v w h with ⟨h1, h2⟩ | ⟨h1, h1', h2, h3⟩
    · exact Or.inl ⟨by omega, h2⟩
    · exact Or.inr ⟨by omega, by omega, h2, fun q => h3 ⟨by omega, q.2⟩⟩
theorem lv_less {ls : Array Slot} {nL : Nat} {l l' : List (Nat × Value)} (h : lv_has ls nL l) (hs : ∀ q ∈ l', q ∈ l) : lv_has ls nL l' := ⟨h.1, h.2.1, fun q hq => h.2.2 q (hs q hq)⟩
theorem mP_load {ad : Nat → Nat} {ls : Array Slot} {nL : Nat} {L : mL} {i : Nat} {v : Value} (h : lv_has ls nL (mP ad 0 L)) (hi : mG L i = some v) : ls[i]? = some (.val (tv ad v)) := by
  have := h.2.2 _ (mP_mem L 0 i v hi)
  simpa using this
theorem mP_store1 {ad : Nat → Nat} {ls : Array Slot} {nL : Nat} {L : mL} {i : Nat} {v : Value} (h : lv_has ls nL ((i, tv ad v) :: (mP ad 0 L).filter (fun q => !(q.1 == i) && !(q.1 + 1 == i && q.2.category == 2)))) : lv_has ls nL (mP ad 0 (mS1 L i v)) := by
  refine lv_less h fun q hq => ?_
  obtain ⟨j, w, h1, rfl⟩ := mP_of _ _ _ hq
  rcases mS1_get _ _ _ _ _ h1 with ⟨rfl, rfl⟩ | ⟨h2, h3, h4⟩
  · simp
  · refine List.mem_cons_of_mem _ (List.mem_filter.mpr ⟨mP_mem L 0 j w h3, ?_⟩)
    have : ¬ (0 + j + 1 = i ∧ (tv ad w).category = 2) := fun z => h4 ⟨by omega, by rw [← tv_cat ad w]; exact z.2⟩
    have h5 : ¬ 0 + j = i := by omega
    simp only [Bool.and_eq_true, Bool.not_eq_true', Bool.and_eq_false_iff, beq_eq_false_iff_ne, ne_eq]
    exact ⟨h5, by by_cases hz : 0 + j + 1 = i; exact Or.inr fun z => this ⟨hz, z⟩; exact Or.inl hz⟩
theorem mP_store2 {ad : Nat → Nat} {ls : Array Slot} {nL : Nat} {L : mL} {i : Nat} {v : Value} (h : lv_has ls nL ((i, tv ad v) :: (mP ad 0 L).filter (fun q => !(q.1 == i) && (!(q.1 == i + 1) && !(q.1 + 1 == i && q.2.category == 2))))) : lv_has ls nL (mP ad 0 (mS2 L i v)) := by
  refine lv_less h fun q hq => ?_
  obtain ⟨j, w, h1, rfl⟩ := mP_of _ _ _ hq
  rcases mS2_get _ _ _ _ _ h1 with ⟨rfl, rfl⟩ | ⟨h2, h2', h3, h4⟩
  · simp
  · refine List.mem_cons_of_mem _ (List.mem_filter.mpr ⟨mP_mem L 0 j w h3, ?_⟩)
    have : ¬ (0 + j + 1 = i ∧ (tv ad w).category = 2) := fun z => h4 ⟨by omega, by rw [← tv_cat ad w]; exact z.2⟩
    have h5 : ¬ 0 + j = i := by omega
    have h6 : ¬ 0 + j = i + 1 := by omega
    simp only [Bool.and_eq_true, Bool.not_eq_true', Bool.and_eq_false_iff, beq_eq_false_iff_ne, ne_eq]
    exact ⟨h5, h6, by by_cases hz : 0 + j + 1 = i; exact Or.inr fun z => this ⟨hz, z⟩; exact Or.inl hz⟩
/-- the locals at a method's entry -/
def mIn : List Value → mL
  | [] => []
  | v :: r => if v.category = 2 then some v :: none :: mIn r else some v :: mIn r
theorem mIn_args (ad : Nat → Nat) : ∀ (vs : List Value) (k n : Nat), ∀ q ∈ mP ad k (mIn vs ++ List.replicate n none), q ∈ lv_args k (vs.map (tv ad))
  | [], k, n, q, h => by
    exfalso
    obtain ⟨i, v, h1, -⟩ := mP_of _ _ _ h
    have : ∀ (n i : Nat), mG (List.replicate n none) i = none := by
      intro n
      induction n with
      | zero => intro i; rfl
      | succ n ih => intro i; cases i with
        | zero => rfl
        | succ i => exact ih i
    simp only [mIn, List.nil_append, this] at h1
    cases h1
  | v :: r, k, n, q, h => by
    by_cases hc : v.category = 2
    · simp only [mIn, hc, if_true, List.cons_append, mP] at h
      rcases List.mem_cons.mp h with h | h
      · rw [h]; simp [lv_args]
      · have := mIn_args ad r (k + 1 + 1) n q h
        simp only [List.map_cons, lv_args, tv_cat, hc, if_true]
        exact List.mem_cons_of_mem _ this
    · simp only [mIn, hc, if_false, List.cons_append, mP] at h
      rcases List.mem_cons.mp h with h | h
      · rw [h]; simp [lv_args]
      · have := mIn_args ad r (k + 1) n q h
        simp only [List.map_cons, lv_args, tv_cat, hc, if_false]
        exact List.mem_cons_of_mem _ this

/-! PART 14: THE HEAP BEHIND THE TWO CONSTRUCTORS: its shape is fixed (shp); what varies are ints (hi, by cell and place) and longs (hl) -/
abbrev mSh : Type := (FieldType × Nat × List Nat) ⊕ (Nat × List Value)
def shp_0 : List mSh := [.inr (8, [.ref 1, .ref 2, .ref 3, .ref 4, .ref 19, .ref 32, .ref 43, .ref 54, .ref 56, .ref 58, .ref 60, .ref 62, .ref 64, .ref 66, .ref 68]), .inl (.object RX7, 16, [70, 72, 74, 76, 78, 80, 82, 84, 86, 88, 90, 92, 94, 96, 98, 100]), .inl (.object RX2, 4, [102, 109, 116, 123]), .inl (.int, 5, []), .inr (5, [.ref 5, .ref 15, .ref 17, .int 0]), .inr (4, [.ref 6, .ref 9, .ref 11, .ref 13, .int 0]), .inr (3, [.ref 7, .ref 8, .int 0, .int 0, .int 0, .long 0, .int 0, .int 0]), .inl (.long, 8, []), .inl (.long, 80, []), .inr (6, [.ref 10, .int 0]), .inl (.byte, 128, []), .inr (6, [.ref 12, .int 0]), .inl (.byte, 64, []), .inr (6, [.ref 14, .int 0]), .inl (.byte, 64, []), .inr (6, [.ref 16, .int 0]), .inl (.byte, 10, []), .inr (6, [.ref 18, .int 0]), .inl (.byte, 364, []), .inr (2, [.ref 20, .ref 21, .ref 22, .ref 23, .ref 24, .ref 25, .ref 26, .ref 27, .ref 28, .ref 29, .ref 30]), .inl (.long, 10, []), .inl (.long, 10, []), .inl (.long, 10, []), .inl (.long, 10, []), .inl (.long, 10, []), .inl (.long, 10, []), .inl (.long, 10, []), .inl (.long, 10, []), .inl (.long, 10, []), .inl (.long, 10, []), .inr (6, [.ref 31, .int 0]), .inl (.byte, 32, []), .inr (0, [.ref 36, .ref 33, .ref 34, .ref 37, .ref 38, .ref 39, .ref 40, .int 0, .long 0, .long 0, .long 0, .long 0]), .inl (.int, 16, []), .inr (6, [.ref 35, .int 0]), .inl (.byte, 16, []), .inl (.int, 16, []), .inl (.int, 256, []), .inl (.int, 60, []), .inl (.int, 16, [])]
def shp_1 : List mSh := [.inr (6, [.ref 41, .int 0]), .inl (.byte, 12, []), .inl (.int, 256, []), .inr (7, [.ref 47, .ref 44, .ref 45, .ref 48, .ref 49, .ref 50, .ref 51, .ref 52, .ref 53]), .inl (.int, 16, []), .inr (6, [.ref 46, .int 0]), .inl (.byte, 16, []), .inl (.int, 64, []), .inl (.int, 16, []), .inl (.int, 16, []), .inl (.int, 16, []), .inl (.long, 5, []), .inl (.long, 5, []), .inl (.long, 5, []), .inr (6, [.ref 55, .int 0]), .inl (.byte, 0, []), .inr (6, [.ref 57, .int 0]), .inl (.byte, 300, []), .inr (6, [.ref 59, .int 0]), .inl (.byte, 12, []), .inr (6, [.ref 61, .int 0]), .inl (.byte, 64, []), .inr (6, [.ref 63, .int 0]), .inl (.byte, 96, []), .inr (6, [.ref 65, .int 0]), .inl (.byte, 64, []), .inr (6, [.ref 67, .int 0]), .inl (.byte, 32, []), .inr (6, [.ref 69, .int 0]), .inl (.byte, 129, []), .inr (6, [.ref 71, .int 0]), .inl (.byte, 300, []), .inr (6, [.ref 73, .int 0]), .inl (.byte, 300, []), .inr (6, [.ref 75, .int 0]), .inl (.byte, 300, []), .inr (6, [.ref 77, .int 0]), .inl (.byte, 300, []), .inr (6, [.ref 79, .int 0]), .inl (.byte, 300, [])]
def shp_2 : List mSh := [.inr (6, [.ref 81, .int 0]), .inl (.byte, 300, []), .inr (6, [.ref 83, .int 0]), .inl (.byte, 300, []), .inr (6, [.ref 85, .int 0]), .inl (.byte, 300, []), .inr (6, [.ref 87, .int 0]), .inl (.byte, 300, []), .inr (6, [.ref 89, .int 0]), .inl (.byte, 300, []), .inr (6, [.ref 91, .int 0]), .inl (.byte, 300, []), .inr (6, [.ref 93, .int 0]), .inl (.byte, 300, []), .inr (6, [.ref 95, .int 0]), .inl (.byte, 300, []), .inr (6, [.ref 97, .int 0]), .inl (.byte, 300, []), .inr (6, [.ref 99, .int 0]), .inl (.byte, 300, []), .inr (6, [.ref 101, .int 0]), .inl (.byte, 300, []), .inr (1, [.ref 103, .ref 105, .ref 107, .int 0, .int 0, .int 0, .int 0, .int 0, .int 0, .int 0]), .inr (6, [.ref 104, .int 0]), .inl (.byte, 32, []), .inr (6, [.ref 106, .int 0]), .inl (.byte, 12, []), .inr (6, [.ref 108, .int 0]), .inl (.byte, 64, []), .inr (1, [.ref 110, .ref 112, .ref 114, .int 0, .int 0, .int 0, .int 0, .int 0, .int 0, .int 0]), .inr (6, [.ref 111, .int 0]), .inl (.byte, 32, []), .inr (6, [.ref 113, .int 0]), .inl (.byte, 12, []), .inr (6, [.ref 115, .int 0]), .inl (.byte, 64, []), .inr (1, [.ref 117, .ref 119, .ref 121, .int 0, .int 0, .int 0, .int 0, .int 0, .int 0, .int 0]), .inr (6, [.ref 118, .int 0]), .inl (.byte, 32, []), .inr (6, [.ref 120, .int 0])]
def shp_3 : List mSh := [.inl (.byte, 12, []), .inr (6, [.ref 122, .int 0]), .inl (.byte, 64, []), .inr (1, [.ref 124, .ref 126, .ref 128, .int 0, .int 0, .int 0, .int 0, .int 0, .int 0, .int 0]), .inr (6, [.ref 125, .int 0]), .inl (.byte, 32, []), .inr (6, [.ref 127, .int 0]), .inl (.byte, 12, []), .inr (6, [.ref 129, .int 0]), .inl (.byte, 64, []), .inr (9, [.ref 131, .ref 132, .ref 133, .ref 134, .int 0, .ref 135, .ref 136, .ref 137, .ref 138, .int 0, .ref 139, .int 0, .ref 140, .int 0, .ref 141, .ref 142, .ref 143, .ref 144, .ref 145, .ref 146, .ref 147, .ref 148, .ref 149, .ref 150, .ref 151, .ref 152, .ref 153, .ref 154, .ref 155, .ref 156, .ref 157, .ref 158, .int 0, .ref 159, .ref 160, .ref 161, .ref 162, .ref 163, .int 0, .ref 164, .int 0, .ref 165, .long 0, .long 0, .long 0, .long 0, .ref 166, .ref 167, .ref 168, .ref 169, .ref 170, .ref 171, .ref 172, .ref 173, .int 0, .ref 174, .ref 175, .int 0, .ref 176, .int 0, .ref 177, .ref 178, .ref 179, .ref 180, .ref 181, .ref 182, .ref 183, .ref 184, .ref 185, .ref 186, .int 0]), .inl (.int, 4800, []), .inl (.int, 16, []), .inl (.int, 400, []), .inl (.int, 3000, []), .inl (.long, 80, []), .inl (.long, 8, []), .inl (.int, 64, []), .inl (.int, 128, []), .inl (.int, 2000, []), .inl (.int, 1000, []), .inl (.long, 16, []), .inl (.long, 16, []), .inl (.long, 16, []), .inl (.long, 16, []), .inl (.long, 16, []), .inl (.long, 16, []), .inl (.long, 16, []), .inl (.long, 16, []), .inl (.long, 16, []), .inl (.long, 16, []), .inl (.long, 16, []), .inl (.long, 31, []), .inl (.long, 16, []), .inl (.int, 32, []), .inl (.int, 32, []), .inl (.int, 32, []), .inl (.int, 256, []), .inl (.int, 240, []), .inl (.int, 16, [])]
def shp_4 : List mSh := [.inl (.int, 16, []), .inl (.int, 32, []), .inl (.int, 12, []), .inl (.int, 300, []), .inl (.int, 400, []), .inl (.int, 16, []), .inl (.int, 16, []), .inl (.int, 16, []), .inl (.int, 64, []), .inl (.long, 5, []), .inl (.long, 5, []), .inl (.long, 5, []), .inl (.int, 16, []), .inl (.int, 10, []), .inl (.int, 5, []), .inl (.int, 64, []), .inl (.int, 96, []), .inl (.int, 32, []), .inl (.int, 4, []), .inl (.int, 4, []), .inl (.int, 4, []), .inl (.int, 4, []), .inl (.long, 12, []), .inl (.int, 128, []), .inl (.int, 48, []), .inl (.int, 256, []), .inl (.int, 129, [])]
def shp : List mSh := shp_0 ++ (shp_1 ++ (shp_2 ++ (shp_3 ++ (shp_4))))
def mRows : List (Nat × Nat × Nat) := [(9, 10, 128), (11, 12, 64), (13, 14, 64), (15, 16, 10), (17, 18, 364), (30, 31, 32), (34, 35, 16), (40, 41, 12), (45, 46, 16), (54, 55, 0), (56, 57, 300), (58, 59, 12), (60, 61, 64), (62, 63, 96), (64, 65, 64), (66, 67, 32), (68, 69, 129), (70, 71, 300), (72, 73, 300), (74, 75, 300), (76, 77, 300), (78, 79, 300), (80, 81, 300), (82, 83, 300), (84, 85, 300), (86, 87, 300), (88, 89, 300), (90, 91, 300), (92, 93, 300), (94, 95, 300), (96, 97, 300), (98, 99, 300), (100, 101, 300), (103, 104, 32), (105, 106, 12), (107, 108, 64), (110, 111, 32), (112, 113, 12), (114, 115, 64), (117, 118, 32), (119, 120, 12), (121, 122, 64), (124, 125, 32), (126, 127, 12), (128, 129, 64)]
def mFillV (fi : Nat → Int32) (fl : Nat → Int64) (j : Nat) (t : Value) : Value := match t with
  | .int _ => .int (fi j)
  | .long _ => .long (fl j)
  | w => w
def mFill (fi : Nat → Int32) (fl : Nat → Int64) : mSh → mE
  | .inl (.long, n, _) => .inl (.long, n, .inr (.inl fl))
  | .inl (.object c, n, g) => .inl (.object c, n, .inr (.inr (.inr (.inr fun j => g[j]?))))
  | .inl (t, n, _) => .inl (t, n, .inl fi)
  | .inr (ci, T) => .inr (ci, T.mapIdx (mFillV fi fl))
def bH (hi : Nat → Nat → Int32) (hl : Nat → Nat → Int64) : mH := shp.mapIdx fun k s => mFill (hi k) (hl k) s
def uI (hi : Nat → Nat → Int32) (k j : Nat) (x : Int32) : Nat → Nat → Int32 := fun q => if q = k then upd (hi k) j x else hi q
def uL (hl : Nat → Nat → Int64) (k j : Nat) (x : Int64) : Nat → Nat → Int64 := fun q => if q = k then vp_updL (hl k) j x else hl q
def uA (hi : Nat → Nat → Int32) (k : Nat) (f : Nat → Int32) : Nat → Nat → Int32 := fun q => if q = k then f else hi q
def uB (hl : Nat → Nat → Int64) (k : Nat) (f : Nat → Int64) : Nat → Nat → Int64 := fun q => if q = k then f else hl q
theorem bH_get (hi : Nat → Nat → Int32) (hl : Nat → Nat → Int64) (k : Nat) : (bH hi hl)[k]? = (shp[k]?).map (mFill (hi k) (hl k)) := by
  simp only [bH, List.getElem?_mapIdx]
set_option maxRecDepth 100000 in
theorem shp_len : shp.length = 187 := by decide +kernel
theorem shp_lt {k : Nat} {s : mSh} (h : shp[k]? = some s) : k < 1000000 := by
  have := (List.getElem?_eq_some_iff.mp h).1
  rw [shp_len] at this
  omega
theorem bH_set {hi hi2 : Nat → Nat → Int32} {hl hl2 : Nat → Nat → Int64} {k : Nat} {s : mSh} {e : mE} (hs : shp[k]? = some s) (he : mFill (hi2 k) (hl2 k) s = e) (hi' : ∀ q, q ≠ k → hi2 q = hi q) (hl' : ∀ q, q ≠ k → hl2 q = hl q) : (bH hi hl).set k e = bH hi2 hl2 := by
  apply List.ext_getElem?
  intro i
  rw [List.getElem?_set]
  by_cases hk : k = i
  · subst hk
    have hlt : k < (bH hi hl).length := by
      rw [bH, List.length_mapIdx]; exact (List.getElem?_eq_some_iff.mp hs).1
    rw [if_pos rfl, if_pos hlt, bH_get, hs, ← he]; rfl
  · rw [if_neg hk, bH_get, bH_get, hi' i (Ne.symm hk), hl' i (Ne.symm hk)]
theorem uA_self (hi : Nat → Nat → Int32) (k : Nat) (f : Nat → Int32) : uA hi k f k = f := if_pos rfl
theorem uB_self (hl : Nat → Nat → Int64) (k : Nat) (f : Nat → Int64) : uB hl k f k = f := if_pos rfl
theorem uA_ne {hi : Nat → Nat → Int32} {k q : Nat} {f : Nat → Int32} (h : q ≠ k) : uA hi k f q = hi q := if_neg h
theorem uB_ne {hl : Nat → Nat → Int64} {k q : Nat} {f : Nat → Int64} (h : q ≠ k) : uB hl k f q = hl q := if_neg h
theorem uA_uA (hi : Nat → Nat → Int32) (k : Nat) (f g : Nat → Int32) : uA (uA hi k f) k g = uA hi k g := by
  funext q
  unfold uA
  by_cases h : q = k <;> simp [h]
theorem uB_uB (hl : Nat → Nat → Int64) (k : Nat) (f g : Nat → Int64) : uB (uB hl k f) k g = uB hl k g := by
  funext q
  unfold uB
  by_cases h : q = k <;> simp [h]
theorem uA_id (hi : Nat → Nat → Int32) (k : Nat) : uA hi k (hi k) = hi := by
  funext q
  unfold uA
  by_cases h : q = k <;> simp [h]
theorem uB_id (hl : Nat → Nat → Int64) (k : Nat) : uB hl k (hl k) = hl := by
  funext q
  unfold uB
  by_cases h : q = k <;> simp [h]
theorem uI_eq (hi : Nat → Nat → Int32) (k j : Nat) (x : Int32) : uI hi k j x k j = x := by simp [uI, upd]
theorem uI_ne1 {hi : Nat → Nat → Int32} {k j i : Nat} {x : Int32} (h : i ≠ j) : uI hi k j x k i = hi k i := by simp [uI, upd, h]
theorem uI_ne2 {hi : Nat → Nat → Int32} {k q j : Nat} {x : Int32} (h : q ≠ k) : uI hi k j x q = hi q := if_neg h
theorem uL_eq (hl : Nat → Nat → Int64) (k j : Nat) (x : Int64) : uL hl k j x k j = x := by simp [uL, vp_updL]
theorem uL_ne1 {hl : Nat → Nat → Int64} {k j i : Nat} {x : Int64} (h : i ≠ j) : uL hl k j x k i = hl k i := by simp [uL, vp_updL, h]
theorem uL_ne2 {hl : Nat → Nat → Int64} {k q j : Nat} {x : Int64} (h : q ≠ k) : uL hl k j x q = hl q := if_neg h
/-! reading -/
theorem g_obj {k ci : Nat} {T : List Value} (hs : shp[k]? = some (.inr (ci, T))) (hi : Nat → Nat → Int32) (hl : Nat → Nat → Int64) : (bH hi hl)[k]? = some (.inr (ci, T.mapIdx (mFillV (hi k) (hl k)))) := by rw [bH_get, hs]; rfl
theorem g_fld {k ci dc j : Nat} {T : List Value} {t : Value} (hs : shp[k]? = some (.inr (ci, T))) (hd : ¬ dc = 999) (ha : mAdm dc ci = true) (ht : T[j]? = some t) (hi : Nat → Nat → Int32) (hl : Nat → Nat → Int64) : mFld (bH hi hl) k dc j = some (mFillV (hi k) (hl k) j t) := by
  unfold mFld
  rw [if_neg hd, g_obj hs]
  simp [ha, ht]
theorem g_cls {k ci : Nat} {T : List Value} (hs : shp[k]? = some (.inr (ci, T))) (hi : Nat → Nat → Int32) (hl : Nat → Nat → Int64) : mCls (bH hi hl) k = some ci := by
  unfold mCls
  rw [if_pos (shp_lt hs), g_obj hs]
theorem g_arrI {SA : mSA} {k N : Nat} {g : List Nat} (hs : shp[k]? = some (.inl (.int, N, g))) (hi : Nat → Nat → Int32) (hl : Nat → Nat → Int64) : mArr SA (bH hi hl) k = some (.int, N, .inl (hi k)) := by
  unfold mArr
  rw [if_pos (shp_lt hs), bH_get, hs]; rfl
theorem g_arrB {SA : mSA} {k N : Nat} {g : List Nat} (hs : shp[k]? = some (.inl (.byte, N, g))) (hi : Nat → Nat → Int32) (hl : Nat → Nat → Int64) : mArr SA (bH hi hl) k = some (.byte, N, .inl (hi k)) := by
  unfold mArr
  rw [if_pos (shp_lt hs), bH_get, hs]; rfl
theorem g_arrL {SA : mSA} {k N : Nat} {g : List Nat} (hs : shp[k]? = some (.inl (.long, N, g))) (hi : Nat → Nat → Int32) (hl : Nat → Nat → Int64) : mArr SA (bH hi hl) k = some (.long, N, .inr (.inl (hl k))) := by
  unfold mArr
  rw [if_pos (shp_lt hs), bH_get, hs]; rfl
theorem g_cI {k N : Nat} {g : List Nat} (hs : shp[k]? = some (.inl (.int, N, g))) (hi : Nat → Nat → Int32) (hl : Nat → Nat → Int64) : (bH hi hl)[k]? = some (.inl (.int, N, .inl (hi k))) := by rw [bH_get, hs]; rfl
theorem g_cB {k N : Nat} {g : List Nat} (hs : shp[k]? = some (.inl (.byte, N, g))) (hi : Nat → Nat → Int32) (hl : Nat → Nat → Int64) : (bH hi hl)[k]? = some (.inl (.byte, N, .inl (hi k))) := by rw [bH_get, hs]; rfl
theorem g_cL {k N : Nat} {g : List Nat} (hs : shp[k]? = some (.inl (.long, N, g))) (hi : Nat → Nat → Int32) (hl : Nat → Nat → Int64) : (bH hi hl)[k]? = some (.inl (.long, N, .inr (.inl (hl k)))) := by rw [bH_get, hs]; rfl
theorem g_cA {k N : Nat} {c : String} {g : List Nat} (hs : shp[k]? = some (.inl (.object c, N, g))) (hi : Nat → Nat → Int32) (hl : Nat → Nat → Int64) : (bH hi hl)[k]? = some (.inl (.object c, N, .inr (.inr (.inr (.inr fun j => g[j]?))))) := by rw [bH_get, hs]; rfl
/-! writing -/
theorem u_other {hi : Nat → Nat → Int32} {k q j : Nat} {x : Int32} (h : q ≠ k) : uI hi k j x q = hi q := if_neg h
theorem u_self {hi : Nat → Nat → Int32} {k j : Nat} {x : Int32} : uI hi k j x k = upd (hi k) j x := if_pos rfl
theorem uL_other {hl : Nat → Nat → Int64} {k q j : Nat} {x : Int64} (h : q ≠ k) : uL hl k j x q = hl q := if_neg h
theorem uL_self {hl : Nat → Nat → Int64} {k j : Nat} {x : Int64} : uL hl k j x k = vp_updL (hl k) j x := if_pos rfl
theorem p_arrI {k N : Nat} {g : List Nat} (hs : shp[k]? = some (.inl (.int, N, g))) (hi : Nat → Nat → Int32) (hl : Nat → Nat → Int64) (j : Nat) (x : Int32) : (bH hi hl).set k (.inl (.int, N, .inl (upd (hi k) j x))) = bH (uI hi k j x) hl := bH_set hs (by rw [u_self]; rfl) (fun _ h => u_other h) (fun _ _ => rfl)
theorem p_arrB {k N : Nat} {g : List Nat} (hs : shp[k]? = some (.inl (.byte, N, g))) (hi : Nat → Nat → Int32) (hl : Nat → Nat → Int64) (j : Nat) (x : Int32) : (bH hi hl).set k (.inl (.byte, N, .inl (upd (hi k) j x))) = bH (uI hi k j x) hl := bH_set hs (by rw [u_self]; rfl) (fun _ h => u_other h) (fun _ _ => rfl)
theorem p_arrL {k N : Nat} {g : List Nat} (hs : shp[k]? = some (.inl (.long, N, g))) (hi : Nat → Nat → Int32) (hl : Nat → Nat → Int64) (j : Nat) (x : Int64) : (bH hi hl).set k (.inl (.long, N, .inr (.inl (vp_updL (hl k) j x)))) = bH hi (uL hl k j x) := bH_set hs (by rw [uL_self]; rfl) (fun _ _ => rfl) (fun _ h => uL_other h)
theorem p_cpyI {k N : Nat} {g : List Nat} (hs : shp[k]? = some (.inl (.int, N, g))) (hi : Nat → Nat → Int32) (hl : Nat → Nat → Int64) (f : Nat → Int32) : (bH hi hl).set k (.inl (.int, N, .inl f)) = bH (uA hi k f) hl := bH_set hs (by rw [uA, if_pos rfl]; rfl) (fun _ h => if_neg h) (fun _ _ => rfl)
theorem p_cpyB {k N : Nat} {g : List Nat} (hs : shp[k]? = some (.inl (.byte, N, g))) (hi : Nat → Nat → Int32) (hl : Nat → Nat → Int64) (f : Nat → Int32) : (bH hi hl).set k (.inl (.byte, N, .inl f)) = bH (uA hi k f) hl := bH_set hs (by rw [uA, if_pos rfl]; rfl) (fun _ h => if_neg h) (fun _ _ => rfl)
theorem p_cpyL {k N : Nat} {g : List Nat} (hs : shp[k]? = some (.inl (.long, N, g))) (hi : Nat → Nat → Int32) (hl : Nat → Nat → Int64) (f : Nat → Int64) : (bH hi hl).set k (.inl (.long, N, .inr (.inl f))) = bH hi (uB hl k f) := bH_set hs (by rw [uB, if_pos rfl]; rfl) (fun _ _ => rfl) (fun _ h => if_neg h)
theorem mFill_setI (T : List Value) (fi : Nat → Int32) (fl : Nat → Int64) (j : Nat) (x t : Int32) (ht : T[j]? = some (.int t)) : (T.mapIdx (mFillV fi fl)).set j (.int x) = T.mapIdx (mFillV (upd fi j x) fl) := by
  apply List.ext_getElem?
  intro i
  rw [List.getElem?_set]
  by_cases h : j = i
  · subst h
    have hlt := (List.getElem?_eq_some_iff.mp ht).1
    rw [if_pos rfl, if_pos (by simpa using hlt), List.getElem?_mapIdx, ht]
    simp [mFillV, upd]
  · rw [if_neg h, List.getElem?_mapIdx, List.getElem?_mapIdx]
    cases T[i]? with
    | none => rfl
    | some w => cases w <;> simp [mFillV, upd, Ne.symm h]
theorem mFill_setL (T : List Value) (fi : Nat → Int32) (fl : Nat → Int64) (j : Nat) (x t : Int64) (ht : T[j]? = some (.long t)) : (T.mapIdx (mFillV fi fl)).set j (.long x) = T.mapIdx (mFillV fi (vp_updL fl j x)) := by
  apply List.ext_getElem?
  intro i
  rw [List.getElem?_set]
  by_cases h : j = i
  · subst h
    have hlt := (List.getElem?_eq_some_iff.mp ht).1
    rw [if_pos rfl, if_pos (by simpa using hlt), List.getElem?_mapIdx, ht]
    simp [mFillV, vp_updL]
  · rw [if_neg h, List.getElem?_mapIdx, List.getElem?_mapIdx]
    cases T[i]? with
    | none => rfl
    | some w => cases w <;> simp [mFillV, vp_updL, Ne.symm h]
/-- an int field written -/
theorem p_fldI {k ci dc j : Nat} {T : List Value} {t : Int32} (hs : shp[k]? = some (.inr (ci, T))) (ha : mAdm dc ci = true) (ht : T[j]? = some (.int t)) (hi : Nat → Nat → Int32) (hl : Nat → Nat → Int64) (w x : Int32) (K : mH → Prop) : wPut ((bH hi hl)[k]?) dc j (.int w) (.int x) (fun ci fs => K ((bH hi hl).set k (.inr (ci, fs.set j (.int x))))) = ((w = 1 → (x = 0 ∨ x = 1)) ∧ K (bH (uI hi k j x) hl)) := by
  rw [g_obj hs, wPut_some, mFill_setI T _ _ j x t ht]
  have e : (bH hi hl).set k (.inr (ci, T.mapIdx (mFillV (upd (hi k) j x) (hl k)))) = bH (uI hi k j x) hl := bH_set hs (by rw [u_self]; rfl) (fun _ h => u_other h) (fun _ _ => rfl)
  rw [e]
  have hlt := (List.getElem?_eq_some_iff.mp ht).1
  simp [ha, hlt, mOkV]
/-- a long field written -/
theorem p_fldL {k ci dc j : Nat} {T : List Value} {t : Int64} (hs : shp[k]? = some (.inr (ci, T))) (ha : mAdm dc ci = true) (ht : T[j]? = some (.long t)) (hi : Nat → Nat → Int32) (hl : Nat → Nat → Int64) (w x : Int64) (K : mH → Prop) : wPut ((bH hi hl)[k]?) dc j (.long w) (.long x) (fun ci fs => K ((bH hi hl).set k (.inr (ci, fs.set j (.long x))))) = K (bH hi (uL hl k j x)) := by
  rw [g_obj hs, wPut_some, mFill_setL T _ _ j x t ht]
  have e : (bH hi hl).set k (.inr (ci, T.mapIdx (mFillV (hi k) (vp_updL (hl k) j x)))) = bH hi (uL hl k j x) := bH_set hs (by rw [uL_self]; rfl) (fun _ _ => rfl) (fun _ h => uL_other h)
  rw [e]
  have hlt := (List.getElem?_eq_some_iff.mp ht).1
  simp [ha, hlt, mOkV]
/-! rows of bytes: (the Row, its array, its room) -/
def isRow (r a N : Nat) : Prop := (r, a, N) ∈ mRows
set_option maxRecDepth 100000 in
theorem mRows_ok : mRows.all (fun q => decide (shp[q.1]? = some (.inr (6, [.ref q.2.1, .int 0]))) && decide (shp[q.2.1]? = some (.inl (.byte, q.2.2, [])))) = true := by decide +kernel
theorem row_o {r a N : Nat} (h : isRow r a N) : shp[r]? = some (.inr (6, [.ref a, .int 0])) := by
  have := List.all_eq_true.mp mRows_ok _ h
  simp only [Bool.and_eq_true, decide_eq_true_eq] at this
  exact this.1
theorem row_a {r a N : Nat} (h : isRow r a N) : shp[a]? = some (.inl (.byte, N, [])) := by
  have := List.all_eq_true.mp mRows_ok _ h
  simp only [Bool.and_eq_true, decide_eq_true_eq] at this
  exact this.2
theorem row_ne {r a N r' a' N' : Nat} (h : isRow r a N) (h' : isRow r' a' N') : r ≠ a' := by
  intro e
  have h1 := row_o h
  rw [e, row_a h'] at h1
  cases h1
theorem row_f0 {r a N : Nat} (h : isRow r a N) (hi : Nat → Nat → Int32) (hl : Nat → Nat → Int64) : mFld (bH hi hl) r 6 0 = some (.ref a) := g_fld (dc := 6) (j := 0) (t := .ref a) (row_o h) (by decide) (by decide) rfl hi hl
theorem row_f1 {r a N : Nat} (h : isRow r a N) (hi : Nat → Nat → Int32) (hl : Nat → Nat → Int64) : mFld (bH hi hl) r 6 1 = some (.int (hi r 1)) := g_fld (dc := 6) (j := 1) (t := .int 0) (row_o h) (by decide) (by decide) rfl hi hl
theorem row_p1 {r a N : Nat} (h : isRow r a N) (hi : Nat → Nat → Int32) (hl : Nat → Nat → Int64) (x : Int32) (K : mH → Prop) : wPut ((bH hi hl)[r]?) 6 1 (.int 0) (.int x) (fun ci fs => K ((bH hi hl).set r (.inr (ci, fs.set 1 (.int x))))) = K (bH (uI hi r 1 x) hl) := by
  rw [p_fldI (dc := 6) (row_o h) (by decide) rfl]
  simp


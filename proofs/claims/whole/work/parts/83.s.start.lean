/-! PART 83.s: the heap behind both constructors is of the fixed shape; both hold the first state -/
def bG (hi : Nat → Nat → Int32) (hl : Nat → Nat → Int64) : Nat → List mSh → mH
  | _, [] => []
  | k, s :: r => mFill (hi k) (hl k) s :: bG hi hl (k + 1) r
theorem bG_eq (hi : Nat → Nat → Int32) (hl : Nat → Nat → Int64) : ∀ (l : List mSh) (k : Nat), l.mapIdx (fun i s => mFill (hi (k + i)) (hl (k + i)) s) = bG hi hl k l
  | [], _ => rfl
  | s :: r, k => by
    rw [List.mapIdx_cons, bG, ← bG_eq hi hl r (k + 1)]
    have e : (fun i s => mFill (hi (k + (i + 1))) (hl (k + (i + 1))) s) = fun i s => mFill (hi (k + 1 + i)) (hl (k + 1 + i)) s := by
      funext i s
      rw [show k + (i + 1) = k + 1 + i by omega]
    rw [e]; rfl
theorem bH_G (hi : Nat → Nat → Int32) (hl : Nat → Nat → Int64) : bH hi hl = bG hi hl 0 shp := by
  rw [← bG_eq]
  unfold bH
  have e : (fun k s => mFill (hi k) (hl k) s) = fun i s => mFill (hi (0 + i)) (hl (0 + i)) s := by
    funext i s
    rw [Nat.zero_add]
  rw [e]
def hi0 (g p : Nat → Int32) (k : Nat) : Nat → Int32 := if k = 37 then g else if k = 42 then p else if k = 3 then u5 5 else if k = 174 then u174 else if k = 4 then (fun j => if j = 3 then 1 else 0) else if k = 5 then (fun j => if j = 4 then 1 else 0) else if k = 6 then (fun j => if j = 3 then 32 else if j = 4 then 64 else 0) else if k = 32 then (fun j => if j = 7 then 10 else 0) else fun _ => 0
def hl0 (k : Nat) : Nat → Int64 := if k = 6 then (fun j => if j = 5 then 4294967295 else 0) else if k = 153 then l153 else fun _ => 0
theorem gk_16 : gk 16 = fun j => ([70, 72, 74, 76, 78, 80, 82, 84, 86, 88, 90, 92, 94, 96, 98, 100] : List Nat)[j]? := by
  funext j
  unfold gk
  by_cases h : j < 16
  · rw [if_pos h]
    have : ∀ i : Fin 16, some (70 + 2 * i.val) = ([70, 72, 74, 76, 78, 80, 82, 84, 86, 88, 90, 92, 94, 96, 98, 100] : List Nat)[i.val]? := by decide
    exact this ⟨j, h⟩
  · rw [if_neg h]
    exact (List.getElem?_eq_none (by show 16 ≤ j; omega)).symm
theorem gc_4 : gc 4 = fun j => ([102, 109, 116, 123] : List Nat)[j]? := by
  funext j
  unfold gc
  by_cases h : j < 4
  · rw [if_pos h]
    have : ∀ i : Fin 4, some (102 + 7 * i.val) = ([102, 109, 116, 123] : List Nat)[i.val]? := by decide
    exact this ⟨j, h⟩
  · rw [if_neg h]
    exact (List.getElem?_eq_none (by show 4 ≤ j; omega)).symm
set_option maxRecDepth 100000 in
theorem ksH_len (g p : Nat → Int32) : (ksH g p).length = 130 := rfl
theorem set_last {h : mH} {x o : mE} {c : mH} {n : Nat} (hn : h.length = n) : (h ++ [x]).set n o ++ c = h ++ (o :: c) := by
  subst hn
  rw [List.set_append_right _ _ (Nat.le_refl _), Nat.sub_self]
  show (h ++ [o]) ++ c = _
  rw [List.append_assoc]; rfl
def sg_0 : List mSh := [.inr (8, [.ref 1, .ref 2, .ref 3, .ref 4, .ref 19, .ref 32, .ref 43, .ref 54, .ref 56, .ref 58, .ref 60, .ref 62, .ref 64, .ref 66, .ref 68]), .inl (.object RX7, 16, [70, 72, 74, 76, 78, 80, 82, 84, 86, 88, 90, 92, 94, 96, 98, 100]), .inl (.object RX2, 4, [102, 109, 116, 123]), .inl (.int, 5, [])]
def sg_4 : List mSh := [.inr (5, [.ref 5, .ref 15, .ref 17, .int 0]), .inr (4, [.ref 6, .ref 9, .ref 11, .ref 13, .int 0]), .inr (3, [.ref 7, .ref 8, .int 0, .int 0, .int 0, .long 0, .int 0, .int 0]), .inl (.long, 8, []), .inl (.long, 80, []), .inr (6, [.ref 10, .int 0]), .inl (.byte, 128, []), .inr (6, [.ref 12, .int 0]), .inl (.byte, 64, []), .inr (6, [.ref 14, .int 0]), .inl (.byte, 64, []), .inr (6, [.ref 16, .int 0]), .inl (.byte, 10, []), .inr (6, [.ref 18, .int 0]), .inl (.byte, 364, [])]
def sg_19 : List mSh := [.inr (2, [.ref 20, .ref 21, .ref 22, .ref 23, .ref 24, .ref 25, .ref 26, .ref 27, .ref 28, .ref 29, .ref 30]), .inl (.long, 10, []), .inl (.long, 10, []), .inl (.long, 10, []), .inl (.long, 10, []), .inl (.long, 10, []), .inl (.long, 10, []), .inl (.long, 10, []), .inl (.long, 10, []), .inl (.long, 10, []), .inl (.long, 10, []), .inr (6, [.ref 31, .int 0]), .inl (.byte, 32, [])]
def sg_32 : List mSh := [.inr (0, [.ref 36, .ref 33, .ref 34, .ref 37, .ref 38, .ref 39, .ref 40, .int 0, .long 0, .long 0, .long 0, .long 0]), .inl (.int, 16, []), .inr (6, [.ref 35, .int 0]), .inl (.byte, 16, []), .inl (.int, 16, []), .inl (.int, 256, []), .inl (.int, 60, []), .inl (.int, 16, []), .inr (6, [.ref 41, .int 0]), .inl (.byte, 12, []), .inl (.int, 256, [])]
def sg_43 : List mSh := [.inr (7, [.ref 47, .ref 44, .ref 45, .ref 48, .ref 49, .ref 50, .ref 51, .ref 52, .ref 53]), .inl (.int, 16, []), .inr (6, [.ref 46, .int 0]), .inl (.byte, 16, []), .inl (.int, 64, []), .inl (.int, 16, []), .inl (.int, 16, []), .inl (.int, 16, []), .inl (.long, 5, []), .inl (.long, 5, []), .inl (.long, 5, [])]
def sg_54 : List mSh := [.inr (6, [.ref 55, .int 0]), .inl (.byte, 0, [])]
def sg_56 : List mSh := [.inr (6, [.ref 57, .int 0]), .inl (.byte, 300, [])]
def sg_58 : List mSh := [.inr (6, [.ref 59, .int 0]), .inl (.byte, 12, [])]
def sg_60 : List mSh := [.inr (6, [.ref 61, .int 0]), .inl (.byte, 64, [])]
def sg_62 : List mSh := [.inr (6, [.ref 63, .int 0]), .inl (.byte, 96, [])]
def sg_64 : List mSh := [.inr (6, [.ref 65, .int 0]), .inl (.byte, 64, [])]
def sg_66 : List mSh := [.inr (6, [.ref 67, .int 0]), .inl (.byte, 32, [])]
def sg_68 : List mSh := [.inr (6, [.ref 69, .int 0]), .inl (.byte, 129, [])]
def sg_70 : List mSh := [.inr (6, [.ref 71, .int 0]), .inl (.byte, 300, []), .inr (6, [.ref 73, .int 0]), .inl (.byte, 300, []), .inr (6, [.ref 75, .int 0]), .inl (.byte, 300, []), .inr (6, [.ref 77, .int 0]), .inl (.byte, 300, []), .inr (6, [.ref 79, .int 0]), .inl (.byte, 300, []), .inr (6, [.ref 81, .int 0]), .inl (.byte, 300, []), .inr (6, [.ref 83, .int 0]), .inl (.byte, 300, []), .inr (6, [.ref 85, .int 0]), .inl (.byte, 300, []), .inr (6, [.ref 87, .int 0]), .inl (.byte, 300, []), .inr (6, [.ref 89, .int 0]), .inl (.byte, 300, []), .inr (6, [.ref 91, .int 0]), .inl (.byte, 300, []), .inr (6, [.ref 93, .int 0]), .inl (.byte, 300, []), .inr (6, [.ref 95, .int 0]), .inl (.byte, 300, []), .inr (6, [.ref 97, .int 0]), .inl (.byte, 300, []), .inr (6, [.ref 99, .int 0]), .inl (.byte, 300, []), .inr (6, [.ref 101, .int 0]), .inl (.byte, 300, [])]
def sg_102 : List mSh := [.inr (1, [.ref 103, .ref 105, .ref 107, .int 0, .int 0, .int 0, .int 0, .int 0, .int 0, .int 0]), .inr (6, [.ref 104, .int 0]), .inl (.byte, 32, []), .inr (6, [.ref 106, .int 0]), .inl (.byte, 12, []), .inr (6, [.ref 108, .int 0]), .inl (.byte, 64, []), .inr (1, [.ref 110, .ref 112, .ref 114, .int 0, .int 0, .int 0, .int 0, .int 0, .int 0, .int 0]), .inr (6, [.ref 111, .int 0]), .inl (.byte, 32, []), .inr (6, [.ref 113, .int 0]), .inl (.byte, 12, []), .inr (6, [.ref 115, .int 0]), .inl (.byte, 64, []), .inr (1, [.ref 117, .ref 119, .ref 121, .int 0, .int 0, .int 0, .int 0, .int 0, .int 0, .int 0]), .inr (6, [.ref 118, .int 0]), .inl (.byte, 32, []), .inr (6, [.ref 120, .int 0]), .inl (.byte, 12, []), .inr (6, [.ref 122, .int 0]), .inl (.byte, 64, []), .inr (1, [.ref 124, .ref 126, .ref 128, .int 0, .int 0, .int 0, .int 0, .int 0, .int 0, .int 0]), .inr (6, [.ref 125, .int 0]), .inl (.byte, 32, []), .inr (6, [.ref 127, .int 0]), .inl (.byte, 12, []), .inr (6, [.ref 129, .int 0]), .inl (.byte, 64, [])]
def sg_131 : List mSh := [.inl (.int, 4800, []), .inl (.int, 16, []), .inl (.int, 400, []), .inl (.int, 3000, []), .inl (.long, 80, []), .inl (.long, 8, []), .inl (.int, 64, []), .inl (.int, 128, []), .inl (.int, 2000, []), .inl (.int, 1000, []), .inl (.long, 16, []), .inl (.long, 16, []), .inl (.long, 16, []), .inl (.long, 16, []), .inl (.long, 16, []), .inl (.long, 16, []), .inl (.long, 16, []), .inl (.long, 16, []), .inl (.long, 16, []), .inl (.long, 16, []), .inl (.long, 16, []), .inl (.long, 31, [])]
def sg_153 : List mSh := [.inl (.long, 16, [])]
def sg_154 : List mSh := [.inl (.int, 32, []), .inl (.int, 32, []), .inl (.int, 32, []), .inl (.int, 256, []), .inl (.int, 240, []), .inl (.int, 16, []), .inl (.int, 16, []), .inl (.int, 32, []), .inl (.int, 12, []), .inl (.int, 300, []), .inl (.int, 400, []), .inl (.int, 16, []), .inl (.int, 16, []), .inl (.int, 16, []), .inl (.int, 64, []), .inl (.long, 5, []), .inl (.long, 5, []), .inl (.long, 5, []), .inl (.int, 16, []), .inl (.int, 10, [])]
def sg_174 : List mSh := [.inl (.int, 5, [])]
def sg_175 : List mSh := [.inl (.int, 64, []), .inl (.int, 96, []), .inl (.int, 32, []), .inl (.int, 4, []), .inl (.int, 4, []), .inl (.int, 4, []), .inl (.int, 4, []), .inl (.long, 12, []), .inl (.int, 128, []), .inl (.int, 48, []), .inl (.int, 256, []), .inl (.int, 129, [])]
def s130 : mSh := .inr (9, [.ref 131, .ref 132, .ref 133, .ref 134, .int 0, .ref 135, .ref 136, .ref 137, .ref 138, .int 0, .ref 139, .int 0, .ref 140, .int 0, .ref 141, .ref 142, .ref 143, .ref 144, .ref 145, .ref 146, .ref 147, .ref 148, .ref 149, .ref 150, .ref 151, .ref 152, .ref 153, .ref 154, .ref 155, .ref 156, .ref 157, .ref 158, .int 0, .ref 159, .ref 160, .ref 161, .ref 162, .ref 163, .int 0, .ref 164, .int 0, .ref 165, .long 0, .long 0, .long 0, .long 0, .ref 166, .ref 167, .ref 168, .ref 169, .ref 170, .ref 171, .ref 172, .ref 173, .int 0, .ref 174, .ref 175, .int 0, .ref 176, .int 0, .ref 177, .ref 178, .ref 179, .ref 180, .ref 181, .ref 182, .ref 183, .ref 184, .ref 185, .ref 186, .int 0])
def sg_130 : List mSh := s130 :: (sg_131 ++ (sg_153 ++ (sg_154 ++ (sg_174 ++ sg_175))))
set_option maxRecDepth 100000 in
theorem shp_sg : shp = (sg_0 ++ (((((((((((((sg_4 ++ sg_19) ++ sg_32) ++ sg_43) ++ sg_54) ++ sg_56) ++ sg_58) ++ sg_60) ++ sg_62) ++ sg_64) ++ sg_66) ++ sg_68) ++ sg_70) ++ sg_102)) ++ sg_130 := by decide +kernel
theorem bG_app (hi : Nat → Nat → Int32) (hl : Nat → Nat → Int64) : ∀ (a b : List mSh) (k : Nat), bG hi hl k (a ++ b) = bG hi hl k a ++ bG hi hl (k + a.length) b
  | [], b, k => rfl
  | s :: a, b, k => by
    show mFill (hi k) (hl k) s :: bG hi hl (k + 1) (a ++ b) = mFill (hi k) (hl k) s :: (bG hi hl (k + 1) a ++ _)
    rw [bG_app hi hl a b (k + 1), List.length_cons, show k + 1 + a.length = k + (a.length + 1) by omega]
section
variable (g p : Nat → Int32)
theorem sq_0 : ksO :: aK 16 :: bK 4 :: cK 5 :: [] = bG (hi0 g p) hl0 0 sg_0 := by
  unfold aK bK
  rw [gk_16, gc_4]
  rfl
theorem sq_4 : o_56 4 :: c_56 4 = bG (hi0 g p) hl0 4 sg_4 := by rfl
theorem sq_19 : o_28 19 :: c_28 19 = bG (hi0 g p) hl0 19 sg_19 := by rfl
theorem sq_32 : o_0 32 :: c_0 32 g p = bG (hi0 g p) hl0 32 sg_32 := by rfl
theorem sq_43 : o_75 43 :: c_75 43 = bG (hi0 g p) hl0 43 sg_43 := by rfl
theorem sq_54 : [.inr (6, [.ref (54 + 1), .int 0]), .inl (.byte, 0, mZero .byte)] = bG (hi0 g p) hl0 54 sg_54 := by rfl
theorem sq_56 : [.inr (6, [.ref (56 + 1), .int 0]), .inl (.byte, 300, mZero .byte)] = bG (hi0 g p) hl0 56 sg_56 := by rfl
theorem sq_58 : [.inr (6, [.ref (58 + 1), .int 0]), .inl (.byte, 12, mZero .byte)] = bG (hi0 g p) hl0 58 sg_58 := by rfl
theorem sq_60 : [.inr (6, [.ref (60 + 1), .int 0]), .inl (.byte, 64, mZero .byte)] = bG (hi0 g p) hl0 60 sg_60 := by rfl
theorem sq_62 : [.inr (6, [.ref (62 + 1), .int 0]), .inl (.byte, 96, mZero .byte)] = bG (hi0 g p) hl0 62 sg_62 := by rfl
theorem sq_64 : [.inr (6, [.ref (64 + 1), .int 0]), .inl (.byte, 64, mZero .byte)] = bG (hi0 g p) hl0 64 sg_64 := by rfl
theorem sq_66 : [.inr (6, [.ref (66 + 1), .int 0]), .inl (.byte, 32, mZero .byte)] = bG (hi0 g p) hl0 66 sg_66 := by rfl
theorem sq_68 : [.inr (6, [.ref (68 + 1), .int 0]), .inl (.byte, 129, mZero .byte)] = bG (hi0 g p) hl0 68 sg_68 := by rfl
theorem sq_70 : rws 16 = bG (hi0 g p) hl0 70 sg_70 := by rfl
theorem sq_102 : cxs 4 = bG (hi0 g p) hl0 102 sg_102 := by rfl
theorem sq_o : o_136 130 = mFill (hi0 g p 130) (hl0 130) s130 := by
  have e1 : hi0 g p 130 = fun _ => 0 := rfl
  have e2 : hl0 130 = fun _ => 0 := rfl
  rw [e1, e2]
  unfold s130 o_136 mFill
  simp only [List.mapIdx_cons, List.mapIdx_nil, mFillV]
theorem sq_131 : [.inl (.int, 4800, mZero .int), .inl (.int, 16, mZero .int), .inl (.int, 400, mZero .int), .inl (.int, 3000, mZero .int), .inl (.long, 80, mZero .long), .inl (.long, 8, mZero .long), .inl (.int, 64, mZero .int), .inl (.int, 128, mZero .int), .inl (.int, 2000, mZero .int), .inl (.int, 1000, mZero .int), .inl (.long, 16, mZero .long), .inl (.long, 16, mZero .long), .inl (.long, 16, mZero .long), .inl (.long, 16, mZero .long), .inl (.long, 16, mZero .long), .inl (.long, 16, mZero .long), .inl (.long, 16, mZero .long), .inl (.long, 16, mZero .long), .inl (.long, 16, mZero .long), .inl (.long, 16, mZero .long), .inl (.long, 16, mZero .long), .inl (.long, 31, mZero .long)] = bG (hi0 g p) hl0 131 sg_131 := by rfl
theorem sq_153 : [.inl (.long, 16, .inr (.inl l153))] = bG (hi0 g p) hl0 153 sg_153 := by
  have e : hl0 153 = l153 := rfl
  show _ = [mFill (hi0 g p 153) (hl0 153) (.inl (.long, 16, []))]
  unfold mFill
  rw [e]
theorem sq_154 : [.inl (.int, 32, mZero .int), .inl (.int, 32, mZero .int), .inl (.int, 32, mZero .int), .inl (.int, 256, mZero .int), .inl (.int, 240, mZero .int), .inl (.int, 16, mZero .int), .inl (.int, 16, mZero .int), .inl (.int, 32, mZero .int), .inl (.int, 12, mZero .int), .inl (.int, 300, mZero .int), .inl (.int, 400, mZero .int), .inl (.int, 16, mZero .int), .inl (.int, 16, mZero .int), .inl (.int, 16, mZero .int), .inl (.int, 64, mZero .int), .inl (.long, 5, mZero .long), .inl (.long, 5, mZero .long), .inl (.long, 5, mZero .long), .inl (.int, 16, mZero .int), .inl (.int, 10, mZero .int)] = bG (hi0 g p) hl0 154 sg_154 := by rfl
theorem sq_174 : [.inl (.int, 5, .inl u174)] = bG (hi0 g p) hl0 174 sg_174 := by
  have e : hi0 g p 174 = u174 := rfl
  show _ = [mFill (hi0 g p 174) (hl0 174) (.inl (.int, 5, []))]
  unfold mFill
  rw [e]
theorem sq_175 : [.inl (.int, 64, mZero .int), .inl (.int, 96, mZero .int), .inl (.int, 32, mZero .int), .inl (.int, 4, mZero .int), .inl (.int, 4, mZero .int), .inl (.int, 4, mZero .int), .inl (.int, 4, mZero .int), .inl (.long, 12, mZero .long), .inl (.int, 128, mZero .int), .inl (.int, 48, mZero .int), .inl (.int, 256, mZero .int), .inl (.int, 129, mZero .int)] = bG (hi0 g p) hl0 175 sg_175 := by rfl
theorem sq_130 : o_136 130 :: c_136 130 = bG (hi0 g p) hl0 130 sg_130 := by
  unfold sg_130
  rw [bG, ← sq_o, bG_app, bG_app, bG_app, bG_app]
  show _ = o_136 130 :: (bG (hi0 g p) hl0 131 sg_131 ++ (bG (hi0 g p) hl0 153 sg_153 ++ (bG (hi0 g p) hl0 154 sg_154 ++ (bG (hi0 g p) hl0 174 sg_174 ++ bG (hi0 g p) hl0 175 sg_175))))
  rw [← sq_131, ← sq_153, ← sq_154, ← sq_174, ← sq_175]
  rfl
end

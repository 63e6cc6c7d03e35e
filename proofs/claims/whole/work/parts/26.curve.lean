/-! PART 26: numbers modulo 2^255 - 19: ten limbs of 26 and 25 bits (the class) -/
def pP : Int := 57896044618658097711785492504343953926634992332820282019728792003956564819949
def cg (a b : Int) : Prop := ∃ q : Int, a - b = q * pP
theorem cg_rf (a : Int) : cg a a := ⟨0, by grind⟩
theorem cg_sy {a b : Int} (h : cg a b) : cg b a := by obtain ⟨q, h⟩ := h; exact ⟨-q, by grind⟩
theorem cg_tr {a b c : Int} (h : cg a b) (h' : cg b c) : cg a c := by obtain ⟨q, h⟩ := h; obtain ⟨q', h'⟩ := h'; exact ⟨q + q', by grind⟩
theorem cg_add {a b c d : Int} (h : cg a b) (h' : cg c d) : cg (a + c) (b + d) := by obtain ⟨q, h⟩ := h; obtain ⟨q', h'⟩ := h'; exact ⟨q + q', by grind⟩
theorem cg_sub {a b c d : Int} (h : cg a b) (h' : cg c d) : cg (a - c) (b - d) := by obtain ⟨q, h⟩ := h; obtain ⟨q', h'⟩ := h'; exact ⟨q - q', by grind⟩
theorem cg_mul {a b c d : Int} (h : cg a b) (h' : cg c d) : cg (a * c) (b * d) := by obtain ⟨q, h⟩ := h; obtain ⟨q', h'⟩ := h'; exact ⟨q * c + b * q', by grind⟩
theorem cg_pow {a b : Int} (h : cg a b) : ∀ n : Nat, cg (a ^ n) (b ^ n)
  | 0 => by rw [Int.pow_zero, Int.pow_zero]; exact cg_rf 1
  | n + 1 => by rw [Int.pow_succ, Int.pow_succ]; exact cg_mul (cg_pow h n) h
theorem cg_mod (a : Int) : cg (a % pP) a := ⟨-(a / pP), by have := Int.emod_add_mul_ediv a pP; grind⟩
theorem cg_emod {a b : Int} (h : cg a b) : a % pP = b % pP := by
  obtain ⟨q, h⟩ := h
  have : a = b + q * pP := by omega
  rw [this, Int.add_mul_emod_self_right]
def val10 (F : Nat → Int) : Int := F 0 * 1 + F 1 * 67108864 + F 2 * 2251799813685248 + F 3 * 151115727451828646838272 + F 4 * 5070602400912917605986812821504 + F 5 * 340282366920938463463374607431768211456 + F 6 * 11417981541647679048466287755595961091061972992 + F 7 * 766247770432944429179173513575154591809369561091801088 + F 8 * 25711008708143844408671393477458601640355247900524685364822016 + F 9 * 1725436586697640946858688965569256363112777243042596638790631055949824
def bb (i : Nat) : Int := if i % 2 = 0 then 33554432 else 16809984
def bnd (m : Int) (F : Nat → Int) : Prop := ∀ i, i < 10 → -(m * bb i) ≤ F i ∧ F i ≤ m * bb i
theorem bb_0 : bb 0 = 33554432 := rfl
theorem bnd_u {m : Int} {F : Nat → Int} (h : bnd m F) : -(m * 33554432) ≤ F 0 ∧ F 0 ≤ m * 33554432 ∧ -(m * 16809984) ≤ F 1 ∧ F 1 ≤ m * 16809984 ∧ -(m * 33554432) ≤ F 2 ∧ F 2 ≤ m * 33554432 ∧ -(m * 16809984) ≤ F 3 ∧ F 3 ≤ m * 16809984 ∧ -(m * 33554432) ≤ F 4 ∧ F 4 ≤ m * 33554432 ∧ -(m * 16809984) ≤ F 5 ∧ F 5 ≤ m * 16809984 ∧ -(m * 33554432) ≤ F 6 ∧ F 6 ≤ m * 33554432 ∧ -(m * 16809984) ≤ F 7 ∧ F 7 ≤ m * 16809984 ∧ -(m * 33554432) ≤ F 8 ∧ F 8 ≤ m * 33554432 ∧ -(m * 16809984) ≤ F 9 ∧ F 9 ≤ m * 16809984 := by
  have a0 := h 0 (by decide)
  have a1 := h 1 (by decide)
  have a2 := h 2 (by decide)
  have a3 := h 3 (by decide)
  have a4 := h 4 (by decide)
  have a5 := h 5 (by decide)
  have a6 := h 6 (by decide)
  have a7 := h 7 (by decide)
  have a8 := h 8 (by decide)
  have a9 := h 9 (by decide)
  simp only [bb] at *
  exact ⟨a0.1, a0.2, a1.1, a1.2, a2.1, a2.2, a3.1, a3.2, a4.1, a4.2, a5.1, a5.2, a6.1, a6.2, a7.1, a7.2, a8.1, a8.2, a9.1, a9.2⟩
theorem bnd_mk {m : Int} {F : Nat → Int} (h : -(m * 33554432) ≤ F 0 ∧ F 0 ≤ m * 33554432 ∧ -(m * 16809984) ≤ F 1 ∧ F 1 ≤ m * 16809984 ∧ -(m * 33554432) ≤ F 2 ∧ F 2 ≤ m * 33554432 ∧ -(m * 16809984) ≤ F 3 ∧ F 3 ≤ m * 16809984 ∧ -(m * 33554432) ≤ F 4 ∧ F 4 ≤ m * 33554432 ∧ -(m * 16809984) ≤ F 5 ∧ F 5 ≤ m * 16809984 ∧ -(m * 33554432) ≤ F 6 ∧ F 6 ≤ m * 33554432 ∧ -(m * 16809984) ≤ F 7 ∧ F 7 ≤ m * 16809984 ∧ -(m * 33554432) ≤ F 8 ∧ F 8 ≤ m * 33554432 ∧ -(m * 16809984) ≤ F 9 ∧ F 9 ≤ m * 16809984) : bnd m F := by
  obtain ⟨a0, b0, a1, b1, a2, b2, a3, b3, a4, b4, a5, b5, a6, b6, a7, b7, a8, b8, a9, b9⟩ := h
  intro i hi
  match i, hi with
  | 0, _ => exact ⟨a0, b0⟩
  | 1, _ => exact ⟨a1, b1⟩
  | 2, _ => exact ⟨a2, b2⟩
  | 3, _ => exact ⟨a3, b3⟩
  | 4, _ => exact ⟨a4, b4⟩
  | 5, _ => exact ⟨a5, b5⟩
  | 6, _ => exact ⟨a6, b6⟩
  | 7, _ => exact ⟨a7, b7⟩
  | 8, _ => exact ⟨a8, b8⟩
  | 9, _ => exact ⟨a9, b9⟩
theorem bnd_12 {F : Nat → Int} (h : bnd 1 F) : bnd 2 F := by
  intro i hi
  have := h i hi
  have h0 : 0 ≤ bb i := by unfold bb; split <;> decide
  omega
theorem bnd_add {F G : Nat → Int} (h : bnd 1 F) (h' : bnd 1 G) : bnd 2 (fun i => F i + G i) := by
  intro i hi
  have := h i hi
  have := h' i hi
  show _ ≤ F i + G i ∧ F i + G i ≤ _
  omega
theorem bnd_sub {F G : Nat → Int} (h : bnd 1 F) (h' : bnd 1 G) : bnd 2 (fun i => F i - G i) := by
  intro i hi
  have := h i hi
  have := h' i hi
  show _ ≤ F i - G i ∧ F i - G i ≤ _
  omega
theorem val_add (F G : Nat → Int) : val10 (fun i => F i + G i) = val10 F + val10 G := by simp only [val10]; omega
theorem val_sub (F G : Nat → Int) : val10 (fun i => F i - G i) = val10 F - val10 G := by simp only [val10]; omega
theorem val_congr {F G : Nat → Int} (h : ∀ i, i < 10 → F i = G i) : val10 F = val10 G := by
  unfold val10
  rw [h 0 (by decide), h 1 (by decide), h 2 (by decide), h 3 (by decide), h 4 (by decide), h 5 (by decide), h 6 (by decide), h 7 (by decide), h 8 (by decide), h 9 (by decide)]
theorem bnd_congr {m : Int} {F G : Nat → Int} (h : ∀ i, i < 10 → F i = G i) (hb : bnd m F) : bnd m G := fun i hi => by rw [← h i hi]; exact hb i hi
/-! the carry -/
def cO (H : Nat → Int) : Nat → Int
  | 0 => 0
  | i + 1 => (H i + cO H i + (if i % 2 = 0 then 33554432 else 16777216)) / (if i % 2 = 0 then 67108864 else 33554432)
def cR (H : Nat → Int) (i : Nat) : Int := H i + cO H i - cO H (i + 1) * (if i % 2 = 0 then 67108864 else 33554432)
def cV (H : Nat → Int) : Int := (cR H 0 + 19 * cO H 10 + 33554432) / 67108864
def cF (H : Nat → Int) (i : Nat) : Int := if i = 0 then cR H 0 + 19 * cO H 10 - cV H * 67108864 else if i = 1 then cR H 1 + cV H else cR H i
def lim60 (H : Nat → Int) : Prop := ∀ i, i < 10 → -1152921504606846976 ≤ H i ∧ H i ≤ 1152921504606846976
theorem cO_b {H : Nat → Int} (h : lim60 H) : ∀ i, i ≤ 10 → -68719476736 ≤ cO H i ∧ cO H i ≤ 68719476736
  | 0, _ => by rw [cO]; decide
  | i + 1, hi => by
    have h1 := h i (by omega)
    have h2 := cO_b h i (by omega)
    rw [cO]
    split <;> omega
theorem cR_b (H : Nat → Int) (i : Nat) : (i % 2 = 0 → -33554432 ≤ cR H i ∧ cR H i ≤ 33554432) ∧ (i % 2 = 1 → -16777216 ≤ cR H i ∧ cR H i ≤ 16777216) := by
  rw [cR, cO]
  constructor <;> intro h
  · rw [if_pos h, if_pos h]; omega
  · rw [if_neg (by omega), if_neg (by omega)]; omega
theorem cV_b {H : Nat → Int} (h : lim60 H) : -32768 ≤ cV H ∧ cV H ≤ 32768 := by
  have h1 := cO_b h 10 (by decide)
  have h2 := (cR_b H 0).1 rfl
  unfold cV
  omega
theorem cF_bnd {H : Nat → Int} (h : lim60 H) : bnd 1 (cF H) := by
  have h1 := cV_b h
  intro i hi
  have hr := cR_b H i
  have hr1 := (cR_b H 1).2 rfl
  have hv : cV H = (cR H 0 + 19 * cO H 10 + 33554432) / 67108864 := rfl
  rw [cF]
  split
  · subst i; rw [show bb 0 = 33554432 from rfl]; omega
  · split
    · subst i; rw [show bb 1 = 16809984 from rfl]; omega
    · unfold bb
      split
      · have := hr.1 ‹_›; omega
      · have := hr.2 (by omega); omega
theorem cF_val (H : Nat → Int) : cg (val10 (cF H)) (val10 H) := by
  refine ⟨-cO H 10, ?_⟩
  have h0 : cO H 0 = 0 := rfl
  have r0 : cR H 0 = H 0 + cO H 0 - cO H 1 * 67108864 := rfl
  have r1 : cR H 1 = H 1 + cO H 1 - cO H 2 * 33554432 := rfl
  have r2 : cR H 2 = H 2 + cO H 2 - cO H 3 * 67108864 := rfl
  have r3 : cR H 3 = H 3 + cO H 3 - cO H 4 * 33554432 := rfl
  have r4 : cR H 4 = H 4 + cO H 4 - cO H 5 * 67108864 := rfl
  have r5 : cR H 5 = H 5 + cO H 5 - cO H 6 * 33554432 := rfl
  have r6 : cR H 6 = H 6 + cO H 6 - cO H 7 * 67108864 := rfl
  have r7 : cR H 7 = H 7 + cO H 7 - cO H 8 * 33554432 := rfl
  have r8 : cR H 8 = H 8 + cO H 8 - cO H 9 * 67108864 := rfl
  have r9 : cR H 9 = H 9 + cO H 9 - cO H 10 * 33554432 := rfl
  have e0 : cF H 0 = cR H 0 + 19 * cO H 10 - cV H * 67108864 := rfl
  have e1 : cF H 1 = cR H 1 + cV H := rfl
  have e2 : cF H 2 = cR H 2 := rfl
  have e3 : cF H 3 = cR H 3 := rfl
  have e4 : cF H 4 = cR H 4 := rfl
  have e5 : cF H 5 = cR H 5 := rfl
  have e6 : cF H 6 = cR H 6 := rfl
  have e7 : cF H 7 = cR H 7 := rfl
  have e8 : cF H 8 = cR H 8 := rfl
  have e9 : cF H 9 = cR H 9 := rfl
  unfold val10
  rw [e0, e1, e2, e3, e4, e5, e6, e7, e8, e9]
  unfold pP
  omega
/-! the product -/
def mT (F G : Nat → Int) (i : Nat) : Int := match i with
  | 0 => F 0 * G 0 + F 1 * G 9 * 38 + F 2 * G 8 * 19 + F 3 * G 7 * 38 + F 4 * G 6 * 19 + F 5 * G 5 * 38 + F 6 * G 4 * 19 + F 7 * G 3 * 38 + F 8 * G 2 * 19 + F 9 * G 1 * 38
  | 1 => F 0 * G 1 + F 1 * G 0 + F 2 * G 9 * 19 + F 3 * G 8 * 19 + F 4 * G 7 * 19 + F 5 * G 6 * 19 + F 6 * G 5 * 19 + F 7 * G 4 * 19 + F 8 * G 3 * 19 + F 9 * G 2 * 19
  | 2 => F 0 * G 2 + F 1 * G 1 * 2 + F 2 * G 0 + F 3 * G 9 * 38 + F 4 * G 8 * 19 + F 5 * G 7 * 38 + F 6 * G 6 * 19 + F 7 * G 5 * 38 + F 8 * G 4 * 19 + F 9 * G 3 * 38
  | 3 => F 0 * G 3 + F 1 * G 2 + F 2 * G 1 + F 3 * G 0 + F 4 * G 9 * 19 + F 5 * G 8 * 19 + F 6 * G 7 * 19 + F 7 * G 6 * 19 + F 8 * G 5 * 19 + F 9 * G 4 * 19
  | 4 => F 0 * G 4 + F 1 * G 3 * 2 + F 2 * G 2 + F 3 * G 1 * 2 + F 4 * G 0 + F 5 * G 9 * 38 + F 6 * G 8 * 19 + F 7 * G 7 * 38 + F 8 * G 6 * 19 + F 9 * G 5 * 38
  | 5 => F 0 * G 5 + F 1 * G 4 + F 2 * G 3 + F 3 * G 2 + F 4 * G 1 + F 5 * G 0 + F 6 * G 9 * 19 + F 7 * G 8 * 19 + F 8 * G 7 * 19 + F 9 * G 6 * 19
  | 6 => F 0 * G 6 + F 1 * G 5 * 2 + F 2 * G 4 + F 3 * G 3 * 2 + F 4 * G 2 + F 5 * G 1 * 2 + F 6 * G 0 + F 7 * G 9 * 38 + F 8 * G 8 * 19 + F 9 * G 7 * 38
  | 7 => F 0 * G 7 + F 1 * G 6 + F 2 * G 5 + F 3 * G 4 + F 4 * G 3 + F 5 * G 2 + F 6 * G 1 + F 7 * G 0 + F 8 * G 9 * 19 + F 9 * G 8 * 19
  | 8 => F 0 * G 8 + F 1 * G 7 * 2 + F 2 * G 6 + F 3 * G 5 * 2 + F 4 * G 4 + F 5 * G 3 * 2 + F 6 * G 2 + F 7 * G 1 * 2 + F 8 * G 0 + F 9 * G 9 * 38
  | _ => F 0 * G 9 + F 1 * G 8 + F 2 * G 7 + F 3 * G 6 + F 4 * G 5 + F 5 * G 4 + F 6 * G 3 + F 7 * G 2 + F 8 * G 1 + F 9 * G 0
theorem mT_val (F G : Nat → Int) : cg (val10 (mT F G)) (val10 F * val10 G) := by
  refine ⟨-(F 1 * G 9 * 2 + F 2 * G 8 * 1 + F 2 * G 9 * 67108864 + F 3 * G 7 * 2 + F 3 * G 8 * 67108864 + F 3 * G 9 * 4503599627370496 + F 4 * G 6 * 1 + F 4 * G 7 * 67108864 + F 4 * G 8 * 2251799813685248 + F 4 * G 9 * 151115727451828646838272 + F 5 * G 5 * 2 + F 5 * G 6 * 67108864 + F 5 * G 7 * 4503599627370496 + F 5 * G 8 * 151115727451828646838272 + F 5 * G 9 * 10141204801825835211973625643008 + F 6 * G 4 * 1 + F 6 * G 5 * 67108864 + F 6 * G 6 * 2251799813685248 + F 6 * G 7 * 151115727451828646838272 + F 6 * G 8 * 5070602400912917605986812821504 + F 6 * G 9 * 340282366920938463463374607431768211456 + F 7 * G 3 * 2 + F 7 * G 4 * 67108864 + F 7 * G 5 * 4503599627370496 + F 7 * G 6 * 151115727451828646838272 + F 7 * G 7 * 10141204801825835211973625643008 + F 7 * G 8 * 340282366920938463463374607431768211456 + F 7 * G 9 * 22835963083295358096932575511191922182123945984 + F 8 * G 2 * 1 + F 8 * G 3 * 67108864 + F 8 * G 4 * 2251799813685248 + F 8 * G 5 * 151115727451828646838272 + F 8 * G 6 * 5070602400912917605986812821504 + F 8 * G 7 * 340282366920938463463374607431768211456 + F 8 * G 8 * 11417981541647679048466287755595961091061972992 + F 8 * G 9 * 766247770432944429179173513575154591809369561091801088 + F 9 * G 1 * 2 + F 9 * G 2 * 67108864 + F 9 * G 3 * 4503599627370496 + F 9 * G 4 * 151115727451828646838272 + F 9 * G 5 * 10141204801825835211973625643008 + F 9 * G 6 * 340282366920938463463374607431768211456 + F 9 * G 7 * 22835963083295358096932575511191922182123945984 + F 9 * G 8 * 766247770432944429179173513575154591809369561091801088 + F 9 * G 9 * 51422017416287688817342786954917203280710495801049370729644032), ?_⟩
  have e0 : mT F G 0 = F 0 * G 0 + F 1 * G 9 * 38 + F 2 * G 8 * 19 + F 3 * G 7 * 38 + F 4 * G 6 * 19 + F 5 * G 5 * 38 + F 6 * G 4 * 19 + F 7 * G 3 * 38 + F 8 * G 2 * 19 + F 9 * G 1 * 38 := rfl
  have e1 : mT F G 1 = F 0 * G 1 + F 1 * G 0 + F 2 * G 9 * 19 + F 3 * G 8 * 19 + F 4 * G 7 * 19 + F 5 * G 6 * 19 + F 6 * G 5 * 19 + F 7 * G 4 * 19 + F 8 * G 3 * 19 + F 9 * G 2 * 19 := rfl
  have e2 : mT F G 2 = F 0 * G 2 + F 1 * G 1 * 2 + F 2 * G 0 + F 3 * G 9 * 38 + F 4 * G 8 * 19 + F 5 * G 7 * 38 + F 6 * G 6 * 19 + F 7 * G 5 * 38 + F 8 * G 4 * 19 + F 9 * G 3 * 38 := rfl
  have e3 : mT F G 3 = F 0 * G 3 + F 1 * G 2 + F 2 * G 1 + F 3 * G 0 + F 4 * G 9 * 19 + F 5 * G 8 * 19 + F 6 * G 7 * 19 + F 7 * G 6 * 19 + F 8 * G 5 * 19 + F 9 * G 4 * 19 := rfl
  have e4 : mT F G 4 = F 0 * G 4 + F 1 * G 3 * 2 + F 2 * G 2 + F 3 * G 1 * 2 + F 4 * G 0 + F 5 * G 9 * 38 + F 6 * G 8 * 19 + F 7 * G 7 * 38 + F 8 * G 6 * 19 + F 9 * G 5 * 38 := rfl
  have e5 : mT F G 5 = F 0 * G 5 + F 1 * G 4 + F 2 * G 3 + F 3 * G 2 + F 4 * G 1 + F 5 * G 0 + F 6 * G 9 * 19 + F 7 * G 8 * 19 + F 8 * G 7 * 19 + F 9 * G 6 * 19 := rfl
  have e6 : mT F G 6 = F 0 * G 6 + F 1 * G 5 * 2 + F 2 * G 4 + F 3 * G 3 * 2 + F 4 * G 2 + F 5 * G 1 * 2 + F 6 * G 0 + F 7 * G 9 * 38 + F 8 * G 8 * 19 + F 9 * G 7 * 38 := rfl
  have e7 : mT F G 7 = F 0 * G 7 + F 1 * G 6 + F 2 * G 5 + F 3 * G 4 + F 4 * G 3 + F 5 * G 2 + F 6 * G 1 + F 7 * G 0 + F 8 * G 9 * 19 + F 9 * G 8 * 19 := rfl
  have e8 : mT F G 8 = F 0 * G 8 + F 1 * G 7 * 2 + F 2 * G 6 + F 3 * G 5 * 2 + F 4 * G 4 + F 5 * G 3 * 2 + F 6 * G 2 + F 7 * G 1 * 2 + F 8 * G 0 + F 9 * G 9 * 38 := rfl
  have e9 : mT F G 9 = F 0 * G 9 + F 1 * G 8 + F 2 * G 7 + F 3 * G 6 + F 4 * G 5 + F 5 * G 4 + F 6 * G 3 + F 7 * G 2 + F 8 * G 1 + F 9 * G 0 := rfl
  unfold val10 pP
  rw [e0, e1, e2, e3, e4, e5, e6, e7, e8, e9]
  generalize F 0 = f0, F 1 = f1, F 2 = f2, F 3 = f3, F 4 = f4, F 5 = f5, F 6 = f6, F 7 = f7, F 8 = f8, F 9 = f9
  generalize G 0 = g0, G 1 = g1, G 2 = g2, G 3 = g3, G 4 = g4, G 5 = g5, G 6 = g6, G 7 = g7, G 8 = g8, G 9 = g9
  grind
theorem mulb {a b A B : Int} (h1 : -A ≤ a) (h2 : a ≤ A) (h3 : -B ≤ b) (h4 : b ≤ B) : -(A * B) ≤ a * b ∧ a * b ≤ A * B := by
  have hA : 0 ≤ A := by omega
  have hB : 0 ≤ B := by omega
  have hn : (a * b).natAbs ≤ (A * B).natAbs := by
    rw [Int.natAbs_mul, Int.natAbs_mul]
    exact Nat.mul_le_mul (by omega) (by omega)
  have : 0 ≤ A * B := Int.mul_nonneg hA hB
  omega
theorem mT_lim {F G : Nat → Int} (hF : bnd 2 F) (hG : bnd 2 G) : lim60 (mT F G) := by
  obtain ⟨a0, b0, a1, b1, a2, b2, a3, b3, a4, b4, a5, b5, a6, b6, a7, b7, a8, b8, a9, b9⟩ := bnd_u hF
  obtain ⟨c0, d0, c1, d1, c2, d2, c3, d3, c4, d4, c5, d5, c6, d6, c7, d7, c8, d8, c9, d9⟩ := bnd_u hG
  have L : ∀ i j : Nat, i < 10 → j < 10 → -(67108864 * 67108864) ≤ F i * G j ∧ F i * G j ≤ 67108864 * 67108864 ∧ (i % 2 = 1 → j % 2 = 1 → -(33619968 * 33619968) ≤ F i * G j ∧ F i * G j ≤ 33619968 * 33619968) := by
    intro i j hi hj
    have a := hF i hi
    have b := hG j hj
    have ha : bb i ≤ 33554432 := by unfold bb; split <;> decide
    have hb : bb j ≤ 33554432 := by unfold bb; split <;> decide
    refine ⟨(mulb (by omega) (by omega) (by omega) (by omega)).1, (mulb (by omega) (by omega) (by omega) (by omega)).2, fun h1 h2 => ?_⟩
    have ha' : bb i = 16809984 := by unfold bb; rw [if_neg (by omega)]
    have hb' : bb j = 16809984 := by unfold bb; rw [if_neg (by omega)]
    rw [ha'] at a
    rw [hb'] at b
    exact mulb (by omega) (by omega) (by omega) (by omega)
  intro k hk
  match k, hk with
  | 0, _ =>
    have p0 := L 0 0 (by decide) (by decide)
    have p1 := L 1 9 (by decide) (by decide)
    have q1 := p1.2.2 rfl rfl
    have p2 := L 2 8 (by decide) (by decide)
    have p3 := L 3 7 (by decide) (by decide)
    have q3 := p3.2.2 rfl rfl
    have p4 := L 4 6 (by decide) (by decide)
    have p5 := L 5 5 (by decide) (by decide)
    have q5 := p5.2.2 rfl rfl
    have p6 := L 6 4 (by decide) (by decide)
    have p7 := L 7 3 (by decide) (by decide)
    have q7 := p7.2.2 rfl rfl
    have p8 := L 8 2 (by decide) (by decide)
    have p9 := L 9 1 (by decide) (by decide)
    have q9 := p9.2.2 rfl rfl
    show _ ≤ F 0 * G 0 + F 1 * G 9 * 38 + F 2 * G 8 * 19 + F 3 * G 7 * 38 + F 4 * G 6 * 19 + F 5 * G 5 * 38 + F 6 * G 4 * 19 + F 7 * G 3 * 38 + F 8 * G 2 * 19 + F 9 * G 1 * 38 ∧ F 0 * G 0 + F 1 * G 9 * 38 + F 2 * G 8 * 19 + F 3 * G 7 * 38 + F 4 * G 6 * 19 + F 5 * G 5 * 38 + F 6 * G 4 * 19 + F 7 * G 3 * 38 + F 8 * G 2 * 19 + F 9 * G 1 * 38 ≤ _
    generalize F 0 * G 0 = x0 at *
    generalize F 1 * G 9 = x1 at *
    generalize F 2 * G 8 = x2 at *
    generalize F 3 * G 7 = x3 at *
    generalize F 4 * G 6 = x4 at *
    generalize F 5 * G 5 = x5 at *
    generalize F 6 * G 4 = x6 at *
    generalize F 7 * G 3 = x7 at *
    generalize F 8 * G 2 = x8 at *
    generalize F 9 * G 1 = x9 at *
    omega
  | 1, _ =>
    have p0 := L 0 1 (by decide) (by decide)
    have p1 := L 1 0 (by decide) (by decide)
    have p2 := L 2 9 (by decide) (by decide)
    have p3 := L 3 8 (by decide) (by decide)
    have p4 := L 4 7 (by decide) (by decide)
    have p5 := L 5 6 (by decide) (by decide)
    have p6 := L 6 5 (by decide) (by decide)
    have p7 := L 7 4 (by decide) (by decide)
    have p8 := L 8 3 (by decide) (by decide)
    have p9 := L 9 2 (by decide) (by decide)
    show _ ≤ F 0 * G 1 + F 1 * G 0 + F 2 * G 9 * 19 + F 3 * G 8 * 19 + F 4 * G 7 * 19 + F 5 * G 6 * 19 + F 6 * G 5 * 19 + F 7 * G 4 * 19 + F 8 * G 3 * 19 + F 9 * G 2 * 19 ∧ F 0 * G 1 + F 1 * G 0 + F 2 * G 9 * 19 + F 3 * G 8 * 19 + F 4 * G 7 * 19 + F 5 * G 6 * 19 + F 6 * G 5 * 19 + F 7 * G 4 * 19 + F 8 * G 3 * 19 + F 9 * G 2 * 19 ≤ _
    generalize F 0 * G 1 = x0 at *
    generalize F 1 * G 0 = x1 at *
    generalize F 2 * G 9 = x2 at *
    generalize F 3 * G 8 = x3 at *
    generalize F 4 * G 7 = x4 at *
    generalize F 5 * G 6 = x5 at *
    generalize F 6 * G 5 = x6 at *
    generalize F 7 * G 4 = x7 at *
    generalize F 8 * G 3 = x8 at *
    generalize F 9 * G 2 = x9 at *
    omega
  | 2, _ =>
    have p0 := L 0 2 (by decide) (by decide)
    have p1 := L 1 1 (by decide) (by decide)
    have q1 := p1.2.2 rfl rfl
    have p2 := L 2 0 (by decide) (by decide)
    have p3 := L 3 9 (by decide) (by decide)
    have q3 := p3.2.2 rfl rfl
    have p4 := L 4 8 (by decide) (by decide)
    have p5 := L 5 7 (by decide) (by decide)
    have q5 := p5.2.2 rfl rfl
    have p6 := L 6 6 (by decide) (by decide)
    have p7 := L 7 5 (by decide) (by decide)
    have q7 := p7.2.2 rfl rfl
    have p8 := L 8 4 (by decide) (by decide)
    have p9 := L 9 3 (by decide) (by decide)
    have q9 := p9.2.2 rfl rfl
    show _ ≤ F 0 * G 2 + F 1 * G 1 * 2 + F 2 * G 0 + F 3 * G 9 * 38 + F 4 * G 8 * 19 + F 5 * G 7 * 38 + F 6 * G 6 * 19 + F 7 * G 5 * 38 + F 8 * G 4 * 19 + F 9 * G 3 * 38 ∧ F 0 * G 2 + F 1 * G 1 * 2 + F 2 * G 0 + F 3 * G 9 * 38 + F 4 * G 8 * 19 + F 5 * G 7 * 38 + F 6 * G 6 * 19 + F 7 * G 5 * 38 + F 8 * G 4 * 19 + F 9 * G 3 * 38 ≤ _
    generalize F 0 * G 2 = x0 at *
    generalize F 1 * G 1 = x1 at *
    generalize F 2 * G 0 = x2 at *
    generalize F 3 * G 9 = x3 at *
    generalize F 4 * G 8 = x4 at *
    generalize F 5 * G 7 = x5 at *
    generalize F 6 * G 6 = x6 at *
    generalize F 7 * G 5 = x7 at *
    generalize F 8 * G 4 = x8 at *
    generalize F 9 * G 3 = x9 at *
    omega
  | 3, _ =>
    have p0 := L 0 3 (by decide) (by decide)
    have p1 := L 1 2 (by decide) (by decide)
    have p2 := L 2 1 (by decide) (by decide)
    have p3 := L 3 0 (by decide) (by decide)
    have p4 := L 4 9 (by decide) (by decide)
    have p5 := L 5 8 (by decide) (by decide)
    have p6 := L 6 7 (by decide) (by decide)
    have p7 := L 7 6 (by decide) (by decide)
    have p8 := L 8 5 (by decide) (by decide)
    have p9 := L 9 4 (by decide) (by decide)
    show _ ≤ F 0 * G 3 + F 1 * G 2 + F 2 * G 1 + F 3 * G 0 + F 4 * G 9 * 19 + F 5 * G 8 * 19 + F 6 * G 7 * 19 + F 7 * G 6 * 19 + F 8 * G 5 * 19 + F 9 * G 4 * 19 ∧ F 0 * G 3 + F 1 * G 2 + F 2 * G 1 + F 3 * G 0 + F 4 * G 9 * 19 + F 5 * G 8 * 19 + F 6 * G 7 * 19 + F 7 * G 6 * 19 + F 8 * G 5 * 19 + F 9 * G 4 * 19 ≤ _
    generalize F 0 * G 3 = x0 at *
    generalize F 1 * G 2 = x1 at *
    generalize F 2 * G 1 = x2 at *
    generalize F 3 * G 0 = x3 at *
    generalize F 4 * G 9 = x4 at *
    generalize F 5 * G 8 = x5 at *
    generalize F 6 * G 7 = x6 at *
    generalize F 7 * G 6 = x7 at *
    generalize F 8 * G 5 = x8 at *
    generalize F 9 * G 4 = x9 at *
    omega
  | 4, _ =>
    have p0 := L 0 4 (by decide) (by decide)
    have p1 := L 1 3 (by decide) (by decide)
    have q1 := p1.2.2 rfl rfl
    have p2 := L 2 2 (by decide) (by decide)
    have p3 := L 3 1 (by decide) (by decide)
    have q3 := p3.2.2 rfl rfl
    have p4 := L 4 0 (by decide) (by decide)
    have p5 := L 5 9 (by decide) (by decide)
    have q5 := p5.2.2 rfl rfl
    have p6 := L 6 8 (by decide) (by decide)
    have p7 := L 7 7 (by decide) (by decide)
    have q7 := p7.2.2 rfl rfl
    have p8 := L 8 6 (by decide) (by decide)
    have p9 := L 9 5 (by decide) (by decide)
    have q9 := p9.2.2 rfl rfl
    show _ ≤ F 0 * G 4 + F 1 * G 3 * 2 + F 2 * G 2 + F 3 * G 1 * 2 + F 4 * G 0 + F 5 * G 9 * 38 + F 6 * G 8 * 19 + F 7 * G 7 * 38 + F 8 * G 6 * 19 + F 9 * G 5 * 38 ∧ F 0 * G 4 + F 1 * G 3 * 2 + F 2 * G 2 + F 3 * G 1 * 2 + F 4 * G 0 + F 5 * G 9 * 38 + F 6 * G 8 * 19 + F 7 * G 7 * 38 + F 8 * G 6 * 19 + F 9 * G 5 * 38 ≤ _
    generalize F 0 * G 4 = x0 at *
    generalize F 1 * G 3 = x1 at *
    generalize F 2 * G 2 = x2 at *
    generalize F 3 * G 1 = x3 at *
    generalize F 4 * G 0 = x4 at *
    generalize F 5 * G 9 = x5 at *
    generalize F 6 * G 8 = x6 at *
    generalize F 7 * G 7 = x7 at *
    generalize F 8 * G 6 = x8 at *
    generalize F 9 * G 5 = x9 at *
    omega
  | 5, _ =>
    have p0 := L 0 5 (by decide) (by decide)
    have p1 := L 1 4 (by decide) (by decide)
    have p2 := L 2 3 (by decide) (by decide)
    have p3 := L 3 2 (by decide) (by decide)
    have p4 := L 4 1 (by decide) (by decide)
    have p5 := L 5 0 (by decide) (by decide)
    have p6 := L 6 9 (by decide) (by decide)
    have p7 := L 7 8 (by decide) (by decide)
    have p8 := L 8 7 (by decide) (by decide)
    have p9 := L 9 6 (by decide) (by decide)
    show _ ≤ F 0 * G 5 + F 1 * G 4 + F 2 * G 3 + F 3 * G 2 + F 4 * G 1 + F 5 * G 0 + F 6 * G 9 * 19 + F 7 * G 8 * 19 + F 8 * G 7 * 19 + F 9 * G 6 * 19 ∧ F 0 * G 5 + F 1 * G 4 + F 2 * G 3 + F 3 * G 2 + F 4 * G 1 + F 5 * G 0 + F 6 * G 9 * 19 + F 7 * G 8 * 19 + F 8 * G 7 * 19 + F 9 * G 6 * 19 ≤ _
    generalize F 0 * G 5 = x0 at *
    generalize F 1 * G 4 = x1 at *
    generalize F 2 * G 3 = x2 at *
    generalize F 3 * G 2 = x3 at *
    generalize F 4 * G 1 = x4 at *
    generalize F 5 * G 0 = x5 at *
    generalize F 6 * G 9 = x6 at *
    generalize F 7 * G 8 = x7 at *
    generalize F 8 * G 7 = x8 at *
    generalize F 9 * G 6 = x9 at *
    omega
  | 6, _ =>
    have p0 := L 0 6 (by decide) (by decide)
    have p1 := L 1 5 (by decide) (by decide)
    have q1 := p1.2.2 rfl rfl
    have p2 := L 2 4 (by decide) (by decide)
    have p3 := L 3 3 (by decide) (by decide)
    have q3 := p3.2.2 rfl rfl
    have p4 := L 4 2 (by decide) (by decide)
    have p5 := L 5 1 (by decide) (by decide)
    have q5 := p5.2.2 rfl rfl
    have p6 := L 6 0 (by decide) (by decide)
    have p7 := L 7 9 (by decide) (by decide)
    have q7 := p7.2.2 rfl rfl
    have p8 := L 8 8 (by decide) (by decide)
    have p9 := L 9 7 (by decide) (by decide)
    have q9 := p9.2.2 rfl rfl
    show _ ≤ F 0 * G 6 + F 1 * G 5 * 2 + F 2 * G 4 + F 3 * G 3 * 2 + F 4 * G 2 + F 5 * G 1 * 2 + F 6 * G 0 + F 7 * G 9 * 38 + F 8 * G 8 * 19 + F 9 * G 7 * 38 ∧ F 0 * G 6 + F 1 * G 5 * 2 + F 2 * G 4 + F 3 * G 3 * 2 + F 4 * G 2 + F 5 * G 1 * 2 + F 6 * G 0 + F 7 * G 9 * 38 + F 8 * G 8 * 19 + F 9 * G 7 * 38 ≤ _
    generalize F 0 * G 6 = x0 at *
    generalize F 1 * G 5 = x1 at *
    generalize F 2 * G 4 = x2 at *
    generalize F 3 * G 3 = x3 at *
    generalize F 4 * G 2 = x4 at *
    generalize F 5 * G 1 = x5 at *
    generalize F 6 * G 0 = x6 at *
    generalize F 7 * G 9 = x7 at *
    generalize F 8 * G 8 = x8 at *
    generalize F 9 * G 7 = x9 at *
    omega
  | 7, _ =>
    have p0 := L 0 7 (by decide) (by decide)
    have p1 := L 1 6 (by decide) (by decide)
    have p2 := L 2 5 (by decide) (by decide)
    have p3 := L 3 4 (by decide) (by decide)
    have p4 := L 4 3 (by decide) (by decide)
    have p5 := L 5 2 (by decide) (by decide)
    have p6 := L 6 1 (by decide) (by decide)
    have p7 := L 7 0 (by decide) (by decide)
    have p8 := L 8 9 (by decide) (by decide)
    have p9 := L 9 8 (by decide) (by decide)
    show _ ≤ F 0 * G 7 + F 1 * G 6 + F 2 * G 5 + F 3 * G 4 + F 4 * G 3 + F 5 * G 2 + F 6 * G 1 + F 7 * G 0 + F 8 * G 9 * 19 + F 9 * G 8 * 19 ∧ F 0 * G 7 + F 1 * G 6 + F 2 * G 5 + F 3 * G 4 + F 4 * G 3 + F 5 * G 2 + F 6 * G 1 + F 7 * G 0 + F 8 * G 9 * 19 + F 9 * G 8 * 19 ≤ _
    generalize F 0 * G 7 = x0 at *
    generalize F 1 * G 6 = x1 at *
    generalize F 2 * G 5 = x2 at *
    generalize F 3 * G 4 = x3 at *
    generalize F 4 * G 3 = x4 at *
    generalize F 5 * G 2 = x5 at *
    generalize F 6 * G 1 = x6 at *
    generalize F 7 * G 0 = x7 at *
    generalize F 8 * G 9 = x8 at *
    generalize F 9 * G 8 = x9 at *
    omega
  | 8, _ =>
    have p0 := L 0 8 (by decide) (by decide)
    have p1 := L 1 7 (by decide) (by decide)
    have q1 := p1.2.2 rfl rfl
    have p2 := L 2 6 (by decide) (by decide)
    have p3 := L 3 5 (by decide) (by decide)
    have q3 := p3.2.2 rfl rfl
    have p4 := L 4 4 (by decide) (by decide)
    have p5 := L 5 3 (by decide) (by decide)
    have q5 := p5.2.2 rfl rfl
    have p6 := L 6 2 (by decide) (by decide)
    have p7 := L 7 1 (by decide) (by decide)
    have q7 := p7.2.2 rfl rfl
    have p8 := L 8 0 (by decide) (by decide)
    have p9 := L 9 9 (by decide) (by decide)
    have q9 := p9.2.2 rfl rfl
    show _ ≤ F 0 * G 8 + F 1 * G 7 * 2 + F 2 * G 6 + F 3 * G 5 * 2 + F 4 * G 4 + F 5 * G 3 * 2 + F 6 * G 2 + F 7 * G 1 * 2 + F 8 * G 0 + F 9 * G 9 * 38 ∧ F 0 * G 8 + F 1 * G 7 * 2 + F 2 * G 6 + F 3 * G 5 * 2 + F 4 * G 4 + F 5 * G 3 * 2 + F 6 * G 2 + F 7 * G 1 * 2 + F 8 * G 0 + F 9 * G 9 * 38 ≤ _
    generalize F 0 * G 8 = x0 at *
    generalize F 1 * G 7 = x1 at *
    generalize F 2 * G 6 = x2 at *
    generalize F 3 * G 5 = x3 at *
    generalize F 4 * G 4 = x4 at *
    generalize F 5 * G 3 = x5 at *
    generalize F 6 * G 2 = x6 at *
    generalize F 7 * G 1 = x7 at *
    generalize F 8 * G 0 = x8 at *
    generalize F 9 * G 9 = x9 at *
    omega
  | 9, _ =>
    have p0 := L 0 9 (by decide) (by decide)
    have p1 := L 1 8 (by decide) (by decide)
    have p2 := L 2 7 (by decide) (by decide)
    have p3 := L 3 6 (by decide) (by decide)
    have p4 := L 4 5 (by decide) (by decide)
    have p5 := L 5 4 (by decide) (by decide)
    have p6 := L 6 3 (by decide) (by decide)
    have p7 := L 7 2 (by decide) (by decide)
    have p8 := L 8 1 (by decide) (by decide)
    have p9 := L 9 0 (by decide) (by decide)
    show _ ≤ F 0 * G 9 + F 1 * G 8 + F 2 * G 7 + F 3 * G 6 + F 4 * G 5 + F 5 * G 4 + F 6 * G 3 + F 7 * G 2 + F 8 * G 1 + F 9 * G 0 ∧ F 0 * G 9 + F 1 * G 8 + F 2 * G 7 + F 3 * G 6 + F 4 * G 5 + F 5 * G 4 + F 6 * G 3 + F 7 * G 2 + F 8 * G 1 + F 9 * G 0 ≤ _
    generalize F 0 * G 9 = x0 at *
    generalize F 1 * G 8 = x1 at *
    generalize F 2 * G 7 = x2 at *
    generalize F 3 * G 6 = x3 at *
    generalize F 4 * G 5 = x4 at *
    generalize F 5 * G 4 = x5 at *
    generalize F 6 * G 3 = x6 at *
    generalize F 7 * G 2 = x7 at *
    generalize F 8 * G 1 = x8 at *
    generalize F 9 * G 0 = x9 at *
    omega

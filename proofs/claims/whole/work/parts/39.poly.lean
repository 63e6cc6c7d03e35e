/-! PART 39: numbers modulo 2^130 - 5, pure -/
def qP : Nat := 1361129467683753853853498429727072845819
def val5 (V : Nat → Nat) : Nat := V 0 + V 1 * 67108864 + V 2 * 4503599627370496 + V 3 * 302231454903657293676544 + V 4 * 20282409603651670423947251286016
def pO (V : Nat → Nat) : Nat → Nat
  | 0 => 0
  | i + 1 => (V i + pO V i) / 67108864
def pR (V : Nat → Nat) (i : Nat) : Nat := (V i + pO V i) % 67108864
def pF (V : Nat → Nat) : Nat := pR V 0 + 5 * pO V 5
def cP (V : Nat → Nat) (i : Nat) : Nat := if i = 0 then pF V % 67108864 else if i = 1 then pR V 1 + pF V / 67108864 else pR V i
theorem cP_val (V : Nat → Nat) : val5 V = val5 (cP V) + pO V 5 * qP := by
  have e0 : pO V 0 = 0 := rfl
  have e1 : pO V 1 = (V 0 + pO V 0) / 67108864 := rfl
  have e2 : pO V 2 = (V 1 + pO V 1) / 67108864 := rfl
  have e3 : pO V 3 = (V 2 + pO V 2) / 67108864 := rfl
  have e4 : pO V 4 = (V 3 + pO V 3) / 67108864 := rfl
  have e5 : pO V 5 = (V 4 + pO V 4) / 67108864 := rfl
  have r0 : pR V 0 = (V 0 + pO V 0) % 67108864 := rfl
  have r1 : pR V 1 = (V 1 + pO V 1) % 67108864 := rfl
  have r2 : pR V 2 = (V 2 + pO V 2) % 67108864 := rfl
  have r3 : pR V 3 = (V 3 + pO V 3) % 67108864 := rfl
  have r4 : pR V 4 = (V 4 + pO V 4) % 67108864 := rfl
  have f : pF V = pR V 0 + 5 * pO V 5 := rfl
  have c0 : cP V 0 = pF V % 67108864 := rfl
  have c1 : cP V 1 = pR V 1 + pF V / 67108864 := rfl
  have c2 : cP V 2 = pR V 2 := rfl
  have c3 : cP V 3 = pR V 3 := rfl
  have c4 : cP V 4 = pR V 4 := rfl
  unfold val5 qP
  omega
theorem cP_mod (V : Nat → Nat) : val5 (cP V) % qP = val5 V % qP := by rw [cP_val V, Nat.add_mul_mod_self_right]
def lim5 (V : Nat → Nat) : Prop := ∀ i, i < 5 → V i < 288230376151711744
theorem pO_b {V : Nat → Nat} (h : lim5 V) : ∀ i, i ≤ 5 → pO V i < 4294970000
  | 0, _ => by show 0 < 4294970000; decide
  | i + 1, hi => by
    have h1 := h i (by omega)
    have h2 := pO_b h i (by omega)
    rw [pO]; omega
/-- after a carry -/
def bP (V : Nat → Nat) : Prop := V 0 < 67108864 ∧ V 1 < 67109888 ∧ V 2 < 67108864 ∧ V 3 < 67108864 ∧ V 4 < 67108864
theorem cP_b {V : Nat → Nat} (h : lim5 V) : bP (cP V) := by
  have h5 := pO_b h 5 (by decide)
  have r1 : pR V 1 < 67108864 := Nat.mod_lt _ (by decide)
  have r0 : pR V 0 < 67108864 := Nat.mod_lt _ (by decide)
  have f : pF V = pR V 0 + 5 * pO V 5 := rfl
  refine ⟨Nat.mod_lt _ (by decide), ?_, Nat.mod_lt _ (by decide), Nat.mod_lt _ (by decide), Nat.mod_lt _ (by decide)⟩
  show pR V 1 + pF V / 67108864 < _
  omega
/-- a second carry makes all limbs small -/
theorem cP_2 {V : Nat → Nat} (h : bP V) : ∀ i, i < 5 → cP V i < 67108864 := by
  obtain ⟨h0, h1, h2, h3, h4⟩ := h
  have e0 : pO V 0 = 0 := rfl
  have e1 : pO V 1 = (V 0 + pO V 0) / 67108864 := rfl
  have e2 : pO V 2 = (V 1 + pO V 1) / 67108864 := rfl
  have e3 : pO V 3 = (V 2 + pO V 2) / 67108864 := rfl
  have e4 : pO V 4 = (V 3 + pO V 3) / 67108864 := rfl
  have e5 : pO V 5 = (V 4 + pO V 4) / 67108864 := rfl
  have r0 : pR V 0 = (V 0 + pO V 0) % 67108864 := rfl
  have r1 : pR V 1 = (V 1 + pO V 1) % 67108864 := rfl
  have f : pF V = pR V 0 + 5 * pO V 5 := rfl
  intro i hi
  match i, hi with
  | 0, _ => exact Nat.mod_lt _ (by decide)
  | 1, _ =>
    show pR V 1 + pF V / 67108864 < _
    omega
  | 2, _ => exact Nat.mod_lt _ (by decide)
  | 3, _ => exact Nat.mod_lt _ (by decide)
  | 4, _ => exact Nat.mod_lt _ (by decide)
/-- the product's sums -/
def pS (V R : Nat → Nat) (i : Nat) : Nat := match i with
  | 0 => V 0 * R 0 + V 1 * 5 * R 4 + V 2 * 5 * R 3 + V 3 * 5 * R 2 + V 4 * 5 * R 1
  | 1 => V 0 * R 1 + V 1 * R 0 + V 2 * 5 * R 4 + V 3 * 5 * R 3 + V 4 * 5 * R 2
  | 2 => V 0 * R 2 + V 1 * R 1 + V 2 * R 0 + V 3 * 5 * R 4 + V 4 * 5 * R 3
  | 3 => V 0 * R 3 + V 1 * R 2 + V 2 * R 1 + V 3 * R 0 + V 4 * 5 * R 4
  | _ => V 0 * R 4 + V 1 * R 3 + V 2 * R 2 + V 3 * R 1 + V 4 * R 0
theorem pS_val (V R : Nat → Nat) : val5 V * val5 R = val5 (pS V R) + (V 1 * R 4 + V 2 * R 3 + V 3 * R 2 + V 4 * R 1 + (V 2 * R 4 + V 3 * R 3 + V 4 * R 2) * 67108864 + (V 3 * R 4 + V 4 * R 3) * 4503599627370496 + V 4 * R 4 * 302231454903657293676544) * qP := by
  unfold val5 qP
  have e0 : pS V R 0 = V 0 * R 0 + V 1 * 5 * R 4 + V 2 * 5 * R 3 + V 3 * 5 * R 2 + V 4 * 5 * R 1 := rfl
  have e1 : pS V R 1 = V 0 * R 1 + V 1 * R 0 + V 2 * 5 * R 4 + V 3 * 5 * R 3 + V 4 * 5 * R 2 := rfl
  have e2 : pS V R 2 = V 0 * R 2 + V 1 * R 1 + V 2 * R 0 + V 3 * 5 * R 4 + V 4 * 5 * R 3 := rfl
  have e3 : pS V R 3 = V 0 * R 3 + V 1 * R 2 + V 2 * R 1 + V 3 * R 0 + V 4 * 5 * R 4 := rfl
  have e4 : pS V R 4 = V 0 * R 4 + V 1 * R 3 + V 2 * R 2 + V 3 * R 1 + V 4 * R 0 := rfl
  rw [e0, e1, e2, e3, e4]
  generalize V 0 = v0, V 1 = v1, V 2 = v2, V 3 = v3, V 4 = v4, R 0 = r0, R 1 = r1, R 2 = r2, R 3 = r3, R 4 = r4
  grind
theorem pS_mod (V R : Nat → Nat) : val5 (pS V R) % qP = val5 V * val5 R % qP := by rw [pS_val, Nat.add_mul_mod_self_right]
theorem mulN {a b A B : Nat} (h : a ≤ A) (h' : b ≤ B) : a * b ≤ A * B := Nat.mul_le_mul h h'
theorem pS_lim {V R : Nat → Nat} (hV : ∀ i, i < 5 → V i ≤ 134218752) (hR : ∀ i, i < 5 → R i ≤ 67108863) : lim5 (pS V R) := by
  have L : ∀ i j, i < 5 → j < 5 → V i * R j ≤ 134218752 * 67108863 := fun i j hi hj => mulN (hV i hi) (hR j hj)
  have L5 : ∀ i j, i < 5 → j < 5 → V i * 5 * R j ≤ 134218752 * 5 * 67108863 := fun i j hi hj => mulN (mulN (hV i hi) (Nat.le_refl 5)) (hR j hj)
  intro i hi
  match i, hi with
  | 0, _ =>
    show V 0 * R 0 + V 1 * 5 * R 4 + V 2 * 5 * R 3 + V 3 * 5 * R 2 + V 4 * 5 * R 1 < _
    have := L 0 0 (by decide) (by decide); have := L5 1 4 (by decide) (by decide); have := L5 2 3 (by decide) (by decide); have := L5 3 2 (by decide) (by decide); have := L5 4 1 (by decide) (by decide)
    omega
  | 1, _ =>
    show V 0 * R 1 + V 1 * R 0 + V 2 * 5 * R 4 + V 3 * 5 * R 3 + V 4 * 5 * R 2 < _
    have := L 0 1 (by decide) (by decide); have := L 1 0 (by decide) (by decide); have := L5 2 4 (by decide) (by decide); have := L5 3 3 (by decide) (by decide); have := L5 4 2 (by decide) (by decide)
    omega
  | 2, _ =>
    show V 0 * R 2 + V 1 * R 1 + V 2 * R 0 + V 3 * 5 * R 4 + V 4 * 5 * R 3 < _
    have := L 0 2 (by decide) (by decide); have := L 1 1 (by decide) (by decide); have := L 2 0 (by decide) (by decide); have := L5 3 4 (by decide) (by decide); have := L5 4 3 (by decide) (by decide)
    omega
  | 3, _ =>
    show V 0 * R 3 + V 1 * R 2 + V 2 * R 1 + V 3 * R 0 + V 4 * 5 * R 4 < _
    have := L 0 3 (by decide) (by decide); have := L 1 2 (by decide) (by decide); have := L 2 1 (by decide) (by decide); have := L 3 0 (by decide) (by decide); have := L5 4 4 (by decide) (by decide)
    omega
  | 4, _ =>
    show V 0 * R 4 + V 1 * R 3 + V 2 * R 2 + V 3 * R 1 + V 4 * R 0 < _
    have := L 0 4 (by decide) (by decide); have := L 1 3 (by decide) (by decide); have := L 2 2 (by decide) (by decide); have := L 3 1 (by decide) (by decide); have := L 4 0 (by decide) (by decide)
    omega
/-- the 26 bit limbs of a number -/
def lm5 (N : Nat) (i : Nat) : Nat := match i with
  | 0 => N % 67108864
  | 1 => N / 67108864 % 67108864
  | 2 => N / 4503599627370496 % 67108864
  | 3 => N / 302231454903657293676544 % 67108864
  | _ => N / 20282409603651670423947251286016
theorem lm5_val (N : Nat) : val5 (lm5 N) = N := by
  have e0 : lm5 N 0 = N % 67108864 := rfl
  have e1 : lm5 N 1 = N / 67108864 % 67108864 := rfl
  have e2 : lm5 N 2 = N / 4503599627370496 % 67108864 := rfl
  have e3 : lm5 N 3 = N / 302231454903657293676544 % 67108864 := rfl
  have e4 : lm5 N 4 = N / 20282409603651670423947251286016 := rfl
  unfold val5
  omega
theorem lm5_lt {N : Nat} (h : N < 340282366920938463463374607431768211456) : ∀ i, i < 5 → lm5 N i < 67108864 := by
  intro i hi
  match i, hi with
  | 0, _ => exact Nat.mod_lt _ (by decide)
  | 1, _ => exact Nat.mod_lt _ (by decide)
  | 2, _ => exact Nat.mod_lt _ (by decide)
  | 3, _ => exact Nat.mod_lt _ (by decide)
  | 4, _ => show N / 20282409603651670423947251286016 < _; omega
theorem lm5_4 {N : Nat} (h : N < 340282366920938463463374607431768211456) : lm5 N 4 < 16777216 := by show N / 20282409603651670423947251286016 < _; omega
/-- one block taken in -/
def pAbs (r acc N : Nat) : Nat := (acc + N + 340282366920938463463374607431768211456) * r % qP
/-- the last reduction: five is added -/
theorem red_val {V : Nat → Nat} (h : ∀ i, i < 5 → V i < 67108864) : (pO (fun i => if i = 0 then V 0 + 5 else V i) 5 = 0 → val5 V = val5 V % qP) ∧ (0 < pO (fun i => if i = 0 then V 0 + 5 else V i) 5 → val5 (fun i => pR (fun i => if i = 0 then V 0 + 5 else V i) i) = val5 V % qP) := by
  have h0 := h 0 (by decide)
  have h1 := h 1 (by decide)
  have h2 := h 2 (by decide)
  have h3 := h 3 (by decide)
  have h4 := h 4 (by decide)
  obtain ⟨W, hW⟩ : ∃ W : Nat → Nat, W = fun i => if i = 0 then V 0 + 5 else V i := ⟨_, rfl⟩
  rw [← hW]
  have w0 : W 0 = V 0 + 5 := by rw [hW]; rfl
  have w1 : W 1 = V 1 := by rw [hW]; rfl
  have w2 : W 2 = V 2 := by rw [hW]; rfl
  have w3 : W 3 = V 3 := by rw [hW]; rfl
  have w4 : W 4 = V 4 := by rw [hW]; rfl
  have e0 : pO W 0 = 0 := rfl
  have e1 : pO W 1 = (W 0 + pO W 0) / 67108864 := rfl
  have e2 : pO W 2 = (W 1 + pO W 1) / 67108864 := rfl
  have e3 : pO W 3 = (W 2 + pO W 2) / 67108864 := rfl
  have e4 : pO W 4 = (W 3 + pO W 3) / 67108864 := rfl
  have e5 : pO W 5 = (W 4 + pO W 4) / 67108864 := rfl
  have r0 : pR W 0 = (W 0 + pO W 0) % 67108864 := rfl
  have r1 : pR W 1 = (W 1 + pO W 1) % 67108864 := rfl
  have r2 : pR W 2 = (W 2 + pO W 2) % 67108864 := rfl
  have r3 : pR W 3 = (W 3 + pO W 3) % 67108864 := rfl
  have r4 : pR W 4 = (W 4 + pO W 4) % 67108864 := rfl
  have hS : val5 V + 5 = val5 (fun i => pR W i) + pO W 5 * 1361129467683753853853498429727072845824 := by
    simp only [val5]; omega
  have hB : val5 (fun i => pR W i) < 1361129467683753853853498429727072845824 := by
    simp only [val5]; omega
  have hV : val5 V < 1361129467683753853853498429727072845824 := by
    unfold val5; omega
  have hq : qP = 1361129467683753853853498429727072845819 := rfl
  constructor
  · intro hz
    rw [hz] at hS
    rw [Nat.mod_eq_of_lt (by omega)]
  · intro hz
    have h1 : pO W 5 = 1 := by omega
    rw [h1] at hS
    have : val5 V = val5 (fun i => pR W i) + qP := by omega
    rw [this, Nat.add_mod_right, Nat.mod_eq_of_lt (by omega)]
/-- the sum of two sixteen byte numbers, byte by byte -/
def pCar (a : Nat) (s : Nat → Nat) : Nat → Nat
  | 0 => 0
  | i + 1 => (pCar a s i + (a / 256 ^ i % 256 + s i)) / 256
def pTagB (a : Nat) (s : Nat → Nat) (i : Nat) : Nat := (pCar a s i + (a / 256 ^ i % 256 + s i)) % 256
theorem pCar_b {a : Nat} {s : Nat → Nat} (h : ∀ i, s i < 256) : ∀ i, pCar a s i ≤ 1
  | 0 => by show 0 ≤ 1; decide
  | i + 1 => by
    have h1 := pCar_b (a := a) h i
    have h2 := h i
    have h3 : a / 256 ^ i % 256 < 256 := Nat.mod_lt _ (by decide)
    rw [pCar]; omega
/-! bytes of the multiplier -/
def rcl (k b : Nat) : Nat := if k % 4 = 3 then b % 16 else if 0 < k ∧ k % 4 = 0 then b / 4 * 4 else b
def le8 (f : Nat → Nat) (b : Nat) : Nat := leV ((List.range 8).map fun i => f (b + i))
def le16 (f : Nat → Nat) : Nat := le8 f 0 + 18446744073709551616 * le8 f 8
def rOf (f : Nat → Nat) : Nat := le16 fun k => rcl k (f k)
theorem and_cat {x y x' y' : Nat} (h : y < 256) (h' : y' < 256) : (y + 256 * x) &&& (y' + 256 * x') = (y &&& y') + 256 * (x &&& x') := by
  apply Nat.eq_of_testBit_eq
  intro i
  have h2 : y &&& y' < 2 ^ 8 := Nat.lt_of_le_of_lt Nat.and_le_left h
  rw [Nat.testBit_and, Nat.add_comm y, Nat.add_comm y', Nat.add_comm (y &&& y')]
  rw [show (256 : Nat) = 2 ^ 8 from rfl, Nat.testBit_two_pow_mul_add _ h, Nat.testBit_two_pow_mul_add _ h', Nat.testBit_two_pow_mul_add _ h2]
  split
  · rw [Nat.testBit_and]
  · rw [Nat.testBit_and]
theorem le8_e (f : Nat → Nat) (b : Nat) : le8 f b = f b + 256 * (f (b + 1) + 256 * (f (b + 2) + 256 * (f (b + 3) + 256 * (f (b + 4) + 256 * (f (b + 5) + 256 * (f (b + 6) + 256 * (f (b + 7) + 256 * 0))))))) := by
  unfold le8
  rw [show List.range 8 = [0, 1, 2, 3, 4, 5, 6, 7] from rfl]
  simp only [List.map, leV, Nat.add_zero]
theorem le8_lt {f : Nat → Nat} (h : ∀ j, f j < 256) (b : Nat) : le8 f b < 18446744073709551616 := by
  have := leV_lt ((List.range 8).map fun i => f (b + i)) (by intro x hx; obtain ⟨i, -, e⟩ := List.mem_map.mp hx; rw [← e]; exact h _)
  rw [List.length_map, List.length_range] at this
  exact this
theorem cl15 {b : Nat} (h : b < 256) : b &&& 15 = b % 16 := Nat.and_two_pow_sub_one_eq_mod b 4
theorem cl255 {b : Nat} (h : b < 256) : b &&& 255 = b := by rw [show (255 : Nat) = 2 ^ 8 - 1 from rfl, Nat.and_two_pow_sub_one_eq_mod]; exact Nat.mod_eq_of_lt h
theorem cl252 {b : Nat} (h : b < 256) : b &&& 252 = b / 4 * 4 := by
  have : ∀ b : Fin 256, b.val &&& 252 = b.val / 4 * 4 := by decide +kernel
  exact this ⟨b, h⟩
theorem rOf_lo {f : Nat → Nat} (h : ∀ j, f j < 256) : le8 f 0 &&& 1152921487695413247 = le8 (fun k => rcl k (f k)) 0 := by
  rw [le8_e, le8_e, show (1152921487695413247 : Nat) = 255 + 256 * (255 + 256 * (255 + 256 * (15 + 256 * (252 + 256 * (255 + 256 * (255 + 256 * (15 + 256 * 0))))))) from rfl]
  rw [and_cat (h _) (by decide), and_cat (h _) (by decide), and_cat (h _) (by decide), and_cat (h _) (by decide), and_cat (h _) (by decide), and_cat (h _) (by decide), and_cat (h _) (by decide), and_cat (h _) (by decide)]
  rw [cl255 (h _), cl255 (h _), cl255 (h _), cl15 (h _), cl252 (h _), cl255 (h _), cl255 (h _), cl15 (h _)]
  rfl
theorem rOf_hi {f : Nat → Nat} (h : ∀ j, f j < 256) : le8 f 8 &&& 1152921487695413244 = le8 (fun k => rcl k (f k)) 8 := by
  rw [le8_e, le8_e, show (1152921487695413244 : Nat) = 252 + 256 * (255 + 256 * (255 + 256 * (15 + 256 * (252 + 256 * (255 + 256 * (255 + 256 * (15 + 256 * 0))))))) from rfl]
  rw [and_cat (h _) (by decide), and_cat (h _) (by decide), and_cat (h _) (by decide), and_cat (h _) (by decide), and_cat (h _) (by decide), and_cat (h _) (by decide), and_cat (h _) (by decide), and_cat (h _) (by decide)]
  rw [cl252 (h _), cl255 (h _), cl255 (h _), cl15 (h _), cl252 (h _), cl255 (h _), cl255 (h _), cl15 (h _)]
  rfl
theorem rcl_lt {k b : Nat} (h : b < 256) : rcl k b < 256 := by unfold rcl; split; omega; split <;> omega
/-- limbs out of two halves -/
theorem sp_0 {l h : Nat} (hl : l < 18446744073709551616) : l % 67108864 = lm5 (l + 18446744073709551616 * h) 0 := by show _ = (l + 18446744073709551616 * h) % 67108864; omega
theorem sp_1 {l h : Nat} (hl : l < 18446744073709551616) : l / 67108864 % 67108864 = lm5 (l + 18446744073709551616 * h) 1 := by show _ = (l + 18446744073709551616 * h) / 67108864 % 67108864; omega
theorem sp_2 {l h : Nat} (hl : l < 18446744073709551616) : (l / 4503599627370496 + h * 4096) % 67108864 = lm5 (l + 18446744073709551616 * h) 2 := by show _ = (l + 18446744073709551616 * h) / 4503599627370496 % 67108864; omega
theorem sp_3 {l h : Nat} (hl : l < 18446744073709551616) : h / 16384 % 67108864 = lm5 (l + 18446744073709551616 * h) 3 := by show _ = (l + 18446744073709551616 * h) / 302231454903657293676544 % 67108864; omega
theorem sp_4 {l h : Nat} (hl : l < 18446744073709551616) : h / 1099511627776 = lm5 (l + 18446744073709551616 * h) 4 := by show _ = (l + 18446744073709551616 * h) / 20282409603651670423947251286016; omega

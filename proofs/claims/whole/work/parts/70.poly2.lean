/-! PART 70: KeySealerModel: the stream tag's number -/
/-- what one carry of the reference leaves -/
def qC (V : Nat → Nat) (i : Nat) : Nat := if i = 0 then pR V 0 + 5 * pO V 5 else pR V i
theorem qC_val (V : Nat → Nat) : val5 V = val5 (qC V) + pO V 5 * qP := by
  have h0 : pO V 0 = 0 := rfl
  have h1 : pO V 1 = (V 0 + pO V 0) / 67108864 := rfl
  have h2 : pO V 2 = (V 1 + pO V 1) / 67108864 := rfl
  have h3 : pO V 3 = (V 2 + pO V 2) / 67108864 := rfl
  have h4 : pO V 4 = (V 3 + pO V 3) / 67108864 := rfl
  have h5 : pO V 5 = (V 4 + pO V 4) / 67108864 := rfl
  have r0 : pR V 0 = (V 0 + pO V 0) % 67108864 := rfl
  have r1 : pR V 1 = (V 1 + pO V 1) % 67108864 := rfl
  have r2 : pR V 2 = (V 2 + pO V 2) % 67108864 := rfl
  have r3 : pR V 3 = (V 3 + pO V 3) % 67108864 := rfl
  have r4 : pR V 4 = (V 4 + pO V 4) % 67108864 := rfl
  have q0 : qC V 0 = pR V 0 + 5 * pO V 5 := rfl
  have q1 : qC V 1 = pR V 1 := rfl
  have q2 : qC V 2 = pR V 2 := rfl
  have q3 : qC V 3 = pR V 3 := rfl
  have q4 : qC V 4 = pR V 4 := rfl
  unfold val5 qP
  rw [q0, q1, q2, q3, q4]
  omega
theorem qC_mod (V : Nat → Nat) : val5 (qC V) % qP = val5 V % qP := by rw [qC_val V, Nat.add_mul_mod_self_right]
def bQ (V : Nat → Nat) : Prop := V 0 ≤ 67108868 ∧ V 1 < 67108864 ∧ V 2 < 67108864 ∧ V 3 < 67108864 ∧ V 4 < 67108864
theorem qC_1 {V : Nat → Nat} (h : lim5 V) : qC V 0 < 34359738368 ∧ qC V 1 < 67108864 ∧ qC V 2 < 67108864 ∧ qC V 3 < 67108864 ∧ qC V 4 < 67108864 := by
  have h5 := pO_b h 5 (by decide)
  have r0 : pR V 0 = (V 0 + pO V 0) % 67108864 := rfl
  have r1 : pR V 1 = (V 1 + pO V 1) % 67108864 := rfl
  have r2 : pR V 2 = (V 2 + pO V 2) % 67108864 := rfl
  have r3 : pR V 3 = (V 3 + pO V 3) % 67108864 := rfl
  have r4 : pR V 4 = (V 4 + pO V 4) % 67108864 := rfl
  have q0 : qC V 0 = pR V 0 + 5 * pO V 5 := rfl
  have q1 : qC V 1 = pR V 1 := rfl
  have q2 : qC V 2 = pR V 2 := rfl
  have q3 : qC V 3 = pR V 3 := rfl
  have q4 : qC V 4 = pR V 4 := rfl
  rw [q0, q1, q2, q3, q4]
  omega
theorem qC_2 {V : Nat → Nat} (h : V 0 < 34359738368 ∧ V 1 < 67108864 ∧ V 2 < 67108864 ∧ V 3 < 67108864 ∧ V 4 < 67108864) : bQ (qC V) := by
  have h0 : pO V 0 = 0 := rfl
  have h1 : pO V 1 = (V 0 + pO V 0) / 67108864 := rfl
  have h2 : pO V 2 = (V 1 + pO V 1) / 67108864 := rfl
  have h3 : pO V 3 = (V 2 + pO V 2) / 67108864 := rfl
  have h4 : pO V 4 = (V 3 + pO V 3) / 67108864 := rfl
  have h5 : pO V 5 = (V 4 + pO V 4) / 67108864 := rfl
  have r0 : pR V 0 = (V 0 + pO V 0) % 67108864 := rfl
  have r1 : pR V 1 = (V 1 + pO V 1) % 67108864 := rfl
  have r2 : pR V 2 = (V 2 + pO V 2) % 67108864 := rfl
  have r3 : pR V 3 = (V 3 + pO V 3) % 67108864 := rfl
  have r4 : pR V 4 = (V 4 + pO V 4) % 67108864 := rfl
  have q0 : qC V 0 = pR V 0 + 5 * pO V 5 := rfl
  have q1 : qC V 1 = pR V 1 := rfl
  have q2 : qC V 2 = pR V 2 := rfl
  have q3 : qC V 3 = pR V 3 := rfl
  have q4 : qC V 4 = pR V 4 := rfl
  unfold bQ
  rw [q0, q1, q2, q3, q4]
  omega
theorem qC_3 {V : Nat → Nat} (h : bQ V) : ∀ i, i < 5 → qC V i < 67108864 := by
  obtain ⟨b0, b1, b2, b3, b4⟩ := h
  have h0 : pO V 0 = 0 := rfl
  have h1 : pO V 1 = (V 0 + pO V 0) / 67108864 := rfl
  have h2 : pO V 2 = (V 1 + pO V 1) / 67108864 := rfl
  have h3 : pO V 3 = (V 2 + pO V 2) / 67108864 := rfl
  have h4 : pO V 4 = (V 3 + pO V 3) / 67108864 := rfl
  have h5 : pO V 5 = (V 4 + pO V 4) / 67108864 := rfl
  have r0 : pR V 0 = (V 0 + pO V 0) % 67108864 := rfl
  have r1 : pR V 1 = (V 1 + pO V 1) % 67108864 := rfl
  have r2 : pR V 2 = (V 2 + pO V 2) % 67108864 := rfl
  have r3 : pR V 3 = (V 3 + pO V 3) % 67108864 := rfl
  have r4 : pR V 4 = (V 4 + pO V 4) % 67108864 := rfl
  have q0 : qC V 0 = pR V 0 + 5 * pO V 5 := rfl
  have q1 : qC V 1 = pR V 1 := rfl
  have q2 : qC V 2 = pR V 2 := rfl
  have q3 : qC V 3 = pR V 3 := rfl
  have q4 : qC V 4 = pR V 4 := rfl
  intro i hi
  match i, hi with
  | 0, _ => rw [q0]; omega
  | 1, _ => rw [q1]; omega
  | 2, _ => rw [q2]; omega
  | 3, _ => rw [q3]; omega
  | 4, _ => rw [q4]; omega
def psK (V R : Nat → Nat) (i : Nat) : Nat → Nat
  | 0 => 0
  | k + 1 => psK V R i k + V k * R ((i + 5 - k) % 5) * (if 4 < k + (i + 5 - k) % 5 then 5 else 1)
theorem psK_5 (V R : Nat → Nat) {i : Nat} (hi : i < 5) : psK V R i 5 = pS V R i := by
  match i, hi with
  | 0, _ => simp [psK, pS]; grind
  | 1, _ => simp [psK, pS]; grind
  | 2, _ => simp [psK, pS]; grind
  | 3, _ => simp [psK, pS]; grind
  | 4, _ => simp [psK, pS]
theorem psK_b {V R : Nat → Nat} (hV : ∀ i, i < 5 → V i ≤ 134218752) (hR : ∀ i, i < 5 → R i ≤ 67108863) (i : Nat) : ∀ k, k ≤ 5 → psK V R i k ≤ k * 45036339199994880
  | 0, _ => by simp [psK]
  | k + 1, hk => by
    have ih := psK_b hV hR i k (by omega)
    have h1 : V k * R ((i + 5 - k) % 5) ≤ 134218752 * 67108863 := Nat.mul_le_mul (hV k (by omega)) (hR _ (Nat.mod_lt _ (by decide)))
    rw [psK]
    split <;> omega
/-- limbs as digits -/
theorem lm5_d (N : Nat) {i : Nat} (h : i < 4) : lm5 N i = N / 2 ^ (26 * i) % 67108864 := by
  match i, h with
  | 0, _ => show N % 67108864 = _; simp
  | 1, _ => rfl
  | 2, _ => rfl
  | 3, _ => rfl
theorem lm5_t (N : Nat) : lm5 N 4 = N / 2 ^ 104 := rfl
theorem lm5_add {M B : Nat} (hM : M < 2 ^ B) (hB : B < 130) {i : Nat} (hi : i < 5) : lm5 (M + 2 ^ B) i = lm5 M i + (if i = B / 26 then 2 ^ (B % 26) else 0) := by
  have dm := Nat.div_add_mod B 26
  have hq : B / 26 < 5 := by omega
  rcases Nat.lt_trichotomy i (B / 26) with h | h | h
  · rw [if_neg (by omega), lm5_d _ (by omega), lm5_d _ (by omega)]
    have e : (2 : Nat) ^ B = 2 ^ (26 * i) * (67108864 * 2 ^ (B - 26 * i - 26)) := by
      rw [show (67108864 : Nat) = 2 ^ 26 from rfl, ← Nat.pow_add, ← Nat.pow_add]
      congr 1
      omega
    rw [e, Nat.add_mul_div_left _ _ (Nat.two_pow_pos _), Nat.add_mul_mod_self_left]
    omega
  · rw [if_pos h]
    have e : (2 : Nat) ^ B = 2 ^ (26 * i) * 2 ^ (B % 26) := by rw [← Nat.pow_add]; congr 1; omega
    have hM2 : M / 2 ^ (26 * i) < 2 ^ (B % 26) := by
      apply Nat.div_lt_of_lt_mul
      rw [← e]
      exact hM
    have hr : 2 ^ (B % 26) * 2 ≤ 2 ^ 26 := by rw [← Nat.pow_succ]; exact Nat.pow_le_pow_right (by decide) (by omega)
    have hd : (M + 2 ^ B) / 2 ^ (26 * i) = M / 2 ^ (26 * i) + 2 ^ (B % 26) := by rw [e, Nat.add_mul_div_left _ _ (Nat.two_pow_pos _)]
    have h26 : (2 : Nat) ^ 26 = 67108864 := rfl
    by_cases h4 : i < 4
    · have hx : M / 2 ^ (26 * i) + 2 ^ (B % 26) < 67108864 := by omega
      have hy : M / 2 ^ (26 * i) < 67108864 := by omega
      rw [lm5_d _ h4, lm5_d _ h4, hd, Nat.mod_eq_of_lt hx, Nat.mod_eq_of_lt hy]
    · have e4 : i = 4 := by omega
      subst e4
      rw [lm5_t, lm5_t]
      exact hd
  · rw [if_neg (by omega)]
    have hlt : M + 2 ^ B < 2 ^ (26 * i) := by
      have h1 : 2 ^ (B + 1) ≤ 2 ^ (26 * i) := Nat.pow_le_pow_right (by decide) (by omega)
      have h2 : (2 : Nat) ^ (B + 1) = 2 ^ B * 2 := Nat.pow_succ _ _
      omega
    have hlt2 : M < 2 ^ (26 * i) := by omega
    by_cases h4 : i < 4
    · rw [lm5_d _ h4, lm5_d _ h4, Nat.div_eq_of_lt hlt, Nat.div_eq_of_lt hlt2]
    · have e4 : i = 4 := by omega
      subst e4
      rw [lm5_t, lm5_t, Nat.div_eq_of_lt hlt, Nat.div_eq_of_lt hlt2]
theorem mod_bit (N B : Nat) : N % 2 ^ (B + 1) = N % 2 ^ B + (if N / 2 ^ B % 2 = 1 then 2 ^ B else 0) := by
  rw [Nat.pow_succ, Nat.mod_mul]
  congr 1
  have : N / 2 ^ B % 2 < 2 := Nat.mod_lt _ (by decide)
  split
  · rename_i h; rw [h, Nat.mul_one]
  · rw [show N / 2 ^ B % 2 = 0 by omega, Nat.mul_zero]
theorem lm5_bit (N : Nat) {B i : Nat} (hB : B < 130) (hi : i < 5) : lm5 (N % 2 ^ (B + 1)) i = lm5 (N % 2 ^ B) i + (if i = B / 26 then (if N / 2 ^ B % 2 = 1 then 2 ^ (B % 26) else 0) else 0) := by
  rw [mod_bit]
  by_cases h : N / 2 ^ B % 2 = 1
  · rw [if_pos h, if_pos h, lm5_add (Nat.mod_lt _ (Nat.two_pow_pos _)) hB hi]
  · rw [if_neg h, if_neg h, Nat.add_zero]
    split <;> rfl
theorem lm5_get {A at' : Nat} (h : at' < 130) : lm5 A (at' / 26) / 2 ^ (at' % 26) % 2 = A / 2 ^ at' % 2 := by
  have dm := Nat.div_add_mod at' 26
  have e : (2 : Nat) ^ at' = 2 ^ (26 * (at' / 26)) * 2 ^ (at' % 26) := by rw [← Nat.pow_add]; congr 1; omega
  by_cases h4 : at' / 26 < 4
  · rw [lm5_d _ h4, e, ← Nat.div_div_eq_div_mul]
    have e2 : (67108864 : Nat) = 2 ^ (at' % 26) * (2 * 2 ^ (25 - at' % 26)) := by
      rw [← Nat.pow_succ', ← Nat.pow_add, show at' % 26 + (25 - at' % 26).succ = 26 by omega]
    rw [e2, Nat.mod_mul_right_div_self, Nat.mod_mul_right_mod]
  · have e4 : at' / 26 = 4 := by omega
    rw [e4, lm5_t, e, e4, Nat.div_div_eq_div_mul]
theorem byte_bit (N k i : Nat) (hi : i < 8) : N / 256 ^ k % 256 / 2 ^ i % 2 = N / 2 ^ (8 * k + i) % 2 := by
  rw [Nat.pow_add, ← Nat.div_div_eq_div_mul, Nat.pow_mul]
  have e2 : (256 : Nat) = 2 ^ i * (2 * 2 ^ (7 - i)) := by
    rw [← Nat.pow_succ', ← Nat.pow_add, show i + (7 - i).succ = 8 by omega]
  rw [show (2 : Nat) ^ 8 = 256 from rfl]
  conv => lhs; rw [show N / 256 ^ k % 256 = N / 256 ^ k % (2 ^ i * (2 * 2 ^ (7 - i))) from by rw [← e2]]
  rw [Nat.mod_mul_right_div_self, Nat.mod_mul_right_mod]
theorem le8_byte {f : Nat → Nat} (h : ∀ j, f j < 256) (b : Nat) {k : Nat} (hk : k < 8) : le8 f b / 256 ^ k % 256 = f (b + k) := by
  unfold le8
  rw [leV_at _ k (by intro x hx; obtain ⟨i, -, e⟩ := List.mem_map.mp hx; rw [← e]; exact h _), List.getD_eq_getElem?_getD, List.getElem?_map, List.getElem?_range hk]
  rfl
theorem hi_byte (L H : Nat) {k : Nat} (hk : k < 8) : (L + 18446744073709551616 * H) / 256 ^ k % 256 = L / 256 ^ k % 256 := by
  have e : (18446744073709551616 : Nat) = 256 ^ k * (256 * 256 ^ (7 - k)) := by
    rw [← Nat.pow_succ', ← Nat.pow_add, show k + (7 - k).succ = 8 by omega]
  rw [e, Nat.mul_assoc, Nat.add_mul_div_left _ _ (Nat.pow_pos (by decide)), Nat.mul_assoc, Nat.add_mul_mod_self_left]
theorem le16_byte {f : Nat → Nat} (h : ∀ j, f j < 256) {k : Nat} (hk : k < 16) : (le16 f + 340282366920938463463374607431768211456) / 256 ^ k % 256 = f k := by
  have hL := le8_lt h 0
  have e : le16 f + 340282366920938463463374607431768211456 = le8 f 0 + 18446744073709551616 * (le8 f 8 + 18446744073709551616 * 1) := by unfold le16; omega
  rw [e]
  by_cases h8 : k < 8
  · rw [hi_byte _ _ h8, le8_byte h 0 h8, Nat.zero_add]
  · have ek : (256 : Nat) ^ k = 18446744073709551616 * 256 ^ (k - 8) := by
      rw [show (18446744073709551616 : Nat) = 256 ^ 8 from rfl, ← Nat.pow_add]
      congr 1
      omega
    rw [ek, ← Nat.div_div_eq_div_mul, show (le8 f 0 + 18446744073709551616 * (le8 f 8 + 18446744073709551616 * 1)) / 18446744073709551616 = le8 f 8 + 18446744073709551616 * 1 by omega, hi_byte _ _ (by omega), le8_byte h 8 (by omega), show 8 + (k - 8) = k by omega]
theorem le16_top {f : Nat → Nat} (h : le16 f < 340282366920938463463374607431768211456) : (le16 f + 340282366920938463463374607431768211456) / 256 ^ 16 % 256 = 1 := by
  have e : (256 : Nat) ^ 16 = 340282366920938463463374607431768211456 := by decide
  rw [e]
  omega
theorem lm5_k0 (N : Nat) : lm5 N 0 = N % 67108864 := rfl
theorem lm5_k1 (N : Nat) : lm5 N 1 = N / 67108864 % 67108864 := rfl
theorem lm5_k2 (N : Nat) : lm5 N 2 = N / 4503599627370496 % 67108864 := rfl
theorem lm5_k3 (N : Nat) : lm5 N 3 = N / 302231454903657293676544 % 67108864 := rfl
theorem lm5_k4 (N : Nat) : lm5 N 4 = N / 20282409603651670423947251286016 := rfl
theorem val5_lm {V : Nat → Nat} (h : ∀ i, i < 5 → V i < 67108864) {i : Nat} (hi : i < 5) : V i = lm5 (val5 V) i := by
  have h0 := h 0 (by decide)
  have h1 := h 1 (by decide)
  have h2 := h 2 (by decide)
  have h3 := h 3 (by decide)
  have h4 := h 4 (by decide)
  match i, hi with
  | 0, _ => rw [lm5_k0]; unfold val5; omega
  | 1, _ => rw [lm5_k1]; unfold val5; omega
  | 2, _ => rw [lm5_k2]; unfold val5; omega
  | 3, _ => rw [lm5_k3]; unfold val5; omega
  | 4, _ => rw [lm5_k4]; unfold val5; omega
theorem over_v {V : Nat → Nat} (h : ∀ i, i < 5 → V i < 67108864) : (67108859 ≤ V 0 ∧ V 1 = 67108863 ∧ V 2 = 67108863 ∧ V 3 = 67108863 ∧ V 4 = 67108863) ↔ qP ≤ val5 V := by
  have h0 := h 0 (by decide)
  have h1 := h 1 (by decide)
  have h2 := h 2 (by decide)
  have h3 := h 3 (by decide)
  have h4 := h 4 (by decide)
  unfold val5 qP
  constructor <;> intro hh <;> omega
theorem asr26 {x : Nat} (h : x < 9223372036854775808) : asr (lN x) 26 = lN (x / 67108864) := by
  rw [lN_lI, lN_lI, show (26 : Int32) = nI 26 from rfl, asr_lI (by decide) (by omega) (by omega)]
  congr 1
theorem sub26 {x : Nat} : lN x - lsl (lN (x / 67108864)) 26 = lN (x % 67108864) := by
  rw [lN_lI, lN_lI, lN_lI, show (26 : Int32) = nI 26 from rfl, lsl_lI _ (by decide), lI_sub]
  congr 1
  show (x : Int) - ((x / 67108864 : Nat) : Int) * 67108864 = ((x % 67108864 : Nat) : Int)
  omega
theorem shr_s {b i : Nat} (hb : b < 256) (hi : i < 8) : nI b >>> (nI i &&& 31) = nI (b / 2 ^ i) := by
  have : ∀ b : Fin 256, ∀ i : Fin 8, nI b.val >>> (nI i.val &&& 31) = nI (b.val / 2 ^ i.val) := by decide +kernel
  exact this ⟨b, hb⟩ ⟨i, hi⟩
theorem tb_div (b i : Nat) : b.testBit i = decide (b / 2 ^ i % 2 = 1) := Nat.testBit_eq_decide_div_mod_eq
theorem i5 {i k : Nat} (hi : i < 5) (hk : k < 5) : nI i - nI k + nI 5 = nI (i + 5 - k) := by
  have : ∀ i : Fin 5, ∀ k : Fin 5, nI i.val - nI k.val + nI 5 = nI (i.val + 5 - k.val) := by decide
  exact this ⟨i, hi⟩ ⟨k, hk⟩
theorem mod_up {N k i b : Nat} (hb : b = N / 256 ^ k % 256) (hi : i ≤ 8) (hz : b / 2 ^ i = 0) : N % 2 ^ (8 * k + i) = N % 2 ^ (8 * (k + 1)) := by
  have h1 : N % 2 ^ (8 * k + i) = N % 2 ^ (8 * k) + 2 ^ (8 * k) * (N / 2 ^ (8 * k) % 2 ^ i) := by rw [Nat.pow_add, Nat.mod_mul]
  have h2 : N % 2 ^ (8 * (k + 1)) = N % 2 ^ (8 * k) + 2 ^ (8 * k) * (N / 2 ^ (8 * k) % 2 ^ 8) := by rw [show 8 * (k + 1) = 8 * k + 8 by omega, Nat.pow_add, Nat.mod_mul]
  have h3 : N / 2 ^ (8 * k) % 2 ^ 8 = b := by rw [hb, Nat.pow_mul]
  have h4 : N / 2 ^ (8 * k) % 2 ^ i = b % 2 ^ i := by
    rw [← h3, Nat.mod_mod_of_dvd]
    exact Nat.pow_dvd_pow 2 hi
  have h5 : b < 2 ^ i := by
    rcases Nat.lt_or_ge b (2 ^ i) with g | g
    · exact g
    · have := Nat.div_pos g (Nat.two_pow_pos i); omega
  rw [h1, h2, h3, h4, Nat.mod_eq_of_lt h5]
section
variable {SA : mSA} {hi : Nat → Nat → Int32} {hl : Nat → Nat → Int64} {P : Option Value → mH → Prop}
theorem m_carryPoly {V : Nat → Nat} (hV : ∀ i, i < 5 → hl 170 i = lN (V i)) (hlim : lim5 V) (hP : ∀ u, (∀ i, i < 5 → u i = lN (qC V i)) → P none (bH hi (uB hl 170 u))) : mCt SA 0 0 196 [.ref 130] (bH hi hl) P := by
  have hO := pO_b hlim
  have loop : ∀ (m j : Nat) (u : Nat → Int64) (o2 : Option Value), j + m = 5 → (∀ i, 0 < i → i < j → i < 5 → u i = lN (pR V i)) → (0 < j → u 0 = lN (if j = 5 then qC V 0 else pR V 0)) → (j < 5 → u j = lN (V j + pO V j)) → (∀ i, j < i → i < 5 → u i = lN (V i)) → mV SA 0 0 196 2 [some (.ref 130), some (.int (nI j)), o2, none] [] (bH hi (uB hl 170 u)) P := by
    intro m
    induction m with
    | zero =>
      intro j u o2 hj h1 h2 h3 h4
      have e : j = 5 := by omega
      subst e
      refine m_blk bk_196_2 cb_196_2 ?_
      simp only [bk_196_2, b_iconst, b_bipush, b_sipush, b_lconst, b_ldc, b_ldc_w, b_ldc2_w, b_getstatic, b_iload, b_iload_n, b_istore, b_istore_n, b_lload, b_lload_n, b_lstore, b_lstore_n, b_aload, b_aload_n, b_astore, b_astore_n, b_iinc, b_iadd, b_isub, b_imul, b_iand, b_ior, b_ixor, b_ishl, b_ishr, b_iushr, b_idiv, b_irem, b_ladd, b_lsub, b_lmul, b_land, b_lor, b_lxor, b_lshl, b_lshr, b_lushr, b_i2l, b_l2i, b_i2b, b_i2c, b_lcmp, b_popI, b_popR, b_dupI, b_dupR, b_dup2, b_ifCond, b_icmp, b_goto, b_tsw, b_ireturn, b_lreturn, b_areturn, b_return, b_getfield, b_iaload, b_baload, b_laload, b_aaload, b_iastore, b_bastore, b_lastore, b_arraylength, c_call0, c_call1, c_call2, c_call3, c_call4, c_call5, c_call6, c_call7, c_call8, b_invokestatic, b_max, b_min, b_copy, b_obj, v_virt0, v_poly0, v_virt1, v_poly1, v_virt2, v_poly2, v_virt3, v_poly3, v_virt4, v_poly4, v_virt5, v_poly5, v_virt6, v_poly6, v_virt7, v_poly7, v_spec0, v_spec1, v_spec2, b_nil, wGet_some, wLdI_some, wLdL_some, wLdA_some, wAI_some, wAL_some, wSI_some, wSLg_some, wLen_b, wLen_i, wLen_l, uI_eq, uI_ne1, uI_ne2, uL_eq, uL_ne1, uL_ne2, uA_ne, uB_ne, ne_eq, Nat.reduceEqDiff, not_false_eq_true, uA_self, uB_self, uA_uA, uB_uB, cl_0, cl_1, cl_2, cl_3, cl_4, cl_5, cl_6, cl_7, cl_8, cl_9, cl_10, cl_11, cl_12, cl_13, cl_14, cl_15, cl_16, nar_b0, nar_b1, nar_i, true_and, eq_self, Nat.reduceAdd, Nat.reduceLeDiff, mG, mS1, mS2, mD1, mCut, mC0, mC2, mWd, Value.category, Option.toList_none, Option.toList_some, List.cons_append, List.nil_append, Option.some.injEq, Value.int.injEq, exists_eq_left']
      refine ⟨fun _ => ?_, fun hc => absurd (by decide) hc⟩
      refine m_blk bk_196_70 cb_196_70 ?_
      simp only [bk_196_70, b_iconst, b_bipush, b_sipush, b_lconst, b_ldc, b_ldc_w, b_ldc2_w, b_getstatic, b_iload, b_iload_n, b_istore, b_istore_n, b_lload, b_lload_n, b_lstore, b_lstore_n, b_aload, b_aload_n, b_astore, b_astore_n, b_iinc, b_iadd, b_isub, b_imul, b_iand, b_ior, b_ixor, b_ishl, b_ishr, b_iushr, b_idiv, b_irem, b_ladd, b_lsub, b_lmul, b_land, b_lor, b_lxor, b_lshl, b_lshr, b_lushr, b_i2l, b_l2i, b_i2b, b_i2c, b_lcmp, b_popI, b_popR, b_dupI, b_dupR, b_dup2, b_ifCond, b_icmp, b_goto, b_tsw, b_ireturn, b_lreturn, b_areturn, b_return, b_getfield, b_iaload, b_baload, b_laload, b_aaload, b_iastore, b_bastore, b_lastore, b_arraylength, c_call0, c_call1, c_call2, c_call3, c_call4, c_call5, c_call6, c_call7, c_call8, b_invokestatic, b_max, b_min, b_copy, b_obj, v_virt0, v_poly0, v_virt1, v_poly1, v_virt2, v_poly2, v_virt3, v_poly3, v_virt4, v_poly4, v_virt5, v_poly5, v_virt6, v_poly6, v_virt7, v_poly7, v_spec0, v_spec1, v_spec2, b_nil, wGet_some, wLdI_some, wLdL_some, wLdA_some, wAI_some, wAL_some, wSI_some, wSLg_some, wLen_b, wLen_i, wLen_l, uI_eq, uI_ne1, uI_ne2, uL_eq, uL_ne1, uL_ne2, uA_ne, uB_ne, ne_eq, Nat.reduceEqDiff, not_false_eq_true, uA_self, uB_self, uA_uA, uB_uB, cl_0, cl_1, cl_2, cl_3, cl_4, cl_5, cl_6, cl_7, cl_8, cl_9, cl_10, cl_11, cl_12, cl_13, cl_14, cl_15, cl_16, nar_b0, nar_b1, nar_i, true_and, eq_self, Nat.reduceAdd, Nat.reduceLeDiff, mG, mS1, mS2, mD1, mCut, mC0, mC2, mWd, Value.category, Option.toList_none, Option.toList_some, List.cons_append, List.nil_append, Option.some.injEq, Value.int.injEq, exists_eq_left']
      refine hP u (fun i hi => ?_)
      by_cases z : i = 0
      · subst z; rw [h2 (by decide), if_pos rfl]
      · rw [h1 i (by omega) hi hi, qC, if_neg z]
    | succ m ih =>
      intro j u o2 hj h1 h2 h3 h4
      have b1 := hO j (by omega)
      have b2 := hlim j (by omega)
      have ej := h3 (by omega)
      have ea : asr (lN (V j + pO V j)) 26 = lN (pO V (j + 1)) := asr26 (by omega)
      have eb : lN (V j + pO V j) - lsl (lN (pO V (j + 1))) 26 = lN (pR V j) := sub26
      refine m_blk bk_196_2 cb_196_2 ?_
      simp only [bk_196_2, b_iconst, b_bipush, b_sipush, b_lconst, b_ldc, b_ldc_w, b_ldc2_w, b_getstatic, b_iload, b_iload_n, b_istore, b_istore_n, b_lload, b_lload_n, b_lstore, b_lstore_n, b_aload, b_aload_n, b_astore, b_astore_n, b_iinc, b_iadd, b_isub, b_imul, b_iand, b_ior, b_ixor, b_ishl, b_ishr, b_iushr, b_idiv, b_irem, b_ladd, b_lsub, b_lmul, b_land, b_lor, b_lxor, b_lshl, b_lshr, b_lushr, b_i2l, b_l2i, b_i2b, b_i2c, b_lcmp, b_popI, b_popR, b_dupI, b_dupR, b_dup2, b_ifCond, b_icmp, b_goto, b_tsw, b_ireturn, b_lreturn, b_areturn, b_return, b_getfield, b_iaload, b_baload, b_laload, b_aaload, b_iastore, b_bastore, b_lastore, b_arraylength, c_call0, c_call1, c_call2, c_call3, c_call4, c_call5, c_call6, c_call7, c_call8, b_invokestatic, b_max, b_min, b_copy, b_obj, v_virt0, v_poly0, v_virt1, v_poly1, v_virt2, v_poly2, v_virt3, v_poly3, v_virt4, v_poly4, v_virt5, v_poly5, v_virt6, v_poly6, v_virt7, v_poly7, v_spec0, v_spec1, v_spec2, b_nil, wGet_some, wLdI_some, wLdL_some, wLdA_some, wAI_some, wAL_some, wSI_some, wSLg_some, wLen_b, wLen_i, wLen_l, uI_eq, uI_ne1, uI_ne2, uL_eq, uL_ne1, uL_ne2, uA_ne, uB_ne, ne_eq, Nat.reduceEqDiff, not_false_eq_true, uA_self, uB_self, uA_uA, uB_uB, cl_0, cl_1, cl_2, cl_3, cl_4, cl_5, cl_6, cl_7, cl_8, cl_9, cl_10, cl_11, cl_12, cl_13, cl_14, cl_15, cl_16, nar_b0, nar_b1, nar_i, true_and, eq_self, Nat.reduceAdd, Nat.reduceLeDiff, mG, mS1, mS2, mD1, mCut, mC0, mC2, mWd, Value.category, Option.toList_none, Option.toList_some, List.cons_append, List.nil_append, Option.some.injEq, Value.int.injEq, exists_eq_left']
      refine ⟨fun hc => absurd hc (by rw [show (5 : Int32) = nI 5 from rfl]; exact nI_ge (by omega) (by omega)), fun _ => ?_⟩
      refine m_blk bk_196_7 cb_196_7 ?_
      simp only [bk_196_7, b_iconst, b_bipush, b_sipush, b_lconst, b_ldc, b_ldc_w, b_ldc2_w, b_getstatic, b_iload, b_iload_n, b_istore, b_istore_n, b_lload, b_lload_n, b_lstore, b_lstore_n, b_aload, b_aload_n, b_astore, b_astore_n, b_iinc, b_iadd, b_isub, b_imul, b_iand, b_ior, b_ixor, b_ishl, b_ishr, b_iushr, b_idiv, b_irem, b_ladd, b_lsub, b_lmul, b_land, b_lor, b_lxor, b_lshl, b_lshr, b_lushr, b_i2l, b_l2i, b_i2b, b_i2c, b_lcmp, b_popI, b_popR, b_dupI, b_dupR, b_dup2, b_ifCond, b_icmp, b_goto, b_tsw, b_ireturn, b_lreturn, b_areturn, b_return, b_getfield, b_iaload, b_baload, b_laload, b_aaload, b_iastore, b_bastore, b_lastore, b_arraylength, c_call0, c_call1, c_call2, c_call3, c_call4, c_call5, c_call6, c_call7, c_call8, b_invokestatic, b_max, b_min, b_copy, b_obj, v_virt0, v_poly0, v_virt1, v_poly1, v_virt2, v_poly2, v_virt3, v_poly3, v_virt4, v_poly4, v_virt5, v_poly5, v_virt6, v_poly6, v_virt7, v_poly7, v_spec0, v_spec1, v_spec2, b_nil, wGet_some, wLdI_some, wLdL_some, wLdA_some, wAI_some, wAL_some, wSI_some, wSLg_some, wLen_b, wLen_i, wLen_l, uI_eq, uI_ne1, uI_ne2, uL_eq, uL_ne1, uL_ne2, uA_ne, uB_ne, ne_eq, Nat.reduceEqDiff, not_false_eq_true, uA_self, uB_self, uA_uA, uB_uB, cl_0, cl_1, cl_2, cl_3, cl_4, cl_5, cl_6, cl_7, cl_8, cl_9, cl_10, cl_11, cl_12, cl_13, cl_14, cl_15, cl_16, nar_b0, nar_b1, nar_i, true_and, eq_self, Nat.reduceAdd, Nat.reduceLeDiff, mG, mS1, mS2, mD1, mCut, mC0, mC2, mWd, Value.category, Option.toList_none, Option.toList_some, List.cons_append, List.nil_append, Option.some.injEq, Value.int.injEq, exists_eq_left', k_130, f_130_0, f_130_1, f_130_2, f_130_3, f_130_4, p_130_4, f_130_5, f_130_6, f_130_7, f_130_8, f_130_9, p_130_9, f_130_10, f_130_11, p_130_11, f_130_12, f_130_13, p_130_13, f_130_14, f_130_15, f_130_16, f_130_17, f_130_18, f_130_19, f_130_20, f_130_21, f_130_22, f_130_23, f_130_24, f_130_25, f_130_26, f_130_27, f_130_28, f_130_29, f_130_30, f_130_31, f_130_32, p_130_32, f_130_33, f_130_34, f_130_35, f_130_36, f_130_37, f_130_38, p_130_38, f_130_39, f_130_40, p_130_40, f_130_41, f_130_42, p_130_42, f_130_43, p_130_43, f_130_44, p_130_44, f_130_45, p_130_45, f_130_46, f_130_47, f_130_48, f_130_49, f_130_50, f_130_51, f_130_52, f_130_53, f_130_54, p_130_54, f_130_55, f_130_56, f_130_57, p_130_57, f_130_58, f_130_59, p_130_59, f_130_60, f_130_61, f_130_62, f_130_63, f_130_64, f_130_65, f_130_66, f_130_67, f_130_68, f_130_69, f_130_70, p_130_70, a_170, e_170, w_170, nI_clamp (show j < 2 ^ 31 by omega), ej, ea, eb]
      refine ⟨vp_in_nI (by omega) (by omega), vp_in_nI (by omega) (by omega), vp_in_nI (by omega) (by omega), ?_⟩
      rw [show (4 : Int32) = nI 4 from rfl, nI_leI (by omega) (by omega)]
      refine ⟨fun hc => ?_, fun hc => ?_⟩
      · have e15 : j = 4 := by omega
        subst e15
        have e0 : vp_updL u 4 (lN (pR V 4)) 0 = lN (pR V 0) := by rw [pk_uLn (by decide), h2 (by decide), if_neg (by decide)]
        have ec : lN (pR V 0) + 5 * lN (pO V (4 + 1)) = lN (qC V 0) := by
          rw [show (5 : Int64) = lN 5 from rfl, lN_mul, lN_add]
          rfl
        refine m_blk bk_196_50 cb_196_50 ?_
        simp only [bk_196_50, b_iconst, b_bipush, b_sipush, b_lconst, b_ldc, b_ldc_w, b_ldc2_w, b_getstatic, b_iload, b_iload_n, b_istore, b_istore_n, b_lload, b_lload_n, b_lstore, b_lstore_n, b_aload, b_aload_n, b_astore, b_astore_n, b_iinc, b_iadd, b_isub, b_imul, b_iand, b_ior, b_ixor, b_ishl, b_ishr, b_iushr, b_idiv, b_irem, b_ladd, b_lsub, b_lmul, b_land, b_lor, b_lxor, b_lshl, b_lshr, b_lushr, b_i2l, b_l2i, b_i2b, b_i2c, b_lcmp, b_popI, b_popR, b_dupI, b_dupR, b_dup2, b_ifCond, b_icmp, b_goto, b_tsw, b_ireturn, b_lreturn, b_areturn, b_return, b_getfield, b_iaload, b_baload, b_laload, b_aaload, b_iastore, b_bastore, b_lastore, b_arraylength, c_call0, c_call1, c_call2, c_call3, c_call4, c_call5, c_call6, c_call7, c_call8, b_invokestatic, b_max, b_min, b_copy, b_obj, v_virt0, v_poly0, v_virt1, v_poly1, v_virt2, v_poly2, v_virt3, v_poly3, v_virt4, v_poly4, v_virt5, v_poly5, v_virt6, v_poly6, v_virt7, v_poly7, v_spec0, v_spec1, v_spec2, b_nil, wGet_some, wLdI_some, wLdL_some, wLdA_some, wAI_some, wAL_some, wSI_some, wSLg_some, wLen_b, wLen_i, wLen_l, uI_eq, uI_ne1, uI_ne2, uL_eq, uL_ne1, uL_ne2, uA_ne, uB_ne, ne_eq, Nat.reduceEqDiff, not_false_eq_true, uA_self, uB_self, uA_uA, uB_uB, cl_0, cl_1, cl_2, cl_3, cl_4, cl_5, cl_6, cl_7, cl_8, cl_9, cl_10, cl_11, cl_12, cl_13, cl_14, cl_15, cl_16, nar_b0, nar_b1, nar_i, true_and, eq_self, Nat.reduceAdd, Nat.reduceLeDiff, mG, mS1, mS2, mD1, mCut, mC0, mC2, mWd, Value.category, Option.toList_none, Option.toList_some, List.cons_append, List.nil_append, Option.some.injEq, Value.int.injEq, exists_eq_left', k_130, f_130_0, f_130_1, f_130_2, f_130_3, f_130_4, p_130_4, f_130_5, f_130_6, f_130_7, f_130_8, f_130_9, p_130_9, f_130_10, f_130_11, p_130_11, f_130_12, f_130_13, p_130_13, f_130_14, f_130_15, f_130_16, f_130_17, f_130_18, f_130_19, f_130_20, f_130_21, f_130_22, f_130_23, f_130_24, f_130_25, f_130_26, f_130_27, f_130_28, f_130_29, f_130_30, f_130_31, f_130_32, p_130_32, f_130_33, f_130_34, f_130_35, f_130_36, f_130_37, f_130_38, p_130_38, f_130_39, f_130_40, p_130_40, f_130_41, f_130_42, p_130_42, f_130_43, p_130_43, f_130_44, p_130_44, f_130_45, p_130_45, f_130_46, f_130_47, f_130_48, f_130_49, f_130_50, f_130_51, f_130_52, f_130_53, f_130_54, p_130_54, f_130_55, f_130_56, f_130_57, p_130_57, f_130_58, f_130_59, p_130_59, f_130_60, f_130_61, f_130_62, f_130_63, f_130_64, f_130_65, f_130_66, f_130_67, f_130_68, f_130_69, f_130_70, p_130_70, a_170, e_170, w_170, e0, ec]
        refine ⟨vin (by decide), vin (by decide), ?_⟩
        refine m_blk bk_196_64 cb_196_64 ?_
        simp only [bk_196_64, b_iconst, b_bipush, b_sipush, b_lconst, b_ldc, b_ldc_w, b_ldc2_w, b_getstatic, b_iload, b_iload_n, b_istore, b_istore_n, b_lload, b_lload_n, b_lstore, b_lstore_n, b_aload, b_aload_n, b_astore, b_astore_n, b_iinc, b_iadd, b_isub, b_imul, b_iand, b_ior, b_ixor, b_ishl, b_ishr, b_iushr, b_idiv, b_irem, b_ladd, b_lsub, b_lmul, b_land, b_lor, b_lxor, b_lshl, b_lshr, b_lushr, b_i2l, b_l2i, b_i2b, b_i2c, b_lcmp, b_popI, b_popR, b_dupI, b_dupR, b_dup2, b_ifCond, b_icmp, b_goto, b_tsw, b_ireturn, b_lreturn, b_areturn, b_return, b_getfield, b_iaload, b_baload, b_laload, b_aaload, b_iastore, b_bastore, b_lastore, b_arraylength, c_call0, c_call1, c_call2, c_call3, c_call4, c_call5, c_call6, c_call7, c_call8, b_invokestatic, b_max, b_min, b_copy, b_obj, v_virt0, v_poly0, v_virt1, v_poly1, v_virt2, v_poly2, v_virt3, v_poly3, v_virt4, v_poly4, v_virt5, v_poly5, v_virt6, v_poly6, v_virt7, v_poly7, v_spec0, v_spec1, v_spec2, b_nil, wGet_some, wLdI_some, wLdL_some, wLdA_some, wAI_some, wAL_some, wSI_some, wSLg_some, wLen_b, wLen_i, wLen_l, uI_eq, uI_ne1, uI_ne2, uL_eq, uL_ne1, uL_ne2, uA_ne, uB_ne, ne_eq, Nat.reduceEqDiff, not_false_eq_true, uA_self, uB_self, uA_uA, uB_uB, cl_0, cl_1, cl_2, cl_3, cl_4, cl_5, cl_6, cl_7, cl_8, cl_9, cl_10, cl_11, cl_12, cl_13, cl_14, cl_15, cl_16, nar_b0, nar_b1, nar_i, true_and, eq_self, Nat.reduceAdd, Nat.reduceLeDiff, mG, mS1, mS2, mD1, mCut, mC0, mC2, mWd, Value.category, Option.toList_none, Option.toList_some, List.cons_append, List.nil_append, Option.some.injEq, Value.int.injEq, exists_eq_left', nI_1]
        refine ih 5 _ _ (by omega) (fun i i0 i1 i2 => ?_) (fun _ => by rw [pk_uLs, if_pos rfl]) (fun h => absurd h (by decide)) (fun i h h' => absurd h (by omega))
        rw [pk_uLn (by omega)]
        by_cases z : i = 4
        · subst z; rw [pk_uLs]
        · rw [pk_uLn z]; exact h1 i i0 (by omega) i2
      · have e1 : vp_updL u j (lN (pR V j)) (j + 1) = lN (V (j + 1)) := by rw [pk_uLn (by omega)]; exact h4 (j + 1) (by omega) (by omega)
        refine m_blk bk_196_35 cb_196_35 ?_
        simp only [bk_196_35, b_iconst, b_bipush, b_sipush, b_lconst, b_ldc, b_ldc_w, b_ldc2_w, b_getstatic, b_iload, b_iload_n, b_istore, b_istore_n, b_lload, b_lload_n, b_lstore, b_lstore_n, b_aload, b_aload_n, b_astore, b_astore_n, b_iinc, b_iadd, b_isub, b_imul, b_iand, b_ior, b_ixor, b_ishl, b_ishr, b_iushr, b_idiv, b_irem, b_ladd, b_lsub, b_lmul, b_land, b_lor, b_lxor, b_lshl, b_lshr, b_lushr, b_i2l, b_l2i, b_i2b, b_i2c, b_lcmp, b_popI, b_popR, b_dupI, b_dupR, b_dup2, b_ifCond, b_icmp, b_goto, b_tsw, b_ireturn, b_lreturn, b_areturn, b_return, b_getfield, b_iaload, b_baload, b_laload, b_aaload, b_iastore, b_bastore, b_lastore, b_arraylength, c_call0, c_call1, c_call2, c_call3, c_call4, c_call5, c_call6, c_call7, c_call8, b_invokestatic, b_max, b_min, b_copy, b_obj, v_virt0, v_poly0, v_virt1, v_poly1, v_virt2, v_poly2, v_virt3, v_poly3, v_virt4, v_poly4, v_virt5, v_poly5, v_virt6, v_poly6, v_virt7, v_poly7, v_spec0, v_spec1, v_spec2, b_nil, wGet_some, wLdI_some, wLdL_some, wLdA_some, wAI_some, wAL_some, wSI_some, wSLg_some, wLen_b, wLen_i, wLen_l, uI_eq, uI_ne1, uI_ne2, uL_eq, uL_ne1, uL_ne2, uA_ne, uB_ne, ne_eq, Nat.reduceEqDiff, not_false_eq_true, uA_self, uB_self, uA_uA, uB_uB, cl_0, cl_1, cl_2, cl_3, cl_4, cl_5, cl_6, cl_7, cl_8, cl_9, cl_10, cl_11, cl_12, cl_13, cl_14, cl_15, cl_16, nar_b0, nar_b1, nar_i, true_and, eq_self, Nat.reduceAdd, Nat.reduceLeDiff, mG, mS1, mS2, mD1, mCut, mC0, mC2, mWd, Value.category, Option.toList_none, Option.toList_some, List.cons_append, List.nil_append, Option.some.injEq, Value.int.injEq, exists_eq_left', k_130, f_130_0, f_130_1, f_130_2, f_130_3, f_130_4, p_130_4, f_130_5, f_130_6, f_130_7, f_130_8, f_130_9, p_130_9, f_130_10, f_130_11, p_130_11, f_130_12, f_130_13, p_130_13, f_130_14, f_130_15, f_130_16, f_130_17, f_130_18, f_130_19, f_130_20, f_130_21, f_130_22, f_130_23, f_130_24, f_130_25, f_130_26, f_130_27, f_130_28, f_130_29, f_130_30, f_130_31, f_130_32, p_130_32, f_130_33, f_130_34, f_130_35, f_130_36, f_130_37, f_130_38, p_130_38, f_130_39, f_130_40, p_130_40, f_130_41, f_130_42, p_130_42, f_130_43, p_130_43, f_130_44, p_130_44, f_130_45, p_130_45, f_130_46, f_130_47, f_130_48, f_130_49, f_130_50, f_130_51, f_130_52, f_130_53, f_130_54, p_130_54, f_130_55, f_130_56, f_130_57, p_130_57, f_130_58, f_130_59, p_130_59, f_130_60, f_130_61, f_130_62, f_130_63, f_130_64, f_130_65, f_130_66, f_130_67, f_130_68, f_130_69, f_130_70, p_130_70, a_170, e_170, w_170, nI_1, nI_clamp (show j + 1 < 2 ^ 31 by omega), e1, lN_add]
        refine ⟨vp_in_nI (by omega) (by omega), vp_in_nI (by omega) (by omega), ?_⟩
        refine m_blk bk_196_64 cb_196_64 ?_
        simp only [bk_196_64, b_iconst, b_bipush, b_sipush, b_lconst, b_ldc, b_ldc_w, b_ldc2_w, b_getstatic, b_iload, b_iload_n, b_istore, b_istore_n, b_lload, b_lload_n, b_lstore, b_lstore_n, b_aload, b_aload_n, b_astore, b_astore_n, b_iinc, b_iadd, b_isub, b_imul, b_iand, b_ior, b_ixor, b_ishl, b_ishr, b_iushr, b_idiv, b_irem, b_ladd, b_lsub, b_lmul, b_land, b_lor, b_lxor, b_lshl, b_lshr, b_lushr, b_i2l, b_l2i, b_i2b, b_i2c, b_lcmp, b_popI, b_popR, b_dupI, b_dupR, b_dup2, b_ifCond, b_icmp, b_goto, b_tsw, b_ireturn, b_lreturn, b_areturn, b_return, b_getfield, b_iaload, b_baload, b_laload, b_aaload, b_iastore, b_bastore, b_lastore, b_arraylength, c_call0, c_call1, c_call2, c_call3, c_call4, c_call5, c_call6, c_call7, c_call8, b_invokestatic, b_max, b_min, b_copy, b_obj, v_virt0, v_poly0, v_virt1, v_poly1, v_virt2, v_poly2, v_virt3, v_poly3, v_virt4, v_poly4, v_virt5, v_poly5, v_virt6, v_poly6, v_virt7, v_poly7, v_spec0, v_spec1, v_spec2, b_nil, wGet_some, wLdI_some, wLdL_some, wLdA_some, wAI_some, wAL_some, wSI_some, wSLg_some, wLen_b, wLen_i, wLen_l, uI_eq, uI_ne1, uI_ne2, uL_eq, uL_ne1, uL_ne2, uA_ne, uB_ne, ne_eq, Nat.reduceEqDiff, not_false_eq_true, uA_self, uB_self, uA_uA, uB_uB, cl_0, cl_1, cl_2, cl_3, cl_4, cl_5, cl_6, cl_7, cl_8, cl_9, cl_10, cl_11, cl_12, cl_13, cl_14, cl_15, cl_16, nar_b0, nar_b1, nar_i, true_and, eq_self, Nat.reduceAdd, Nat.reduceLeDiff, mG, mS1, mS2, mD1, mCut, mC0, mC2, mWd, Value.category, Option.toList_none, Option.toList_some, List.cons_append, List.nil_append, Option.some.injEq, Value.int.injEq, exists_eq_left', nI_1]
        refine ih (j + 1) _ _ (by omega) (fun i i0 i1 i2 => ?_) (fun _ => ?_) (fun _ => by rw [pk_uLs]) (fun i h h' => ?_)
        · rw [pk_uLn (by omega)]
          by_cases z : i = j
          · subst z; rw [pk_uLs]
          · rw [pk_uLn z]; exact h1 i i0 (by omega) i2
        · rw [pk_uLn (by omega), if_neg (by omega)]
          by_cases z : j = 0
          · subst z; rw [pk_uLs]
          · rw [pk_uLn (by omega), h2 (by omega), if_neg (by omega)]
        · rw [pk_uLn (by omega), pk_uLn (by omega)]; exact h4 i (by omega) h'
  refine m_met (Nat.le_of_ble_eq_true rfl) ?_
  rw [show mEnt 196 [.ref 130] = [some (.ref 130), none, none, none] from rfl]
  refine m_blk bk_196_0 cb_196_0 ?_
  simp only [bk_196_0, b_iconst, b_bipush, b_sipush, b_lconst, b_ldc, b_ldc_w, b_ldc2_w, b_getstatic, b_iload, b_iload_n, b_istore, b_istore_n, b_lload, b_lload_n, b_lstore, b_lstore_n, b_aload, b_aload_n, b_astore, b_astore_n, b_iinc, b_iadd, b_isub, b_imul, b_iand, b_ior, b_ixor, b_ishl, b_ishr, b_iushr, b_idiv, b_irem, b_ladd, b_lsub, b_lmul, b_land, b_lor, b_lxor, b_lshl, b_lshr, b_lushr, b_i2l, b_l2i, b_i2b, b_i2c, b_lcmp, b_popI, b_popR, b_dupI, b_dupR, b_dup2, b_ifCond, b_icmp, b_goto, b_tsw, b_ireturn, b_lreturn, b_areturn, b_return, b_getfield, b_iaload, b_baload, b_laload, b_aaload, b_iastore, b_bastore, b_lastore, b_arraylength, c_call0, c_call1, c_call2, c_call3, c_call4, c_call5, c_call6, c_call7, c_call8, b_invokestatic, b_max, b_min, b_copy, b_obj, v_virt0, v_poly0, v_virt1, v_poly1, v_virt2, v_poly2, v_virt3, v_poly3, v_virt4, v_poly4, v_virt5, v_poly5, v_virt6, v_poly6, v_virt7, v_poly7, v_spec0, v_spec1, v_spec2, b_nil, wGet_some, wLdI_some, wLdL_some, wLdA_some, wAI_some, wAL_some, wSI_some, wSLg_some, wLen_b, wLen_i, wLen_l, uI_eq, uI_ne1, uI_ne2, uL_eq, uL_ne1, uL_ne2, uA_ne, uB_ne, ne_eq, Nat.reduceEqDiff, not_false_eq_true, uA_self, uB_self, uA_uA, uB_uB, cl_0, cl_1, cl_2, cl_3, cl_4, cl_5, cl_6, cl_7, cl_8, cl_9, cl_10, cl_11, cl_12, cl_13, cl_14, cl_15, cl_16, nar_b0, nar_b1, nar_i, true_and, eq_self, Nat.reduceAdd, Nat.reduceLeDiff, mG, mS1, mS2, mD1, mCut, mC0, mC2, mWd, Value.category, Option.toList_none, Option.toList_some, List.cons_append, List.nil_append, Option.some.injEq, Value.int.injEq, exists_eq_left']
  have h0 := loop 5 0 (hl 170) none rfl (fun i h h' => absurd h' (by omega)) (fun h => absurd h (by decide)) (fun _ => by rw [hV 0 (by decide)]; rfl) (fun i _ h => hV i h)
  rw [uB_id] at h0
  exact h0
theorem m_addPoly {q N off n R acc : Nat} {V f : Nat → Nat} (hq : isIA q N) (hN : N < 1000) (hf : ∀ j, f j < 256) (hn : n < 1000) (hoff : off < 1000) (hrow : ∀ k, k < 16 → (k < n → hi q (off + k) = nI (f k) ∧ off + k < N) ∧ (n ≤ k → f k = 0)) (hR : R < 340282366920938463463374607431768211456) (hpr : ∀ i, i < 5 → hl 169 i = lN (lm5 R i)) (hpv : ∀ i, i < 5 → hl 170 i = lN (V i)) (hbV : bQ V) (hacc : val5 V % qP = acc) (hP : ∀ hl2 V', (∀ i, i < 5 → hl2 170 i = lN (V' i)) → bQ V' → val5 V' % qP = pAbs R acc (le16 f) → (∀ k, k ≠ 170 → k ≠ 171 → hl2 k = hl k) → P none (bH hi hl2)) : mCt SA 0 0 195 [.ref 130, .ref q, .int (nI off), .int (nI n)] (bH hi hl) P := by
  obtain ⟨T, hT⟩ : ∃ T, T = le16 f + 340282366920938463463374607431768211456 := ⟨_, rfl⟩
  have h16 := le16_lt hf
  have hbyte : ∀ k, k < 17 → T / 256 ^ k % 256 = if k = 16 then 1 else f k := fun k hk => by
    rw [hT]
    by_cases e : k = 16
    · subst e; rw [if_pos rfl, le16_top h16]
    · rw [if_neg e, le16_byte hf (by omega)]
  obtain ⟨W, hW⟩ : ∃ W : Nat → Nat, W = fun i => V i + lm5 T i := ⟨_, rfl⟩
  have hbl : ∀ M, M < 680564733841876926926749214863536422912 → ∀ i, i < 5 → lm5 M i < 67108864 := fun M hM i hi => by
    match i, hi with
    | 0, _ => rw [lm5_k0]; exact Nat.mod_lt _ (by decide)
    | 1, _ => rw [lm5_k1]; exact Nat.mod_lt _ (by decide)
    | 2, _ => rw [lm5_k2]; exact Nat.mod_lt _ (by decide)
    | 3, _ => rw [lm5_k3]; exact Nat.mod_lt _ (by decide)
    | 4, _ => rw [lm5_k4]; omega
  have hTl : T < 680564733841876926926749214863536422912 := by omega
  have hVb : ∀ i, i < 5 → V i ≤ 67108868 := fun i hi => by
    obtain ⟨b0, b1, b2, b3, b4⟩ := hbV
    match i, hi with
    | 0, _ => omega
    | 1, _ => omega
    | 2, _ => omega
    | 3, _ => omega
    | 4, _ => omega
  have hWb : ∀ i, i < 5 → W i ≤ 134218752 := fun i hi => by
    have := hVb i hi
    have := hbl T hTl i hi
    rw [hW]
    show V i + lm5 T i ≤ _
    omega
  have hRb : ∀ i, i < 5 → lm5 R i ≤ 67108863 := fun i hi => by have := hbl R (by omega) i hi; omega
  have hWv : val5 W = val5 V + T := by
    have := lm5_val T
    rw [hW]
    unfold val5 at *
    simp only
    omega
  have hlim := pS_lim hWb hRb
  have hval : val5 (pS W (lm5 R)) % qP = pAbs R acc (le16 f) := by
    rw [pS_mod, hWv, lm5_val, pAbs, ← hacc, Nat.add_assoc (val5 V % qP), ← hT, Nat.mul_mod, Nat.mul_mod (val5 V % qP + T), Nat.mod_add_mod]
  -- the carries
  have last : ∀ (w u : Nat → Int64) (o4 o5 o6 o7 : Option Value), (∀ i, i < 5 → u i = lN (pS W (lm5 R) i)) → mV SA 0 0 195 234 [some (.ref 130), some (.ref q), some (.int (nI off)), some (.int (nI n)), o4, o5, o6, o7] [] (bH hi (uB (uB hl 171 w) 170 u)) P := by
    intro w u o4 o5 o6 o7 hu
    refine m_blk bk_195_234 cb_195_234 ?_
    simp only [bk_195_234, b_iconst, b_bipush, b_sipush, b_lconst, b_ldc, b_ldc_w, b_ldc2_w, b_getstatic, b_iload, b_iload_n, b_istore, b_istore_n, b_lload, b_lload_n, b_lstore, b_lstore_n, b_aload, b_aload_n, b_astore, b_astore_n, b_iinc, b_iadd, b_isub, b_imul, b_iand, b_ior, b_ixor, b_ishl, b_ishr, b_iushr, b_idiv, b_irem, b_ladd, b_lsub, b_lmul, b_land, b_lor, b_lxor, b_lshl, b_lshr, b_lushr, b_i2l, b_l2i, b_i2b, b_i2c, b_lcmp, b_popI, b_popR, b_dupI, b_dupR, b_dup2, b_ifCond, b_icmp, b_goto, b_tsw, b_ireturn, b_lreturn, b_areturn, b_return, b_getfield, b_iaload, b_baload, b_laload, b_aaload, b_iastore, b_bastore, b_lastore, b_arraylength, c_call0, c_call1, c_call2, c_call3, c_call4, c_call5, c_call6, c_call7, c_call8, b_invokestatic, b_max, b_min, b_copy, b_obj, v_virt0, v_poly0, v_virt1, v_poly1, v_virt2, v_poly2, v_virt3, v_poly3, v_virt4, v_poly4, v_virt5, v_poly5, v_virt6, v_poly6, v_virt7, v_poly7, v_spec0, v_spec1, v_spec2, b_nil, wGet_some, wLdI_some, wLdL_some, wLdA_some, wAI_some, wAL_some, wSI_some, wSLg_some, wLen_b, wLen_i, wLen_l, uI_eq, uI_ne1, uI_ne2, uL_eq, uL_ne1, uL_ne2, uA_ne, uB_ne, ne_eq, Nat.reduceEqDiff, not_false_eq_true, uA_self, uB_self, uA_uA, uB_uB, cl_0, cl_1, cl_2, cl_3, cl_4, cl_5, cl_6, cl_7, cl_8, cl_9, cl_10, cl_11, cl_12, cl_13, cl_14, cl_15, cl_16, nar_b0, nar_b1, nar_i, true_and, eq_self, Nat.reduceAdd, Nat.reduceLeDiff, mG, mS1, mS2, mD1, mCut, mC0, mC2, mWd, Value.category, Option.toList_none, Option.toList_some, List.cons_append, List.nil_append, Option.some.injEq, Value.int.injEq, exists_eq_left', k_130, f_130_0, f_130_1, f_130_2, f_130_3, f_130_4, p_130_4, f_130_5, f_130_6, f_130_7, f_130_8, f_130_9, p_130_9, f_130_10, f_130_11, p_130_11, f_130_12, f_130_13, p_130_13, f_130_14, f_130_15, f_130_16, f_130_17, f_130_18, f_130_19, f_130_20, f_130_21, f_130_22, f_130_23, f_130_24, f_130_25, f_130_26, f_130_27, f_130_28, f_130_29, f_130_30, f_130_31, f_130_32, p_130_32, f_130_33, f_130_34, f_130_35, f_130_36, f_130_37, f_130_38, p_130_38, f_130_39, f_130_40, p_130_40, f_130_41, f_130_42, p_130_42, f_130_43, p_130_43, f_130_44, p_130_44, f_130_45, p_130_45, f_130_46, f_130_47, f_130_48, f_130_49, f_130_50, f_130_51, f_130_52, f_130_53, f_130_54, p_130_54, f_130_55, f_130_56, f_130_57, p_130_57, f_130_58, f_130_59, p_130_59, f_130_60, f_130_61, f_130_62, f_130_63, f_130_64, f_130_65, f_130_66, f_130_67, f_130_68, f_130_69, f_130_70, p_130_70]
    refine m_carryPoly (V := pS W (lm5 R)) (fun i hi => by rw [uB_self]; exact hu i hi) hlim (fun u1 hu1 => ?_)
    have q1 := qC_1 hlim
    simp only [b_iconst, b_bipush, b_sipush, b_lconst, b_ldc, b_ldc_w, b_ldc2_w, b_getstatic, b_iload, b_iload_n, b_istore, b_istore_n, b_lload, b_lload_n, b_lstore, b_lstore_n, b_aload, b_aload_n, b_astore, b_astore_n, b_iinc, b_iadd, b_isub, b_imul, b_iand, b_ior, b_ixor, b_ishl, b_ishr, b_iushr, b_idiv, b_irem, b_ladd, b_lsub, b_lmul, b_land, b_lor, b_lxor, b_lshl, b_lshr, b_lushr, b_i2l, b_l2i, b_i2b, b_i2c, b_lcmp, b_popI, b_popR, b_dupI, b_dupR, b_dup2, b_ifCond, b_icmp, b_goto, b_tsw, b_ireturn, b_lreturn, b_areturn, b_return, b_getfield, b_iaload, b_baload, b_laload, b_aaload, b_iastore, b_bastore, b_lastore, b_arraylength, c_call0, c_call1, c_call2, c_call3, c_call4, c_call5, c_call6, c_call7, c_call8, b_invokestatic, b_max, b_min, b_copy, b_obj, v_virt0, v_poly0, v_virt1, v_poly1, v_virt2, v_poly2, v_virt3, v_poly3, v_virt4, v_poly4, v_virt5, v_poly5, v_virt6, v_poly6, v_virt7, v_poly7, v_spec0, v_spec1, v_spec2, b_nil, wGet_some, wLdI_some, wLdL_some, wLdA_some, wAI_some, wAL_some, wSI_some, wSLg_some, wLen_b, wLen_i, wLen_l, uI_eq, uI_ne1, uI_ne2, uL_eq, uL_ne1, uL_ne2, uA_ne, uB_ne, ne_eq, Nat.reduceEqDiff, not_false_eq_true, uA_self, uB_self, uA_uA, uB_uB, cl_0, cl_1, cl_2, cl_3, cl_4, cl_5, cl_6, cl_7, cl_8, cl_9, cl_10, cl_11, cl_12, cl_13, cl_14, cl_15, cl_16, nar_b0, nar_b1, nar_i, true_and, eq_self, Nat.reduceAdd, Nat.reduceLeDiff, mG, mS1, mS2, mD1, mCut, mC0, mC2, mWd, Value.category, Option.toList_none, Option.toList_some, List.cons_append, List.nil_append, Option.some.injEq, Value.int.injEq, exists_eq_left', k_130, f_130_0, f_130_1, f_130_2, f_130_3, f_130_4, p_130_4, f_130_5, f_130_6, f_130_7, f_130_8, f_130_9, p_130_9, f_130_10, f_130_11, p_130_11, f_130_12, f_130_13, p_130_13, f_130_14, f_130_15, f_130_16, f_130_17, f_130_18, f_130_19, f_130_20, f_130_21, f_130_22, f_130_23, f_130_24, f_130_25, f_130_26, f_130_27, f_130_28, f_130_29, f_130_30, f_130_31, f_130_32, p_130_32, f_130_33, f_130_34, f_130_35, f_130_36, f_130_37, f_130_38, p_130_38, f_130_39, f_130_40, p_130_40, f_130_41, f_130_42, p_130_42, f_130_43, p_130_43, f_130_44, p_130_44, f_130_45, p_130_45, f_130_46, f_130_47, f_130_48, f_130_49, f_130_50, f_130_51, f_130_52, f_130_53, f_130_54, p_130_54, f_130_55, f_130_56, f_130_57, p_130_57, f_130_58, f_130_59, p_130_59, f_130_60, f_130_61, f_130_62, f_130_63, f_130_64, f_130_65, f_130_66, f_130_67, f_130_68, f_130_69, f_130_70, p_130_70]
    refine m_carryPoly (V := qC (pS W (lm5 R))) (fun i hi => by rw [uB_self]; exact hu1 i hi) (fun i hi => ?_) (fun u2 hu2 => ?_)
    · match i, hi with
      | 0, _ => omega
      | 1, _ => omega
      | 2, _ => omega
      | 3, _ => omega
      | 4, _ => omega
    simp only [b_iconst, b_bipush, b_sipush, b_lconst, b_ldc, b_ldc_w, b_ldc2_w, b_getstatic, b_iload, b_iload_n, b_istore, b_istore_n, b_lload, b_lload_n, b_lstore, b_lstore_n, b_aload, b_aload_n, b_astore, b_astore_n, b_iinc, b_iadd, b_isub, b_imul, b_iand, b_ior, b_ixor, b_ishl, b_ishr, b_iushr, b_idiv, b_irem, b_ladd, b_lsub, b_lmul, b_land, b_lor, b_lxor, b_lshl, b_lshr, b_lushr, b_i2l, b_l2i, b_i2b, b_i2c, b_lcmp, b_popI, b_popR, b_dupI, b_dupR, b_dup2, b_ifCond, b_icmp, b_goto, b_tsw, b_ireturn, b_lreturn, b_areturn, b_return, b_getfield, b_iaload, b_baload, b_laload, b_aaload, b_iastore, b_bastore, b_lastore, b_arraylength, c_call0, c_call1, c_call2, c_call3, c_call4, c_call5, c_call6, c_call7, c_call8, b_invokestatic, b_max, b_min, b_copy, b_obj, v_virt0, v_poly0, v_virt1, v_poly1, v_virt2, v_poly2, v_virt3, v_poly3, v_virt4, v_poly4, v_virt5, v_poly5, v_virt6, v_poly6, v_virt7, v_poly7, v_spec0, v_spec1, v_spec2, b_nil, wGet_some, wLdI_some, wLdL_some, wLdA_some, wAI_some, wAL_some, wSI_some, wSLg_some, wLen_b, wLen_i, wLen_l, uI_eq, uI_ne1, uI_ne2, uL_eq, uL_ne1, uL_ne2, uA_ne, uB_ne, ne_eq, Nat.reduceEqDiff, not_false_eq_true, uA_self, uB_self, uA_uA, uB_uB, cl_0, cl_1, cl_2, cl_3, cl_4, cl_5, cl_6, cl_7, cl_8, cl_9, cl_10, cl_11, cl_12, cl_13, cl_14, cl_15, cl_16, nar_b0, nar_b1, nar_i, true_and, eq_self, Nat.reduceAdd, Nat.reduceLeDiff, mG, mS1, mS2, mD1, mCut, mC0, mC2, mWd, Value.category, Option.toList_none, Option.toList_some, List.cons_append, List.nil_append, Option.some.injEq, Value.int.injEq, exists_eq_left']
    refine hP _ (qC (qC (pS W (lm5 R)))) (fun i hi => by rw [uB_self]; exact hu2 i hi) (qC_2 q1) (by rw [qC_mod, qC_mod, hval]) (fun k k1 k2 => by rw [uB_ne k1, uB_ne k2])
  have back : ∀ (w : Nat → Int64), (∀ i, i < 5 → w i = lN (pS W (lm5 R) i)) → ∀ (m j : Nat) (u : Nat → Int64) (o5 o6 o7 : Option Value), j + m = 5 → (∀ i, i < j → u i = lN (pS W (lm5 R) i)) → mV SA 0 0 195 208 [some (.ref 130), some (.ref q), some (.int (nI off)), some (.int (nI n)), some (.int (nI j)), o5, o6, o7] [] (bH hi (uB (uB hl 171 w) 170 u)) P := by
    intro w hw m
    induction m with
    | zero =>
      intro j u o5 o6 o7 hj hu
      refine m_blk bk_195_208 cb_195_208 ?_
      simp only [bk_195_208, b_iconst, b_bipush, b_sipush, b_lconst, b_ldc, b_ldc_w, b_ldc2_w, b_getstatic, b_iload, b_iload_n, b_istore, b_istore_n, b_lload, b_lload_n, b_lstore, b_lstore_n, b_aload, b_aload_n, b_astore, b_astore_n, b_iinc, b_iadd, b_isub, b_imul, b_iand, b_ior, b_ixor, b_ishl, b_ishr, b_iushr, b_idiv, b_irem, b_ladd, b_lsub, b_lmul, b_land, b_lor, b_lxor, b_lshl, b_lshr, b_lushr, b_i2l, b_l2i, b_i2b, b_i2c, b_lcmp, b_popI, b_popR, b_dupI, b_dupR, b_dup2, b_ifCond, b_icmp, b_goto, b_tsw, b_ireturn, b_lreturn, b_areturn, b_return, b_getfield, b_iaload, b_baload, b_laload, b_aaload, b_iastore, b_bastore, b_lastore, b_arraylength, c_call0, c_call1, c_call2, c_call3, c_call4, c_call5, c_call6, c_call7, c_call8, b_invokestatic, b_max, b_min, b_copy, b_obj, v_virt0, v_poly0, v_virt1, v_poly1, v_virt2, v_poly2, v_virt3, v_poly3, v_virt4, v_poly4, v_virt5, v_poly5, v_virt6, v_poly6, v_virt7, v_poly7, v_spec0, v_spec1, v_spec2, b_nil, wGet_some, wLdI_some, wLdL_some, wLdA_some, wAI_some, wAL_some, wSI_some, wSLg_some, wLen_b, wLen_i, wLen_l, uI_eq, uI_ne1, uI_ne2, uL_eq, uL_ne1, uL_ne2, uA_ne, uB_ne, ne_eq, Nat.reduceEqDiff, not_false_eq_true, uA_self, uB_self, uA_uA, uB_uB, cl_0, cl_1, cl_2, cl_3, cl_4, cl_5, cl_6, cl_7, cl_8, cl_9, cl_10, cl_11, cl_12, cl_13, cl_14, cl_15, cl_16, nar_b0, nar_b1, nar_i, true_and, eq_self, Nat.reduceAdd, Nat.reduceLeDiff, mG, mS1, mS2, mD1, mCut, mC0, mC2, mWd, Value.category, Option.toList_none, Option.toList_some, List.cons_append, List.nil_append, Option.some.injEq, Value.int.injEq, exists_eq_left']
      refine ⟨fun _ => ?_, fun hc => absurd (by rw [show (5 : Int32) = nI 5 from rfl]; exact nI_le (by omega) (by omega)) hc⟩
      exact last w u _ _ _ _ (fun i hi => hu i (by omega))
    | succ m ih =>
      intro j u o5 o6 o7 hj hu
      have e171 : ∀ x, (uB (uB hl 171 w) 170 x) 171 = w := fun x => by rw [uB_ne (by decide), uB_self]
      refine m_blk bk_195_208 cb_195_208 ?_
      simp only [bk_195_208, b_iconst, b_bipush, b_sipush, b_lconst, b_ldc, b_ldc_w, b_ldc2_w, b_getstatic, b_iload, b_iload_n, b_istore, b_istore_n, b_lload, b_lload_n, b_lstore, b_lstore_n, b_aload, b_aload_n, b_astore, b_astore_n, b_iinc, b_iadd, b_isub, b_imul, b_iand, b_ior, b_ixor, b_ishl, b_ishr, b_iushr, b_idiv, b_irem, b_ladd, b_lsub, b_lmul, b_land, b_lor, b_lxor, b_lshl, b_lshr, b_lushr, b_i2l, b_l2i, b_i2b, b_i2c, b_lcmp, b_popI, b_popR, b_dupI, b_dupR, b_dup2, b_ifCond, b_icmp, b_goto, b_tsw, b_ireturn, b_lreturn, b_areturn, b_return, b_getfield, b_iaload, b_baload, b_laload, b_aaload, b_iastore, b_bastore, b_lastore, b_arraylength, c_call0, c_call1, c_call2, c_call3, c_call4, c_call5, c_call6, c_call7, c_call8, b_invokestatic, b_max, b_min, b_copy, b_obj, v_virt0, v_poly0, v_virt1, v_poly1, v_virt2, v_poly2, v_virt3, v_poly3, v_virt4, v_poly4, v_virt5, v_poly5, v_virt6, v_poly6, v_virt7, v_poly7, v_spec0, v_spec1, v_spec2, b_nil, wGet_some, wLdI_some, wLdL_some, wLdA_some, wAI_some, wAL_some, wSI_some, wSLg_some, wLen_b, wLen_i, wLen_l, uI_eq, uI_ne1, uI_ne2, uL_eq, uL_ne1, uL_ne2, uA_ne, uB_ne, ne_eq, Nat.reduceEqDiff, not_false_eq_true, uA_self, uB_self, uA_uA, uB_uB, cl_0, cl_1, cl_2, cl_3, cl_4, cl_5, cl_6, cl_7, cl_8, cl_9, cl_10, cl_11, cl_12, cl_13, cl_14, cl_15, cl_16, nar_b0, nar_b1, nar_i, true_and, eq_self, Nat.reduceAdd, Nat.reduceLeDiff, mG, mS1, mS2, mD1, mCut, mC0, mC2, mWd, Value.category, Option.toList_none, Option.toList_some, List.cons_append, List.nil_append, Option.some.injEq, Value.int.injEq, exists_eq_left']
      refine ⟨fun hc => absurd hc (by rw [show (5 : Int32) = nI 5 from rfl]; exact nI_ge (by omega) (by omega)), fun _ => ?_⟩
      refine m_blk bk_195_214 cb_195_214 ?_
      simp only [bk_195_214, b_iconst, b_bipush, b_sipush, b_lconst, b_ldc, b_ldc_w, b_ldc2_w, b_getstatic, b_iload, b_iload_n, b_istore, b_istore_n, b_lload, b_lload_n, b_lstore, b_lstore_n, b_aload, b_aload_n, b_astore, b_astore_n, b_iinc, b_iadd, b_isub, b_imul, b_iand, b_ior, b_ixor, b_ishl, b_ishr, b_iushr, b_idiv, b_irem, b_ladd, b_lsub, b_lmul, b_land, b_lor, b_lxor, b_lshl, b_lshr, b_lushr, b_i2l, b_l2i, b_i2b, b_i2c, b_lcmp, b_popI, b_popR, b_dupI, b_dupR, b_dup2, b_ifCond, b_icmp, b_goto, b_tsw, b_ireturn, b_lreturn, b_areturn, b_return, b_getfield, b_iaload, b_baload, b_laload, b_aaload, b_iastore, b_bastore, b_lastore, b_arraylength, c_call0, c_call1, c_call2, c_call3, c_call4, c_call5, c_call6, c_call7, c_call8, b_invokestatic, b_max, b_min, b_copy, b_obj, v_virt0, v_poly0, v_virt1, v_poly1, v_virt2, v_poly2, v_virt3, v_poly3, v_virt4, v_poly4, v_virt5, v_poly5, v_virt6, v_poly6, v_virt7, v_poly7, v_spec0, v_spec1, v_spec2, b_nil, wGet_some, wLdI_some, wLdL_some, wLdA_some, wAI_some, wAL_some, wSI_some, wSLg_some, wLen_b, wLen_i, wLen_l, uI_eq, uI_ne1, uI_ne2, uL_eq, uL_ne1, uL_ne2, uA_ne, uB_ne, ne_eq, Nat.reduceEqDiff, not_false_eq_true, uA_self, uB_self, uA_uA, uB_uB, cl_0, cl_1, cl_2, cl_3, cl_4, cl_5, cl_6, cl_7, cl_8, cl_9, cl_10, cl_11, cl_12, cl_13, cl_14, cl_15, cl_16, nar_b0, nar_b1, nar_i, true_and, eq_self, Nat.reduceAdd, Nat.reduceLeDiff, mG, mS1, mS2, mD1, mCut, mC0, mC2, mWd, Value.category, Option.toList_none, Option.toList_some, List.cons_append, List.nil_append, Option.some.injEq, Value.int.injEq, exists_eq_left', k_130, f_130_0, f_130_1, f_130_2, f_130_3, f_130_4, p_130_4, f_130_5, f_130_6, f_130_7, f_130_8, f_130_9, p_130_9, f_130_10, f_130_11, p_130_11, f_130_12, f_130_13, p_130_13, f_130_14, f_130_15, f_130_16, f_130_17, f_130_18, f_130_19, f_130_20, f_130_21, f_130_22, f_130_23, f_130_24, f_130_25, f_130_26, f_130_27, f_130_28, f_130_29, f_130_30, f_130_31, f_130_32, p_130_32, f_130_33, f_130_34, f_130_35, f_130_36, f_130_37, f_130_38, p_130_38, f_130_39, f_130_40, p_130_40, f_130_41, f_130_42, p_130_42, f_130_43, p_130_43, f_130_44, p_130_44, f_130_45, p_130_45, f_130_46, f_130_47, f_130_48, f_130_49, f_130_50, f_130_51, f_130_52, f_130_53, f_130_54, p_130_54, f_130_55, f_130_56, f_130_57, p_130_57, f_130_58, f_130_59, p_130_59, f_130_60, f_130_61, f_130_62, f_130_63, f_130_64, f_130_65, f_130_66, f_130_67, f_130_68, f_130_69, f_130_70, p_130_70, a_170, e_170, w_170, a_171, e_171, w_171, e171, nI_clamp (show j < 2 ^ 31 by omega), hw j (by omega), nI_1]
      refine ⟨vp_in_nI (by omega) (by omega), vp_in_nI (by omega) (by omega), ?_⟩
      refine ih (j + 1) _ _ _ _ (by omega) (fun i hi => ?_)
      by_cases z : i = j
      · subst z; rw [pk_uLs]
      · rw [pk_uLn z]; exact hu i (by omega)
  -- the product
  have prod : ∀ (hl1 : Nat → Nat → Int64), (∀ i, i < 5 → hl1 170 i = lN (W i)) → (∀ k, k ≠ 170 → k ≠ 171 → hl1 k = hl k) → ∀ (m i : Nat) (w : Nat → Int64) (o5 o6 o7 : Option Value), i + m = 5 → (∀ j, j < i → w j = lN (pS W (lm5 R) j)) → mV SA 0 0 195 117 [some (.ref 130), some (.ref q), some (.int (nI off)), some (.int (nI n)), some (.int (nI i)), o5, o6, o7] [] (bH hi (uB hl1 171 w)) P := by
    intro hl1 hw1 hf1 m
    induction m with
    | zero =>
      intro i w o5 o6 o7 hi0 hw
      refine m_blk bk_195_117 cb_195_117 ?_
      simp only [bk_195_117, b_iconst, b_bipush, b_sipush, b_lconst, b_ldc, b_ldc_w, b_ldc2_w, b_getstatic, b_iload, b_iload_n, b_istore, b_istore_n, b_lload, b_lload_n, b_lstore, b_lstore_n, b_aload, b_aload_n, b_astore, b_astore_n, b_iinc, b_iadd, b_isub, b_imul, b_iand, b_ior, b_ixor, b_ishl, b_ishr, b_iushr, b_idiv, b_irem, b_ladd, b_lsub, b_lmul, b_land, b_lor, b_lxor, b_lshl, b_lshr, b_lushr, b_i2l, b_l2i, b_i2b, b_i2c, b_lcmp, b_popI, b_popR, b_dupI, b_dupR, b_dup2, b_ifCond, b_icmp, b_goto, b_tsw, b_ireturn, b_lreturn, b_areturn, b_return, b_getfield, b_iaload, b_baload, b_laload, b_aaload, b_iastore, b_bastore, b_lastore, b_arraylength, c_call0, c_call1, c_call2, c_call3, c_call4, c_call5, c_call6, c_call7, c_call8, b_invokestatic, b_max, b_min, b_copy, b_obj, v_virt0, v_poly0, v_virt1, v_poly1, v_virt2, v_poly2, v_virt3, v_poly3, v_virt4, v_poly4, v_virt5, v_poly5, v_virt6, v_poly6, v_virt7, v_poly7, v_spec0, v_spec1, v_spec2, b_nil, wGet_some, wLdI_some, wLdL_some, wLdA_some, wAI_some, wAL_some, wSI_some, wSLg_some, wLen_b, wLen_i, wLen_l, uI_eq, uI_ne1, uI_ne2, uL_eq, uL_ne1, uL_ne2, uA_ne, uB_ne, ne_eq, Nat.reduceEqDiff, not_false_eq_true, uA_self, uB_self, uA_uA, uB_uB, cl_0, cl_1, cl_2, cl_3, cl_4, cl_5, cl_6, cl_7, cl_8, cl_9, cl_10, cl_11, cl_12, cl_13, cl_14, cl_15, cl_16, nar_b0, nar_b1, nar_i, true_and, eq_self, Nat.reduceAdd, Nat.reduceLeDiff, mG, mS1, mS2, mD1, mCut, mC0, mC2, mWd, Value.category, Option.toList_none, Option.toList_some, List.cons_append, List.nil_append, Option.some.injEq, Value.int.injEq, exists_eq_left']
      refine ⟨fun _ => ?_, fun hc => absurd (by rw [show (5 : Int32) = nI 5 from rfl]; exact nI_le (by omega) (by omega)) hc⟩
      refine m_blk bk_195_205 cb_195_205 ?_
      simp only [bk_195_205, b_iconst, b_bipush, b_sipush, b_lconst, b_ldc, b_ldc_w, b_ldc2_w, b_getstatic, b_iload, b_iload_n, b_istore, b_istore_n, b_lload, b_lload_n, b_lstore, b_lstore_n, b_aload, b_aload_n, b_astore, b_astore_n, b_iinc, b_iadd, b_isub, b_imul, b_iand, b_ior, b_ixor, b_ishl, b_ishr, b_iushr, b_idiv, b_irem, b_ladd, b_lsub, b_lmul, b_land, b_lor, b_lxor, b_lshl, b_lshr, b_lushr, b_i2l, b_l2i, b_i2b, b_i2c, b_lcmp, b_popI, b_popR, b_dupI, b_dupR, b_dup2, b_ifCond, b_icmp, b_goto, b_tsw, b_ireturn, b_lreturn, b_areturn, b_return, b_getfield, b_iaload, b_baload, b_laload, b_aaload, b_iastore, b_bastore, b_lastore, b_arraylength, c_call0, c_call1, c_call2, c_call3, c_call4, c_call5, c_call6, c_call7, c_call8, b_invokestatic, b_max, b_min, b_copy, b_obj, v_virt0, v_poly0, v_virt1, v_poly1, v_virt2, v_poly2, v_virt3, v_poly3, v_virt4, v_poly4, v_virt5, v_poly5, v_virt6, v_poly6, v_virt7, v_poly7, v_spec0, v_spec1, v_spec2, b_nil, wGet_some, wLdI_some, wLdL_some, wLdA_some, wAI_some, wAL_some, wSI_some, wSLg_some, wLen_b, wLen_i, wLen_l, uI_eq, uI_ne1, uI_ne2, uL_eq, uL_ne1, uL_ne2, uA_ne, uB_ne, ne_eq, Nat.reduceEqDiff, not_false_eq_true, uA_self, uB_self, uA_uA, uB_uB, cl_0, cl_1, cl_2, cl_3, cl_4, cl_5, cl_6, cl_7, cl_8, cl_9, cl_10, cl_11, cl_12, cl_13, cl_14, cl_15, cl_16, nar_b0, nar_b1, nar_i, true_and, eq_self, Nat.reduceAdd, Nat.reduceLeDiff, mG, mS1, mS2, mD1, mCut, mC0, mC2, mWd, Value.category, Option.toList_none, Option.toList_some, List.cons_append, List.nil_append, Option.some.injEq, Value.int.injEq, exists_eq_left']
      have e : uB hl1 171 w = uB (uB hl 171 w) 170 (hl1 170) := by
        funext k
        by_cases z : k = 170
        · subst z; rw [uB_self, uB_ne (by decide)]
        · rw [uB_ne z]
          by_cases z' : k = 171
          · subst z'; rw [uB_self, uB_self]
          · rw [uB_ne z', uB_ne z', hf1 k z z']
      rw [e]
      exact back w (fun j hj => hw j (by omega)) 5 0 _ _ _ _ rfl (fun j hj => absurd hj (by omega))
    | succ m ih =>
      intro i w o5 o6 o7 hi0 hw
      have e170 : ∀ x, (uB hl1 171 x) 170 = hl1 170 := fun x => uB_ne (by decide)
      have e169 : hl1 169 = hl 169 := hf1 169 (by decide) (by decide)
      have inner : ∀ (d k : Nat) (o6 o7 : Option Value), k + d = 5 → mV SA 0 0 195 134 [some (.ref 130), some (.ref q), some (.int (nI off)), some (.int (nI n)), some (.int (nI i)), some (.int (nI k)), o6, o7] [] (bH hi (uB hl1 171 (vp_updL w i (lN (psK W (lm5 R) i k))))) P := by
        intro d
        induction d with
        | zero =>
          intro k o6 o7 hk
          have e : k = 5 := by omega
          subst e
          refine m_blk bk_195_134 cb_195_134 ?_
          simp only [bk_195_134, b_iconst, b_bipush, b_sipush, b_lconst, b_ldc, b_ldc_w, b_ldc2_w, b_getstatic, b_iload, b_iload_n, b_istore, b_istore_n, b_lload, b_lload_n, b_lstore, b_lstore_n, b_aload, b_aload_n, b_astore, b_astore_n, b_iinc, b_iadd, b_isub, b_imul, b_iand, b_ior, b_ixor, b_ishl, b_ishr, b_iushr, b_idiv, b_irem, b_ladd, b_lsub, b_lmul, b_land, b_lor, b_lxor, b_lshl, b_lshr, b_lushr, b_i2l, b_l2i, b_i2b, b_i2c, b_lcmp, b_popI, b_popR, b_dupI, b_dupR, b_dup2, b_ifCond, b_icmp, b_goto, b_tsw, b_ireturn, b_lreturn, b_areturn, b_return, b_getfield, b_iaload, b_baload, b_laload, b_aaload, b_iastore, b_bastore, b_lastore, b_arraylength, c_call0, c_call1, c_call2, c_call3, c_call4, c_call5, c_call6, c_call7, c_call8, b_invokestatic, b_max, b_min, b_copy, b_obj, v_virt0, v_poly0, v_virt1, v_poly1, v_virt2, v_poly2, v_virt3, v_poly3, v_virt4, v_poly4, v_virt5, v_poly5, v_virt6, v_poly6, v_virt7, v_poly7, v_spec0, v_spec1, v_spec2, b_nil, wGet_some, wLdI_some, wLdL_some, wLdA_some, wAI_some, wAL_some, wSI_some, wSLg_some, wLen_b, wLen_i, wLen_l, uI_eq, uI_ne1, uI_ne2, uL_eq, uL_ne1, uL_ne2, uA_ne, uB_ne, ne_eq, Nat.reduceEqDiff, not_false_eq_true, uA_self, uB_self, uA_uA, uB_uB, cl_0, cl_1, cl_2, cl_3, cl_4, cl_5, cl_6, cl_7, cl_8, cl_9, cl_10, cl_11, cl_12, cl_13, cl_14, cl_15, cl_16, nar_b0, nar_b1, nar_i, true_and, eq_self, Nat.reduceAdd, Nat.reduceLeDiff, mG, mS1, mS2, mD1, mCut, mC0, mC2, mWd, Value.category, Option.toList_none, Option.toList_some, List.cons_append, List.nil_append, Option.some.injEq, Value.int.injEq, exists_eq_left']
          refine ⟨fun _ => ?_, fun hc => absurd (by decide) hc⟩
          refine m_blk bk_195_199 cb_195_199 ?_
          simp only [bk_195_199, b_iconst, b_bipush, b_sipush, b_lconst, b_ldc, b_ldc_w, b_ldc2_w, b_getstatic, b_iload, b_iload_n, b_istore, b_istore_n, b_lload, b_lload_n, b_lstore, b_lstore_n, b_aload, b_aload_n, b_astore, b_astore_n, b_iinc, b_iadd, b_isub, b_imul, b_iand, b_ior, b_ixor, b_ishl, b_ishr, b_iushr, b_idiv, b_irem, b_ladd, b_lsub, b_lmul, b_land, b_lor, b_lxor, b_lshl, b_lshr, b_lushr, b_i2l, b_l2i, b_i2b, b_i2c, b_lcmp, b_popI, b_popR, b_dupI, b_dupR, b_dup2, b_ifCond, b_icmp, b_goto, b_tsw, b_ireturn, b_lreturn, b_areturn, b_return, b_getfield, b_iaload, b_baload, b_laload, b_aaload, b_iastore, b_bastore, b_lastore, b_arraylength, c_call0, c_call1, c_call2, c_call3, c_call4, c_call5, c_call6, c_call7, c_call8, b_invokestatic, b_max, b_min, b_copy, b_obj, v_virt0, v_poly0, v_virt1, v_poly1, v_virt2, v_poly2, v_virt3, v_poly3, v_virt4, v_poly4, v_virt5, v_poly5, v_virt6, v_poly6, v_virt7, v_poly7, v_spec0, v_spec1, v_spec2, b_nil, wGet_some, wLdI_some, wLdL_some, wLdA_some, wAI_some, wAL_some, wSI_some, wSLg_some, wLen_b, wLen_i, wLen_l, uI_eq, uI_ne1, uI_ne2, uL_eq, uL_ne1, uL_ne2, uA_ne, uB_ne, ne_eq, Nat.reduceEqDiff, not_false_eq_true, uA_self, uB_self, uA_uA, uB_uB, cl_0, cl_1, cl_2, cl_3, cl_4, cl_5, cl_6, cl_7, cl_8, cl_9, cl_10, cl_11, cl_12, cl_13, cl_14, cl_15, cl_16, nar_b0, nar_b1, nar_i, true_and, eq_self, Nat.reduceAdd, Nat.reduceLeDiff, mG, mS1, mS2, mD1, mCut, mC0, mC2, mWd, Value.category, Option.toList_none, Option.toList_some, List.cons_append, List.nil_append, Option.some.injEq, Value.int.injEq, exists_eq_left', nI_1]
          refine ih (i + 1) _ _ _ _ (by omega) (fun j hj => ?_)
          by_cases z : j = i
          · subst z; rw [pk_uLs, psK_5 _ _ (by omega)]
          · rw [pk_uLn z]; exact hw j (by omega)
        | succ d ih2 =>
          intro k o6 o7 hk
          have hm5 : (i + 5 - k) % 5 < 5 := Nat.mod_lt _ (by decide)
          have fin : ∀ z : Nat, z = (if 4 < k + (i + 5 - k) % 5 then 5 else 1) → mV SA 0 0 195 190 [some (.ref 130), some (.ref q), some (.int (nI off)), some (.int (nI n)), some (.int (nI i)), some (.int (nI k)), some (.int (nI ((i + 5 - k) % 5))), o7] [.long (lN z), .long (lN (W k * lm5 R ((i + 5 - k) % 5))), .long (lN (psK W (lm5 R) i k)), .int (nI i), .ref 171] (bH hi (uB hl1 171 (vp_updL w i (lN (psK W (lm5 R) i k))))) P := by
            intro z hz
            have ez : psK W (lm5 R) i k + W k * lm5 R ((i + 5 - k) % 5) * z = psK W (lm5 R) i (k + 1) := by rw [hz]; rfl
            refine m_blk bk_195_190 cb_195_190 ?_
            simp only [bk_195_190, b_iconst, b_bipush, b_sipush, b_lconst, b_ldc, b_ldc_w, b_ldc2_w, b_getstatic, b_iload, b_iload_n, b_istore, b_istore_n, b_lload, b_lload_n, b_lstore, b_lstore_n, b_aload, b_aload_n, b_astore, b_astore_n, b_iinc, b_iadd, b_isub, b_imul, b_iand, b_ior, b_ixor, b_ishl, b_ishr, b_iushr, b_idiv, b_irem, b_ladd, b_lsub, b_lmul, b_land, b_lor, b_lxor, b_lshl, b_lshr, b_lushr, b_i2l, b_l2i, b_i2b, b_i2c, b_lcmp, b_popI, b_popR, b_dupI, b_dupR, b_dup2, b_ifCond, b_icmp, b_goto, b_tsw, b_ireturn, b_lreturn, b_areturn, b_return, b_getfield, b_iaload, b_baload, b_laload, b_aaload, b_iastore, b_bastore, b_lastore, b_arraylength, c_call0, c_call1, c_call2, c_call3, c_call4, c_call5, c_call6, c_call7, c_call8, b_invokestatic, b_max, b_min, b_copy, b_obj, v_virt0, v_poly0, v_virt1, v_poly1, v_virt2, v_poly2, v_virt3, v_poly3, v_virt4, v_poly4, v_virt5, v_poly5, v_virt6, v_poly6, v_virt7, v_poly7, v_spec0, v_spec1, v_spec2, b_nil, wGet_some, wLdI_some, wLdL_some, wLdA_some, wAI_some, wAL_some, wSI_some, wSLg_some, wLen_b, wLen_i, wLen_l, uI_eq, uI_ne1, uI_ne2, uL_eq, uL_ne1, uL_ne2, uA_ne, uB_ne, ne_eq, Nat.reduceEqDiff, not_false_eq_true, uA_self, uB_self, uA_uA, uB_uB, cl_0, cl_1, cl_2, cl_3, cl_4, cl_5, cl_6, cl_7, cl_8, cl_9, cl_10, cl_11, cl_12, cl_13, cl_14, cl_15, cl_16, nar_b0, nar_b1, nar_i, true_and, eq_self, Nat.reduceAdd, Nat.reduceLeDiff, mG, mS1, mS2, mD1, mCut, mC0, mC2, mWd, Value.category, Option.toList_none, Option.toList_some, List.cons_append, List.nil_append, Option.some.injEq, Value.int.injEq, exists_eq_left', a_171, e_171, w_171, lN_mul, lN_add, ez, nI_clamp (show i < 2 ^ 31 by omega), nI_1, updL2]
            refine ⟨vp_in_nI (by omega) (by omega), ?_⟩
            exact ih2 (k + 1) _ _ (by omega)
          refine m_blk bk_195_134 cb_195_134 ?_
          simp only [bk_195_134, b_iconst, b_bipush, b_sipush, b_lconst, b_ldc, b_ldc_w, b_ldc2_w, b_getstatic, b_iload, b_iload_n, b_istore, b_istore_n, b_lload, b_lload_n, b_lstore, b_lstore_n, b_aload, b_aload_n, b_astore, b_astore_n, b_iinc, b_iadd, b_isub, b_imul, b_iand, b_ior, b_ixor, b_ishl, b_ishr, b_iushr, b_idiv, b_irem, b_ladd, b_lsub, b_lmul, b_land, b_lor, b_lxor, b_lshl, b_lshr, b_lushr, b_i2l, b_l2i, b_i2b, b_i2c, b_lcmp, b_popI, b_popR, b_dupI, b_dupR, b_dup2, b_ifCond, b_icmp, b_goto, b_tsw, b_ireturn, b_lreturn, b_areturn, b_return, b_getfield, b_iaload, b_baload, b_laload, b_aaload, b_iastore, b_bastore, b_lastore, b_arraylength, c_call0, c_call1, c_call2, c_call3, c_call4, c_call5, c_call6, c_call7, c_call8, b_invokestatic, b_max, b_min, b_copy, b_obj, v_virt0, v_poly0, v_virt1, v_poly1, v_virt2, v_poly2, v_virt3, v_poly3, v_virt4, v_poly4, v_virt5, v_poly5, v_virt6, v_poly6, v_virt7, v_poly7, v_spec0, v_spec1, v_spec2, b_nil, wGet_some, wLdI_some, wLdL_some, wLdA_some, wAI_some, wAL_some, wSI_some, wSLg_some, wLen_b, wLen_i, wLen_l, uI_eq, uI_ne1, uI_ne2, uL_eq, uL_ne1, uL_ne2, uA_ne, uB_ne, ne_eq, Nat.reduceEqDiff, not_false_eq_true, uA_self, uB_self, uA_uA, uB_uB, cl_0, cl_1, cl_2, cl_3, cl_4, cl_5, cl_6, cl_7, cl_8, cl_9, cl_10, cl_11, cl_12, cl_13, cl_14, cl_15, cl_16, nar_b0, nar_b1, nar_i, true_and, eq_self, Nat.reduceAdd, Nat.reduceLeDiff, mG, mS1, mS2, mD1, mCut, mC0, mC2, mWd, Value.category, Option.toList_none, Option.toList_some, List.cons_append, List.nil_append, Option.some.injEq, Value.int.injEq, exists_eq_left']
          refine ⟨fun hc => absurd hc (by rw [show (5 : Int32) = nI 5 from rfl]; exact nI_ge (by omega) (by omega)), fun _ => ?_⟩
          refine m_blk bk_195_140 cb_195_140 ?_
          simp only [bk_195_140, b_iconst, b_bipush, b_sipush, b_lconst, b_ldc, b_ldc_w, b_ldc2_w, b_getstatic, b_iload, b_iload_n, b_istore, b_istore_n, b_lload, b_lload_n, b_lstore, b_lstore_n, b_aload, b_aload_n, b_astore, b_astore_n, b_iinc, b_iadd, b_isub, b_imul, b_iand, b_ior, b_ixor, b_ishl, b_ishr, b_iushr, b_idiv, b_irem, b_ladd, b_lsub, b_lmul, b_land, b_lor, b_lxor, b_lshl, b_lshr, b_lushr, b_i2l, b_l2i, b_i2b, b_i2c, b_lcmp, b_popI, b_popR, b_dupI, b_dupR, b_dup2, b_ifCond, b_icmp, b_goto, b_tsw, b_ireturn, b_lreturn, b_areturn, b_return, b_getfield, b_iaload, b_baload, b_laload, b_aaload, b_iastore, b_bastore, b_lastore, b_arraylength, c_call0, c_call1, c_call2, c_call3, c_call4, c_call5, c_call6, c_call7, c_call8, b_invokestatic, b_max, b_min, b_copy, b_obj, v_virt0, v_poly0, v_virt1, v_poly1, v_virt2, v_poly2, v_virt3, v_poly3, v_virt4, v_poly4, v_virt5, v_poly5, v_virt6, v_poly6, v_virt7, v_poly7, v_spec0, v_spec1, v_spec2, b_nil, wGet_some, wLdI_some, wLdL_some, wLdA_some, wAI_some, wAL_some, wSI_some, wSLg_some, wLen_b, wLen_i, wLen_l, uI_eq, uI_ne1, uI_ne2, uL_eq, uL_ne1, uL_ne2, uA_ne, uB_ne, ne_eq, Nat.reduceEqDiff, not_false_eq_true, uA_self, uB_self, uA_uA, uB_uB, cl_0, cl_1, cl_2, cl_3, cl_4, cl_5, cl_6, cl_7, cl_8, cl_9, cl_10, cl_11, cl_12, cl_13, cl_14, cl_15, cl_16, nar_b0, nar_b1, nar_i, true_and, eq_self, Nat.reduceAdd, Nat.reduceLeDiff, mG, mS1, mS2, mD1, mCut, mC0, mC2, mWd, Value.category, Option.toList_none, Option.toList_some, List.cons_append, List.nil_append, Option.some.injEq, Value.int.injEq, exists_eq_left', k_130, f_130_0, f_130_1, f_130_2, f_130_3, f_130_4, p_130_4, f_130_5, f_130_6, f_130_7, f_130_8, f_130_9, p_130_9, f_130_10, f_130_11, p_130_11, f_130_12, f_130_13, p_130_13, f_130_14, f_130_15, f_130_16, f_130_17, f_130_18, f_130_19, f_130_20, f_130_21, f_130_22, f_130_23, f_130_24, f_130_25, f_130_26, f_130_27, f_130_28, f_130_29, f_130_30, f_130_31, f_130_32, p_130_32, f_130_33, f_130_34, f_130_35, f_130_36, f_130_37, f_130_38, p_130_38, f_130_39, f_130_40, p_130_40, f_130_41, f_130_42, p_130_42, f_130_43, p_130_43, f_130_44, p_130_44, f_130_45, p_130_45, f_130_46, f_130_47, f_130_48, f_130_49, f_130_50, f_130_51, f_130_52, f_130_53, f_130_54, p_130_54, f_130_55, f_130_56, f_130_57, p_130_57, f_130_58, f_130_59, p_130_59, f_130_60, f_130_61, f_130_62, f_130_63, f_130_64, f_130_65, f_130_66, f_130_67, f_130_68, f_130_69, f_130_70, p_130_70, a_169, e_169, w_169, a_170, e_170, w_170, a_171, e_171, w_171, i5 (show i < 5 by omega) (show k < 5 by omega), show (5 : Int32) = nI 5 from rfl, pk_rem (show i + 5 - k < 2 ^ 31 by omega) (show 0 < 5 by decide) (show 5 < 2 ^ 31 by decide), nI_clamp (show i < 2 ^ 31 by omega), nI_clamp (show k < 2 ^ 31 by omega), nI_clamp (show (i + 5 - k) % 5 < 2 ^ 31 by omega), e170, e169, hw1 k (by omega), hpr ((i + 5 - k) % 5) hm5, pk_uLs, lN_mul, nI_add]
          refine ⟨nI_ne0 (by omega) (by omega), vp_in_nI (by omega) (by omega), vp_in_nI (by omega) (by omega), vp_in_nI (by omega) (by omega), ?_⟩
          rw [show (4 : Int32) = nI 4 from rfl, nI_leI (by omega) (by omega)]
          refine ⟨fun hc => ?_, fun hc => ?_⟩
          · refine m_blk bk_195_189 cb_195_189 ?_
            simp only [bk_195_189, b_iconst, b_bipush, b_sipush, b_lconst, b_ldc, b_ldc_w, b_ldc2_w, b_getstatic, b_iload, b_iload_n, b_istore, b_istore_n, b_lload, b_lload_n, b_lstore, b_lstore_n, b_aload, b_aload_n, b_astore, b_astore_n, b_iinc, b_iadd, b_isub, b_imul, b_iand, b_ior, b_ixor, b_ishl, b_ishr, b_iushr, b_idiv, b_irem, b_ladd, b_lsub, b_lmul, b_land, b_lor, b_lxor, b_lshl, b_lshr, b_lushr, b_i2l, b_l2i, b_i2b, b_i2c, b_lcmp, b_popI, b_popR, b_dupI, b_dupR, b_dup2, b_ifCond, b_icmp, b_goto, b_tsw, b_ireturn, b_lreturn, b_areturn, b_return, b_getfield, b_iaload, b_baload, b_laload, b_aaload, b_iastore, b_bastore, b_lastore, b_arraylength, c_call0, c_call1, c_call2, c_call3, c_call4, c_call5, c_call6, c_call7, c_call8, b_invokestatic, b_max, b_min, b_copy, b_obj, v_virt0, v_poly0, v_virt1, v_poly1, v_virt2, v_poly2, v_virt3, v_poly3, v_virt4, v_poly4, v_virt5, v_poly5, v_virt6, v_poly6, v_virt7, v_poly7, v_spec0, v_spec1, v_spec2, b_nil, wGet_some, wLdI_some, wLdL_some, wLdA_some, wAI_some, wAL_some, wSI_some, wSLg_some, wLen_b, wLen_i, wLen_l, uI_eq, uI_ne1, uI_ne2, uL_eq, uL_ne1, uL_ne2, uA_ne, uB_ne, ne_eq, Nat.reduceEqDiff, not_false_eq_true, uA_self, uB_self, uA_uA, uB_uB, cl_0, cl_1, cl_2, cl_3, cl_4, cl_5, cl_6, cl_7, cl_8, cl_9, cl_10, cl_11, cl_12, cl_13, cl_14, cl_15, cl_16, nar_b0, nar_b1, nar_i, true_and, eq_self, Nat.reduceAdd, Nat.reduceLeDiff, mG, mS1, mS2, mD1, mCut, mC0, mC2, mWd, Value.category, Option.toList_none, Option.toList_some, List.cons_append, List.nil_append, Option.some.injEq, Value.int.injEq, exists_eq_left']
            exact fin 1 (by rw [if_neg (by omega)])
          · refine m_blk bk_195_183 cb_195_183 ?_
            simp only [bk_195_183, b_iconst, b_bipush, b_sipush, b_lconst, b_ldc, b_ldc_w, b_ldc2_w, b_getstatic, b_iload, b_iload_n, b_istore, b_istore_n, b_lload, b_lload_n, b_lstore, b_lstore_n, b_aload, b_aload_n, b_astore, b_astore_n, b_iinc, b_iadd, b_isub, b_imul, b_iand, b_ior, b_ixor, b_ishl, b_ishr, b_iushr, b_idiv, b_irem, b_ladd, b_lsub, b_lmul, b_land, b_lor, b_lxor, b_lshl, b_lshr, b_lushr, b_i2l, b_l2i, b_i2b, b_i2c, b_lcmp, b_popI, b_popR, b_dupI, b_dupR, b_dup2, b_ifCond, b_icmp, b_goto, b_tsw, b_ireturn, b_lreturn, b_areturn, b_return, b_getfield, b_iaload, b_baload, b_laload, b_aaload, b_iastore, b_bastore, b_lastore, b_arraylength, c_call0, c_call1, c_call2, c_call3, c_call4, c_call5, c_call6, c_call7, c_call8, b_invokestatic, b_max, b_min, b_copy, b_obj, v_virt0, v_poly0, v_virt1, v_poly1, v_virt2, v_poly2, v_virt3, v_poly3, v_virt4, v_poly4, v_virt5, v_poly5, v_virt6, v_poly6, v_virt7, v_poly7, v_spec0, v_spec1, v_spec2, b_nil, wGet_some, wLdI_some, wLdL_some, wLdA_some, wAI_some, wAL_some, wSI_some, wSLg_some, wLen_b, wLen_i, wLen_l, uI_eq, uI_ne1, uI_ne2, uL_eq, uL_ne1, uL_ne2, uA_ne, uB_ne, ne_eq, Nat.reduceEqDiff, not_false_eq_true, uA_self, uB_self, uA_uA, uB_uB, cl_0, cl_1, cl_2, cl_3, cl_4, cl_5, cl_6, cl_7, cl_8, cl_9, cl_10, cl_11, cl_12, cl_13, cl_14, cl_15, cl_16, nar_b0, nar_b1, nar_i, true_and, eq_self, Nat.reduceAdd, Nat.reduceLeDiff, mG, mS1, mS2, mD1, mCut, mC0, mC2, mWd, Value.category, Option.toList_none, Option.toList_some, List.cons_append, List.nil_append, Option.some.injEq, Value.int.injEq, exists_eq_left']
            exact fin 5 (by rw [if_pos (by omega)])
      refine m_blk bk_195_117 cb_195_117 ?_
      simp only [bk_195_117, b_iconst, b_bipush, b_sipush, b_lconst, b_ldc, b_ldc_w, b_ldc2_w, b_getstatic, b_iload, b_iload_n, b_istore, b_istore_n, b_lload, b_lload_n, b_lstore, b_lstore_n, b_aload, b_aload_n, b_astore, b_astore_n, b_iinc, b_iadd, b_isub, b_imul, b_iand, b_ior, b_ixor, b_ishl, b_ishr, b_iushr, b_idiv, b_irem, b_ladd, b_lsub, b_lmul, b_land, b_lor, b_lxor, b_lshl, b_lshr, b_lushr, b_i2l, b_l2i, b_i2b, b_i2c, b_lcmp, b_popI, b_popR, b_dupI, b_dupR, b_dup2, b_ifCond, b_icmp, b_goto, b_tsw, b_ireturn, b_lreturn, b_areturn, b_return, b_getfield, b_iaload, b_baload, b_laload, b_aaload, b_iastore, b_bastore, b_lastore, b_arraylength, c_call0, c_call1, c_call2, c_call3, c_call4, c_call5, c_call6, c_call7, c_call8, b_invokestatic, b_max, b_min, b_copy, b_obj, v_virt0, v_poly0, v_virt1, v_poly1, v_virt2, v_poly2, v_virt3, v_poly3, v_virt4, v_poly4, v_virt5, v_poly5, v_virt6, v_poly6, v_virt7, v_poly7, v_spec0, v_spec1, v_spec2, b_nil, wGet_some, wLdI_some, wLdL_some, wLdA_some, wAI_some, wAL_some, wSI_some, wSLg_some, wLen_b, wLen_i, wLen_l, uI_eq, uI_ne1, uI_ne2, uL_eq, uL_ne1, uL_ne2, uA_ne, uB_ne, ne_eq, Nat.reduceEqDiff, not_false_eq_true, uA_self, uB_self, uA_uA, uB_uB, cl_0, cl_1, cl_2, cl_3, cl_4, cl_5, cl_6, cl_7, cl_8, cl_9, cl_10, cl_11, cl_12, cl_13, cl_14, cl_15, cl_16, nar_b0, nar_b1, nar_i, true_and, eq_self, Nat.reduceAdd, Nat.reduceLeDiff, mG, mS1, mS2, mD1, mCut, mC0, mC2, mWd, Value.category, Option.toList_none, Option.toList_some, List.cons_append, List.nil_append, Option.some.injEq, Value.int.injEq, exists_eq_left']
      refine ⟨fun hc => absurd hc (by rw [show (5 : Int32) = nI 5 from rfl]; exact nI_ge (by omega) (by omega)), fun _ => ?_⟩
      refine m_blk bk_195_123 cb_195_123 ?_
      simp only [bk_195_123, b_iconst, b_bipush, b_sipush, b_lconst, b_ldc, b_ldc_w, b_ldc2_w, b_getstatic, b_iload, b_iload_n, b_istore, b_istore_n, b_lload, b_lload_n, b_lstore, b_lstore_n, b_aload, b_aload_n, b_astore, b_astore_n, b_iinc, b_iadd, b_isub, b_imul, b_iand, b_ior, b_ixor, b_ishl, b_ishr, b_iushr, b_idiv, b_irem, b_ladd, b_lsub, b_lmul, b_land, b_lor, b_lxor, b_lshl, b_lshr, b_lushr, b_i2l, b_l2i, b_i2b, b_i2c, b_lcmp, b_popI, b_popR, b_dupI, b_dupR, b_dup2, b_ifCond, b_icmp, b_goto, b_tsw, b_ireturn, b_lreturn, b_areturn, b_return, b_getfield, b_iaload, b_baload, b_laload, b_aaload, b_iastore, b_bastore, b_lastore, b_arraylength, c_call0, c_call1, c_call2, c_call3, c_call4, c_call5, c_call6, c_call7, c_call8, b_invokestatic, b_max, b_min, b_copy, b_obj, v_virt0, v_poly0, v_virt1, v_poly1, v_virt2, v_poly2, v_virt3, v_poly3, v_virt4, v_poly4, v_virt5, v_poly5, v_virt6, v_poly6, v_virt7, v_poly7, v_spec0, v_spec1, v_spec2, b_nil, wGet_some, wLdI_some, wLdL_some, wLdA_some, wAI_some, wAL_some, wSI_some, wSLg_some, wLen_b, wLen_i, wLen_l, uI_eq, uI_ne1, uI_ne2, uL_eq, uL_ne1, uL_ne2, uA_ne, uB_ne, ne_eq, Nat.reduceEqDiff, not_false_eq_true, uA_self, uB_self, uA_uA, uB_uB, cl_0, cl_1, cl_2, cl_3, cl_4, cl_5, cl_6, cl_7, cl_8, cl_9, cl_10, cl_11, cl_12, cl_13, cl_14, cl_15, cl_16, nar_b0, nar_b1, nar_i, true_and, eq_self, Nat.reduceAdd, Nat.reduceLeDiff, mG, mS1, mS2, mD1, mCut, mC0, mC2, mWd, Value.category, Option.toList_none, Option.toList_some, List.cons_append, List.nil_append, Option.some.injEq, Value.int.injEq, exists_eq_left', k_130, f_130_0, f_130_1, f_130_2, f_130_3, f_130_4, p_130_4, f_130_5, f_130_6, f_130_7, f_130_8, f_130_9, p_130_9, f_130_10, f_130_11, p_130_11, f_130_12, f_130_13, p_130_13, f_130_14, f_130_15, f_130_16, f_130_17, f_130_18, f_130_19, f_130_20, f_130_21, f_130_22, f_130_23, f_130_24, f_130_25, f_130_26, f_130_27, f_130_28, f_130_29, f_130_30, f_130_31, f_130_32, p_130_32, f_130_33, f_130_34, f_130_35, f_130_36, f_130_37, f_130_38, p_130_38, f_130_39, f_130_40, p_130_40, f_130_41, f_130_42, p_130_42, f_130_43, p_130_43, f_130_44, p_130_44, f_130_45, p_130_45, f_130_46, f_130_47, f_130_48, f_130_49, f_130_50, f_130_51, f_130_52, f_130_53, f_130_54, p_130_54, f_130_55, f_130_56, f_130_57, p_130_57, f_130_58, f_130_59, p_130_59, f_130_60, f_130_61, f_130_62, f_130_63, f_130_64, f_130_65, f_130_66, f_130_67, f_130_68, f_130_69, f_130_70, p_130_70, a_171, e_171, w_171, nI_clamp (show i < 2 ^ 31 by omega)]
      refine ⟨vp_in_nI (by omega) (by omega), ?_⟩
      exact inner 5 0 _ _ rfl
  -- the bits
  have bits : ∀ (m k : Nat) (u : Nat → Int64) (o5 o6 o7 : Option Value), k + m = 17 → (∀ i, i < 5 → u i = lN (V i + lm5 (T % 2 ^ (8 * k)) i)) → mV SA 0 0 195 3 [some (.ref 130), some (.ref q), some (.int (nI off)), some (.int (nI n)), some (.int (nI k)), o5, o6, o7] [] (bH hi (uB hl 170 u)) P := by
    intro m
    induction m with
    | zero =>
      intro k u o5 o6 o7 hk hu
      have e : k = 17 := by omega
      subst e
      have eT : T % 2 ^ (8 * 17) = T := Nat.mod_eq_of_lt (by rw [show (2 : Nat) ^ (8 * 17) = 87112285931760246646623899502532662132736 from by decide]; omega)
      rw [eT] at hu
      refine m_blk bk_195_3 cb_195_3 ?_
      simp only [bk_195_3, b_iconst, b_bipush, b_sipush, b_lconst, b_ldc, b_ldc_w, b_ldc2_w, b_getstatic, b_iload, b_iload_n, b_istore, b_istore_n, b_lload, b_lload_n, b_lstore, b_lstore_n, b_aload, b_aload_n, b_astore, b_astore_n, b_iinc, b_iadd, b_isub, b_imul, b_iand, b_ior, b_ixor, b_ishl, b_ishr, b_iushr, b_idiv, b_irem, b_ladd, b_lsub, b_lmul, b_land, b_lor, b_lxor, b_lshl, b_lshr, b_lushr, b_i2l, b_l2i, b_i2b, b_i2c, b_lcmp, b_popI, b_popR, b_dupI, b_dupR, b_dup2, b_ifCond, b_icmp, b_goto, b_tsw, b_ireturn, b_lreturn, b_areturn, b_return, b_getfield, b_iaload, b_baload, b_laload, b_aaload, b_iastore, b_bastore, b_lastore, b_arraylength, c_call0, c_call1, c_call2, c_call3, c_call4, c_call5, c_call6, c_call7, c_call8, b_invokestatic, b_max, b_min, b_copy, b_obj, v_virt0, v_poly0, v_virt1, v_poly1, v_virt2, v_poly2, v_virt3, v_poly3, v_virt4, v_poly4, v_virt5, v_poly5, v_virt6, v_poly6, v_virt7, v_poly7, v_spec0, v_spec1, v_spec2, b_nil, wGet_some, wLdI_some, wLdL_some, wLdA_some, wAI_some, wAL_some, wSI_some, wSLg_some, wLen_b, wLen_i, wLen_l, uI_eq, uI_ne1, uI_ne2, uL_eq, uL_ne1, uL_ne2, uA_ne, uB_ne, ne_eq, Nat.reduceEqDiff, not_false_eq_true, uA_self, uB_self, uA_uA, uB_uB, cl_0, cl_1, cl_2, cl_3, cl_4, cl_5, cl_6, cl_7, cl_8, cl_9, cl_10, cl_11, cl_12, cl_13, cl_14, cl_15, cl_16, nar_b0, nar_b1, nar_i, true_and, eq_self, Nat.reduceAdd, Nat.reduceLeDiff, mG, mS1, mS2, mD1, mCut, mC0, mC2, mWd, Value.category, Option.toList_none, Option.toList_some, List.cons_append, List.nil_append, Option.some.injEq, Value.int.injEq, exists_eq_left']
      refine ⟨fun _ => ?_, fun hc => absurd (by decide) hc⟩
      refine m_blk bk_195_114 cb_195_114 ?_
      simp only [bk_195_114, b_iconst, b_bipush, b_sipush, b_lconst, b_ldc, b_ldc_w, b_ldc2_w, b_getstatic, b_iload, b_iload_n, b_istore, b_istore_n, b_lload, b_lload_n, b_lstore, b_lstore_n, b_aload, b_aload_n, b_astore, b_astore_n, b_iinc, b_iadd, b_isub, b_imul, b_iand, b_ior, b_ixor, b_ishl, b_ishr, b_iushr, b_idiv, b_irem, b_ladd, b_lsub, b_lmul, b_land, b_lor, b_lxor, b_lshl, b_lshr, b_lushr, b_i2l, b_l2i, b_i2b, b_i2c, b_lcmp, b_popI, b_popR, b_dupI, b_dupR, b_dup2, b_ifCond, b_icmp, b_goto, b_tsw, b_ireturn, b_lreturn, b_areturn, b_return, b_getfield, b_iaload, b_baload, b_laload, b_aaload, b_iastore, b_bastore, b_lastore, b_arraylength, c_call0, c_call1, c_call2, c_call3, c_call4, c_call5, c_call6, c_call7, c_call8, b_invokestatic, b_max, b_min, b_copy, b_obj, v_virt0, v_poly0, v_virt1, v_poly1, v_virt2, v_poly2, v_virt3, v_poly3, v_virt4, v_poly4, v_virt5, v_poly5, v_virt6, v_poly6, v_virt7, v_poly7, v_spec0, v_spec1, v_spec2, b_nil, wGet_some, wLdI_some, wLdL_some, wLdA_some, wAI_some, wAL_some, wSI_some, wSLg_some, wLen_b, wLen_i, wLen_l, uI_eq, uI_ne1, uI_ne2, uL_eq, uL_ne1, uL_ne2, uA_ne, uB_ne, ne_eq, Nat.reduceEqDiff, not_false_eq_true, uA_self, uB_self, uA_uA, uB_uB, cl_0, cl_1, cl_2, cl_3, cl_4, cl_5, cl_6, cl_7, cl_8, cl_9, cl_10, cl_11, cl_12, cl_13, cl_14, cl_15, cl_16, nar_b0, nar_b1, nar_i, true_and, eq_self, Nat.reduceAdd, Nat.reduceLeDiff, mG, mS1, mS2, mD1, mCut, mC0, mC2, mWd, Value.category, Option.toList_none, Option.toList_some, List.cons_append, List.nil_append, Option.some.injEq, Value.int.injEq, exists_eq_left']
      have h0 := prod (uB hl 170 u) (fun i hi => by rw [uB_self, hu i hi, hW]) (fun k k1 _ => uB_ne k1) 5 0 ((uB hl 170 u) 171) o5 o6 o7 rfl (fun j hj => absurd hj (by omega))
      rw [uB_id] at h0
      exact h0
    | succ m ih =>
      intro k u o5 o6 o7 hk hu
      obtain ⟨b, hb⟩ : ∃ b, b = T / 256 ^ k % 256 := ⟨_, rfl⟩
      have hb256 : b < 256 := by rw [hb]; exact Nat.mod_lt _ (by decide)
      have out : ∀ (i : Nat) (u : Nat → Int64) (o7 : Option Value), i ≤ 8 → b / 2 ^ i = 0 → (∀ j, j < 5 → u j = lN (V j + lm5 (T % 2 ^ (8 * k + i)) j)) → mV SA 0 0 195 108 [some (.ref 130), some (.ref q), some (.int (nI off)), some (.int (nI n)), some (.int (nI k)), some (.int (nI b)), some (.int (nI i)), o7] [] (bH hi (uB hl 170 u)) P := by
        intro i u o7 hi8 hz hu
        rw [mod_up hb hi8 hz] at hu
        refine m_blk bk_195_108 cb_195_108 ?_
        simp only [bk_195_108, b_iconst, b_bipush, b_sipush, b_lconst, b_ldc, b_ldc_w, b_ldc2_w, b_getstatic, b_iload, b_iload_n, b_istore, b_istore_n, b_lload, b_lload_n, b_lstore, b_lstore_n, b_aload, b_aload_n, b_astore, b_astore_n, b_iinc, b_iadd, b_isub, b_imul, b_iand, b_ior, b_ixor, b_ishl, b_ishr, b_iushr, b_idiv, b_irem, b_ladd, b_lsub, b_lmul, b_land, b_lor, b_lxor, b_lshl, b_lshr, b_lushr, b_i2l, b_l2i, b_i2b, b_i2c, b_lcmp, b_popI, b_popR, b_dupI, b_dupR, b_dup2, b_ifCond, b_icmp, b_goto, b_tsw, b_ireturn, b_lreturn, b_areturn, b_return, b_getfield, b_iaload, b_baload, b_laload, b_aaload, b_iastore, b_bastore, b_lastore, b_arraylength, c_call0, c_call1, c_call2, c_call3, c_call4, c_call5, c_call6, c_call7, c_call8, b_invokestatic, b_max, b_min, b_copy, b_obj, v_virt0, v_poly0, v_virt1, v_poly1, v_virt2, v_poly2, v_virt3, v_poly3, v_virt4, v_poly4, v_virt5, v_poly5, v_virt6, v_poly6, v_virt7, v_poly7, v_spec0, v_spec1, v_spec2, b_nil, wGet_some, wLdI_some, wLdL_some, wLdA_some, wAI_some, wAL_some, wSI_some, wSLg_some, wLen_b, wLen_i, wLen_l, uI_eq, uI_ne1, uI_ne2, uL_eq, uL_ne1, uL_ne2, uA_ne, uB_ne, ne_eq, Nat.reduceEqDiff, not_false_eq_true, uA_self, uB_self, uA_uA, uB_uB, cl_0, cl_1, cl_2, cl_3, cl_4, cl_5, cl_6, cl_7, cl_8, cl_9, cl_10, cl_11, cl_12, cl_13, cl_14, cl_15, cl_16, nar_b0, nar_b1, nar_i, true_and, eq_self, Nat.reduceAdd, Nat.reduceLeDiff, mG, mS1, mS2, mD1, mCut, mC0, mC2, mWd, Value.category, Option.toList_none, Option.toList_some, List.cons_append, List.nil_append, Option.some.injEq, Value.int.injEq, exists_eq_left', nI_1]
        exact ih (k + 1) u _ _ _ (by omega) hu
      have inner : ∀ (d i : Nat) (u : Nat → Int64) (o7 : Option Value), i + d = 8 → (∀ j, j < 5 → u j = lN (V j + lm5 (T % 2 ^ (8 * k + i)) j)) → mV SA 0 0 195 42 [some (.ref 130), some (.ref q), some (.int (nI off)), some (.int (nI n)), some (.int (nI k)), some (.int (nI b)), some (.int (nI i)), o7] [] (bH hi (uB hl 170 u)) P := by
        intro d
        induction d with
        | zero =>
          intro i u o7 hi0 hu
          have e : i = 8 := by omega
          subst e
          refine m_blk bk_195_42 cb_195_42 ?_
          simp only [bk_195_42, b_iconst, b_bipush, b_sipush, b_lconst, b_ldc, b_ldc_w, b_ldc2_w, b_getstatic, b_iload, b_iload_n, b_istore, b_istore_n, b_lload, b_lload_n, b_lstore, b_lstore_n, b_aload, b_aload_n, b_astore, b_astore_n, b_iinc, b_iadd, b_isub, b_imul, b_iand, b_ior, b_ixor, b_ishl, b_ishr, b_iushr, b_idiv, b_irem, b_ladd, b_lsub, b_lmul, b_land, b_lor, b_lxor, b_lshl, b_lshr, b_lushr, b_i2l, b_l2i, b_i2b, b_i2c, b_lcmp, b_popI, b_popR, b_dupI, b_dupR, b_dup2, b_ifCond, b_icmp, b_goto, b_tsw, b_ireturn, b_lreturn, b_areturn, b_return, b_getfield, b_iaload, b_baload, b_laload, b_aaload, b_iastore, b_bastore, b_lastore, b_arraylength, c_call0, c_call1, c_call2, c_call3, c_call4, c_call5, c_call6, c_call7, c_call8, b_invokestatic, b_max, b_min, b_copy, b_obj, v_virt0, v_poly0, v_virt1, v_poly1, v_virt2, v_poly2, v_virt3, v_poly3, v_virt4, v_poly4, v_virt5, v_poly5, v_virt6, v_poly6, v_virt7, v_poly7, v_spec0, v_spec1, v_spec2, b_nil, wGet_some, wLdI_some, wLdL_some, wLdA_some, wAI_some, wAL_some, wSI_some, wSLg_some, wLen_b, wLen_i, wLen_l, uI_eq, uI_ne1, uI_ne2, uL_eq, uL_ne1, uL_ne2, uA_ne, uB_ne, ne_eq, Nat.reduceEqDiff, not_false_eq_true, uA_self, uB_self, uA_uA, uB_uB, cl_0, cl_1, cl_2, cl_3, cl_4, cl_5, cl_6, cl_7, cl_8, cl_9, cl_10, cl_11, cl_12, cl_13, cl_14, cl_15, cl_16, nar_b0, nar_b1, nar_i, true_and, eq_self, Nat.reduceAdd, Nat.reduceLeDiff, mG, mS1, mS2, mD1, mCut, mC0, mC2, mWd, Value.category, Option.toList_none, Option.toList_some, List.cons_append, List.nil_append, Option.some.injEq, Value.int.injEq, exists_eq_left']
          refine ⟨fun _ => ?_, fun hc => absurd (by decide) hc⟩
          exact out 8 u _ (by decide) (by show b / 256 = 0; omega) hu
        | succ d ih2 =>
          intro i u o7 hi0 hu
          have hsh := shr_s hb256 (show i < 8 by omega)
          have hbl' : b / 2 ^ i < 256 := Nat.lt_of_le_of_lt (Nat.div_le_self _ _) hb256
          refine m_blk bk_195_42 cb_195_42 ?_
          simp only [bk_195_42, b_iconst, b_bipush, b_sipush, b_lconst, b_ldc, b_ldc_w, b_ldc2_w, b_getstatic, b_iload, b_iload_n, b_istore, b_istore_n, b_lload, b_lload_n, b_lstore, b_lstore_n, b_aload, b_aload_n, b_astore, b_astore_n, b_iinc, b_iadd, b_isub, b_imul, b_iand, b_ior, b_ixor, b_ishl, b_ishr, b_iushr, b_idiv, b_irem, b_ladd, b_lsub, b_lmul, b_land, b_lor, b_lxor, b_lshl, b_lshr, b_lushr, b_i2l, b_l2i, b_i2b, b_i2c, b_lcmp, b_popI, b_popR, b_dupI, b_dupR, b_dup2, b_ifCond, b_icmp, b_goto, b_tsw, b_ireturn, b_lreturn, b_areturn, b_return, b_getfield, b_iaload, b_baload, b_laload, b_aaload, b_iastore, b_bastore, b_lastore, b_arraylength, c_call0, c_call1, c_call2, c_call3, c_call4, c_call5, c_call6, c_call7, c_call8, b_invokestatic, b_max, b_min, b_copy, b_obj, v_virt0, v_poly0, v_virt1, v_poly1, v_virt2, v_poly2, v_virt3, v_poly3, v_virt4, v_poly4, v_virt5, v_poly5, v_virt6, v_poly6, v_virt7, v_poly7, v_spec0, v_spec1, v_spec2, b_nil, wGet_some, wLdI_some, wLdL_some, wLdA_some, wAI_some, wAL_some, wSI_some, wSLg_some, wLen_b, wLen_i, wLen_l, uI_eq, uI_ne1, uI_ne2, uL_eq, uL_ne1, uL_ne2, uA_ne, uB_ne, ne_eq, Nat.reduceEqDiff, not_false_eq_true, uA_self, uB_self, uA_uA, uB_uB, cl_0, cl_1, cl_2, cl_3, cl_4, cl_5, cl_6, cl_7, cl_8, cl_9, cl_10, cl_11, cl_12, cl_13, cl_14, cl_15, cl_16, nar_b0, nar_b1, nar_i, true_and, eq_self, Nat.reduceAdd, Nat.reduceLeDiff, mG, mS1, mS2, mD1, mCut, mC0, mC2, mWd, Value.category, Option.toList_none, Option.toList_some, List.cons_append, List.nil_append, Option.some.injEq, Value.int.injEq, exists_eq_left']
          refine ⟨fun hc => absurd hc (by rw [show (8 : Int32) = nI 8 from rfl]; exact nI_ge (by omega) (by omega)), fun _ => ?_⟩
          refine m_blk bk_195_49 cb_195_49 ?_
          simp only [bk_195_49, b_iconst, b_bipush, b_sipush, b_lconst, b_ldc, b_ldc_w, b_ldc2_w, b_getstatic, b_iload, b_iload_n, b_istore, b_istore_n, b_lload, b_lload_n, b_lstore, b_lstore_n, b_aload, b_aload_n, b_astore, b_astore_n, b_iinc, b_iadd, b_isub, b_imul, b_iand, b_ior, b_ixor, b_ishl, b_ishr, b_iushr, b_idiv, b_irem, b_ladd, b_lsub, b_lmul, b_land, b_lor, b_lxor, b_lshl, b_lshr, b_lushr, b_i2l, b_l2i, b_i2b, b_i2c, b_lcmp, b_popI, b_popR, b_dupI, b_dupR, b_dup2, b_ifCond, b_icmp, b_goto, b_tsw, b_ireturn, b_lreturn, b_areturn, b_return, b_getfield, b_iaload, b_baload, b_laload, b_aaload, b_iastore, b_bastore, b_lastore, b_arraylength, c_call0, c_call1, c_call2, c_call3, c_call4, c_call5, c_call6, c_call7, c_call8, b_invokestatic, b_max, b_min, b_copy, b_obj, v_virt0, v_poly0, v_virt1, v_poly1, v_virt2, v_poly2, v_virt3, v_poly3, v_virt4, v_poly4, v_virt5, v_poly5, v_virt6, v_poly6, v_virt7, v_poly7, v_spec0, v_spec1, v_spec2, b_nil, wGet_some, wLdI_some, wLdL_some, wLdA_some, wAI_some, wAL_some, wSI_some, wSLg_some, wLen_b, wLen_i, wLen_l, uI_eq, uI_ne1, uI_ne2, uL_eq, uL_ne1, uL_ne2, uA_ne, uB_ne, ne_eq, Nat.reduceEqDiff, not_false_eq_true, uA_self, uB_self, uA_uA, uB_uB, cl_0, cl_1, cl_2, cl_3, cl_4, cl_5, cl_6, cl_7, cl_8, cl_9, cl_10, cl_11, cl_12, cl_13, cl_14, cl_15, cl_16, nar_b0, nar_b1, nar_i, true_and, eq_self, Nat.reduceAdd, Nat.reduceLeDiff, mG, mS1, mS2, mD1, mCut, mC0, mC2, mWd, Value.category, Option.toList_none, Option.toList_some, List.cons_append, List.nil_append, Option.some.injEq, Value.int.injEq, exists_eq_left', hsh]
          rw [show (0 : Int32) = nI 0 from rfl, nI_leI (by omega) (by omega)]
          refine ⟨fun hc => out i u _ (by omega) (Nat.le_zero.mp hc) hu, fun hc => ?_⟩
          obtain ⟨aa, haa⟩ : ∃ aa, aa = 8 * k + i := ⟨_, rfl⟩
          have ha26 : aa / 26 ≤ 5 := by omega
          by_cases htop : 130 ≤ aa
          · -- above the top there are no bits
            exfalso
            have hk16 : k = 16 := by omega
            have hb1 := hbyte 16 (by decide)
            rw [if_pos rfl] at hb1
            rw [hk16, hb1] at hb
            subst hb
            have : (1 : Nat) / 2 ^ i = 0 := Nat.div_eq_of_lt (by
              have : 2 ^ 2 ≤ 2 ^ i := Nat.pow_le_pow_right (by decide) (by omega)
              omega)
            omega
          have hbitv : ∀ z : Nat, z = (if T / 2 ^ aa % 2 = 1 then 2 ^ (aa % 26) else 0) → mV SA 0 0 195 100 [some (.ref 130), some (.ref q), some (.int (nI off)), some (.int (nI n)), some (.int (nI k)), some (.int (nI b)), some (.int (nI i)), some (.int (nI aa))] [.long (lN z), .long (lN (V (aa / 26) + lm5 (T % 2 ^ aa) (aa / 26))), .int (nI (aa / 26)), .ref 170] (bH hi (uB hl 170 u)) P := by
            intro z hz
            refine m_blk bk_195_100 cb_195_100 ?_
            simp only [bk_195_100, b_iconst, b_bipush, b_sipush, b_lconst, b_ldc, b_ldc_w, b_ldc2_w, b_getstatic, b_iload, b_iload_n, b_istore, b_istore_n, b_lload, b_lload_n, b_lstore, b_lstore_n, b_aload, b_aload_n, b_astore, b_astore_n, b_iinc, b_iadd, b_isub, b_imul, b_iand, b_ior, b_ixor, b_ishl, b_ishr, b_iushr, b_idiv, b_irem, b_ladd, b_lsub, b_lmul, b_land, b_lor, b_lxor, b_lshl, b_lshr, b_lushr, b_i2l, b_l2i, b_i2b, b_i2c, b_lcmp, b_popI, b_popR, b_dupI, b_dupR, b_dup2, b_ifCond, b_icmp, b_goto, b_tsw, b_ireturn, b_lreturn, b_areturn, b_return, b_getfield, b_iaload, b_baload, b_laload, b_aaload, b_iastore, b_bastore, b_lastore, b_arraylength, c_call0, c_call1, c_call2, c_call3, c_call4, c_call5, c_call6, c_call7, c_call8, b_invokestatic, b_max, b_min, b_copy, b_obj, v_virt0, v_poly0, v_virt1, v_poly1, v_virt2, v_poly2, v_virt3, v_poly3, v_virt4, v_poly4, v_virt5, v_poly5, v_virt6, v_poly6, v_virt7, v_poly7, v_spec0, v_spec1, v_spec2, b_nil, wGet_some, wLdI_some, wLdL_some, wLdA_some, wAI_some, wAL_some, wSI_some, wSLg_some, wLen_b, wLen_i, wLen_l, uI_eq, uI_ne1, uI_ne2, uL_eq, uL_ne1, uL_ne2, uA_ne, uB_ne, ne_eq, Nat.reduceEqDiff, not_false_eq_true, uA_self, uB_self, uA_uA, uB_uB, cl_0, cl_1, cl_2, cl_3, cl_4, cl_5, cl_6, cl_7, cl_8, cl_9, cl_10, cl_11, cl_12, cl_13, cl_14, cl_15, cl_16, nar_b0, nar_b1, nar_i, true_and, eq_self, Nat.reduceAdd, Nat.reduceLeDiff, mG, mS1, mS2, mD1, mCut, mC0, mC2, mWd, Value.category, Option.toList_none, Option.toList_some, List.cons_append, List.nil_append, Option.some.injEq, Value.int.injEq, exists_eq_left', a_170, e_170, w_170, lN_add, nI_clamp (show aa / 26 < 2 ^ 31 by omega), nI_1]
            refine ⟨vp_in_nI (by omega) (by omega), ?_⟩
            refine ih2 (i + 1) _ _ (by omega) (fun j hj => ?_)
            rw [show 8 * k + (i + 1) = aa + 1 by omega, lm5_bit T (by omega) hj]
            by_cases zz : j = aa / 26
            · subst zz; rw [pk_uLs, if_pos rfl, ← hz, Nat.add_assoc]
            · rw [pk_uLn zz, if_neg zz, Nat.add_zero, haa]; exact hu j hj
          have hbit := bit_int (b := b) (j := i) hb256 (by omega)
          have htb : b.testBit i = decide (T / 2 ^ aa % 2 = 1) := by rw [tb_div, hb, byte_bit _ _ _ (by omega), haa]
          have eu := hu (aa / 26) (by omega)
          rw [← haa] at eu
          refine m_blk bk_195_57 cb_195_57 ?_
          simp only [bk_195_57, b_iconst, b_bipush, b_sipush, b_lconst, b_ldc, b_ldc_w, b_ldc2_w, b_getstatic, b_iload, b_iload_n, b_istore, b_istore_n, b_lload, b_lload_n, b_lstore, b_lstore_n, b_aload, b_aload_n, b_astore, b_astore_n, b_iinc, b_iadd, b_isub, b_imul, b_iand, b_ior, b_ixor, b_ishl, b_ishr, b_iushr, b_idiv, b_irem, b_ladd, b_lsub, b_lmul, b_land, b_lor, b_lxor, b_lshl, b_lshr, b_lushr, b_i2l, b_l2i, b_i2b, b_i2c, b_lcmp, b_popI, b_popR, b_dupI, b_dupR, b_dup2, b_ifCond, b_icmp, b_goto, b_tsw, b_ireturn, b_lreturn, b_areturn, b_return, b_getfield, b_iaload, b_baload, b_laload, b_aaload, b_iastore, b_bastore, b_lastore, b_arraylength, c_call0, c_call1, c_call2, c_call3, c_call4, c_call5, c_call6, c_call7, c_call8, b_invokestatic, b_max, b_min, b_copy, b_obj, v_virt0, v_poly0, v_virt1, v_poly1, v_virt2, v_poly2, v_virt3, v_poly3, v_virt4, v_poly4, v_virt5, v_poly5, v_virt6, v_poly6, v_virt7, v_poly7, v_spec0, v_spec1, v_spec2, b_nil, wGet_some, wLdI_some, wLdL_some, wLdA_some, wAI_some, wAL_some, wSI_some, wSLg_some, wLen_b, wLen_i, wLen_l, uI_eq, uI_ne1, uI_ne2, uL_eq, uL_ne1, uL_ne2, uA_ne, uB_ne, ne_eq, Nat.reduceEqDiff, not_false_eq_true, uA_self, uB_self, uA_uA, uB_uB, cl_0, cl_1, cl_2, cl_3, cl_4, cl_5, cl_6, cl_7, cl_8, cl_9, cl_10, cl_11, cl_12, cl_13, cl_14, cl_15, cl_16, nar_b0, nar_b1, nar_i, true_and, eq_self, Nat.reduceAdd, Nat.reduceLeDiff, mG, mS1, mS2, mD1, mCut, mC0, mC2, mWd, Value.category, Option.toList_none, Option.toList_some, List.cons_append, List.nil_append, Option.some.injEq, Value.int.injEq, exists_eq_left', k_130, f_130_0, f_130_1, f_130_2, f_130_3, f_130_4, p_130_4, f_130_5, f_130_6, f_130_7, f_130_8, f_130_9, p_130_9, f_130_10, f_130_11, p_130_11, f_130_12, f_130_13, p_130_13, f_130_14, f_130_15, f_130_16, f_130_17, f_130_18, f_130_19, f_130_20, f_130_21, f_130_22, f_130_23, f_130_24, f_130_25, f_130_26, f_130_27, f_130_28, f_130_29, f_130_30, f_130_31, f_130_32, p_130_32, f_130_33, f_130_34, f_130_35, f_130_36, f_130_37, f_130_38, p_130_38, f_130_39, f_130_40, p_130_40, f_130_41, f_130_42, p_130_42, f_130_43, p_130_43, f_130_44, p_130_44, f_130_45, p_130_45, f_130_46, f_130_47, f_130_48, f_130_49, f_130_50, f_130_51, f_130_52, f_130_53, f_130_54, p_130_54, f_130_55, f_130_56, f_130_57, p_130_57, f_130_58, f_130_59, p_130_59, f_130_60, f_130_61, f_130_62, f_130_63, f_130_64, f_130_65, f_130_66, f_130_67, f_130_68, f_130_69, f_130_70, p_130_70, a_170, e_170, w_170, show (8 : Int32) = nI 8 from rfl, pk_mul, nI_add, ← haa, show (26 : Int32) = nI 26 from rfl, pk_div (show aa < 2 ^ 31 by omega) (show 0 < 26 by decide) (show 26 < 2 ^ 31 by decide), nI_clamp (show aa / 26 < 2 ^ 31 by omega), eu, hbit]
          refine ⟨nI_ne0 (by omega) (by omega), vp_in_nI (by omega) (by omega), ?_⟩
          by_cases hone : T / 2 ^ aa % 2 = 1
          · rw [htb, if_pos (decide_eq_true hone)]
            refine ⟨fun hc => absurd rfl hc, fun _ => ?_⟩
            have hlm : lsl 1 (nI (aa % 26)) = lN (2 ^ (aa % 26)) := by
              have := lsl_lN 1 (k := aa % 26) (by omega)
              rw [Nat.one_mul] at this
              exact this
            refine m_blk bk_195_89 cb_195_89 ?_
            simp only [bk_195_89, b_iconst, b_bipush, b_sipush, b_lconst, b_ldc, b_ldc_w, b_ldc2_w, b_getstatic, b_iload, b_iload_n, b_istore, b_istore_n, b_lload, b_lload_n, b_lstore, b_lstore_n, b_aload, b_aload_n, b_astore, b_astore_n, b_iinc, b_iadd, b_isub, b_imul, b_iand, b_ior, b_ixor, b_ishl, b_ishr, b_iushr, b_idiv, b_irem, b_ladd, b_lsub, b_lmul, b_land, b_lor, b_lxor, b_lshl, b_lshr, b_lushr, b_i2l, b_l2i, b_i2b, b_i2c, b_lcmp, b_popI, b_popR, b_dupI, b_dupR, b_dup2, b_ifCond, b_icmp, b_goto, b_tsw, b_ireturn, b_lreturn, b_areturn, b_return, b_getfield, b_iaload, b_baload, b_laload, b_aaload, b_iastore, b_bastore, b_lastore, b_arraylength, c_call0, c_call1, c_call2, c_call3, c_call4, c_call5, c_call6, c_call7, c_call8, b_invokestatic, b_max, b_min, b_copy, b_obj, v_virt0, v_poly0, v_virt1, v_poly1, v_virt2, v_poly2, v_virt3, v_poly3, v_virt4, v_poly4, v_virt5, v_poly5, v_virt6, v_poly6, v_virt7, v_poly7, v_spec0, v_spec1, v_spec2, b_nil, wGet_some, wLdI_some, wLdL_some, wLdA_some, wAI_some, wAL_some, wSI_some, wSLg_some, wLen_b, wLen_i, wLen_l, uI_eq, uI_ne1, uI_ne2, uL_eq, uL_ne1, uL_ne2, uA_ne, uB_ne, ne_eq, Nat.reduceEqDiff, not_false_eq_true, uA_self, uB_self, uA_uA, uB_uB, cl_0, cl_1, cl_2, cl_3, cl_4, cl_5, cl_6, cl_7, cl_8, cl_9, cl_10, cl_11, cl_12, cl_13, cl_14, cl_15, cl_16, nar_b0, nar_b1, nar_i, true_and, eq_self, Nat.reduceAdd, Nat.reduceLeDiff, mG, mS1, mS2, mD1, mCut, mC0, mC2, mWd, Value.category, Option.toList_none, Option.toList_some, List.cons_append, List.nil_append, Option.some.injEq, Value.int.injEq, exists_eq_left', show (26 : Int32) = nI 26 from rfl, pk_rem (show aa < 2 ^ 31 by omega) (show 0 < 26 by decide) (show 26 < 2 ^ 31 by decide), hlm]
            refine ⟨nI_ne0 (by omega) (by omega), ?_⟩
            exact hbitv _ (by rw [if_pos hone])
          · rw [htb, if_neg (by simpa using hone)]
            refine ⟨fun _ => ?_, fun hc => absurd (by decide) hc⟩
            refine m_blk bk_195_99 cb_195_99 ?_
            simp only [bk_195_99, b_iconst, b_bipush, b_sipush, b_lconst, b_ldc, b_ldc_w, b_ldc2_w, b_getstatic, b_iload, b_iload_n, b_istore, b_istore_n, b_lload, b_lload_n, b_lstore, b_lstore_n, b_aload, b_aload_n, b_astore, b_astore_n, b_iinc, b_iadd, b_isub, b_imul, b_iand, b_ior, b_ixor, b_ishl, b_ishr, b_iushr, b_idiv, b_irem, b_ladd, b_lsub, b_lmul, b_land, b_lor, b_lxor, b_lshl, b_lshr, b_lushr, b_i2l, b_l2i, b_i2b, b_i2c, b_lcmp, b_popI, b_popR, b_dupI, b_dupR, b_dup2, b_ifCond, b_icmp, b_goto, b_tsw, b_ireturn, b_lreturn, b_areturn, b_return, b_getfield, b_iaload, b_baload, b_laload, b_aaload, b_iastore, b_bastore, b_lastore, b_arraylength, c_call0, c_call1, c_call2, c_call3, c_call4, c_call5, c_call6, c_call7, c_call8, b_invokestatic, b_max, b_min, b_copy, b_obj, v_virt0, v_poly0, v_virt1, v_poly1, v_virt2, v_poly2, v_virt3, v_poly3, v_virt4, v_poly4, v_virt5, v_poly5, v_virt6, v_poly6, v_virt7, v_poly7, v_spec0, v_spec1, v_spec2, b_nil, wGet_some, wLdI_some, wLdL_some, wLdA_some, wAI_some, wAL_some, wSI_some, wSLg_some, wLen_b, wLen_i, wLen_l, uI_eq, uI_ne1, uI_ne2, uL_eq, uL_ne1, uL_ne2, uA_ne, uB_ne, ne_eq, Nat.reduceEqDiff, not_false_eq_true, uA_self, uB_self, uA_uA, uB_uB, cl_0, cl_1, cl_2, cl_3, cl_4, cl_5, cl_6, cl_7, cl_8, cl_9, cl_10, cl_11, cl_12, cl_13, cl_14, cl_15, cl_16, nar_b0, nar_b1, nar_i, true_and, eq_self, Nat.reduceAdd, Nat.reduceLeDiff, mG, mS1, mS2, mD1, mCut, mC0, mC2, mWd, Value.category, Option.toList_none, Option.toList_some, List.cons_append, List.nil_append, Option.some.injEq, Value.int.injEq, exists_eq_left']
            exact hbitv 0 (by rw [if_neg hone])
      have got : ∀ b' : Nat, b' = b → mV SA 0 0 195 37 [some (.ref 130), some (.ref q), some (.int (nI off)), some (.int (nI n)), some (.int (nI k)), o5, o6, o7] [.int (nI b')] (bH hi (uB hl 170 u)) P := by
        intro b' hb'
        subst hb'
        refine m_blk bk_195_37 cb_195_37 ?_
        simp only [bk_195_37, b_iconst, b_bipush, b_sipush, b_lconst, b_ldc, b_ldc_w, b_ldc2_w, b_getstatic, b_iload, b_iload_n, b_istore, b_istore_n, b_lload, b_lload_n, b_lstore, b_lstore_n, b_aload, b_aload_n, b_astore, b_astore_n, b_iinc, b_iadd, b_isub, b_imul, b_iand, b_ior, b_ixor, b_ishl, b_ishr, b_iushr, b_idiv, b_irem, b_ladd, b_lsub, b_lmul, b_land, b_lor, b_lxor, b_lshl, b_lshr, b_lushr, b_i2l, b_l2i, b_i2b, b_i2c, b_lcmp, b_popI, b_popR, b_dupI, b_dupR, b_dup2, b_ifCond, b_icmp, b_goto, b_tsw, b_ireturn, b_lreturn, b_areturn, b_return, b_getfield, b_iaload, b_baload, b_laload, b_aaload, b_iastore, b_bastore, b_lastore, b_arraylength, c_call0, c_call1, c_call2, c_call3, c_call4, c_call5, c_call6, c_call7, c_call8, b_invokestatic, b_max, b_min, b_copy, b_obj, v_virt0, v_poly0, v_virt1, v_poly1, v_virt2, v_poly2, v_virt3, v_poly3, v_virt4, v_poly4, v_virt5, v_poly5, v_virt6, v_poly6, v_virt7, v_poly7, v_spec0, v_spec1, v_spec2, b_nil, wGet_some, wLdI_some, wLdL_some, wLdA_some, wAI_some, wAL_some, wSI_some, wSLg_some, wLen_b, wLen_i, wLen_l, uI_eq, uI_ne1, uI_ne2, uL_eq, uL_ne1, uL_ne2, uA_ne, uB_ne, ne_eq, Nat.reduceEqDiff, not_false_eq_true, uA_self, uB_self, uA_uA, uB_uB, cl_0, cl_1, cl_2, cl_3, cl_4, cl_5, cl_6, cl_7, cl_8, cl_9, cl_10, cl_11, cl_12, cl_13, cl_14, cl_15, cl_16, nar_b0, nar_b1, nar_i, true_and, eq_self, Nat.reduceAdd, Nat.reduceLeDiff, mG, mS1, mS2, mD1, mCut, mC0, mC2, mWd, Value.category, Option.toList_none, Option.toList_some, List.cons_append, List.nil_append, Option.some.injEq, Value.int.injEq, exists_eq_left']
        exact inner 8 0 u o7 rfl hu
      have hbk := hbyte k (by omega)
      rw [← hb] at hbk
      refine m_blk bk_195_3 cb_195_3 ?_
      simp only [bk_195_3, b_iconst, b_bipush, b_sipush, b_lconst, b_ldc, b_ldc_w, b_ldc2_w, b_getstatic, b_iload, b_iload_n, b_istore, b_istore_n, b_lload, b_lload_n, b_lstore, b_lstore_n, b_aload, b_aload_n, b_astore, b_astore_n, b_iinc, b_iadd, b_isub, b_imul, b_iand, b_ior, b_ixor, b_ishl, b_ishr, b_iushr, b_idiv, b_irem, b_ladd, b_lsub, b_lmul, b_land, b_lor, b_lxor, b_lshl, b_lshr, b_lushr, b_i2l, b_l2i, b_i2b, b_i2c, b_lcmp, b_popI, b_popR, b_dupI, b_dupR, b_dup2, b_ifCond, b_icmp, b_goto, b_tsw, b_ireturn, b_lreturn, b_areturn, b_return, b_getfield, b_iaload, b_baload, b_laload, b_aaload, b_iastore, b_bastore, b_lastore, b_arraylength, c_call0, c_call1, c_call2, c_call3, c_call4, c_call5, c_call6, c_call7, c_call8, b_invokestatic, b_max, b_min, b_copy, b_obj, v_virt0, v_poly0, v_virt1, v_poly1, v_virt2, v_poly2, v_virt3, v_poly3, v_virt4, v_poly4, v_virt5, v_poly5, v_virt6, v_poly6, v_virt7, v_poly7, v_spec0, v_spec1, v_spec2, b_nil, wGet_some, wLdI_some, wLdL_some, wLdA_some, wAI_some, wAL_some, wSI_some, wSLg_some, wLen_b, wLen_i, wLen_l, uI_eq, uI_ne1, uI_ne2, uL_eq, uL_ne1, uL_ne2, uA_ne, uB_ne, ne_eq, Nat.reduceEqDiff, not_false_eq_true, uA_self, uB_self, uA_uA, uB_uB, cl_0, cl_1, cl_2, cl_3, cl_4, cl_5, cl_6, cl_7, cl_8, cl_9, cl_10, cl_11, cl_12, cl_13, cl_14, cl_15, cl_16, nar_b0, nar_b1, nar_i, true_and, eq_self, Nat.reduceAdd, Nat.reduceLeDiff, mG, mS1, mS2, mD1, mCut, mC0, mC2, mWd, Value.category, Option.toList_none, Option.toList_some, List.cons_append, List.nil_append, Option.some.injEq, Value.int.injEq, exists_eq_left']
      refine ⟨fun hc => absurd hc (by rw [show (17 : Int32) = nI 17 from rfl]; exact nI_ge (by omega) (by omega)), fun _ => ?_⟩
      refine m_blk bk_195_10 cb_195_10 ?_
      simp only [bk_195_10, b_iconst, b_bipush, b_sipush, b_lconst, b_ldc, b_ldc_w, b_ldc2_w, b_getstatic, b_iload, b_iload_n, b_istore, b_istore_n, b_lload, b_lload_n, b_lstore, b_lstore_n, b_aload, b_aload_n, b_astore, b_astore_n, b_iinc, b_iadd, b_isub, b_imul, b_iand, b_ior, b_ixor, b_ishl, b_ishr, b_iushr, b_idiv, b_irem, b_ladd, b_lsub, b_lmul, b_land, b_lor, b_lxor, b_lshl, b_lshr, b_lushr, b_i2l, b_l2i, b_i2b, b_i2c, b_lcmp, b_popI, b_popR, b_dupI, b_dupR, b_dup2, b_ifCond, b_icmp, b_goto, b_tsw, b_ireturn, b_lreturn, b_areturn, b_return, b_getfield, b_iaload, b_baload, b_laload, b_aaload, b_iastore, b_bastore, b_lastore, b_arraylength, c_call0, c_call1, c_call2, c_call3, c_call4, c_call5, c_call6, c_call7, c_call8, b_invokestatic, b_max, b_min, b_copy, b_obj, v_virt0, v_poly0, v_virt1, v_poly1, v_virt2, v_poly2, v_virt3, v_poly3, v_virt4, v_poly4, v_virt5, v_poly5, v_virt6, v_poly6, v_virt7, v_poly7, v_spec0, v_spec1, v_spec2, b_nil, wGet_some, wLdI_some, wLdL_some, wLdA_some, wAI_some, wAL_some, wSI_some, wSLg_some, wLen_b, wLen_i, wLen_l, uI_eq, uI_ne1, uI_ne2, uL_eq, uL_ne1, uL_ne2, uA_ne, uB_ne, ne_eq, Nat.reduceEqDiff, not_false_eq_true, uA_self, uB_self, uA_uA, uB_uB, cl_0, cl_1, cl_2, cl_3, cl_4, cl_5, cl_6, cl_7, cl_8, cl_9, cl_10, cl_11, cl_12, cl_13, cl_14, cl_15, cl_16, nar_b0, nar_b1, nar_i, true_and, eq_self, Nat.reduceAdd, Nat.reduceLeDiff, mG, mS1, mS2, mD1, mCut, mC0, mC2, mWd, Value.category, Option.toList_none, Option.toList_some, List.cons_append, List.nil_append, Option.some.injEq, Value.int.injEq, exists_eq_left']
      rw [show (16 : Int32) = nI 16 from rfl, nI_eq (by omega) (by omega)]
      refine ⟨fun hc => ?_, fun hc => ?_⟩
      · rw [if_neg hc] at hbk
        obtain ⟨r1, r2⟩ := hrow k (by omega)
        refine m_blk bk_195_21 cb_195_21 ?_
        simp only [bk_195_21, b_iconst, b_bipush, b_sipush, b_lconst, b_ldc, b_ldc_w, b_ldc2_w, b_getstatic, b_iload, b_iload_n, b_istore, b_istore_n, b_lload, b_lload_n, b_lstore, b_lstore_n, b_aload, b_aload_n, b_astore, b_astore_n, b_iinc, b_iadd, b_isub, b_imul, b_iand, b_ior, b_ixor, b_ishl, b_ishr, b_iushr, b_idiv, b_irem, b_ladd, b_lsub, b_lmul, b_land, b_lor, b_lxor, b_lshl, b_lshr, b_lushr, b_i2l, b_l2i, b_i2b, b_i2c, b_lcmp, b_popI, b_popR, b_dupI, b_dupR, b_dup2, b_ifCond, b_icmp, b_goto, b_tsw, b_ireturn, b_lreturn, b_areturn, b_return, b_getfield, b_iaload, b_baload, b_laload, b_aaload, b_iastore, b_bastore, b_lastore, b_arraylength, c_call0, c_call1, c_call2, c_call3, c_call4, c_call5, c_call6, c_call7, c_call8, b_invokestatic, b_max, b_min, b_copy, b_obj, v_virt0, v_poly0, v_virt1, v_poly1, v_virt2, v_poly2, v_virt3, v_poly3, v_virt4, v_poly4, v_virt5, v_poly5, v_virt6, v_poly6, v_virt7, v_poly7, v_spec0, v_spec1, v_spec2, b_nil, wGet_some, wLdI_some, wLdL_some, wLdA_some, wAI_some, wAL_some, wSI_some, wSLg_some, wLen_b, wLen_i, wLen_l, uI_eq, uI_ne1, uI_ne2, uL_eq, uL_ne1, uL_ne2, uA_ne, uB_ne, ne_eq, Nat.reduceEqDiff, not_false_eq_true, uA_self, uB_self, uA_uA, uB_uB, cl_0, cl_1, cl_2, cl_3, cl_4, cl_5, cl_6, cl_7, cl_8, cl_9, cl_10, cl_11, cl_12, cl_13, cl_14, cl_15, cl_16, nar_b0, nar_b1, nar_i, true_and, eq_self, Nat.reduceAdd, Nat.reduceLeDiff, mG, mS1, mS2, mD1, mCut, mC0, mC2, mWd, Value.category, Option.toList_none, Option.toList_some, List.cons_append, List.nil_append, Option.some.injEq, Value.int.injEq, exists_eq_left']
        rw [nI_leI (by omega) (by omega)]
        refine ⟨fun hd => ?_, fun hd => ?_⟩
        · refine m_blk bk_195_36 cb_195_36 ?_
          simp only [bk_195_36, b_iconst, b_bipush, b_sipush, b_lconst, b_ldc, b_ldc_w, b_ldc2_w, b_getstatic, b_iload, b_iload_n, b_istore, b_istore_n, b_lload, b_lload_n, b_lstore, b_lstore_n, b_aload, b_aload_n, b_astore, b_astore_n, b_iinc, b_iadd, b_isub, b_imul, b_iand, b_ior, b_ixor, b_ishl, b_ishr, b_iushr, b_idiv, b_irem, b_ladd, b_lsub, b_lmul, b_land, b_lor, b_lxor, b_lshl, b_lshr, b_lushr, b_i2l, b_l2i, b_i2b, b_i2c, b_lcmp, b_popI, b_popR, b_dupI, b_dupR, b_dup2, b_ifCond, b_icmp, b_goto, b_tsw, b_ireturn, b_lreturn, b_areturn, b_return, b_getfield, b_iaload, b_baload, b_laload, b_aaload, b_iastore, b_bastore, b_lastore, b_arraylength, c_call0, c_call1, c_call2, c_call3, c_call4, c_call5, c_call6, c_call7, c_call8, b_invokestatic, b_max, b_min, b_copy, b_obj, v_virt0, v_poly0, v_virt1, v_poly1, v_virt2, v_poly2, v_virt3, v_poly3, v_virt4, v_poly4, v_virt5, v_poly5, v_virt6, v_poly6, v_virt7, v_poly7, v_spec0, v_spec1, v_spec2, b_nil, wGet_some, wLdI_some, wLdL_some, wLdA_some, wAI_some, wAL_some, wSI_some, wSLg_some, wLen_b, wLen_i, wLen_l, uI_eq, uI_ne1, uI_ne2, uL_eq, uL_ne1, uL_ne2, uA_ne, uB_ne, ne_eq, Nat.reduceEqDiff, not_false_eq_true, uA_self, uB_self, uA_uA, uB_uB, cl_0, cl_1, cl_2, cl_3, cl_4, cl_5, cl_6, cl_7, cl_8, cl_9, cl_10, cl_11, cl_12, cl_13, cl_14, cl_15, cl_16, nar_b0, nar_b1, nar_i, true_and, eq_self, Nat.reduceAdd, Nat.reduceLeDiff, mG, mS1, mS2, mD1, mCut, mC0, mC2, mWd, Value.category, Option.toList_none, Option.toList_some, List.cons_append, List.nil_append, Option.some.injEq, Value.int.injEq, exists_eq_left']
          exact got 0 (by rw [hbk, r2 hd])
        · obtain ⟨r3, r4⟩ := r1 (by omega)
          refine m_blk bk_195_27 cb_195_27 ?_
          simp only [bk_195_27, b_iconst, b_bipush, b_sipush, b_lconst, b_ldc, b_ldc_w, b_ldc2_w, b_getstatic, b_iload, b_iload_n, b_istore, b_istore_n, b_lload, b_lload_n, b_lstore, b_lstore_n, b_aload, b_aload_n, b_astore, b_astore_n, b_iinc, b_iadd, b_isub, b_imul, b_iand, b_ior, b_ixor, b_ishl, b_ishr, b_iushr, b_idiv, b_irem, b_ladd, b_lsub, b_lmul, b_land, b_lor, b_lxor, b_lshl, b_lshr, b_lushr, b_i2l, b_l2i, b_i2b, b_i2c, b_lcmp, b_popI, b_popR, b_dupI, b_dupR, b_dup2, b_ifCond, b_icmp, b_goto, b_tsw, b_ireturn, b_lreturn, b_areturn, b_return, b_getfield, b_iaload, b_baload, b_laload, b_aaload, b_iastore, b_bastore, b_lastore, b_arraylength, c_call0, c_call1, c_call2, c_call3, c_call4, c_call5, c_call6, c_call7, c_call8, b_invokestatic, b_max, b_min, b_copy, b_obj, v_virt0, v_poly0, v_virt1, v_poly1, v_virt2, v_poly2, v_virt3, v_poly3, v_virt4, v_poly4, v_virt5, v_poly5, v_virt6, v_poly6, v_virt7, v_poly7, v_spec0, v_spec1, v_spec2, b_nil, wGet_some, wLdI_some, wLdL_some, wLdA_some, wAI_some, wAL_some, wSI_some, wSLg_some, wLen_b, wLen_i, wLen_l, uI_eq, uI_ne1, uI_ne2, uL_eq, uL_ne1, uL_ne2, uA_ne, uB_ne, ne_eq, Nat.reduceEqDiff, not_false_eq_true, uA_self, uB_self, uA_uA, uB_uB, cl_0, cl_1, cl_2, cl_3, cl_4, cl_5, cl_6, cl_7, cl_8, cl_9, cl_10, cl_11, cl_12, cl_13, cl_14, cl_15, cl_16, nar_b0, nar_b1, nar_i, true_and, eq_self, Nat.reduceAdd, Nat.reduceLeDiff, mG, mS1, mS2, mD1, mCut, mC0, mC2, mWd, Value.category, Option.toList_none, Option.toList_some, List.cons_append, List.nil_append, Option.some.injEq, Value.int.injEq, exists_eq_left', g_arrI hq, nI_add, nI_clamp (show off + k < 2 ^ 31 by omega), r3]
          refine ⟨vp_in_nI (by omega) (by omega), ?_⟩
          exact got _ hbk.symm
      · have ek : k = 16 := Decidable.not_not.mp hc
        rw [if_pos ek] at hbk
        refine m_blk bk_195_17 cb_195_17 ?_
        simp only [bk_195_17, b_iconst, b_bipush, b_sipush, b_lconst, b_ldc, b_ldc_w, b_ldc2_w, b_getstatic, b_iload, b_iload_n, b_istore, b_istore_n, b_lload, b_lload_n, b_lstore, b_lstore_n, b_aload, b_aload_n, b_astore, b_astore_n, b_iinc, b_iadd, b_isub, b_imul, b_iand, b_ior, b_ixor, b_ishl, b_ishr, b_iushr, b_idiv, b_irem, b_ladd, b_lsub, b_lmul, b_land, b_lor, b_lxor, b_lshl, b_lshr, b_lushr, b_i2l, b_l2i, b_i2b, b_i2c, b_lcmp, b_popI, b_popR, b_dupI, b_dupR, b_dup2, b_ifCond, b_icmp, b_goto, b_tsw, b_ireturn, b_lreturn, b_areturn, b_return, b_getfield, b_iaload, b_baload, b_laload, b_aaload, b_iastore, b_bastore, b_lastore, b_arraylength, c_call0, c_call1, c_call2, c_call3, c_call4, c_call5, c_call6, c_call7, c_call8, b_invokestatic, b_max, b_min, b_copy, b_obj, v_virt0, v_poly0, v_virt1, v_poly1, v_virt2, v_poly2, v_virt3, v_poly3, v_virt4, v_poly4, v_virt5, v_poly5, v_virt6, v_poly6, v_virt7, v_poly7, v_spec0, v_spec1, v_spec2, b_nil, wGet_some, wLdI_some, wLdL_some, wLdA_some, wAI_some, wAL_some, wSI_some, wSLg_some, wLen_b, wLen_i, wLen_l, uI_eq, uI_ne1, uI_ne2, uL_eq, uL_ne1, uL_ne2, uA_ne, uB_ne, ne_eq, Nat.reduceEqDiff, not_false_eq_true, uA_self, uB_self, uA_uA, uB_uB, cl_0, cl_1, cl_2, cl_3, cl_4, cl_5, cl_6, cl_7, cl_8, cl_9, cl_10, cl_11, cl_12, cl_13, cl_14, cl_15, cl_16, nar_b0, nar_b1, nar_i, true_and, eq_self, Nat.reduceAdd, Nat.reduceLeDiff, mG, mS1, mS2, mD1, mCut, mC0, mC2, mWd, Value.category, Option.toList_none, Option.toList_some, List.cons_append, List.nil_append, Option.some.injEq, Value.int.injEq, exists_eq_left']
        exact got 1 hbk.symm
  refine m_met (Nat.le_of_ble_eq_true rfl) ?_
  rw [show mEnt 195 [.ref 130, .ref q, .int (nI off), .int (nI n)] = [some (.ref 130), some (.ref q), some (.int (nI off)), some (.int (nI n)), none, none, none, none] from rfl]
  refine m_blk bk_195_0 cb_195_0 ?_
  simp only [bk_195_0, b_iconst, b_bipush, b_sipush, b_lconst, b_ldc, b_ldc_w, b_ldc2_w, b_getstatic, b_iload, b_iload_n, b_istore, b_istore_n, b_lload, b_lload_n, b_lstore, b_lstore_n, b_aload, b_aload_n, b_astore, b_astore_n, b_iinc, b_iadd, b_isub, b_imul, b_iand, b_ior, b_ixor, b_ishl, b_ishr, b_iushr, b_idiv, b_irem, b_ladd, b_lsub, b_lmul, b_land, b_lor, b_lxor, b_lshl, b_lshr, b_lushr, b_i2l, b_l2i, b_i2b, b_i2c, b_lcmp, b_popI, b_popR, b_dupI, b_dupR, b_dup2, b_ifCond, b_icmp, b_goto, b_tsw, b_ireturn, b_lreturn, b_areturn, b_return, b_getfield, b_iaload, b_baload, b_laload, b_aaload, b_iastore, b_bastore, b_lastore, b_arraylength, c_call0, c_call1, c_call2, c_call3, c_call4, c_call5, c_call6, c_call7, c_call8, b_invokestatic, b_max, b_min, b_copy, b_obj, v_virt0, v_poly0, v_virt1, v_poly1, v_virt2, v_poly2, v_virt3, v_poly3, v_virt4, v_poly4, v_virt5, v_poly5, v_virt6, v_poly6, v_virt7, v_poly7, v_spec0, v_spec1, v_spec2, b_nil, wGet_some, wLdI_some, wLdL_some, wLdA_some, wAI_some, wAL_some, wSI_some, wSLg_some, wLen_b, wLen_i, wLen_l, uI_eq, uI_ne1, uI_ne2, uL_eq, uL_ne1, uL_ne2, uA_ne, uB_ne, ne_eq, Nat.reduceEqDiff, not_false_eq_true, uA_self, uB_self, uA_uA, uB_uB, cl_0, cl_1, cl_2, cl_3, cl_4, cl_5, cl_6, cl_7, cl_8, cl_9, cl_10, cl_11, cl_12, cl_13, cl_14, cl_15, cl_16, nar_b0, nar_b1, nar_i, true_and, eq_self, Nat.reduceAdd, Nat.reduceLeDiff, mG, mS1, mS2, mD1, mCut, mC0, mC2, mWd, Value.category, Option.toList_none, Option.toList_some, List.cons_append, List.nil_append, Option.some.injEq, Value.int.injEq, exists_eq_left']
  have hz : ∀ i, i < 5 → lm5 (T % 2 ^ (8 * 0)) i = 0 := fun i hi => by
    rw [Nat.mul_zero, Nat.pow_zero, Nat.mod_one]
    match i, hi with
    | 0, _ => rfl
    | 1, _ => rfl
    | 2, _ => rfl
    | 3, _ => rfl
    | 4, _ => rfl
  have h0 := bits 17 0 (hl 170) none none none rfl (fun i hi => by rw [hz i hi]; exact hpv i hi)
  rw [uB_id] at h0
  exact h0
end

/-! PART 56: limbs of 16 bits: numbers modulo 2^255 - 19, as the reference has them -/
/-! limbs of 16 bits: the reference's numbers modulo 2^255 - 19 -/
def vN (F : Nat → Int) : Nat → Int
  | 0 => 0
  | n + 1 => vN F n + F n * 65536 ^ n
def v16 (F : Nat → Int) : Int := vN F 16
theorem vN_congr {F G : Nat → Int} : ∀ n, (∀ i, i < n → F i = G i) → vN F n = vN G n
  | 0, _ => rfl
  | n + 1, h => by rw [vN, vN, vN_congr n (fun i hi => h i (by omega)), h n (by omega)]
theorem vN_add (F G : Nat → Int) : ∀ n, vN (fun i => F i + G i) n = vN F n + vN G n
  | 0 => rfl
  | n + 1 => by rw [vN, vN, vN, vN_add F G n, Int.add_mul]; omega
theorem vN_sub (F G : Nat → Int) : ∀ n, vN (fun i => F i - G i) n = vN F n - vN G n
  | 0 => rfl
  | n + 1 => by rw [vN, vN, vN, vN_sub F G n, Int.sub_mul]; omega
theorem vN_mul (c : Int) (F : Nat → Int) : ∀ n, vN (fun i => c * F i) n = c * vN F n
  | 0 => by rw [vN, vN, Int.mul_zero]
  | n + 1 => by rw [vN, vN, vN_mul c F n, Int.mul_add, Int.mul_assoc]
/-- carries -/
def rO (F : Nat → Int) : Nat → Int
  | 0 => 0
  | i + 1 => (F i + rO F i) / 65536
def rD (F : Nat → Int) (i : Nat) : Int := (F i + rO F i) % 65536
def rC (F : Nat → Int) (i : Nat) : Int := if i = 0 then rD F 0 + 38 * rO F 16 else rD F i
theorem vN_rD (F : Nat → Int) : ∀ n, vN F n = vN (rD F) n + rO F n * 65536 ^ n
  | 0 => by simp [vN, rO]
  | n + 1 => by
    rw [vN, vN, vN_rD F n, rO, rD]
    have := Int.emod_add_mul_ediv (F n + rO F n) 65536
    rw [Int.pow_succ]
    grind
theorem rD_b (F : Nat → Int) (i : Nat) : 0 ≤ rD F i ∧ rD F i ≤ 65535 := by unfold rD; omega
theorem vN_b {F : Nat → Int} : ∀ n, (∀ i, i < n → 0 ≤ F i ∧ F i ≤ 65535) → 0 ≤ vN F n ∧ vN F n < 65536 ^ n
  | 0, _ => by simp [vN]
  | n + 1, h => by
    have h1 := vN_b n (fun i hi => h i (by omega))
    have h2 := h n (by omega)
    rw [vN, Int.pow_succ]
    have h3 : 0 ≤ (65536 : Int) ^ n := Int.le_of_lt (Int.pow_pos (by decide))
    have h4 : F n * 65536 ^ n ≤ 65535 * 65536 ^ n := Int.mul_le_mul_of_nonneg_right h2.2 h3
    have h5 : 0 ≤ F n * 65536 ^ n := Int.mul_nonneg h2.1 h3
    omega
theorem p256 : (65536 : Int) ^ 16 = 115792089237316195423570985008687907853269984665640564039457584007913129639936 := by decide
theorem v16_b {F : Nat → Int} (h : ∀ i, i < 16 → 0 ≤ F i ∧ F i ≤ 65535) : 0 ≤ v16 F ∧ v16 F < 115792089237316195423570985008687907853269984665640564039457584007913129639936 := by
  have := vN_b 16 h
  rw [p256] at this
  exact this
theorem v16_rD (F : Nat → Int) : v16 F = v16 (rD F) + rO F 16 * 115792089237316195423570985008687907853269984665640564039457584007913129639936 := by
  have := vN_rD F 16
  rw [p256] at this
  exact this
theorem rO_16 (F : Nat → Int) : rO F 16 = v16 F / 115792089237316195423570985008687907853269984665640564039457584007913129639936 := by
  have h1 := v16_rD F
  have h2 := v16_b (F := rD F) (fun i _ => rD_b F i)
  omega
theorem vN_0 (c : Int) (F : Nat → Int) : ∀ n, vN (fun i => if i = 0 then F 0 + c else F i) (n + 1) = vN F (n + 1) + c
  | 0 => by simp [vN]
  | n + 1 => by
    rw [vN, vN_0 c F n, vN, if_neg (by omega)]
    have e : vN F (n + 1 + 1) = vN F n + F n * 65536 ^ n + F (n + 1) * 65536 ^ (n + 1) := rfl
    rw [e]; omega
theorem v16_rC (F : Nat → Int) : v16 (rC F) = v16 (rD F) + 38 * rO F 16 := by
  have : rC F = fun i => if i = 0 then rD F 0 + 38 * rO F 16 else rD F i := rfl
  rw [this]
  exact vN_0 _ _ 15
theorem rC_cg (F : Nat → Int) : cg (v16 (rC F)) (v16 F) := by
  refine ⟨-(2 * rO F 16), ?_⟩
  have h1 := v16_rD F
  have h2 := v16_rC F
  unfold pP
  omega
/-- what a product leaves -/
def b16 (m : Int) (F : Nat → Int) : Prop := ∀ i, i < 16 → -(m * 65573) ≤ F i ∧ F i ≤ m * 65573
theorem rO_b {F : Nat → Int} {M : Int} (hM : 1 ≤ M) (h : ∀ i, i < 16 → -M ≤ F i ∧ F i ≤ M) : ∀ i, i ≤ 16 → -M ≤ rO F i ∧ rO F i ≤ M
  | 0, _ => by rw [rO]; omega
  | i + 1, hi => by
    have h1 := rO_b hM h i (by omega)
    have h2 := h i (by omega)
    rw [rO]
    omega
/-- two carries bring every limb near 16 bits -/
theorem rCC_b {F : Nat → Int} (h : ∀ i, i < 16 → -1000000000000000 ≤ F i ∧ F i ≤ 1000000000000000) : b16 1 (rC (rC F)) ∧ ∀ i, i < 16 → -100000000000000000 ≤ rC F i ∧ rC F i ≤ 100000000000000000 := by
  have h1 := rO_b (by decide) h 16 (by decide)
  have g : ∀ i, i < 16 → -100000000000000000 ≤ rC F i ∧ rC F i ≤ 100000000000000000 := fun i hi => by
    have := rD_b F i
    unfold rC
    split
    · have := rD_b F 0; omega
    · omega
  refine ⟨fun i hi => ?_, g⟩
  have h2 := v16_rC F
  have h3 := v16_b (F := rD F) (fun i _ => rD_b F i)
  have h4 := rO_16 (rC F)
  have h5 : -1 ≤ rO (rC F) 16 ∧ rO (rC F) 16 ≤ 1 := by rw [h4, h2]; omega
  have := rD_b (rC F) i
  have := rD_b (rC F) 0
  unfold rC
  split <;> (try unfold rC at *) <;> omega
/-- products -/
def bg (A B : Nat → Int) : Nat → Nat → Int
  | 0, _ => 0
  | i + 1, n => bg A B i n + (if i ≤ n ∧ n < i + 16 then A i * B (n - i) else 0)
def fold (H : Nat → Int) (i : Nat) : Int := H i + (if i < 15 then 38 * H (i + 16) else 0)
theorem vN_sh (c : Int) (B : Nat → Int) (i k : Nat) : ∀ m, vN (fun n => if i ≤ n ∧ n < i + k then c * B (n - i) else 0) m = c * 65536 ^ i * vN B (min (m - i) k)
  | 0 => by rw [vN, show min (0 - i) k = 0 by omega, vN, Int.mul_zero]
  | m + 1 => by
    rw [vN, vN_sh c B i k m]
    by_cases h : i ≤ m ∧ m < i + k
    · rw [if_pos h, show min (m - i) k = m - i by omega, show min (m + 1 - i) k = (m - i) + 1 by omega, vN]
      have e : (65536 : Int) ^ m = 65536 ^ i * 65536 ^ (m - i) := by rw [← Int.pow_add]; congr 1; omega
      rw [e]
      grind
    · rw [if_neg h, show min (m + 1 - i) k = min (m - i) k by omega]; omega
theorem vN_z : ∀ n, vN (fun _ => 0) n = 0
  | 0 => rfl
  | n + 1 => by rw [vN, vN_z n]; simp
theorem bg_val (A B : Nat → Int) : ∀ i, i ≤ 16 → vN (bg A B i) 31 = vN A i * vN B 16
  | 0, _ => by
    have : vN (bg A B 0) 31 = vN (fun _ => 0) 31 := vN_congr 31 (fun _ _ => rfl)
    rw [this, vN_z, vN, Int.zero_mul]
  | i + 1, h => by
    have e : vN (bg A B (i + 1)) 31 = vN (fun n => bg A B i n + (if i ≤ n ∧ n < i + 16 then A i * B (n - i) else 0)) 31 := vN_congr 31 (fun _ _ => rfl)
    rw [e, vN_add (bg A B i) (fun n => if i ≤ n ∧ n < i + 16 then A i * B (n - i) else 0), bg_val A B i (by omega), vN_sh, show min (31 - i) 16 = 16 by omega]
    show _ = (vN A i + A i * 65536 ^ i) * vN B 16
    rw [Int.add_mul]
theorem vN_split (F : Nat → Int) (a : Nat) : ∀ b, vN F (a + b) = vN F a + 65536 ^ a * vN (fun i => F (i + a)) b
  | 0 => by simp [vN]
  | b + 1 => by
    rw [← Nat.add_assoc, vN, vN_split F a b, vN, show b + a = a + b by omega, Int.pow_add]
    grind
theorem fold_val (H : Nat → Int) : cg (v16 (fold H)) (vN H 31) := by
  have h1 := vN_split H 16 15
  rw [p256] at h1
  have e : v16 (fold H) = v16 H + vN (fun i => if 0 ≤ i ∧ i < 0 + 15 then 38 * (fun j => H (j + 16)) (i - 0) else 0) 16 := by
    rw [v16, v16, ← vN_add]
    exact vN_congr 16 (fun i _ => by
      unfold fold
      by_cases h : i < 15
      · rw [if_pos h, if_pos (by omega)]; simp
      · rw [if_neg h, if_neg (by omega)])
  rw [vN_sh 38 (fun j => H (j + 16)) 0 15 16, show min (16 - 0) 15 = 15 by decide] at e
  rw [e, h1]
  refine ⟨-(2 * vN (fun i => H (i + 16)) 15), ?_⟩
  unfold pP v16
  simp only [Int.pow_zero, Int.mul_one]
  omega
theorem mulb2 {a b C D : Int} (h1 : -C ≤ a) (h2 : a ≤ C) (h3 : -D ≤ b) (h4 : b ≤ D) : -(C * D) ≤ a * b ∧ a * b ≤ C * D := by
  have hC : 0 ≤ C := by omega
  have hD : 0 ≤ D := by omega
  have : (C - a) * (D - b) ≥ 0 := Int.mul_nonneg (by omega) (by omega)
  have : (C + a) * (D + b) ≥ 0 := Int.mul_nonneg (by omega) (by omega)
  have : (C - a) * (D + b) ≥ 0 := Int.mul_nonneg (by omega) (by omega)
  have : (C + a) * (D - b) ≥ 0 := Int.mul_nonneg (by omega) (by omega)
  constructor <;> grind
theorem bg_b {A B : Nat → Int} (hA : b16 2 A) (hB : b16 2 B) (n : Nat) : ∀ i, i ≤ 16 → -(i * 17199273316) ≤ bg A B i n ∧ bg A B i n ≤ i * 17199273316
  | 0, _ => by rw [bg]; omega
  | i + 1, h => by
    have h1 := bg_b hA hB n i (by omega)
    rw [bg]
    by_cases e : i ≤ n ∧ n < i + 16
    · rw [if_pos e]
      have a1 := hA i (by omega)
      have b1 := hB (n - i) (by omega)
      have := mulb2 a1.1 a1.2 b1.1 b1.2
      omega
    · rw [if_neg e]
      omega
theorem fold_b {A B : Nat → Int} (hA : b16 2 A) (hB : b16 2 B) (i : Nat) : -1000000000000000 ≤ fold (bg A B 16) i ∧ fold (bg A B 16) i ≤ 1000000000000000 := by
  have h1 := bg_b hA hB i 16 (by decide)
  have h2 := bg_b hA hB (i + 16) 16 (by decide)
  unfold fold
  split <;> omega
/-- packing -/
def pd (i : Nat) : Int := if i = 0 then 65517 else if i = 15 then 32767 else 65535
theorem v16_pd : v16 pd = pP := by decide +kernel
def pkF (D : Nat → Int) (i : Nat) : Int := D i - pd i
theorem v16_pkF (D : Nat → Int) : v16 (pkF D) = v16 D - pP := by
  have := vN_sub D pd 16
  rw [← v16_pd]
  exact this
theorem pkF_o {D : Nat → Int} (h : ∀ i, i < 16 → 0 ≤ D i ∧ D i ≤ 65535) : ∀ i, i ≤ 16 → -1 ≤ rO (pkF D) i ∧ rO (pkF D) i ≤ 0
  | 0, _ => by rw [rO]; decide
  | i + 1, hi => by
    have h1 := pkF_o h i (by omega)
    have h2 := h i (by omega)
    have h3 : 0 ≤ pd i ∧ pd i ≤ 65535 := by unfold pd; split <;> (try split) <;> omega
    rw [rO, pkF]
    omega
def pk1 (D : Nat → Int) (i : Nat) : Int := if rO (pkF D) 16 = 0 then rD (pkF D) i else D i
theorem pk1_b {D : Nat → Int} (h : ∀ i, i < 16 → 0 ≤ D i ∧ D i ≤ 65535) (i : Nat) (hi : i < 16) : 0 ≤ pk1 D i ∧ pk1 D i ≤ 65535 := by
  unfold pk1
  split
  · exact rD_b _ i
  · exact h i hi
theorem pk1_v {D : Nat → Int} (h : ∀ i, i < 16 → 0 ≤ D i ∧ D i ≤ 65535) : v16 (pk1 D) = if pP ≤ v16 D then v16 D - pP else v16 D := by
  have h1 := v16_rD (pkF D)
  have h2 := v16_pkF D
  have h3 := pkF_o h 16 (by decide)
  have h4 := v16_b (F := rD (pkF D)) (fun i _ => rD_b _ i)
  by_cases e : rO (pkF D) 16 = 0
  · have : v16 (pk1 D) = v16 (rD (pkF D)) := vN_congr 16 (fun i _ => if_pos e)
    rw [e] at h1
    rw [this, if_pos (by omega)]
    omega
  · have : v16 (pk1 D) = v16 D := vN_congr 16 (fun i _ => if_neg e)
    have e2 : rO (pkF D) 16 = -1 := by omega
    rw [e2] at h1
    rw [this, if_neg (by omega)]
theorem pk2_v {D : Nat → Int} (h : ∀ i, i < 16 → 0 ≤ D i ∧ D i ≤ 65535) : v16 (pk1 (pk1 D)) = v16 D % pP := by
  have h1 := v16_b h
  rw [pk1_v (pk1_b h), pk1_v h]
  unfold pP at *
  split <;> (try split) <;> omega
theorem dig_of {D : Nat → Int} (h : ∀ i, i < 16 → 0 ≤ D i ∧ D i ≤ 65535) {i : Nat} (hi : i < 16) : D i = v16 D / 65536 ^ i % 65536 := by
  have h1 := vN_split D i (16 - i)
  rw [show i + (16 - i) = 16 by omega] at h1
  obtain ⟨m, hm⟩ : ∃ m, 16 - i = 1 + m := ⟨15 - i, by omega⟩
  have h2 := vN_split (fun j => D (j + i)) 1 m
  rw [← hm] at h2
  have h3 : vN (fun j => D (j + i)) 1 = D i := by simp [vN]
  have h4 := vN_b i (fun j hj => h j (by omega))
  rw [h3] at h2
  have h5 : v16 D = vN D i + 65536 ^ i * (D i + 65536 * vN (fun j => D (j + 1 + i)) m) := by
    rw [h2] at h1
    exact h1
  have hp : (0 : Int) < 65536 ^ i := Int.pow_pos (by decide)
  rw [h5, Int.add_mul_ediv_left _ _ (Int.ne_of_gt hp), Int.ediv_eq_zero_of_lt h4.1 h4.2]
  have := h i hi
  omega
theorem dig_nat {D : Nat → Int} (h : ∀ i, i < 16 → 0 ≤ D i ∧ D i ≤ 65535) {i : Nat} (hi : i < 16) : D i = (((v16 D).toNat / 65536 ^ i % 65536 : Nat) : Int) := by
  rw [dig_of h hi]
  have h1 := v16_b h
  obtain ⟨n, hn⟩ : ∃ n : Nat, v16 D = n := ⟨(v16 D).toNat, by omega⟩
  rw [hn, Int.toNat_natCast]
  rw [Int.natCast_emod, Int.natCast_ediv, Int.natCast_pow]
  rfl
theorem byt0 (n i : Nat) : n / 65536 ^ i % 65536 % 256 = n / 256 ^ (2 * i) % 256 := by
  rw [Nat.mod_mod_of_dvd _ (by decide), Nat.pow_mul]
theorem byt1 (n i : Nat) : n / 65536 ^ i % 65536 / 256 = n / 256 ^ (2 * i + 1) % 256 := by
  rw [Nat.pow_succ, ← Nat.div_div_eq_div_mul, Nat.pow_mul, show (256 : Nat) ^ 2 = 65536 from rfl]
  omega
/-- what a product leaves -/
def T16 (F : Nat → Int) : Prop := (∀ i, 0 < i → i < 16 → 0 ≤ F i ∧ F i ≤ 65535) ∧ -38 ≤ F 0 ∧ F 0 ≤ 65573
def dg (D : Nat → Int) : Prop := ∀ i, i < 16 → 0 ≤ D i ∧ D i ≤ 65535
theorem T16_b {F : Nat → Int} (h : T16 F) : b16 1 F := fun i hi => by
  by_cases e : i = 0
  · subst e; have := h.2; omega
  · have := h.1 i (by omega) hi; omega
theorem dg_T {F : Nat → Int} (h : dg F) : T16 F := ⟨fun i _ hi => h i hi, by have := h 0 (by decide); omega⟩
theorem b16_12 {F : Nat → Int} (h : b16 1 F) : b16 2 F := fun i hi => by have := h i hi; omega
theorem b16_add {F G : Nat → Int} (h : b16 1 F) (h' : b16 1 G) : b16 2 (fun i => F i + G i) := fun i hi => by have := h i hi; have := h' i hi; simp only; omega
theorem b16_sub {F G : Nat → Int} (h : b16 1 F) (h' : b16 1 G) : b16 2 (fun i => F i - G i) := fun i hi => by have := h i hi; have := h' i hi; simp only; omega
theorem rCC_T {F : Nat → Int} (h : ∀ i, i < 16 → -1000000000000000 ≤ F i ∧ F i ≤ 1000000000000000) : T16 (rC (rC F)) := by
  have h1 := rO_b (by decide) h 16 (by decide)
  have h2 := v16_rC F
  have h3 := v16_b (F := rD F) (fun i _ => rD_b F i)
  have h4 := rO_16 (rC F)
  have h5 : -1 ≤ rO (rC F) 16 ∧ rO (rC F) 16 ≤ 1 := by rw [h4, h2]; omega
  refine ⟨fun i h0 hi => ?_, ?_⟩
  · have := rD_b (rC F) i
    rw [rC, if_neg (by omega)]
    exact this
  · have := rD_b (rC F) 0
    rw [rC, if_pos rfl]
    omega
theorem T16_v {F : Nat → Int} (h : T16 F) : -38 ≤ v16 F ∧ v16 F ≤ 115792089237316195423570985008687907853269984665640564039457584007913129639936 + 37 := by
  have e : v16 F = v16 (fun i => if i = 0 then 65535 else F i) + (F 0 - 65535) := by
    have e1 : v16 F = v16 (fun i => if i = 0 then (fun i => if i = 0 then 65535 else F i) 0 + (F 0 - 65535) else (fun i => if i = 0 then 65535 else F i) i) := vN_congr 16 (fun i _ => by
      by_cases e : i = 0
      · subst e; simp; omega
      · simp [e])
    rw [e1]
    exact vN_0 _ _ 15
  have e' : v16 F = v16 (fun i => if i = 0 then 0 else F i) + F 0 := by
    have e1 : v16 F = v16 (fun i => if i = 0 then (fun i => if i = 0 then 0 else F i) 0 + F 0 else (fun i => if i = 0 then 0 else F i) i) := vN_congr 16 (fun i _ => by
      by_cases e : i = 0
      · subst e; simp
      · simp [e])
    rw [e1]
    exact vN_0 _ _ 15
  have b1 := v16_b (F := fun i => if i = 0 then 65535 else F i) (fun i hi => by
    by_cases z : i = 0
    · simp [z]
    · simp only [if_neg z]; exact h.1 i (by omega) hi)
  have b2 := v16_b (F := fun i => if i = 0 then 0 else F i) (fun i hi => by
    by_cases z : i = 0
    · simp [z]
    · simp only [if_neg z]; exact h.1 i (by omega) hi)
  have := h.2
  omega
theorem rC_dg {F : Nat → Int} (h : T16 F) : dg (rC F) := by
  have h1 := T16_v h
  have h2 := v16_rD F
  have h3 := v16_b (F := rD F) (fun i _ => rD_b F i)
  have h4 := dig_of (D := rD F) (fun i _ => rD_b F i) (i := 0) (by decide)
  simp only [Int.pow_zero, Int.ediv_one] at h4
  intro i hi
  have h5 := rD_b F i
  have h6 := rD_b F 0
  unfold rC
  split
  · omega
  · exact h5
theorem dg_rO {F : Nat → Int} (h : dg F) : ∀ i, i ≤ 16 → rO F i = 0
  | 0, _ => rfl
  | i + 1, hi => by
    have := h i (by omega)
    rw [rO, dg_rO h i (by omega)]
    omega
theorem dg_rC {F : Nat → Int} (h : dg F) {i : Nat} (hi : i < 16) : rC F i = F i := by
  have h1 := h i hi
  have h2 := h 0 (by decide)
  have h3 := dg_rO h 16 (by decide)
  have h4 := dg_rO h i (by omega)
  unfold rC rD
  rw [h3, h4]
  split
  · rename_i e; subst e; rw [show rO F 0 = 0 from rfl]; omega
  · omega

/-! PART 35: the block cipher's pure side: bytes, words of four bytes, key stretching, rounds -/
def sbxL : List Nat := [99, 124, 119, 123, 242, 107, 111, 197, 48, 1, 103, 43, 254, 215, 171, 118, 202, 130, 201, 125, 250, 89, 71, 240, 173, 212, 162, 175, 156, 164, 114, 192, 183, 253, 147, 38, 54, 63, 247, 204, 52, 165, 229, 241, 113, 216, 49, 21, 4, 199, 35, 195, 24, 150, 5, 154, 7, 18, 128, 226, 235, 39, 178, 117, 9, 131, 44, 26, 27, 110, 90, 160, 82, 59, 214, 179, 41, 227, 47, 132, 83, 209, 0, 237, 32, 252, 177, 91, 106, 203, 190, 57, 74, 76, 88, 207, 208, 239, 170, 251, 67, 77, 51, 133, 69, 249, 2, 127, 80, 60, 159, 168, 81, 163, 64, 143, 146, 157, 56, 245, 188, 182, 218, 33, 16, 255, 243, 210, 205, 12, 19, 236, 95, 151, 68, 23, 196, 167, 126, 61, 100, 93, 25, 115, 96, 129, 79, 220, 34, 42, 144, 136, 70, 238, 184, 20, 222, 94, 11, 219, 224, 50, 58, 10, 73, 6, 36, 92, 194, 211, 172, 98, 145, 149, 228, 121, 231, 200, 55, 109, 141, 213, 78, 169, 108, 86, 244, 234, 101, 122, 174, 8, 186, 120, 37, 46, 28, 166, 180, 198, 232, 221, 116, 31, 75, 189, 139, 138, 112, 62, 181, 102, 72, 3, 246, 14, 97, 53, 87, 185, 134, 193, 29, 158, 225, 248, 152, 17, 105, 217, 142, 148, 155, 30, 135, 233, 206, 85, 40, 223, 140, 161, 137, 13, 191, 230, 66, 104, 65, 153, 45, 15, 176, 84, 187, 22]
def sbx (i : Nat) : Nat := sbxL.getD i 0
def xt (b : Nat) : Nat := if b < 128 then 2 * b else (2 * b) ^^^ 283
def rc : Nat → Nat
  | 0 => 1
  | n + 1 => xt (rc n)
set_option maxRecDepth 100000 in
theorem sbx_lt (i : Nat) : sbx i < 256 := by
  by_cases h : i < 256
  · have : ∀ i : Fin 256, sbx i.val < 256 := by decide +kernel
    exact this ⟨i, h⟩
  · have hl : sbxL.length = 256 := by decide +kernel
    unfold sbx
    rw [List.getD_eq_getElem?_getD, List.getElem?_eq_none (by omega)]
    decide
theorem nxl (a b c : Nat) : a ^^^ (b ^^^ c) = b ^^^ (a ^^^ c) := by rw [← Nat.xor_assoc, Nat.xor_comm a b, Nat.xor_assoc]
theorem nxs (a b : Nat) : a ^^^ (a ^^^ b) = b := by rw [← Nat.xor_assoc, Nat.xor_self, Nat.zero_xor]
theorem xor256 {a b : Nat} (h : a < 256) (h' : b < 256) : a ^^^ b < 256 := Nat.xor_lt_two_pow (n := 8) h h'
theorem xt_lt {b : Nat} (h : b < 256) : xt b < 256 := by
  have : ∀ b : Fin 256, xt b.val < 256 := by decide +kernel
  exact this ⟨b, h⟩
theorem two_xor (a b : Nat) : 2 * (a ^^^ b) = (2 * a) ^^^ (2 * b) := by
  have := Nat.shiftLeft_xor_distrib (a := a) (b := b) (i := 1)
  simpa [Nat.shiftLeft_eq, Nat.mul_comm] using this
theorem ge128 {a : Nat} (h : a < 256) : (128 ≤ a) ↔ a.testBit 7 = true := by
  have : ∀ a : Fin 256, (128 ≤ a.val) ↔ a.val.testBit 7 = true := by decide +kernel
  exact this ⟨a, h⟩
theorem xt_alt {b : Nat} (h : b < 256) : xt b = (2 * b) ^^^ (if b.testBit 7 then 283 else 0) := by
  have h1 := ge128 h
  unfold xt
  by_cases c : b < 128
  · rw [if_pos c, if_neg (fun z => by have := h1.mpr z; omega), Nat.xor_zero]
  · rw [if_neg c, if_pos (h1.mp (by omega))]
theorem xt_xor {a b : Nat} (h : a < 256) (h' : b < 256) : xt (a ^^^ b) = xt a ^^^ xt b := by
  rw [xt_alt (xor256 h h'), xt_alt h, xt_alt h', two_xor, Nat.testBit_xor]
  cases a.testBit 7 <;> cases b.testBit 7 <;> simp [Nat.xor_assoc, Nat.xor_comm, nxl, nxs]
/-! words of four bytes -/
def be4 (a b c d : Nat) : Nat := ((a * 256 + b) * 256 + c) * 256 + d
theorem be4_lt {a b c d : Nat} (h1 : a < 256) (h2 : b < 256) (h3 : c < 256) (h4 : d < 256) : be4 a b c d < 2 ^ 32 := by unfold be4; omega
theorem xor_cat {x y x' y' : Nat} (h : y < 256) (h' : y' < 256) : (x * 256 + y) ^^^ (x' * 256 + y') = (x ^^^ x') * 256 + (y ^^^ y') := by
  apply Nat.eq_of_testBit_eq
  intro i
  rw [Nat.testBit_xor, Nat.mul_comm x, Nat.mul_comm x', Nat.mul_comm (x ^^^ x')]
  rw [show (256 : Nat) = 2 ^ 8 from rfl, Nat.testBit_two_pow_mul_add _ h, Nat.testBit_two_pow_mul_add _ h', Nat.testBit_two_pow_mul_add _ (xor256 h h')]
  split
  · rw [Nat.testBit_xor]
  · rw [Nat.testBit_xor]
theorem be4_xor {a b c d a' b' c' d' : Nat} (h2 : b < 256) (h3 : c < 256) (h4 : d < 256) (g2 : b' < 256) (g3 : c' < 256) (g4 : d' < 256) : be4 a b c d ^^^ be4 a' b' c' d' = be4 (a ^^^ a') (b ^^^ b') (c ^^^ c') (d ^^^ d') := by
  unfold be4
  rw [xor_cat h4 g4, xor_cat h3 g3, xor_cat h2 g2]
theorem or_cat {x y k : Nat} (h : y < 2 ^ k) : x * 2 ^ k ||| y = x * 2 ^ k + y := by
  rw [← Nat.shiftLeft_eq]; exact (Nat.shiftLeft_add_eq_or_of_lt h x).symm
theorem be4_or {a b c d : Nat} (h2 : b < 256) (h3 : c < 256) (h4 : d < 256) : a * 2 ^ 24 ||| b * 2 ^ 16 ||| c * 2 ^ 8 ||| d = be4 a b c d := by
  unfold be4
  rw [or_cat (k := 24) (show b * 2 ^ 16 < 2 ^ 24 by omega)]
  rw [show a * 2 ^ 24 + b * 2 ^ 16 = (a * 256 + b) * 2 ^ 16 by omega, or_cat (k := 16) (show c * 2 ^ 8 < 2 ^ 16 by omega)]
  rw [show (a * 256 + b) * 2 ^ 16 + c * 2 ^ 8 = ((a * 256 + b) * 256 + c) * 2 ^ 8 by omega, or_cat (k := 8) (show d < 2 ^ 8 by omega)]
/-! key stretching, in bytes -/
def rkS (sz : Nat) (f : Nat → Nat) (i k : Nat) : Nat :=
  f (4 * i - sz + k) ^^^ ((if 4 * i % sz = 0 ∨ (sz = 32 ∧ i % 8 = 4) then sbx (f (4 * i - 4 + (if 4 * i % sz = 0 then (k + 1) % 4 else k))) else f (4 * i - 4 + k)) ^^^ (if 4 * i % sz = 0 ∧ k = 0 then rc (i / (sz / 4) - 1) else 0))
def rkN (sz : Nat) (ks : List Nat) : Nat → Nat → Nat
  | 0, j => ks.getD j 0
  | n + 1, j => if j / 4 = sz / 4 + n then rkS sz (rkN sz ks n) (sz / 4 + n) (j % 4) else rkN sz ks n j
def rnds (sz : Nat) : Nat := sz / 4 + 6
def rkey (ks : List Nat) (sz : Nat) : Nat → Nat := rkN sz ks (4 * rnds sz + 4 - sz / 4)
theorem rkN_lt (sz : Nat) {ks : List Nat} (h : ∀ i, ks.getD i 0 < 256) (hsz : sz = 16 ∨ sz = 32) : ∀ n j, n ≤ 60 → rkN sz ks n j < 256
  | 0, j, _ => h j
  | n + 1, j, hn => by
    rw [rkN]
    split
    · rw [rkS]
      refine xor256 (rkN_lt sz h hsz n _ (by omega)) (xor256 ?_ ?_)
      · split
        · exact sbx_lt _
        · exact rkN_lt sz h hsz n _ (by omega)
      · split
        · have : ∀ n : Fin 64, rc n.val < 256 := by decide +kernel
          refine this ⟨(sz / 4 + n) / (sz / 4) - 1, ?_⟩
          rcases hsz with e | e <;> subst e <;> omega
        · decide
    · exact rkN_lt sz h hsz n j (by omega)
/-- a byte once there is kept -/
theorem rkN_keep (sz : Nat) (ks : List Nat) {n j : Nat} (h : j / 4 < sz / 4 + n) : ∀ m, rkN sz ks (n + m) j = rkN sz ks n j
  | 0 => rfl
  | m + 1 => by
    rw [← Nat.add_assoc, rkN]
    rw [if_neg (by omega), rkN_keep sz ks h m]
/-! rounds -/
def ark (rk : Nat → Nat) (r : Nat) (s : Nat → Nat) : Nat → Nat := fun i => s i ^^^ rk (16 * r + i)
def srS (s : Nat → Nat) : Nat → Nat := fun i => sbx (s ((i + 4 * (i % 4)) % 16))
def mcF (m : Nat → Nat) : Nat → Nat := fun i => m i ^^^ (m (4 * (i / 4)) ^^^ m (4 * (i / 4) + 1) ^^^ m (4 * (i / 4) + 2) ^^^ m (4 * (i / 4) + 3)) ^^^ xt (m i ^^^ m (4 * (i / 4) + (i + 1) % 4))
def encN (rk : Nat → Nat) (R : Nat) (s : Nat → Nat) : Nat → Nat → Nat
  | 0 => ark rk 0 s
  | n + 1 => ark rk (n + 1) (if n + 1 < R then mcF (srS (encN rk R s n)) else srS (encN rk R s n))
def enc (ks : List Nat) (sz : Nat) (s : Nat → Nat) : Nat → Nat := encN (rkey ks sz) (rnds sz) s (rnds sz)

/-! PART 19: the hash as a function on lists of bytes -/
def kb (w : Bool) : Nat := if w then 8 else 4
def kL (w : Bool) : Nat := 16 * kb w
def wVal (bs : List Nat) : Nat := bs.foldl (fun v b => v * 256 + b) 0
def blkW (w : Bool) (bs : List Nat) (t : Nat) : Int64 := lN (wVal ((bs.drop (t * kb w)).take (kb w)))
def st0 (w : Bool) (i : Nat) : Int64 := if w then st_0.getD i 0 else lsr (st_0.getD i 0) 32
def cmpr (w : Bool) (s : Nat → Int64) (f : Nat → Int64) : Nat → Int64 := kAdd w s (kRnds w (kStr w (kR w - 16) f) (kR w) (tup s))
def shaN (w : Bool) (xs : List Nat) : Nat → Nat → Int64
  | 0 => st0 w
  | n + 1 => cmpr w (shaN w xs n) (blkW w ((xs.drop (n * kL w)).take (kL w)))
theorem kStr_congr (w : Bool) {f g : Nat → Int64} (h : ∀ t, t < 16 → f t = g t) : ∀ n t, t < 16 + n → kStr w n f t = kStr w n g t
  | 0, t, ht => h t ht
  | n + 1, t, ht => by
    have ih := kStr_congr w h n
    simp only [kStr, vp_updL]
    by_cases e : t = 16 + n
    · subst e
      simp only [if_true, kNext]
      rw [ih (16 + n - 2) (by omega), ih (16 + n - 7) (by omega), ih (16 + n - 15) (by omega), ih (16 + n - 16) (by omega)]
    · rw [if_neg e, if_neg e]
      exact ih t (by omega)
theorem kRnds_congr (w : Bool) {f g : Nat → Int64} (q : Int64 × Int64 × Int64 × Int64 × Int64 × Int64 × Int64 × Int64) : ∀ n, (∀ t, t < n → f t = g t) → kRnds w f n q = kRnds w g n q
  | 0, _ => rfl
  | n + 1, h => by
    rw [kRnds, kRnds, kRnds_congr w q n (fun t ht => h t (by omega)), kRnd, kRnd, h n (by omega)]
theorem kAdd_congr (w : Bool) {s s' : Nat → Int64} (h : ∀ i, i < 8 → s i = s' i) (q : Int64 × Int64 × Int64 × Int64 × Int64 × Int64 × Int64 × Int64) : ∀ i, i < 8 → kAdd w s q i = kAdd w s' q i := by
  intro i hi
  obtain ⟨a, b, c, d, e, f, g, hh⟩ := q
  match i, hi with
  | 0, _ => simp only [kAdd]; rw [h 0 (by decide)]
  | 1, _ => simp only [kAdd]; rw [h 1 (by decide)]
  | 2, _ => simp only [kAdd]; rw [h 2 (by decide)]
  | 3, _ => simp only [kAdd]; rw [h 3 (by decide)]
  | 4, _ => simp only [kAdd]; rw [h 4 (by decide)]
  | 5, _ => simp only [kAdd]; rw [h 5 (by decide)]
  | 6, _ => simp only [kAdd]; rw [h 6 (by decide)]
  | 7, _ => simp only [kAdd]; rw [h 7 (by decide)]
theorem tup_congr {s s' : Nat → Int64} (h : ∀ i, i < 8 → s i = s' i) : tup s = tup s' := by
  simp only [tup]
  rw [h 0 (by decide), h 1 (by decide), h 2 (by decide), h 3 (by decide), h 4 (by decide), h 5 (by decide), h 6 (by decide), h 7 (by decide)]
theorem kR_ok (w : Bool) : 16 ≤ kR w ∧ kR w ≤ 80 := by cases w <;> decide
theorem cmpr_congr (w : Bool) {s s' f f' : Nat → Int64} (hs : ∀ i, i < 8 → s i = s' i) (hf : ∀ t, t < 16 → f t = f' t) : ∀ i, i < 8 → cmpr w s f i = cmpr w s' f' i := by
  intro i hi
  unfold cmpr
  rw [tup_congr hs, kRnds_congr w _ (kR w) (fun t ht => kStr_congr w hf (kR w - 16) t (by have := kR_ok w; omega))]
  exact kAdd_congr w hs _ i hi
theorem kb_ok (w : Bool) : 0 < kb w ∧ kb w ≤ 8 := by cases w <;> decide
theorem kL_ok (w : Bool) : 0 < kL w ∧ kL w ≤ 128 := by cases w <;> decide
theorem shaN_app (w : Bool) (xs ys : List Nat) : ∀ n, n * kL w ≤ xs.length → shaN w (xs ++ ys) n = shaN w xs n
  | 0, _ => rfl
  | n + 1, h => by
    have e : (n + 1) * kL w = n * kL w + kL w := Nat.succ_mul _ _
    rw [shaN, shaN, shaN_app w xs ys n (by omega), List.drop_append_of_le_length (by omega), List.take_append_of_le_length (by rw [List.length_drop]; omega)]
theorem wVal_app (bs : List Nat) (b : Nat) : wVal (bs ++ [b]) = wVal bs * 256 + b := by simp [wVal]
theorem wVal_ltA : ∀ (bs : List Nat) (acc : Nat), (∀ b ∈ bs, b < 256) → bs.foldl (fun v b => v * 256 + b) acc < (acc + 1) * 256 ^ bs.length
  | [], acc, _ => by simp
  | b :: bs, acc, h => by
    have h1 := wVal_ltA bs (acc * 256 + b) (fun x hx => h x (List.mem_cons_of_mem _ hx))
    have h2 := h b List.mem_cons_self
    have h3 : (acc * 256 + b + 1) * 256 ^ bs.length ≤ ((acc + 1) * 256) * 256 ^ bs.length := Nat.mul_le_mul_right _ (by omega)
    rw [List.foldl_cons, List.length_cons, Nat.pow_succ]
    have h4 : (acc + 1) * (256 ^ bs.length * 256) = ((acc + 1) * 256) * 256 ^ bs.length := by rw [Nat.mul_comm (256 ^ bs.length) 256, Nat.mul_assoc]
    omega
theorem wVal_lt (bs : List Nat) (h : ∀ b ∈ bs, b < 256) : wVal bs < 256 ^ bs.length := by
  have := wVal_ltA bs 0 h
  simpa [wVal] using this
/-! the words of a block as bytes come in -/
def tkI (w : Bool) (F : Nat → Int64) (pend : List Nat) : Prop := ∀ p, p < 16 → uN (F p) % 256 ^ ((pend.drop (p * kb w)).take (kb w)).length = wVal ((pend.drop (p * kb w)).take (kb w)) ∧ ((pend.drop (p * kb w)).take (kb w) ≠ [] → uN (F p) < 256 ^ kb w)
theorem uN_and (x y : Int64) : uN (x &&& y) = uN x &&& uN y := by
  show (x &&& y).toBitVec.toNat = _
  rw [Int64.toBitVec_and, BitVec.toNat_and]; rfl
theorem uN_orr (x y : Int64) : uN (x ||| y) = uN x ||| uN y := by
  show (x ||| y).toBitVec.toNat = _
  rw [Int64.toBitVec_or, BitVec.toNat_or]; rfl
theorem uN_lN {n : Nat} (h : n < 2 ^ 64) : uN (lN n) = n := lN_nat h
theorem lN_uN (x : Int64) : lN (uN x) = x := uN_inj (by rw [uN_lN (uN_lt x)])
theorem uN_lsl8 (x : Int64) : uN (lsl x 8) = uN x * 256 % 2 ^ 64 := by
  have h := wb_shl (uN x) (k := 8) (by decide)
  rw [lN_uN] at h
  have e : lsl x 8 = lN (uN x * 2 ^ 8) := h
  rw [e, wb_mod, uN_lN (Nat.mod_lt _ (by decide))]
theorem uN_b255 (b : Int32) : uN (b &&& 255).toInt64 = by8 b := by
  have e : b &&& 255 = nI (by8 b) := by
    rw [pk_and b 8 (by decide)]; rfl
  have h := by8_lt b
  rw [e, nI_l (by omega), uN_lN (by omega)]
theorem tk_val (w : Bool) (x : Int64) (b : Int32) : uN ((lsl x 8 ||| (b &&& 255).toInt64) &&& kM w) = (uN x * 256 + by8 b) % 256 ^ kb w := by
  have h := by8_lt b
  have e0 : uN x * 256 % 2 ^ 64 = (uN x % 2 ^ 56) * 256 := by omega
  have e1 : uN (lsl x 8 ||| (b &&& 255).toInt64) = uN x * 256 % 2 ^ 64 + by8 b := by
    rw [uN_orr, uN_lsl8, uN_b255, e0]
    have := Nat.shiftLeft_add_eq_or_of_lt (b := by8 b) (i := 8) h (uN x % 2 ^ 56)
    rw [Nat.shiftLeft_eq] at this
    exact this.symm
  rw [uN_and, e1]
  cases w
  · have em : uN (kM false) = 2 ^ 32 - 1 := by decide
    rw [em, Nat.and_two_pow_sub_one_eq_mod]
    show _ = _ % 256 ^ 4
    omega
  · have em : uN (kM true) = 2 ^ 64 - 1 := by decide
    rw [em, Nat.and_two_pow_sub_one_eq_mod]
    show _ = _ % 256 ^ 8
    omega
theorem tk_mod (x b c : Nat) (hb : b < 256) : (x * 256 + b) % 256 ^ (c + 1) = (x % 256 ^ c) * 256 + b := by
  rw [Nat.pow_succ, Nat.mul_comm (256 ^ c) 256, Nat.mod_mul]
  have h1 : (x * 256 + b) % 256 = b := by omega
  have h2 : (x * 256 + b) / 256 = x := by omega
  rw [h1, h2]; omega
theorem tk_step (w : Bool) {F : Nat → Int64} {pend : List Nat} (b : Int32) (hl : pend.length < kL w) (h : tkI w F pend) : tkI w (vp_updL F (pend.length / kb w) ((lsl (F (pend.length / kb w)) 8 ||| (b &&& 255).toInt64) &&& kM w)) (pend ++ [by8 b]) := by
  have hk := kb_ok w
  have h8 := by8_lt b
  intro p hp
  obtain ⟨h1, h2⟩ := h p hp
  have hdm := Nat.div_add_mod pend.length (kb w)
  have hml := Nat.mod_lt pend.length hk.1
  have hpl : pend.length / kb w < 16 := Nat.div_lt_of_lt_mul (by unfold kL at hl; rw [Nat.mul_comm]; exact hl)
  rcases Nat.lt_trichotomy p (pend.length / kb w) with hlt | heq | hgt
  · have hle : p * kb w + kb w ≤ pend.length := by
      have : (p + 1) * kb w ≤ (pend.length / kb w) * kb w := Nat.mul_le_mul_right _ hlt
      rw [Nat.succ_mul] at this
      rw [Nat.mul_comm] at hdm
      omega
    rw [List.drop_append_of_le_length (by omega), List.take_append_of_le_length (by rw [List.length_drop]; omega), vp_updL, if_neg (by omega)]
    exact ⟨h1, h2⟩
  · subst heq
    have hpm : pend.length / kb w * kb w = pend.length - pend.length % kb w := by rw [Nat.mul_comm]; omega
    have hbs : ((pend ++ [by8 b]).drop (pend.length / kb w * kb w)).take (kb w) = (pend.drop (pend.length / kb w * kb w)).take (kb w) ++ [by8 b] := by
      rw [List.drop_append_of_le_length (by omega), List.take_of_length_le (by rw [List.length_append, List.length_drop, List.length_singleton]; omega), List.take_of_length_le (by rw [List.length_drop]; omega)]
    have hlen : ((pend.drop (pend.length / kb w * kb w)).take (kb w)).length = pend.length % kb w := by rw [List.length_take, List.length_drop]; omega
    rw [hbs, List.length_append, List.length_singleton, wVal_app, vp_updL, if_pos rfl, tk_val, hlen]
    rw [hlen] at h1
    refine ⟨?_, fun _ => Nat.mod_lt _ (Nat.pow_pos (by decide))⟩
    rw [Nat.mod_mod_of_dvd _ (Nat.pow_dvd_pow 256 (by omega)), tk_mod _ _ _ h8, h1]
  · have hge : pend.length + 1 ≤ p * kb w := by
      have : (pend.length / kb w + 1) * kb w ≤ p * kb w := Nat.mul_le_mul_right _ hgt
      rw [Nat.succ_mul] at this
      rw [Nat.mul_comm] at hdm
      omega
    have e : (pend ++ [by8 b]).drop (p * kb w) = [] := List.drop_of_length_le (by rw [List.length_append, List.length_singleton]; omega)
    rw [e, List.take_nil]
    exact ⟨by simp [wVal, Nat.mod_one], fun z => absurd rfl z⟩
theorem tk_full (w : Bool) {F : Nat → Int64} {pend : List Nat} (hl : pend.length = kL w) (h : tkI w F pend) : ∀ t, t < 16 → F t = blkW w pend t := by
  intro t ht
  have hk := kb_ok w
  obtain ⟨h1, h2⟩ := h t ht
  have hlen : ((pend.drop (t * kb w)).take (kb w)).length = kb w := by
    have : (t + 1) * kb w ≤ 16 * kb w := Nat.mul_le_mul_right _ ht
    rw [Nat.succ_mul] at this
    rw [List.length_take, List.length_drop]
    unfold kL at hl
    omega
  have hne : (pend.drop (t * kb w)).take (kb w) ≠ [] := by
    intro z
    rw [z] at hlen
    simp at hlen
    omega
  rw [hlen, Nat.mod_eq_of_lt (h2 hne)] at h1
  unfold blkW
  rw [← h1, lN_uN]
theorem tk_nil (w : Bool) (F : Nat → Int64) : tkI w F [] := by
  intro p _
  simp [wVal, Nat.mod_one]

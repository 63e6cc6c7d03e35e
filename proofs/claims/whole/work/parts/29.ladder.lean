/-! PART 29: KeySealer$Curve: bytes to limbs and back, the ladder -/
def exL (j : Nat) : Nat := 51 * (j / 2) + 26 * (j % 2)
def wdL (j : Nat) : Nat := 26 - j % 2
theorem exL_s (j : Nat) : exL (j + 1) = exL j + wdL j := by unfold exL wdL; omega
def leV : List Nat → Nat
  | [] => 0
  | b :: bs => b + 256 * leV bs
def leB (n W : Nat) : List Nat := (List.range n).map fun i => W / 256 ^ i % 256
def lmb (V j : Nat) : Nat := V / 2 ^ exL j % 2 ^ wdL j
theorem leV_lt : ∀ (bs : List Nat), (∀ b ∈ bs, b < 256) → leV bs < 256 ^ bs.length
  | [], _ => by simp [leV]
  | b :: bs, h => by
    have h1 := leV_lt bs (fun x hx => h x (by simp [hx]))
    have h2 := h b (by simp)
    rw [leV, List.length_cons, Nat.pow_succ]
    omega
theorem leV_at : ∀ (bs : List Nat) (i : Nat), (∀ b ∈ bs, b < 256) → leV bs / 256 ^ i % 256 = bs.getD i 0
  | [], i, _ => by simp [leV]
  | b :: bs, 0, h => by
    have h2 := h b (by simp)
    rw [leV, Nat.pow_zero, Nat.div_one, List.getD_cons_zero]
    omega
  | b :: bs, i + 1, h => by
    have h2 := h b (by simp)
    rw [leV, Nat.pow_succ, Nat.mul_comm (256 ^ i) 256, ← Nat.div_div_eq_div_mul, show (b + 256 * leV bs) / 256 = leV bs by omega, leV_at bs i (fun x hx => h x (by simp [hx])), List.getD_cons_succ]
/-- the kept bits -/
def kp (V a b : Nat) : Nat := V % 2 ^ a / 2 ^ b
theorem kp_lt (V : Nat) {a b : Nat} (h : b ≤ a) : kp V a b < 2 ^ (a - b) := by
  unfold kp
  apply (Nat.div_lt_iff_lt_mul (Nat.two_pow_pos _)).mpr
  rw [← Nat.pow_add, show a - b + b = a by omega]
  exact Nat.mod_lt _ (Nat.two_pow_pos _)
theorem kp_x (V c : Nat) {a b : Nat} (h : b ≤ a) : kp V a b + V / 2 ^ a % 2 ^ c * 2 ^ (a - b) = kp V (a + c) b := by
  unfold kp
  rw [Nat.pow_add, Nat.mod_mul]
  rw [show 2 ^ a * (V / 2 ^ a % 2 ^ c) = 2 ^ b * (2 ^ (a - b) * (V / 2 ^ a % 2 ^ c)) by rw [← Nat.mul_assoc, ← Nat.pow_add, show b + (a - b) = a by omega]]
  rw [Nat.add_mul_div_left _ _ (Nat.two_pow_pos b), Nat.mul_comm (2 ^ (a - b))]
theorem kp_l (V : Nat) {a b w : Nat} (h : b + w ≤ a) : kp V a b % 2 ^ w = V / 2 ^ b % 2 ^ w := by
  unfold kp
  rw [show a = b + (a - b) by omega, Nat.pow_add, Nat.mod_mul_right_div_self, Nat.mod_mod_of_dvd]
  exact Nat.pow_dvd_pow 2 (by omega)
theorem kp_s (V a b w : Nat) : kp V a b / 2 ^ w = kp V a (b + w) := by
  unfold kp
  rw [Nat.div_div_eq_div_mul, ← Nat.pow_add]
theorem lmb_sum (V : Nat) : lmb V 0 + lmb V 1 * 67108864 + lmb V 2 * 2251799813685248 + lmb V 3 * 151115727451828646838272 + lmb V 4 * 5070602400912917605986812821504 + lmb V 5 * 340282366920938463463374607431768211456 + lmb V 6 * 11417981541647679048466287755595961091061972992 + lmb V 7 * 766247770432944429179173513575154591809369561091801088 + lmb V 8 * 25711008708143844408671393477458601640355247900524685364822016 + lmb V 9 * 1725436586697640946858688965569256363112777243042596638790631055949824 = V % 2 ^ 255 := by
  have e : ∀ j, V / 2 ^ exL (j + 1) = V / 2 ^ exL j / 2 ^ wdL j := fun j => by rw [exL_s, Nat.pow_add, Nat.div_div_eq_div_mul]
  have e0 : V / 2 ^ exL 0 = V := by simp [exL]
  have s0 := e 0; have s1 := e 1; have s2 := e 2; have s3 := e 3; have s4 := e 4; have s5 := e 5; have s6 := e 6; have s7 := e 7; have s8 := e 8; have s9 := e 9
  have e10 : V / 2 ^ exL 10 = V / 2 ^ 255 := by rfl
  unfold lmb
  have w0 : 2 ^ wdL 0 = 67108864 := rfl
  have w1 : 2 ^ wdL 1 = 33554432 := rfl
  have w2 : 2 ^ wdL 2 = 67108864 := rfl
  have w3 : 2 ^ wdL 3 = 33554432 := rfl
  have w4 : 2 ^ wdL 4 = 67108864 := rfl
  have w5 : 2 ^ wdL 5 = 33554432 := rfl
  have w6 : 2 ^ wdL 6 = 67108864 := rfl
  have w7 : 2 ^ wdL 7 = 33554432 := rfl
  have w8 : 2 ^ wdL 8 = 67108864 := rfl
  have w9 : 2 ^ wdL 9 = 33554432 := rfl
  simp only [w0, w1, w2, w3, w4, w5, w6, w7, w8, w9] at *
  have hm := Nat.mod_add_div V (2 ^ 255)
  rw [← e10] at hm
  generalize V / 2 ^ exL 10 = v10 at *
  generalize V / 2 ^ exL 9 = v9 at *
  generalize V / 2 ^ exL 8 = v8 at *
  generalize V / 2 ^ exL 7 = v7 at *
  generalize V / 2 ^ exL 6 = v6 at *
  generalize V / 2 ^ exL 5 = v5 at *
  generalize V / 2 ^ exL 4 = v4 at *
  generalize V / 2 ^ exL 3 = v3 at *
  generalize V / 2 ^ exL 2 = v2 at *
  generalize V / 2 ^ exL 1 = v1 at *
  generalize V % 2 ^ 255 = r at *
  rw [e0] at *
  omega
/-! digits of a number with signed limbs -/
def dC (F : Nat → Int) (c : Int) : Nat → Int
  | 0 => c
  | i + 1 => (F i + dC F c i) / (if i % 2 = 0 then 67108864 else 33554432)
def dD (F : Nat → Int) (c : Int) (i : Nat) : Int := F i + dC F c i - dC F c (i + 1) * (if i % 2 = 0 then 67108864 else 33554432)
theorem dC_b {F : Nat → Int} (h : bnd 1 F) {c : Int} (hc : -19 ≤ c ∧ c ≤ 0) : ∀ i, i ≤ 10 → -19 ≤ dC F c i ∧ dC F c i ≤ 19
  | 0, _ => by rw [dC]; omega
  | i + 1, hi => by
    have h1 := h i (by omega)
    have h2 := dC_b h hc i (by omega)
    have h3 : bb i ≤ 33554432 := by unfold bb; split <;> decide
    rw [dC]
    split
    · omega
    · omega
theorem dD_b (F : Nat → Int) (c : Int) (i : Nat) : 0 ≤ dD F c i ∧ dD F c i < (if i % 2 = 0 then 67108864 else 33554432) := by
  rw [dD, dC]
  split <;> omega
theorem dD_W (F : Nat → Int) (c : Int) : ∃ W : Nat, W < 57896044618658097711785492504343953926634992332820282019728792003956564819968 ∧ (∀ i, i < 10 → dD F c i = (lmb W i : Int)) ∧ (W : Int) = val10 F + c - dC F c 10 * 57896044618658097711785492504343953926634992332820282019728792003956564819968 := by
  have b0 := dD_b F c 0
  have b1 := dD_b F c 1
  have b2 := dD_b F c 2
  have b3 := dD_b F c 3
  have b4 := dD_b F c 4
  have b5 := dD_b F c 5
  have b6 := dD_b F c 6
  have b7 := dD_b F c 7
  have b8 := dD_b F c 8
  have b9 := dD_b F c 9
  simp only [Nat.reduceMod, if_true, Nat.one_ne_zero, if_false] at b0 b1 b2 b3 b4 b5 b6 b7 b8 b9
  obtain ⟨d0, h0⟩ : ∃ d : Nat, dD F c 0 = (d : Int) := ⟨(dD F c 0).toNat, by omega⟩
  obtain ⟨d1, h1⟩ : ∃ d : Nat, dD F c 1 = (d : Int) := ⟨(dD F c 1).toNat, by omega⟩
  obtain ⟨d2, h2⟩ : ∃ d : Nat, dD F c 2 = (d : Int) := ⟨(dD F c 2).toNat, by omega⟩
  obtain ⟨d3, h3⟩ : ∃ d : Nat, dD F c 3 = (d : Int) := ⟨(dD F c 3).toNat, by omega⟩
  obtain ⟨d4, h4⟩ : ∃ d : Nat, dD F c 4 = (d : Int) := ⟨(dD F c 4).toNat, by omega⟩
  obtain ⟨d5, h5⟩ : ∃ d : Nat, dD F c 5 = (d : Int) := ⟨(dD F c 5).toNat, by omega⟩
  obtain ⟨d6, h6⟩ : ∃ d : Nat, dD F c 6 = (d : Int) := ⟨(dD F c 6).toNat, by omega⟩
  obtain ⟨d7, h7⟩ : ∃ d : Nat, dD F c 7 = (d : Int) := ⟨(dD F c 7).toNat, by omega⟩
  obtain ⟨d8, h8⟩ : ∃ d : Nat, dD F c 8 = (d : Int) := ⟨(dD F c 8).toNat, by omega⟩
  obtain ⟨d9, h9⟩ : ∃ d : Nat, dD F c 9 = (d : Int) := ⟨(dD F c 9).toNat, by omega⟩
  obtain ⟨W9, g9⟩ : ∃ W, W = d9 := ⟨_, rfl⟩
  obtain ⟨W8, g8⟩ : ∃ W, W = d8 + 67108864 * W9 := ⟨_, rfl⟩
  obtain ⟨W7, g7⟩ : ∃ W, W = d7 + 33554432 * W8 := ⟨_, rfl⟩
  obtain ⟨W6, g6⟩ : ∃ W, W = d6 + 67108864 * W7 := ⟨_, rfl⟩
  obtain ⟨W5, g5⟩ : ∃ W, W = d5 + 33554432 * W6 := ⟨_, rfl⟩
  obtain ⟨W4, g4⟩ : ∃ W, W = d4 + 67108864 * W5 := ⟨_, rfl⟩
  obtain ⟨W3, g3⟩ : ∃ W, W = d3 + 33554432 * W4 := ⟨_, rfl⟩
  obtain ⟨W2, g2⟩ : ∃ W, W = d2 + 67108864 * W3 := ⟨_, rfl⟩
  obtain ⟨W1, g1⟩ : ∃ W, W = d1 + 33554432 * W2 := ⟨_, rfl⟩
  obtain ⟨W0, g0⟩ : ∃ W, W = d0 + 67108864 * W1 := ⟨_, rfl⟩
  have e : ∀ j, W0 / 2 ^ exL (j + 1) = W0 / 2 ^ exL j / 2 ^ wdL j := fun j => by rw [exL_s, Nat.pow_add, Nat.div_div_eq_div_mul]
  have v0 : W0 / 2 ^ exL 0 = W0 := by simp [exL]
  have v1 : W0 / 2 ^ exL 1 = W1 := by rw [e 0, v0, show 2 ^ wdL 0 = 67108864 from rfl]; omega
  have v2 : W0 / 2 ^ exL 2 = W2 := by rw [e 1, v1, show 2 ^ wdL 1 = 33554432 from rfl]; omega
  have v3 : W0 / 2 ^ exL 3 = W3 := by rw [e 2, v2, show 2 ^ wdL 2 = 67108864 from rfl]; omega
  have v4 : W0 / 2 ^ exL 4 = W4 := by rw [e 3, v3, show 2 ^ wdL 3 = 33554432 from rfl]; omega
  have v5 : W0 / 2 ^ exL 5 = W5 := by rw [e 4, v4, show 2 ^ wdL 4 = 67108864 from rfl]; omega
  have v6 : W0 / 2 ^ exL 6 = W6 := by rw [e 5, v5, show 2 ^ wdL 5 = 33554432 from rfl]; omega
  have v7 : W0 / 2 ^ exL 7 = W7 := by rw [e 6, v6, show 2 ^ wdL 6 = 67108864 from rfl]; omega
  have v8 : W0 / 2 ^ exL 8 = W8 := by rw [e 7, v7, show 2 ^ wdL 7 = 33554432 from rfl]; omega
  have v9 : W0 / 2 ^ exL 9 = W9 := by rw [e 8, v8, show 2 ^ wdL 8 = 67108864 from rfl]; omega
  refine ⟨W0, by omega, fun i hi => ?_, ?_⟩
  · unfold lmb
    match i, hi with
    | 0, _ => rw [v0, show 2 ^ wdL 0 = 67108864 from rfl, h0]; omega
    | 1, _ => rw [v1, show 2 ^ wdL 1 = 33554432 from rfl, h1]; omega
    | 2, _ => rw [v2, show 2 ^ wdL 2 = 67108864 from rfl, h2]; omega
    | 3, _ => rw [v3, show 2 ^ wdL 3 = 33554432 from rfl, h3]; omega
    | 4, _ => rw [v4, show 2 ^ wdL 4 = 67108864 from rfl, h4]; omega
    | 5, _ => rw [v5, show 2 ^ wdL 5 = 33554432 from rfl, h5]; omega
    | 6, _ => rw [v6, show 2 ^ wdL 6 = 67108864 from rfl, h6]; omega
    | 7, _ => rw [v7, show 2 ^ wdL 7 = 33554432 from rfl, h7]; omega
    | 8, _ => rw [v8, show 2 ^ wdL 8 = 67108864 from rfl, h8]; omega
    | 9, _ => rw [v9, show 2 ^ wdL 9 = 33554432 from rfl, h9]; omega
  · have r0 : dC F c 0 = c := rfl
    have r1 : dD F c 0 = F 0 + dC F c 0 - dC F c 1 * 67108864 := rfl
    have r2 : dD F c 1 = F 1 + dC F c 1 - dC F c 2 * 33554432 := rfl
    have r3 : dD F c 2 = F 2 + dC F c 2 - dC F c 3 * 67108864 := rfl
    have r4 : dD F c 3 = F 3 + dC F c 3 - dC F c 4 * 33554432 := rfl
    have r5 : dD F c 4 = F 4 + dC F c 4 - dC F c 5 * 67108864 := rfl
    have r6 : dD F c 5 = F 5 + dC F c 5 - dC F c 6 * 33554432 := rfl
    have r7 : dD F c 6 = F 6 + dC F c 6 - dC F c 7 * 67108864 := rfl
    have r8 : dD F c 7 = F 7 + dC F c 7 - dC F c 8 * 33554432 := rfl
    have r9 : dD F c 8 = F 8 + dC F c 8 - dC F c 9 * 67108864 := rfl
    have r10 : dD F c 9 = F 9 + dC F c 9 - dC F c 10 * 33554432 := rfl
    unfold val10
    omega
theorem val_b {F : Nat → Int} (h : bnd 1 F) : -57896044618658097711785492504343953926634992332820282019728792003956564819000 < val10 F ∧ val10 F < 57896044618658097711785492504343953926634992332820282019728792003956564819000 := by
  obtain ⟨a0, b0, a1, b1, a2, b2, a3, b3, a4, b4, a5, b5, a6, b6, a7, b7, a8, b8, a9, b9⟩ := bnd_u h
  unfold val10
  omega
theorem wr_val {F : Nat → Int} (h : bnd 1 F) : ∃ W : Nat, (W : Int) = val10 F % pP ∧ W < 57896044618658097711785492504343953926634992332820282019728792003956564819968 ∧ ∀ i, i < 10 → dD F (if dC F 0 10 < 0 then -19 else 0) i = (lmb W i : Int) := by
  have hv := val_b h
  obtain ⟨W0, a0, -, a2⟩ := dD_W F 0
  obtain ⟨W, w0, w1, w2⟩ := dD_W F (if dC F 0 10 < 0 then -19 else 0)
  refine ⟨W, ?_, w0, w1⟩
  have hp : pP = 57896044618658097711785492504343953926634992332820282019728792003956564819949 := rfl
  split at w2
  · have : (W : Int) = val10 F + pP := by omega
    rw [this, ← Int.add_emod_right, Int.emod_eq_of_lt (by omega) (by omega)]
  · have : (W : Int) = val10 F := by omega
    rw [this, Int.emod_eq_of_lt (by omega) (by omega)]
theorem lN_lI (n : Nat) : lN n = lI (n : Int) := rfl
theorem i2l_nI {b : Nat} (h : b < 2 ^ 31) : (nI b).toInt64 = lN b := by
  apply Int64.toInt_inj.mp
  rw [Int32.toInt_toInt64, nI_toInt h, lN_lI, lI_toInt (by omega) (by omega)]
theorem by8_lN {k : Nat} (h : k < 2 ^ 64) : by8 (lN k).toInt32 = k % 256 := by rw [by8_l2i, lN_nat h]
theorem lsr_lN {n k : Nat} (hn : n < 2 ^ 64) (hk : k < 64) : lsr (lN n) (nI k) = lN (n / 2 ^ k) := wb_shr hn hk
theorem lsl_lN (n : Nat) {k : Nat} (hk : k < 64) : lsl (lN n) (nI k) = lN (n * 2 ^ k) := wb_shl n hk
theorem cmp0 {x : Int} (h1 : -9223372036854775808 ≤ x) (h2 : x < 9223372036854775808) : (0 : Int32) ≤ lg_cmp (lI x) 0 ↔ 0 ≤ x := by
  rw [lg_cmp_ge, Int64.le_iff_toInt_le, lI_toInt h1 h2]; rfl
theorem wdL_ok (j : Nat) : 25 ≤ wdL j ∧ wdL j ≤ 26 := by unfold wdL; omega
theorem exL_10 {j : Nat} (h : j < 10) : exL j + wdL j ≤ 255 := by unfold exL wdL; omega
theorem lt64 {n k : Nat} (h : n < 2 ^ k) (hk : k ≤ 64) : n < 2 ^ 64 := Nat.lt_of_lt_of_le h (Nat.pow_le_pow_right (by decide) hk)
section
variable {SA : mSA} {hi : Nat → Nat → Int32} {hl : Nat → Nat → Int64} {P : Option Value → mH → Prop} {r a N : Nat}
theorem c_readLimbs {bs : List Nat} (hr : isRow r a N) (hx : rIs hi r a N bs) (hlen : bs.length = 32) (hP : ∀ hl2, fe (hl2 20) ((leV bs % 2 ^ 255 : Nat) : Int) 1 → (∀ k, k ≠ 20 → hl2 k = hl k) → P none (bH hi hl2)) : mCt SA 0 0 41 [.ref 19, .ref r] (bH hi hl) P := by
  have hb : ∀ b ∈ bs, b < 256 := by
    intro b hb
    obtain ⟨j, hj⟩ := List.getElem?_of_mem hb
    exact (hx.2.2 j b hj).1
  obtain ⟨V, hV⟩ : ∃ V, V = leV bs := ⟨_, rfl⟩
  rw [← hV] at hP
  have ew : ∀ j : Fin 10, (26 : Int32) - (nI j.val &&& 1) = nI (wdL j.val) := by decide
  have em : ∀ j : Fin 10, lsl 1 (nI (wdL j.val)) - 1 = lN (2 ^ wdL j.val - 1) := by decide +kernel
  have outer : ∀ (m j x : Nat) (u : Nat → Int64) (o : Option Value), j + m = 10 → exL j ≤ 8 * x → 8 * x < exL j + 8 → (∀ i, i < j → u i = lN (lmb V i)) → mV SA 0 0 41 11 [some (.ref 19), some (.ref r), some (.long (lN (kp V (8 * x) (exL j)))), none, some (.int (nI (8 * x - exL j))), some (.int (nI x)), some (.int (nI j)), o] [] (bH hi (uB hl 20 u)) P := by
    intro m
    induction m with
    | zero =>
      intro j x u o hj h1 h2 hu
      have hj10 : j = 10 := by omega
      subst hj10
      refine m_blk bk_41_11 cb_41_11 ?_
      simp only [bk_41_11, b_iconst, b_bipush, b_sipush, b_lconst, b_ldc, b_ldc_w, b_ldc2_w, b_getstatic, b_iload, b_iload_n, b_istore, b_istore_n, b_lload, b_lload_n, b_lstore, b_lstore_n, b_aload, b_aload_n, b_astore, b_astore_n, b_iinc, b_iadd, b_isub, b_imul, b_iand, b_ior, b_ixor, b_ishl, b_ishr, b_iushr, b_idiv, b_irem, b_ladd, b_lsub, b_lmul, b_land, b_lor, b_lxor, b_lshl, b_lshr, b_lushr, b_i2l, b_l2i, b_i2b, b_i2c, b_lcmp, b_popI, b_popR, b_dupI, b_dupR, b_dup2, b_ifCond, b_icmp, b_goto, b_tsw, b_ireturn, b_lreturn, b_areturn, b_return, b_getfield, b_iaload, b_baload, b_laload, b_aaload, b_iastore, b_bastore, b_lastore, b_arraylength, c_call0, c_call1, c_call2, c_call3, c_call4, c_call5, c_call6, c_call7, c_call8, b_invokestatic, b_max, b_min, b_copy, b_obj, v_virt0, v_poly0, v_virt1, v_poly1, v_virt2, v_poly2, v_virt3, v_poly3, v_virt4, v_poly4, v_virt5, v_poly5, v_virt6, v_poly6, v_virt7, v_poly7, v_spec0, v_spec1, v_spec2, b_nil, wGet_some, wLdI_some, wLdL_some, wLdA_some, wAI_some, wAL_some, wSI_some, wSLg_some, wLen_b, wLen_i, wLen_l, uI_eq, uI_ne1, uI_ne2, uL_eq, uL_ne1, uL_ne2, uA_ne, uB_ne, ne_eq, Nat.reduceEqDiff, not_false_eq_true, uA_self, uB_self, uA_uA, uB_uB, cl_0, cl_1, cl_2, cl_3, cl_4, cl_5, cl_6, cl_7, cl_8, cl_9, cl_10, cl_11, cl_12, cl_13, cl_14, cl_15, cl_16, nar_b0, nar_b1, nar_i, true_and, eq_self, Nat.reduceAdd, Nat.reduceLeDiff, mG, mS1, mS2, mD1, mCut, mC0, mC2, mWd, Value.category, Option.toList_none, Option.toList_some, List.cons_append, List.nil_append, Option.some.injEq, Value.int.injEq, exists_eq_left']
      refine ⟨fun _ => ?_, fun hc => absurd (by decide) hc⟩
      refine m_blk bk_41_89 cb_41_89 ?_
      simp only [bk_41_89, b_iconst, b_bipush, b_sipush, b_lconst, b_ldc, b_ldc_w, b_ldc2_w, b_getstatic, b_iload, b_iload_n, b_istore, b_istore_n, b_lload, b_lload_n, b_lstore, b_lstore_n, b_aload, b_aload_n, b_astore, b_astore_n, b_iinc, b_iadd, b_isub, b_imul, b_iand, b_ior, b_ixor, b_ishl, b_ishr, b_iushr, b_idiv, b_irem, b_ladd, b_lsub, b_lmul, b_land, b_lor, b_lxor, b_lshl, b_lshr, b_lushr, b_i2l, b_l2i, b_i2b, b_i2c, b_lcmp, b_popI, b_popR, b_dupI, b_dupR, b_dup2, b_ifCond, b_icmp, b_goto, b_tsw, b_ireturn, b_lreturn, b_areturn, b_return, b_getfield, b_iaload, b_baload, b_laload, b_aaload, b_iastore, b_bastore, b_lastore, b_arraylength, c_call0, c_call1, c_call2, c_call3, c_call4, c_call5, c_call6, c_call7, c_call8, b_invokestatic, b_max, b_min, b_copy, b_obj, v_virt0, v_poly0, v_virt1, v_poly1, v_virt2, v_poly2, v_virt3, v_poly3, v_virt4, v_poly4, v_virt5, v_poly5, v_virt6, v_poly6, v_virt7, v_poly7, v_spec0, v_spec1, v_spec2, b_nil, wGet_some, wLdI_some, wLdL_some, wLdA_some, wAI_some, wAL_some, wSI_some, wSLg_some, wLen_b, wLen_i, wLen_l, uI_eq, uI_ne1, uI_ne2, uL_eq, uL_ne1, uL_ne2, uA_ne, uB_ne, ne_eq, Nat.reduceEqDiff, not_false_eq_true, uA_self, uB_self, uA_uA, uB_uB, cl_0, cl_1, cl_2, cl_3, cl_4, cl_5, cl_6, cl_7, cl_8, cl_9, cl_10, cl_11, cl_12, cl_13, cl_14, cl_15, cl_16, nar_b0, nar_b1, nar_i, true_and, eq_self, Nat.reduceAdd, Nat.reduceLeDiff, mG, mS1, mS2, mD1, mCut, mC0, mC2, mWd, Value.category, Option.toList_none, Option.toList_some, List.cons_append, List.nil_append, Option.some.injEq, Value.int.injEq, exists_eq_left', k_19, f_19_0, f_19_1, f_19_2, f_19_3, f_19_4, f_19_5, f_19_6, f_19_7, f_19_8, f_19_9, f_19_10]
      have hlm : ∀ i, i < 10 → lmb V i < 2 ^ 26 := fun i _ => Nat.lt_of_lt_of_le (Nat.mod_lt _ (Nat.two_pow_pos _)) (Nat.pow_le_pow_right (by decide) (wdL_ok i).2)
      have hl60 : lim60 (fun i => (lmb V i : Int)) := fun i hi => by
        have := hlm i hi
        show _ ≤ ((lmb V i : Nat) : Int) ∧ ((lmb V i : Nat) : Int) ≤ _
        omega
      refine c_carry (H := fun i => (lmb V i : Int)) (la 20 (by decide)) (fun i h => by rw [uB_self, hu i h]; rfl) hl60 (fun v hv => ?_)
      simp only [b_iconst, b_bipush, b_sipush, b_lconst, b_ldc, b_ldc_w, b_ldc2_w, b_getstatic, b_iload, b_iload_n, b_istore, b_istore_n, b_lload, b_lload_n, b_lstore, b_lstore_n, b_aload, b_aload_n, b_astore, b_astore_n, b_iinc, b_iadd, b_isub, b_imul, b_iand, b_ior, b_ixor, b_ishl, b_ishr, b_iushr, b_idiv, b_irem, b_ladd, b_lsub, b_lmul, b_land, b_lor, b_lxor, b_lshl, b_lshr, b_lushr, b_i2l, b_l2i, b_i2b, b_i2c, b_lcmp, b_popI, b_popR, b_dupI, b_dupR, b_dup2, b_ifCond, b_icmp, b_goto, b_tsw, b_ireturn, b_lreturn, b_areturn, b_return, b_getfield, b_iaload, b_baload, b_laload, b_aaload, b_iastore, b_bastore, b_lastore, b_arraylength, c_call0, c_call1, c_call2, c_call3, c_call4, c_call5, c_call6, c_call7, c_call8, b_invokestatic, b_max, b_min, b_copy, b_obj, v_virt0, v_poly0, v_virt1, v_poly1, v_virt2, v_poly2, v_virt3, v_poly3, v_virt4, v_poly4, v_virt5, v_poly5, v_virt6, v_poly6, v_virt7, v_poly7, v_spec0, v_spec1, v_spec2, b_nil, wGet_some, wLdI_some, wLdL_some, wLdA_some, wAI_some, wAL_some, wSI_some, wSLg_some, wLen_b, wLen_i, wLen_l, uI_eq, uI_ne1, uI_ne2, uL_eq, uL_ne1, uL_ne2, uA_ne, uB_ne, ne_eq, Nat.reduceEqDiff, not_false_eq_true, uA_self, uB_self, uA_uA, uB_uB, cl_0, cl_1, cl_2, cl_3, cl_4, cl_5, cl_6, cl_7, cl_8, cl_9, cl_10, cl_11, cl_12, cl_13, cl_14, cl_15, cl_16, nar_b0, nar_b1, nar_i, true_and, eq_self, Nat.reduceAdd, Nat.reduceLeDiff, mG, mS1, mS2, mD1, mCut, mC0, mC2, mWd, Value.category, Option.toList_none, Option.toList_some, List.cons_append, List.nil_append, Option.some.injEq, Value.int.injEq, exists_eq_left']
      refine hP _ ?_ (fun k hk => uB_ne hk)
      rw [uB_self]
      refine ⟨_, hv, cF_bnd hl60, cg_tr (cF_val _) ?_⟩
      have hs := lmb_sum V
      have : val10 (fun i => (lmb V i : Int)) = ((V % 2 ^ 255 : Nat) : Int) := by
        rw [← hs]; simp only [val10]; omega
      rw [this]
      exact cg_rf _
    | succ m ih =>
      intro j x u o hj h1 h2 hu
      have hw := wdL_ok j
      have he := exL_10 (j := j) (by omega)
      have ewj := ew ⟨j, by omega⟩
      have emj := em ⟨j, by omega⟩
      simp only at ewj emj
      refine m_blk bk_41_11 cb_41_11 ?_
      simp only [bk_41_11, b_iconst, b_bipush, b_sipush, b_lconst, b_ldc, b_ldc_w, b_ldc2_w, b_getstatic, b_iload, b_iload_n, b_istore, b_istore_n, b_lload, b_lload_n, b_lstore, b_lstore_n, b_aload, b_aload_n, b_astore, b_astore_n, b_iinc, b_iadd, b_isub, b_imul, b_iand, b_ior, b_ixor, b_ishl, b_ishr, b_iushr, b_idiv, b_irem, b_ladd, b_lsub, b_lmul, b_land, b_lor, b_lxor, b_lshl, b_lshr, b_lushr, b_i2l, b_l2i, b_i2b, b_i2c, b_lcmp, b_popI, b_popR, b_dupI, b_dupR, b_dup2, b_ifCond, b_icmp, b_goto, b_tsw, b_ireturn, b_lreturn, b_areturn, b_return, b_getfield, b_iaload, b_baload, b_laload, b_aaload, b_iastore, b_bastore, b_lastore, b_arraylength, c_call0, c_call1, c_call2, c_call3, c_call4, c_call5, c_call6, c_call7, c_call8, b_invokestatic, b_max, b_min, b_copy, b_obj, v_virt0, v_poly0, v_virt1, v_poly1, v_virt2, v_poly2, v_virt3, v_poly3, v_virt4, v_poly4, v_virt5, v_poly5, v_virt6, v_poly6, v_virt7, v_poly7, v_spec0, v_spec1, v_spec2, b_nil, wGet_some, wLdI_some, wLdL_some, wLdA_some, wAI_some, wAL_some, wSI_some, wSLg_some, wLen_b, wLen_i, wLen_l, uI_eq, uI_ne1, uI_ne2, uL_eq, uL_ne1, uL_ne2, uA_ne, uB_ne, ne_eq, Nat.reduceEqDiff, not_false_eq_true, uA_self, uB_self, uA_uA, uB_uB, cl_0, cl_1, cl_2, cl_3, cl_4, cl_5, cl_6, cl_7, cl_8, cl_9, cl_10, cl_11, cl_12, cl_13, cl_14, cl_15, cl_16, nar_b0, nar_b1, nar_i, true_and, eq_self, Nat.reduceAdd, Nat.reduceLeDiff, mG, mS1, mS2, mD1, mCut, mC0, mC2, mWd, Value.category, Option.toList_none, Option.toList_some, List.cons_append, List.nil_append, Option.some.injEq, Value.int.injEq, exists_eq_left']
      refine ⟨fun hc => absurd hc (by rw [show (10 : Int32) = nI 10 from rfl]; exact nI_ge (by omega) (by omega)), fun _ => ?_⟩
      refine m_blk bk_41_18 cb_41_18 ?_
      simp only [bk_41_18, b_iconst, b_bipush, b_sipush, b_lconst, b_ldc, b_ldc_w, b_ldc2_w, b_getstatic, b_iload, b_iload_n, b_istore, b_istore_n, b_lload, b_lload_n, b_lstore, b_lstore_n, b_aload, b_aload_n, b_astore, b_astore_n, b_iinc, b_iadd, b_isub, b_imul, b_iand, b_ior, b_ixor, b_ishl, b_ishr, b_iushr, b_idiv, b_irem, b_ladd, b_lsub, b_lmul, b_land, b_lor, b_lxor, b_lshl, b_lshr, b_lushr, b_i2l, b_l2i, b_i2b, b_i2c, b_lcmp, b_popI, b_popR, b_dupI, b_dupR, b_dup2, b_ifCond, b_icmp, b_goto, b_tsw, b_ireturn, b_lreturn, b_areturn, b_return, b_getfield, b_iaload, b_baload, b_laload, b_aaload, b_iastore, b_bastore, b_lastore, b_arraylength, c_call0, c_call1, c_call2, c_call3, c_call4, c_call5, c_call6, c_call7, c_call8, b_invokestatic, b_max, b_min, b_copy, b_obj, v_virt0, v_poly0, v_virt1, v_poly1, v_virt2, v_poly2, v_virt3, v_poly3, v_virt4, v_poly4, v_virt5, v_poly5, v_virt6, v_poly6, v_virt7, v_poly7, v_spec0, v_spec1, v_spec2, b_nil, wGet_some, wLdI_some, wLdL_some, wLdA_some, wAI_some, wAL_some, wSI_some, wSLg_some, wLen_b, wLen_i, wLen_l, uI_eq, uI_ne1, uI_ne2, uL_eq, uL_ne1, uL_ne2, uA_ne, uB_ne, ne_eq, Nat.reduceEqDiff, not_false_eq_true, uA_self, uB_self, uA_uA, uB_uB, cl_0, cl_1, cl_2, cl_3, cl_4, cl_5, cl_6, cl_7, cl_8, cl_9, cl_10, cl_11, cl_12, cl_13, cl_14, cl_15, cl_16, nar_b0, nar_b1, nar_i, true_and, eq_self, Nat.reduceAdd, Nat.reduceLeDiff, mG, mS1, mS2, mD1, mCut, mC0, mC2, mWd, Value.category, Option.toList_none, Option.toList_some, List.cons_append, List.nil_append, Option.some.injEq, Value.int.injEq, exists_eq_left', ewj]
      have inner : ∀ (d x : Nat), x + d = 32 → exL j ≤ 8 * x → 8 * x < exL j + wdL j + 8 → mV SA 0 0 41 27 [some (.ref 19), some (.ref r), some (.long (lN (kp V (8 * x) (exL j)))), none, some (.int (nI (8 * x - exL j))), some (.int (nI x)), some (.int (nI j)), some (.int (nI (wdL j)))] [] (bH hi (uB hl 20 u)) P := by
        intro d
        induction d with
        | zero =>
          intro x hx32 g1 g2
          have hk64 := lt64 (kp_lt V g1) (show 8 * x - exL j ≤ 64 by omega)
          refine m_blk bk_41_27 cb_41_27 ?_
          simp only [bk_41_27, b_iconst, b_bipush, b_sipush, b_lconst, b_ldc, b_ldc_w, b_ldc2_w, b_getstatic, b_iload, b_iload_n, b_istore, b_istore_n, b_lload, b_lload_n, b_lstore, b_lstore_n, b_aload, b_aload_n, b_astore, b_astore_n, b_iinc, b_iadd, b_isub, b_imul, b_iand, b_ior, b_ixor, b_ishl, b_ishr, b_iushr, b_idiv, b_irem, b_ladd, b_lsub, b_lmul, b_land, b_lor, b_lxor, b_lshl, b_lshr, b_lushr, b_i2l, b_l2i, b_i2b, b_i2c, b_lcmp, b_popI, b_popR, b_dupI, b_dupR, b_dup2, b_ifCond, b_icmp, b_goto, b_tsw, b_ireturn, b_lreturn, b_areturn, b_return, b_getfield, b_iaload, b_baload, b_laload, b_aaload, b_iastore, b_bastore, b_lastore, b_arraylength, c_call0, c_call1, c_call2, c_call3, c_call4, c_call5, c_call6, c_call7, c_call8, b_invokestatic, b_max, b_min, b_copy, b_obj, v_virt0, v_poly0, v_virt1, v_poly1, v_virt2, v_poly2, v_virt3, v_poly3, v_virt4, v_poly4, v_virt5, v_poly5, v_virt6, v_poly6, v_virt7, v_poly7, v_spec0, v_spec1, v_spec2, b_nil, wGet_some, wLdI_some, wLdL_some, wLdA_some, wAI_some, wAL_some, wSI_some, wSLg_some, wLen_b, wLen_i, wLen_l, uI_eq, uI_ne1, uI_ne2, uL_eq, uL_ne1, uL_ne2, uA_ne, uB_ne, ne_eq, Nat.reduceEqDiff, not_false_eq_true, uA_self, uB_self, uA_uA, uB_uB, cl_0, cl_1, cl_2, cl_3, cl_4, cl_5, cl_6, cl_7, cl_8, cl_9, cl_10, cl_11, cl_12, cl_13, cl_14, cl_15, cl_16, nar_b0, nar_b1, nar_i, true_and, eq_self, Nat.reduceAdd, Nat.reduceLeDiff, mG, mS1, mS2, mD1, mCut, mC0, mC2, mWd, Value.category, Option.toList_none, Option.toList_some, List.cons_append, List.nil_append, Option.some.injEq, Value.int.injEq, exists_eq_left']
          refine ⟨fun _ => ?_, fun hc => absurd (nI_le (by omega) (by omega)) hc⟩
          refine m_blk bk_41_56 cb_41_56 ?_
          simp only [bk_41_56, b_iconst, b_bipush, b_sipush, b_lconst, b_ldc, b_ldc_w, b_ldc2_w, b_getstatic, b_iload, b_iload_n, b_istore, b_istore_n, b_lload, b_lload_n, b_lstore, b_lstore_n, b_aload, b_aload_n, b_astore, b_astore_n, b_iinc, b_iadd, b_isub, b_imul, b_iand, b_ior, b_ixor, b_ishl, b_ishr, b_iushr, b_idiv, b_irem, b_ladd, b_lsub, b_lmul, b_land, b_lor, b_lxor, b_lshl, b_lshr, b_lushr, b_i2l, b_l2i, b_i2b, b_i2c, b_lcmp, b_popI, b_popR, b_dupI, b_dupR, b_dup2, b_ifCond, b_icmp, b_goto, b_tsw, b_ireturn, b_lreturn, b_areturn, b_return, b_getfield, b_iaload, b_baload, b_laload, b_aaload, b_iastore, b_bastore, b_lastore, b_arraylength, c_call0, c_call1, c_call2, c_call3, c_call4, c_call5, c_call6, c_call7, c_call8, b_invokestatic, b_max, b_min, b_copy, b_obj, v_virt0, v_poly0, v_virt1, v_poly1, v_virt2, v_poly2, v_virt3, v_poly3, v_virt4, v_poly4, v_virt5, v_poly5, v_virt6, v_poly6, v_virt7, v_poly7, v_spec0, v_spec1, v_spec2, b_nil, wGet_some, wLdI_some, wLdL_some, wLdA_some, wAI_some, wAL_some, wSI_some, wSLg_some, wLen_b, wLen_i, wLen_l, uI_eq, uI_ne1, uI_ne2, uL_eq, uL_ne1, uL_ne2, uA_ne, uB_ne, ne_eq, Nat.reduceEqDiff, not_false_eq_true, uA_self, uB_self, uA_uA, uB_uB, cl_0, cl_1, cl_2, cl_3, cl_4, cl_5, cl_6, cl_7, cl_8, cl_9, cl_10, cl_11, cl_12, cl_13, cl_14, cl_15, cl_16, nar_b0, nar_b1, nar_i, true_and, eq_self, Nat.reduceAdd, Nat.reduceLeDiff, mG, mS1, mS2, mD1, mCut, mC0, mC2, mWd, Value.category, Option.toList_none, Option.toList_some, List.cons_append, List.nil_append, Option.some.injEq, Value.int.injEq, exists_eq_left', k_19, f_19_0, f_19_1, f_19_2, f_19_3, f_19_4, f_19_5, f_19_6, f_19_7, f_19_8, f_19_9, f_19_10, a_20, e_20, w_20, nI_1, nI_clamp (show j < 2 ^ 31 by omega), emj, wb_mask hk64 (show wdL j < 64 by omega), lsr_lN hk64 (show wdL j < 64 by omega), kp_l V (show exL j + wdL j ≤ 8 * x by omega), kp_s, pk_sub (show wdL j ≤ 8 * x - exL j by omega)]
          refine ⟨vp_in_nI (by omega) (by omega), ?_⟩
          rw [← exL_s, show 8 * x - exL j - wdL j = 8 * x - exL (j + 1) by rw [exL_s]; omega]
          refine ih (j + 1) x _ _ (by omega) (by rw [exL_s]; omega) (by rw [exL_s]; omega) (fun i h => ?_)
          by_cases e : i = j
          · subst e; exact pk_uLs
          · rw [pk_uLn e]; exact hu i (by omega)
        | succ d ih2 =>
          intro x hx32 g1 g2
          have hk64 := lt64 (kp_lt V g1) (show 8 * x - exL j ≤ 64 by omega)
          refine m_blk bk_41_27 cb_41_27 ?_
          simp only [bk_41_27, b_iconst, b_bipush, b_sipush, b_lconst, b_ldc, b_ldc_w, b_ldc2_w, b_getstatic, b_iload, b_iload_n, b_istore, b_istore_n, b_lload, b_lload_n, b_lstore, b_lstore_n, b_aload, b_aload_n, b_astore, b_astore_n, b_iinc, b_iadd, b_isub, b_imul, b_iand, b_ior, b_ixor, b_ishl, b_ishr, b_iushr, b_idiv, b_irem, b_ladd, b_lsub, b_lmul, b_land, b_lor, b_lxor, b_lshl, b_lshr, b_lushr, b_i2l, b_l2i, b_i2b, b_i2c, b_lcmp, b_popI, b_popR, b_dupI, b_dupR, b_dup2, b_ifCond, b_icmp, b_goto, b_tsw, b_ireturn, b_lreturn, b_areturn, b_return, b_getfield, b_iaload, b_baload, b_laload, b_aaload, b_iastore, b_bastore, b_lastore, b_arraylength, c_call0, c_call1, c_call2, c_call3, c_call4, c_call5, c_call6, c_call7, c_call8, b_invokestatic, b_max, b_min, b_copy, b_obj, v_virt0, v_poly0, v_virt1, v_poly1, v_virt2, v_poly2, v_virt3, v_poly3, v_virt4, v_poly4, v_virt5, v_poly5, v_virt6, v_poly6, v_virt7, v_poly7, v_spec0, v_spec1, v_spec2, b_nil, wGet_some, wLdI_some, wLdL_some, wLdA_some, wAI_some, wAL_some, wSI_some, wSLg_some, wLen_b, wLen_i, wLen_l, uI_eq, uI_ne1, uI_ne2, uL_eq, uL_ne1, uL_ne2, uA_ne, uB_ne, ne_eq, Nat.reduceEqDiff, not_false_eq_true, uA_self, uB_self, uA_uA, uB_uB, cl_0, cl_1, cl_2, cl_3, cl_4, cl_5, cl_6, cl_7, cl_8, cl_9, cl_10, cl_11, cl_12, cl_13, cl_14, cl_15, cl_16, nar_b0, nar_b1, nar_i, true_and, eq_self, Nat.reduceAdd, Nat.reduceLeDiff, mG, mS1, mS2, mD1, mCut, mC0, mC2, mWd, Value.category, Option.toList_none, Option.toList_some, List.cons_append, List.nil_append, Option.some.injEq, Value.int.injEq, exists_eq_left']
          refine ⟨fun hc => ?_, fun hc => ?_⟩
          · rw [i_le, nI_toInt (by omega), nI_toInt (by omega)] at hc
            refine m_blk bk_41_56 cb_41_56 ?_
            simp only [bk_41_56, b_iconst, b_bipush, b_sipush, b_lconst, b_ldc, b_ldc_w, b_ldc2_w, b_getstatic, b_iload, b_iload_n, b_istore, b_istore_n, b_lload, b_lload_n, b_lstore, b_lstore_n, b_aload, b_aload_n, b_astore, b_astore_n, b_iinc, b_iadd, b_isub, b_imul, b_iand, b_ior, b_ixor, b_ishl, b_ishr, b_iushr, b_idiv, b_irem, b_ladd, b_lsub, b_lmul, b_land, b_lor, b_lxor, b_lshl, b_lshr, b_lushr, b_i2l, b_l2i, b_i2b, b_i2c, b_lcmp, b_popI, b_popR, b_dupI, b_dupR, b_dup2, b_ifCond, b_icmp, b_goto, b_tsw, b_ireturn, b_lreturn, b_areturn, b_return, b_getfield, b_iaload, b_baload, b_laload, b_aaload, b_iastore, b_bastore, b_lastore, b_arraylength, c_call0, c_call1, c_call2, c_call3, c_call4, c_call5, c_call6, c_call7, c_call8, b_invokestatic, b_max, b_min, b_copy, b_obj, v_virt0, v_poly0, v_virt1, v_poly1, v_virt2, v_poly2, v_virt3, v_poly3, v_virt4, v_poly4, v_virt5, v_poly5, v_virt6, v_poly6, v_virt7, v_poly7, v_spec0, v_spec1, v_spec2, b_nil, wGet_some, wLdI_some, wLdL_some, wLdA_some, wAI_some, wAL_some, wSI_some, wSLg_some, wLen_b, wLen_i, wLen_l, uI_eq, uI_ne1, uI_ne2, uL_eq, uL_ne1, uL_ne2, uA_ne, uB_ne, ne_eq, Nat.reduceEqDiff, not_false_eq_true, uA_self, uB_self, uA_uA, uB_uB, cl_0, cl_1, cl_2, cl_3, cl_4, cl_5, cl_6, cl_7, cl_8, cl_9, cl_10, cl_11, cl_12, cl_13, cl_14, cl_15, cl_16, nar_b0, nar_b1, nar_i, true_and, eq_self, Nat.reduceAdd, Nat.reduceLeDiff, mG, mS1, mS2, mD1, mCut, mC0, mC2, mWd, Value.category, Option.toList_none, Option.toList_some, List.cons_append, List.nil_append, Option.some.injEq, Value.int.injEq, exists_eq_left', k_19, f_19_0, f_19_1, f_19_2, f_19_3, f_19_4, f_19_5, f_19_6, f_19_7, f_19_8, f_19_9, f_19_10, a_20, e_20, w_20, nI_1, nI_clamp (show j < 2 ^ 31 by omega), emj, wb_mask hk64 (show wdL j < 64 by omega), lsr_lN hk64 (show wdL j < 64 by omega), kp_l V (show exL j + wdL j ≤ 8 * x by omega), kp_s, pk_sub (show wdL j ≤ 8 * x - exL j by omega)]
            refine ⟨vp_in_nI (by omega) (by omega), ?_⟩
            rw [← exL_s, show 8 * x - exL j - wdL j = 8 * x - exL (j + 1) by rw [exL_s]; omega]
            refine ih (j + 1) x _ _ (by omega) (by rw [exL_s]; omega) (by rw [exL_s]; omega) (fun i h => ?_)
            by_cases e : i = j
            · subst e; exact pk_uLs
            · rw [pk_uLn e]; exact hu i (by omega)
          · rw [i_le, nI_toInt (by omega), nI_toInt (by omega)] at hc
            refine m_blk bk_41_34 cb_41_34 ?_
            simp only [bk_41_34, b_iconst, b_bipush, b_sipush, b_lconst, b_ldc, b_ldc_w, b_ldc2_w, b_getstatic, b_iload, b_iload_n, b_istore, b_istore_n, b_lload, b_lload_n, b_lstore, b_lstore_n, b_aload, b_aload_n, b_astore, b_astore_n, b_iinc, b_iadd, b_isub, b_imul, b_iand, b_ior, b_ixor, b_ishl, b_ishr, b_iushr, b_idiv, b_irem, b_ladd, b_lsub, b_lmul, b_land, b_lor, b_lxor, b_lshl, b_lshr, b_lushr, b_i2l, b_l2i, b_i2b, b_i2c, b_lcmp, b_popI, b_popR, b_dupI, b_dupR, b_dup2, b_ifCond, b_icmp, b_goto, b_tsw, b_ireturn, b_lreturn, b_areturn, b_return, b_getfield, b_iaload, b_baload, b_laload, b_aaload, b_iastore, b_bastore, b_lastore, b_arraylength, c_call0, c_call1, c_call2, c_call3, c_call4, c_call5, c_call6, c_call7, c_call8, b_invokestatic, b_max, b_min, b_copy, b_obj, v_virt0, v_poly0, v_virt1, v_poly1, v_virt2, v_poly2, v_virt3, v_poly3, v_virt4, v_poly4, v_virt5, v_poly5, v_virt6, v_poly6, v_virt7, v_poly7, v_spec0, v_spec1, v_spec2, b_nil, wGet_some, wLdI_some, wLdL_some, wLdA_some, wAI_some, wAL_some, wSI_some, wSLg_some, wLen_b, wLen_i, wLen_l, uI_eq, uI_ne1, uI_ne2, uL_eq, uL_ne1, uL_ne2, uA_ne, uB_ne, ne_eq, Nat.reduceEqDiff, not_false_eq_true, uA_self, uB_self, uA_uA, uB_uB, cl_0, cl_1, cl_2, cl_3, cl_4, cl_5, cl_6, cl_7, cl_8, cl_9, cl_10, cl_11, cl_12, cl_13, cl_14, cl_15, cl_16, nar_b0, nar_b1, nar_i, true_and, eq_self, Nat.reduceAdd, Nat.reduceLeDiff, mG, mS1, mS2, mD1, mCut, mC0, mC2, mWd, Value.category, Option.toList_none, Option.toList_some, List.cons_append, List.nil_append, Option.some.injEq, Value.int.injEq, exists_eq_left', g_cls (row_o hr)]
            refine c_byteAt hr hx ?_
            have hbx := leV_at bs x hb
            rw [← hV] at hbx
            have h256 : bs.getD x 0 < 256 := rIs_gD hx x
            have hkx := kp_x V 8 g1
            rw [show (2 : Nat) ^ (8 * x) = 256 ^ x by rw [Nat.pow_mul], show (2 : Nat) ^ 8 = 256 from rfl, hbx] at hkx
            have hk2 := lt64 (kp_lt V (show exL j ≤ 8 * x + 8 by omega)) (show 8 * x + 8 - exL j ≤ 64 by omega)
            rw [nI_toInt (by omega), if_pos (by omega), Int.toNat_natCast]
            rw [← hkx] at hk2
            simp only [b_iconst, b_bipush, b_sipush, b_lconst, b_ldc, b_ldc_w, b_ldc2_w, b_getstatic, b_iload, b_iload_n, b_istore, b_istore_n, b_lload, b_lload_n, b_lstore, b_lstore_n, b_aload, b_aload_n, b_astore, b_astore_n, b_iinc, b_iadd, b_isub, b_imul, b_iand, b_ior, b_ixor, b_ishl, b_ishr, b_iushr, b_idiv, b_irem, b_ladd, b_lsub, b_lmul, b_land, b_lor, b_lxor, b_lshl, b_lshr, b_lushr, b_i2l, b_l2i, b_i2b, b_i2c, b_lcmp, b_popI, b_popR, b_dupI, b_dupR, b_dup2, b_ifCond, b_icmp, b_goto, b_tsw, b_ireturn, b_lreturn, b_areturn, b_return, b_getfield, b_iaload, b_baload, b_laload, b_aaload, b_iastore, b_bastore, b_lastore, b_arraylength, c_call0, c_call1, c_call2, c_call3, c_call4, c_call5, c_call6, c_call7, c_call8, b_invokestatic, b_max, b_min, b_copy, b_obj, v_virt0, v_poly0, v_virt1, v_poly1, v_virt2, v_poly2, v_virt3, v_poly3, v_virt4, v_poly4, v_virt5, v_poly5, v_virt6, v_poly6, v_virt7, v_poly7, v_spec0, v_spec1, v_spec2, b_nil, wGet_some, wLdI_some, wLdL_some, wLdA_some, wAI_some, wAL_some, wSI_some, wSLg_some, wLen_b, wLen_i, wLen_l, uI_eq, uI_ne1, uI_ne2, uL_eq, uL_ne1, uL_ne2, uA_ne, uB_ne, ne_eq, Nat.reduceEqDiff, not_false_eq_true, uA_self, uB_self, uA_uA, uB_uB, cl_0, cl_1, cl_2, cl_3, cl_4, cl_5, cl_6, cl_7, cl_8, cl_9, cl_10, cl_11, cl_12, cl_13, cl_14, cl_15, cl_16, nar_b0, nar_b1, nar_i, true_and, eq_self, Nat.reduceAdd, Nat.reduceLeDiff, mG, mS1, mS2, mD1, mCut, mC0, mC2, mWd, Value.category, Option.toList_none, Option.toList_some, List.cons_append, List.nil_append, Option.some.injEq, Value.int.injEq, exists_eq_left', i2l_nI (show bs.getD x 0 < 2 ^ 31 by omega), lsl_lN (bs.getD x 0) (show 8 * x - exL j < 64 by omega), g_or' rfl (kp_lt V g1) hk2, hkx, nI_1]
            rw [show nI (8 * x - exL j) + 8 = nI (8 * (x + 1) - exL j) from by rw [show (8 : Int32) = nI 8 from rfl, nI_add]; congr 1; omega]
            exact ih2 (x + 1) (by omega) (by omega) (by omega)
      exact inner (32 - x) x (by omega) h1 (by omega)
  refine m_met (Nat.le_of_ble_eq_true rfl) ?_
  rw [show mEnt 41 [.ref 19, .ref r] = [some (.ref 19), some (.ref r), none, none, none, none, none, none] from rfl]
  refine m_blk bk_41_0 cb_41_0 ?_
  simp only [bk_41_0, b_iconst, b_bipush, b_sipush, b_lconst, b_ldc, b_ldc_w, b_ldc2_w, b_getstatic, b_iload, b_iload_n, b_istore, b_istore_n, b_lload, b_lload_n, b_lstore, b_lstore_n, b_aload, b_aload_n, b_astore, b_astore_n, b_iinc, b_iadd, b_isub, b_imul, b_iand, b_ior, b_ixor, b_ishl, b_ishr, b_iushr, b_idiv, b_irem, b_ladd, b_lsub, b_lmul, b_land, b_lor, b_lxor, b_lshl, b_lshr, b_lushr, b_i2l, b_l2i, b_i2b, b_i2c, b_lcmp, b_popI, b_popR, b_dupI, b_dupR, b_dup2, b_ifCond, b_icmp, b_goto, b_tsw, b_ireturn, b_lreturn, b_areturn, b_return, b_getfield, b_iaload, b_baload, b_laload, b_aaload, b_iastore, b_bastore, b_lastore, b_arraylength, c_call0, c_call1, c_call2, c_call3, c_call4, c_call5, c_call6, c_call7, c_call8, b_invokestatic, b_max, b_min, b_copy, b_obj, v_virt0, v_poly0, v_virt1, v_poly1, v_virt2, v_poly2, v_virt3, v_poly3, v_virt4, v_poly4, v_virt5, v_poly5, v_virt6, v_poly6, v_virt7, v_poly7, v_spec0, v_spec1, v_spec2, b_nil, wGet_some, wLdI_some, wLdL_some, wLdA_some, wAI_some, wAL_some, wSI_some, wSLg_some, wLen_b, wLen_i, wLen_l, uI_eq, uI_ne1, uI_ne2, uL_eq, uL_ne1, uL_ne2, uA_ne, uB_ne, ne_eq, Nat.reduceEqDiff, not_false_eq_true, uA_self, uB_self, uA_uA, uB_uB, cl_0, cl_1, cl_2, cl_3, cl_4, cl_5, cl_6, cl_7, cl_8, cl_9, cl_10, cl_11, cl_12, cl_13, cl_14, cl_15, cl_16, nar_b0, nar_b1, nar_i, true_and, eq_self, Nat.reduceAdd, Nat.reduceLeDiff, mG, mS1, mS2, mD1, mCut, mC0, mC2, mWd, Value.category, Option.toList_none, Option.toList_some, List.cons_append, List.nil_append, Option.some.injEq, Value.int.injEq, exists_eq_left']
  have h0 := outer 10 0 0 (hl 20) none rfl (by decide) (by decide) (fun i h => absurd h (by omega))
  rw [uB_id, show kp V (8 * 0) (exL 0) = 0 from by unfold kp; simp [exL, Nat.mod_one]] at h0
  exact h0
theorem c_writeLimbs {X : Int} (hX : fe (hl 21) X 1) (hP : ∀ hi2, rIs hi2 30 31 32 (leB 32 (X % pP).toNat) → fr2 hi hi2 30 31 → P none (bH hi2 hl)) : mCt SA 0 0 42 [.ref 19, .ref 21] (bH hi hl) P := by
  obtain ⟨F, hF, bF, cFX⟩ := hX
  obtain ⟨W, eW, hW, hd⟩ := wr_val bF
  rw [cg_emod cFX] at eW
  have eW' : (X % pP).toNat = W := by omega
  rw [eW'] at hP
  have rw30 : isRow 30 31 32 := by unfold isRow; decide
  have ew : ∀ j : Fin 10, (26 : Int32) - (nI j.val &&& 1) = nI (wdL j.val) := by decide
  have hFb : ∀ i, i < 10 → -33554432 ≤ F i ∧ F i ≤ 33554432 := fun i hi => by
    have := bF i hi
    have h2 : bb i ≤ 33554432 := by unfold bb; split <;> decide
    omega
  have hdiv : ∀ (c : Int) (i : Nat), (F i + dC F c i) / 2 ^ wdL i = dC F c (i + 1) := fun c i => by
    rw [dC, wdL]
    split
    · rw [show 26 - i % 2 = 26 by omega]; rfl
    · rw [show 26 - i % 2 = 25 by omega]; rfl
  have hdig : ∀ (c : Int) (i : Nat), F i + dC F c i - dC F c (i + 1) * 2 ^ wdL i = dD F c i := fun c i => by
    rw [dD, wdL]
    split
    · rw [show 26 - i % 2 = 26 by omega]; rfl
    · rw [show 26 - i % 2 = 25 by omega]; rfl
  have hc0 : -19 ≤ (0 : Int) ∧ (0 : Int) ≤ 0 := by decide
  obtain ⟨c, hc⟩ : ∃ c : Int, c = if dC F 0 10 < 0 then -19 else 0 := ⟨_, rfl⟩
  have hcb : -19 ≤ c ∧ c ≤ 0 := by rw [hc]; split <;> decide
  rw [← hc] at hd
  -- the second loop
  have put : ∀ (d x j : Nat) (hi1 : Nat → Nat → Int32) (z2 : Int64) (z8 z9 : Option Value), x + d = 32 → j ≤ 10 → 8 * x ≤ exL j → exL j < 8 * x + 40 → rIs hi1 30 31 32 (leB x W) → (∀ x' hi2, 8 * x' ≤ exL j → exL j < 8 * x' + 8 → rIs hi2 30 31 32 (leB x' W) → fr2 hi1 hi2 30 31 → mV SA 0 0 42 145 [some (.ref 19), some (.ref 21), some (.long z2), none, some (.long (lN (kp W (exL j) (8 * x')))), none, some (.int (nI (exL j - 8 * x'))), some (.int (nI (j - 1))), z8, z9, none] [] (bH hi2 hl) P) → mV SA 0 0 42 115 [some (.ref 19), some (.ref 21), some (.long z2), none, some (.long (lN (kp W (exL j) (8 * x)))), none, some (.int (nI (exL j - 8 * x))), some (.int (nI (j - 1))), z8, z9, none] [] (bH hi1 hl) P := by
    intro d
    induction d with
    | zero =>
      intro x j hi1 z2 z8 z9 hx hj g1 g2 hr1 hk
      have h255 : exL j ≤ 255 := by unfold exL; omega
      refine m_blk bk_42_115 cb_42_115 ?_
      simp only [bk_42_115, b_iconst, b_bipush, b_sipush, b_lconst, b_ldc, b_ldc_w, b_ldc2_w, b_getstatic, b_iload, b_iload_n, b_istore, b_istore_n, b_lload, b_lload_n, b_lstore, b_lstore_n, b_aload, b_aload_n, b_astore, b_astore_n, b_iinc, b_iadd, b_isub, b_imul, b_iand, b_ior, b_ixor, b_ishl, b_ishr, b_iushr, b_idiv, b_irem, b_ladd, b_lsub, b_lmul, b_land, b_lor, b_lxor, b_lshl, b_lshr, b_lushr, b_i2l, b_l2i, b_i2b, b_i2c, b_lcmp, b_popI, b_popR, b_dupI, b_dupR, b_dup2, b_ifCond, b_icmp, b_goto, b_tsw, b_ireturn, b_lreturn, b_areturn, b_return, b_getfield, b_iaload, b_baload, b_laload, b_aaload, b_iastore, b_bastore, b_lastore, b_arraylength, c_call0, c_call1, c_call2, c_call3, c_call4, c_call5, c_call6, c_call7, c_call8, b_invokestatic, b_max, b_min, b_copy, b_obj, v_virt0, v_poly0, v_virt1, v_poly1, v_virt2, v_poly2, v_virt3, v_poly3, v_virt4, v_poly4, v_virt5, v_poly5, v_virt6, v_poly6, v_virt7, v_poly7, v_spec0, v_spec1, v_spec2, b_nil, wGet_some, wLdI_some, wLdL_some, wLdA_some, wAI_some, wAL_some, wSI_some, wSLg_some, wLen_b, wLen_i, wLen_l, uI_eq, uI_ne1, uI_ne2, uL_eq, uL_ne1, uL_ne2, uA_ne, uB_ne, ne_eq, Nat.reduceEqDiff, not_false_eq_true, uA_self, uB_self, uA_uA, uB_uB, cl_0, cl_1, cl_2, cl_3, cl_4, cl_5, cl_6, cl_7, cl_8, cl_9, cl_10, cl_11, cl_12, cl_13, cl_14, cl_15, cl_16, nar_b0, nar_b1, nar_i, true_and, eq_self, Nat.reduceAdd, Nat.reduceLeDiff, mG, mS1, mS2, mD1, mCut, mC0, mC2, mWd, Value.category, Option.toList_none, Option.toList_some, List.cons_append, List.nil_append, Option.some.injEq, Value.int.injEq, exists_eq_left']
      rw [i_lt, show (8 : Int32) = nI 8 from rfl, nI_toInt (by omega), nI_toInt (by omega)]
      refine ⟨fun _ => ?_, fun hc => absurd (by omega) hc⟩
      exact hk x hi1 g1 (by omega) hr1 fr2_rf
    | succ d ih =>
      intro x j hi1 z2 z8 z9 hx hj g1 g2 hr1 hk
      have h255 : exL j ≤ 255 := by unfold exL; omega
      have hk64 := lt64 (kp_lt W g1) (show exL j - 8 * x ≤ 64 by omega)
      refine m_blk bk_42_115 cb_42_115 ?_
      simp only [bk_42_115, b_iconst, b_bipush, b_sipush, b_lconst, b_ldc, b_ldc_w, b_ldc2_w, b_getstatic, b_iload, b_iload_n, b_istore, b_istore_n, b_lload, b_lload_n, b_lstore, b_lstore_n, b_aload, b_aload_n, b_astore, b_astore_n, b_iinc, b_iadd, b_isub, b_imul, b_iand, b_ior, b_ixor, b_ishl, b_ishr, b_iushr, b_idiv, b_irem, b_ladd, b_lsub, b_lmul, b_land, b_lor, b_lxor, b_lshl, b_lshr, b_lushr, b_i2l, b_l2i, b_i2b, b_i2c, b_lcmp, b_popI, b_popR, b_dupI, b_dupR, b_dup2, b_ifCond, b_icmp, b_goto, b_tsw, b_ireturn, b_lreturn, b_areturn, b_return, b_getfield, b_iaload, b_baload, b_laload, b_aaload, b_iastore, b_bastore, b_lastore, b_arraylength, c_call0, c_call1, c_call2, c_call3, c_call4, c_call5, c_call6, c_call7, c_call8, b_invokestatic, b_max, b_min, b_copy, b_obj, v_virt0, v_poly0, v_virt1, v_poly1, v_virt2, v_poly2, v_virt3, v_poly3, v_virt4, v_poly4, v_virt5, v_poly5, v_virt6, v_poly6, v_virt7, v_poly7, v_spec0, v_spec1, v_spec2, b_nil, wGet_some, wLdI_some, wLdL_some, wLdA_some, wAI_some, wAL_some, wSI_some, wSLg_some, wLen_b, wLen_i, wLen_l, uI_eq, uI_ne1, uI_ne2, uL_eq, uL_ne1, uL_ne2, uA_ne, uB_ne, ne_eq, Nat.reduceEqDiff, not_false_eq_true, uA_self, uB_self, uA_uA, uB_uB, cl_0, cl_1, cl_2, cl_3, cl_4, cl_5, cl_6, cl_7, cl_8, cl_9, cl_10, cl_11, cl_12, cl_13, cl_14, cl_15, cl_16, nar_b0, nar_b1, nar_i, true_and, eq_self, Nat.reduceAdd, Nat.reduceLeDiff, mG, mS1, mS2, mD1, mCut, mC0, mC2, mWd, Value.category, Option.toList_none, Option.toList_some, List.cons_append, List.nil_append, Option.some.injEq, Value.int.injEq, exists_eq_left']
      rw [i_lt, show (8 : Int32) = nI 8 from rfl, nI_toInt (by omega), nI_toInt (by omega)]
      refine ⟨fun hc => ?_, fun hc => ?_⟩
      · exact hk x hi1 g1 (by omega) hr1 fr2_rf
      · refine m_blk bk_42_122 cb_42_122 ?_
        simp only [bk_42_122, b_iconst, b_bipush, b_sipush, b_lconst, b_ldc, b_ldc_w, b_ldc2_w, b_getstatic, b_iload, b_iload_n, b_istore, b_istore_n, b_lload, b_lload_n, b_lstore, b_lstore_n, b_aload, b_aload_n, b_astore, b_astore_n, b_iinc, b_iadd, b_isub, b_imul, b_iand, b_ior, b_ixor, b_ishl, b_ishr, b_iushr, b_idiv, b_irem, b_ladd, b_lsub, b_lmul, b_land, b_lor, b_lxor, b_lshl, b_lshr, b_lushr, b_i2l, b_l2i, b_i2b, b_i2c, b_lcmp, b_popI, b_popR, b_dupI, b_dupR, b_dup2, b_ifCond, b_icmp, b_goto, b_tsw, b_ireturn, b_lreturn, b_areturn, b_return, b_getfield, b_iaload, b_baload, b_laload, b_aaload, b_iastore, b_bastore, b_lastore, b_arraylength, c_call0, c_call1, c_call2, c_call3, c_call4, c_call5, c_call6, c_call7, c_call8, b_invokestatic, b_max, b_min, b_copy, b_obj, v_virt0, v_poly0, v_virt1, v_poly1, v_virt2, v_poly2, v_virt3, v_poly3, v_virt4, v_poly4, v_virt5, v_poly5, v_virt6, v_poly6, v_virt7, v_poly7, v_spec0, v_spec1, v_spec2, b_nil, wGet_some, wLdI_some, wLdL_some, wLdA_some, wAI_some, wAL_some, wSI_some, wSLg_some, wLen_b, wLen_i, wLen_l, uI_eq, uI_ne1, uI_ne2, uL_eq, uL_ne1, uL_ne2, uA_ne, uB_ne, ne_eq, Nat.reduceEqDiff, not_false_eq_true, uA_self, uB_self, uA_uA, uB_uB, cl_0, cl_1, cl_2, cl_3, cl_4, cl_5, cl_6, cl_7, cl_8, cl_9, cl_10, cl_11, cl_12, cl_13, cl_14, cl_15, cl_16, nar_b0, nar_b1, nar_i, true_and, eq_self, Nat.reduceAdd, Nat.reduceLeDiff, mG, mS1, mS2, mD1, mCut, mC0, mC2, mWd, Value.category, Option.toList_none, Option.toList_some, List.cons_append, List.nil_append, Option.some.injEq, Value.int.injEq, exists_eq_left', k_19, f_19_0, f_19_1, f_19_2, f_19_3, f_19_4, f_19_5, f_19_6, f_19_7, f_19_8, f_19_9, f_19_10, g_cls (row_o rw30)]
        refine c_put rw30 hr1 (by rw [leB, List.length_map, List.length_range]; omega) (fun hi2 hx2 hf2 => ?_)
        rw [by8_lN hk64, show (256 : Nat) = 2 ^ 8 from rfl, kp_l W (show 8 * x + 8 ≤ exL j by omega)] at hx2
        simp only [b_iconst, b_bipush, b_sipush, b_lconst, b_ldc, b_ldc_w, b_ldc2_w, b_getstatic, b_iload, b_iload_n, b_istore, b_istore_n, b_lload, b_lload_n, b_lstore, b_lstore_n, b_aload, b_aload_n, b_astore, b_astore_n, b_iinc, b_iadd, b_isub, b_imul, b_iand, b_ior, b_ixor, b_ishl, b_ishr, b_iushr, b_idiv, b_irem, b_ladd, b_lsub, b_lmul, b_land, b_lor, b_lxor, b_lshl, b_lshr, b_lushr, b_i2l, b_l2i, b_i2b, b_i2c, b_lcmp, b_popI, b_popR, b_dupI, b_dupR, b_dup2, b_ifCond, b_icmp, b_goto, b_tsw, b_ireturn, b_lreturn, b_areturn, b_return, b_getfield, b_iaload, b_baload, b_laload, b_aaload, b_iastore, b_bastore, b_lastore, b_arraylength, c_call0, c_call1, c_call2, c_call3, c_call4, c_call5, c_call6, c_call7, c_call8, b_invokestatic, b_max, b_min, b_copy, b_obj, v_virt0, v_poly0, v_virt1, v_poly1, v_virt2, v_poly2, v_virt3, v_poly3, v_virt4, v_poly4, v_virt5, v_poly5, v_virt6, v_poly6, v_virt7, v_poly7, v_spec0, v_spec1, v_spec2, b_nil, wGet_some, wLdI_some, wLdL_some, wLdA_some, wAI_some, wAL_some, wSI_some, wSLg_some, wLen_b, wLen_i, wLen_l, uI_eq, uI_ne1, uI_ne2, uL_eq, uL_ne1, uL_ne2, uA_ne, uB_ne, ne_eq, Nat.reduceEqDiff, not_false_eq_true, uA_self, uB_self, uA_uA, uB_uB, cl_0, cl_1, cl_2, cl_3, cl_4, cl_5, cl_6, cl_7, cl_8, cl_9, cl_10, cl_11, cl_12, cl_13, cl_14, cl_15, cl_16, nar_b0, nar_b1, nar_i, true_and, eq_self, Nat.reduceAdd, Nat.reduceLeDiff, mG, mS1, mS2, mD1, mCut, mC0, mC2, mWd, Value.category, Option.toList_none, Option.toList_some, List.cons_append, List.nil_append, Option.some.injEq, Value.int.injEq, exists_eq_left', lsr_lN hk64 (show 8 < 64 by decide), kp_s, show (8 : Int32) = nI 8 from rfl]
        rw [show nI (exL j - 8 * x) + (-nI 8) = nI (exL j - 8 * (x + 1)) from by
          have : (nI (exL j - 8 * x) : Int32) = nI (exL j - 8 * (x + 1)) + nI 8 := by rw [nI_add]; congr 1; omega
          rw [this, Int32.add_assoc, show nI 8 + (-nI 8) = 0 from by decide, Int32.add_zero]]
        refine ih (x + 1) j hi2 z2 z8 z9 (by omega) hj (by omega) (by omega) ?_ (fun x' hi3 a1 a2 a3 a4 => hk x' hi3 a1 a2 a3 (fr2_tr hf2 a4))
        rw [leB, List.range_succ, List.map_append]
        rw [show (2 : Nat) ^ (8 * x) = 256 ^ x by rw [Nat.pow_mul]] at hx2
        exact hx2
  have outer : ∀ (m j x : Nat) (hi1 : Nat → Nat → Int32) (z8 z9 : Option Value), j + m = 10 → 8 * x ≤ exL j → exL j < 8 * x + 8 → rIs hi1 30 31 32 (leB x W) → fr2 hi hi1 30 31 → mV SA 0 0 42 63 [some (.ref 19), some (.ref 21), some (.long (lI (dC F c j))), none, some (.long (lN (kp W (exL j) (8 * x)))), none, some (.int (nI (exL j - 8 * x))), some (.int (nI j)), z8, z9, none] [] (bH hi1 hl) P := by
    intro m
    induction m with
    | zero =>
      intro j x hi1 z8 z9 hj g1 g2 hr1 hf1
      have hj10 : j = 10 := by omega
      subst hj10
      have hx31 : x = 31 := by have : exL 10 = 255 := rfl; omega
      subst hx31
      have hk64 := lt64 (kp_lt W g1) (show exL 10 - 8 * 31 ≤ 64 by decide)
      refine m_blk bk_42_63 cb_42_63 ?_
      simp only [bk_42_63, b_iconst, b_bipush, b_sipush, b_lconst, b_ldc, b_ldc_w, b_ldc2_w, b_getstatic, b_iload, b_iload_n, b_istore, b_istore_n, b_lload, b_lload_n, b_lstore, b_lstore_n, b_aload, b_aload_n, b_astore, b_astore_n, b_iinc, b_iadd, b_isub, b_imul, b_iand, b_ior, b_ixor, b_ishl, b_ishr, b_iushr, b_idiv, b_irem, b_ladd, b_lsub, b_lmul, b_land, b_lor, b_lxor, b_lshl, b_lshr, b_lushr, b_i2l, b_l2i, b_i2b, b_i2c, b_lcmp, b_popI, b_popR, b_dupI, b_dupR, b_dup2, b_ifCond, b_icmp, b_goto, b_tsw, b_ireturn, b_lreturn, b_areturn, b_return, b_getfield, b_iaload, b_baload, b_laload, b_aaload, b_iastore, b_bastore, b_lastore, b_arraylength, c_call0, c_call1, c_call2, c_call3, c_call4, c_call5, c_call6, c_call7, c_call8, b_invokestatic, b_max, b_min, b_copy, b_obj, v_virt0, v_poly0, v_virt1, v_poly1, v_virt2, v_poly2, v_virt3, v_poly3, v_virt4, v_poly4, v_virt5, v_poly5, v_virt6, v_poly6, v_virt7, v_poly7, v_spec0, v_spec1, v_spec2, b_nil, wGet_some, wLdI_some, wLdL_some, wLdA_some, wAI_some, wAL_some, wSI_some, wSLg_some, wLen_b, wLen_i, wLen_l, uI_eq, uI_ne1, uI_ne2, uL_eq, uL_ne1, uL_ne2, uA_ne, uB_ne, ne_eq, Nat.reduceEqDiff, not_false_eq_true, uA_self, uB_self, uA_uA, uB_uB, cl_0, cl_1, cl_2, cl_3, cl_4, cl_5, cl_6, cl_7, cl_8, cl_9, cl_10, cl_11, cl_12, cl_13, cl_14, cl_15, cl_16, nar_b0, nar_b1, nar_i, true_and, eq_self, Nat.reduceAdd, Nat.reduceLeDiff, mG, mS1, mS2, mD1, mCut, mC0, mC2, mWd, Value.category, Option.toList_none, Option.toList_some, List.cons_append, List.nil_append, Option.some.injEq, Value.int.injEq, exists_eq_left']
      refine ⟨fun _ => ?_, fun hc => absurd (by decide) hc⟩
      refine m_blk bk_42_151 cb_42_151 ?_
      simp only [bk_42_151, b_iconst, b_bipush, b_sipush, b_lconst, b_ldc, b_ldc_w, b_ldc2_w, b_getstatic, b_iload, b_iload_n, b_istore, b_istore_n, b_lload, b_lload_n, b_lstore, b_lstore_n, b_aload, b_aload_n, b_astore, b_astore_n, b_iinc, b_iadd, b_isub, b_imul, b_iand, b_ior, b_ixor, b_ishl, b_ishr, b_iushr, b_idiv, b_irem, b_ladd, b_lsub, b_lmul, b_land, b_lor, b_lxor, b_lshl, b_lshr, b_lushr, b_i2l, b_l2i, b_i2b, b_i2c, b_lcmp, b_popI, b_popR, b_dupI, b_dupR, b_dup2, b_ifCond, b_icmp, b_goto, b_tsw, b_ireturn, b_lreturn, b_areturn, b_return, b_getfield, b_iaload, b_baload, b_laload, b_aaload, b_iastore, b_bastore, b_lastore, b_arraylength, c_call0, c_call1, c_call2, c_call3, c_call4, c_call5, c_call6, c_call7, c_call8, b_invokestatic, b_max, b_min, b_copy, b_obj, v_virt0, v_poly0, v_virt1, v_poly1, v_virt2, v_poly2, v_virt3, v_poly3, v_virt4, v_poly4, v_virt5, v_poly5, v_virt6, v_poly6, v_virt7, v_poly7, v_spec0, v_spec1, v_spec2, b_nil, wGet_some, wLdI_some, wLdL_some, wLdA_some, wAI_some, wAL_some, wSI_some, wSLg_some, wLen_b, wLen_i, wLen_l, uI_eq, uI_ne1, uI_ne2, uL_eq, uL_ne1, uL_ne2, uA_ne, uB_ne, ne_eq, Nat.reduceEqDiff, not_false_eq_true, uA_self, uB_self, uA_uA, uB_uB, cl_0, cl_1, cl_2, cl_3, cl_4, cl_5, cl_6, cl_7, cl_8, cl_9, cl_10, cl_11, cl_12, cl_13, cl_14, cl_15, cl_16, nar_b0, nar_b1, nar_i, true_and, eq_self, Nat.reduceAdd, Nat.reduceLeDiff, mG, mS1, mS2, mD1, mCut, mC0, mC2, mWd, Value.category, Option.toList_none, Option.toList_some, List.cons_append, List.nil_append, Option.some.injEq, Value.int.injEq, exists_eq_left', k_19, f_19_0, f_19_1, f_19_2, f_19_3, f_19_4, f_19_5, f_19_6, f_19_7, f_19_8, f_19_9, f_19_10, g_cls (row_o rw30)]
      refine c_put rw30 hr1 (by rw [leB, List.length_map, List.length_range]; omega) (fun hi2 hx2 hf2 => ?_)
      simp only [b_iconst, b_bipush, b_sipush, b_lconst, b_ldc, b_ldc_w, b_ldc2_w, b_getstatic, b_iload, b_iload_n, b_istore, b_istore_n, b_lload, b_lload_n, b_lstore, b_lstore_n, b_aload, b_aload_n, b_astore, b_astore_n, b_iinc, b_iadd, b_isub, b_imul, b_iand, b_ior, b_ixor, b_ishl, b_ishr, b_iushr, b_idiv, b_irem, b_ladd, b_lsub, b_lmul, b_land, b_lor, b_lxor, b_lshl, b_lshr, b_lushr, b_i2l, b_l2i, b_i2b, b_i2c, b_lcmp, b_popI, b_popR, b_dupI, b_dupR, b_dup2, b_ifCond, b_icmp, b_goto, b_tsw, b_ireturn, b_lreturn, b_areturn, b_return, b_getfield, b_iaload, b_baload, b_laload, b_aaload, b_iastore, b_bastore, b_lastore, b_arraylength, c_call0, c_call1, c_call2, c_call3, c_call4, c_call5, c_call6, c_call7, c_call8, b_invokestatic, b_max, b_min, b_copy, b_obj, v_virt0, v_poly0, v_virt1, v_poly1, v_virt2, v_poly2, v_virt3, v_poly3, v_virt4, v_poly4, v_virt5, v_poly5, v_virt6, v_poly6, v_virt7, v_poly7, v_spec0, v_spec1, v_spec2, b_nil, wGet_some, wLdI_some, wLdL_some, wLdA_some, wAI_some, wAL_some, wSI_some, wSLg_some, wLen_b, wLen_i, wLen_l, uI_eq, uI_ne1, uI_ne2, uL_eq, uL_ne1, uL_ne2, uA_ne, uB_ne, ne_eq, Nat.reduceEqDiff, not_false_eq_true, uA_self, uB_self, uA_uA, uB_uB, cl_0, cl_1, cl_2, cl_3, cl_4, cl_5, cl_6, cl_7, cl_8, cl_9, cl_10, cl_11, cl_12, cl_13, cl_14, cl_15, cl_16, nar_b0, nar_b1, nar_i, true_and, eq_self, Nat.reduceAdd, Nat.reduceLeDiff, mG, mS1, mS2, mD1, mCut, mC0, mC2, mWd, Value.category, Option.toList_none, Option.toList_some, List.cons_append, List.nil_append, Option.some.injEq, Value.int.injEq, exists_eq_left']
      refine hP hi2 ?_ (fr2_tr hf1 hf2)
      rw [by8_lN hk64] at hx2
      rw [leB, List.range_succ, List.map_append]
      have ek : kp W (exL 10) (8 * 31) = W / 256 ^ 31 := by
        unfold kp
        rw [Nat.mod_eq_of_lt (show W < 2 ^ exL 10 from hW), Nat.pow_mul]
      rw [ek] at hx2
      exact hx2
    | succ m ih =>
      intro j x hi1 z8 z9 hj g1 g2 hr1 hf1
      have hw := wdL_ok j
      have he := exL_10 (j := j) (by omega)
      have ewj := ew ⟨j, by omega⟩
      simp only at ewj
      have b1 := hFb j (by omega)
      have b2 := dC_b bF hcb j (by omega)
      have hk64 := lt64 (kp_lt W g1) (show exL j - 8 * x ≤ 64 by omega)
      have hx2 := kp_x W (wdL j) g1
      have hk2 := lt64 (kp_lt W (show 8 * x ≤ exL j + wdL j by omega)) (show exL j + wdL j - 8 * x ≤ 64 by omega)
      rw [← hx2] at hk2
      have edig : lI (F j) + lI (dC F c j) - lsl (lI (dC F c (j + 1))) (nI (wdL j)) = lN (W / 2 ^ exL j % 2 ^ wdL j) := by
        rw [lI_add, lsl_lI _ (by omega), lI_sub, hdig, hd j (by omega)]; rfl
      refine m_blk bk_42_63 cb_42_63 ?_
      simp only [bk_42_63, b_iconst, b_bipush, b_sipush, b_lconst, b_ldc, b_ldc_w, b_ldc2_w, b_getstatic, b_iload, b_iload_n, b_istore, b_istore_n, b_lload, b_lload_n, b_lstore, b_lstore_n, b_aload, b_aload_n, b_astore, b_astore_n, b_iinc, b_iadd, b_isub, b_imul, b_iand, b_ior, b_ixor, b_ishl, b_ishr, b_iushr, b_idiv, b_irem, b_ladd, b_lsub, b_lmul, b_land, b_lor, b_lxor, b_lshl, b_lshr, b_lushr, b_i2l, b_l2i, b_i2b, b_i2c, b_lcmp, b_popI, b_popR, b_dupI, b_dupR, b_dup2, b_ifCond, b_icmp, b_goto, b_tsw, b_ireturn, b_lreturn, b_areturn, b_return, b_getfield, b_iaload, b_baload, b_laload, b_aaload, b_iastore, b_bastore, b_lastore, b_arraylength, c_call0, c_call1, c_call2, c_call3, c_call4, c_call5, c_call6, c_call7, c_call8, b_invokestatic, b_max, b_min, b_copy, b_obj, v_virt0, v_poly0, v_virt1, v_poly1, v_virt2, v_poly2, v_virt3, v_poly3, v_virt4, v_poly4, v_virt5, v_poly5, v_virt6, v_poly6, v_virt7, v_poly7, v_spec0, v_spec1, v_spec2, b_nil, wGet_some, wLdI_some, wLdL_some, wLdA_some, wAI_some, wAL_some, wSI_some, wSLg_some, wLen_b, wLen_i, wLen_l, uI_eq, uI_ne1, uI_ne2, uL_eq, uL_ne1, uL_ne2, uA_ne, uB_ne, ne_eq, Nat.reduceEqDiff, not_false_eq_true, uA_self, uB_self, uA_uA, uB_uB, cl_0, cl_1, cl_2, cl_3, cl_4, cl_5, cl_6, cl_7, cl_8, cl_9, cl_10, cl_11, cl_12, cl_13, cl_14, cl_15, cl_16, nar_b0, nar_b1, nar_i, true_and, eq_self, Nat.reduceAdd, Nat.reduceLeDiff, mG, mS1, mS2, mD1, mCut, mC0, mC2, mWd, Value.category, Option.toList_none, Option.toList_some, List.cons_append, List.nil_append, Option.some.injEq, Value.int.injEq, exists_eq_left']
      refine ⟨fun hc => absurd hc (by rw [show (10 : Int32) = nI 10 from rfl]; exact nI_ge (by omega) (by omega)), fun _ => ?_⟩
      refine m_blk bk_42_70 cb_42_70 ?_
      simp only [bk_42_70, b_iconst, b_bipush, b_sipush, b_lconst, b_ldc, b_ldc_w, b_ldc2_w, b_getstatic, b_iload, b_iload_n, b_istore, b_istore_n, b_lload, b_lload_n, b_lstore, b_lstore_n, b_aload, b_aload_n, b_astore, b_astore_n, b_iinc, b_iadd, b_isub, b_imul, b_iand, b_ior, b_ixor, b_ishl, b_ishr, b_iushr, b_idiv, b_irem, b_ladd, b_lsub, b_lmul, b_land, b_lor, b_lxor, b_lshl, b_lshr, b_lushr, b_i2l, b_l2i, b_i2b, b_i2c, b_lcmp, b_popI, b_popR, b_dupI, b_dupR, b_dup2, b_ifCond, b_icmp, b_goto, b_tsw, b_ireturn, b_lreturn, b_areturn, b_return, b_getfield, b_iaload, b_baload, b_laload, b_aaload, b_iastore, b_bastore, b_lastore, b_arraylength, c_call0, c_call1, c_call2, c_call3, c_call4, c_call5, c_call6, c_call7, c_call8, b_invokestatic, b_max, b_min, b_copy, b_obj, v_virt0, v_poly0, v_virt1, v_poly1, v_virt2, v_poly2, v_virt3, v_poly3, v_virt4, v_poly4, v_virt5, v_poly5, v_virt6, v_poly6, v_virt7, v_poly7, v_spec0, v_spec1, v_spec2, b_nil, wGet_some, wLdI_some, wLdL_some, wLdA_some, wAI_some, wAL_some, wSI_some, wSLg_some, wLen_b, wLen_i, wLen_l, uI_eq, uI_ne1, uI_ne2, uL_eq, uL_ne1, uL_ne2, uA_ne, uB_ne, ne_eq, Nat.reduceEqDiff, not_false_eq_true, uA_self, uB_self, uA_uA, uB_uB, cl_0, cl_1, cl_2, cl_3, cl_4, cl_5, cl_6, cl_7, cl_8, cl_9, cl_10, cl_11, cl_12, cl_13, cl_14, cl_15, cl_16, nar_b0, nar_b1, nar_i, true_and, eq_self, Nat.reduceAdd, Nat.reduceLeDiff, mG, mS1, mS2, mD1, mCut, mC0, mC2, mWd, Value.category, Option.toList_none, Option.toList_some, List.cons_append, List.nil_append, Option.some.injEq, Value.int.injEq, exists_eq_left', a_21, e_21, w_21, ewj, nI_clamp (show j < 2 ^ 31 by omega), hF j (by omega), lI_add (F j) (dC F c j), asr_lI (show wdL j < 64 by omega) (show -9223372036854775808 ≤ F j + dC F c j by omega) (show F j + dC F c j < 9223372036854775808 by omega), hdiv]
      refine ⟨vp_in_nI (by omega) (by omega), ?_⟩
      rw [lI_add] at edig
      rw [edig, lsl_lN _ (show exL j - 8 * x < 64 by omega), g_or' rfl (kp_lt W g1) hk2, hx2, ← exL_s, nI_add, show exL j - 8 * x + wdL j = exL (j + 1) - 8 * x by rw [exL_s]; omega]
      refine put (32 - x) x (j + 1) hi1 _ _ _ (by omega) (by omega) (by rw [exL_s]; omega) (by rw [exL_s]; omega) hr1 (fun x' hi2 a1 a2 a3 a4 => ?_)
      refine m_blk bk_42_145 cb_42_145 ?_
      simp only [bk_42_145, b_iconst, b_bipush, b_sipush, b_lconst, b_ldc, b_ldc_w, b_ldc2_w, b_getstatic, b_iload, b_iload_n, b_istore, b_istore_n, b_lload, b_lload_n, b_lstore, b_lstore_n, b_aload, b_aload_n, b_astore, b_astore_n, b_iinc, b_iadd, b_isub, b_imul, b_iand, b_ior, b_ixor, b_ishl, b_ishr, b_iushr, b_idiv, b_irem, b_ladd, b_lsub, b_lmul, b_land, b_lor, b_lxor, b_lshl, b_lshr, b_lushr, b_i2l, b_l2i, b_i2b, b_i2c, b_lcmp, b_popI, b_popR, b_dupI, b_dupR, b_dup2, b_ifCond, b_icmp, b_goto, b_tsw, b_ireturn, b_lreturn, b_areturn, b_return, b_getfield, b_iaload, b_baload, b_laload, b_aaload, b_iastore, b_bastore, b_lastore, b_arraylength, c_call0, c_call1, c_call2, c_call3, c_call4, c_call5, c_call6, c_call7, c_call8, b_invokestatic, b_max, b_min, b_copy, b_obj, v_virt0, v_poly0, v_virt1, v_poly1, v_virt2, v_poly2, v_virt3, v_poly3, v_virt4, v_poly4, v_virt5, v_poly5, v_virt6, v_poly6, v_virt7, v_poly7, v_spec0, v_spec1, v_spec2, b_nil, wGet_some, wLdI_some, wLdL_some, wLdA_some, wAI_some, wAL_some, wSI_some, wSLg_some, wLen_b, wLen_i, wLen_l, uI_eq, uI_ne1, uI_ne2, uL_eq, uL_ne1, uL_ne2, uA_ne, uB_ne, ne_eq, Nat.reduceEqDiff, not_false_eq_true, uA_self, uB_self, uA_uA, uB_uB, cl_0, cl_1, cl_2, cl_3, cl_4, cl_5, cl_6, cl_7, cl_8, cl_9, cl_10, cl_11, cl_12, cl_13, cl_14, cl_15, cl_16, nar_b0, nar_b1, nar_i, true_and, eq_self, Nat.reduceAdd, Nat.reduceLeDiff, mG, mS1, mS2, mD1, mCut, mC0, mC2, mWd, Value.category, Option.toList_none, Option.toList_some, List.cons_append, List.nil_append, Option.some.injEq, Value.int.injEq, exists_eq_left', nI_1]
      exact ih (j + 1) x' hi2 _ _ (by omega) a1 a2 a3 (fr2_tr hf1 a4)
  have start : ∀ (z4 : Option Value), mV SA 0 0 42 46 [some (.ref 19), some (.ref 21), some (.long (lI (dC F 0 10))), none, z4, none, none, none, none, none, none] [.long (lI c)] (bH hi hl) P := by
    intro z4
    refine m_blk bk_42_46 cb_42_46 ?_
    simp only [bk_42_46, b_iconst, b_bipush, b_sipush, b_lconst, b_ldc, b_ldc_w, b_ldc2_w, b_getstatic, b_iload, b_iload_n, b_istore, b_istore_n, b_lload, b_lload_n, b_lstore, b_lstore_n, b_aload, b_aload_n, b_astore, b_astore_n, b_iinc, b_iadd, b_isub, b_imul, b_iand, b_ior, b_ixor, b_ishl, b_ishr, b_iushr, b_idiv, b_irem, b_ladd, b_lsub, b_lmul, b_land, b_lor, b_lxor, b_lshl, b_lshr, b_lushr, b_i2l, b_l2i, b_i2b, b_i2c, b_lcmp, b_popI, b_popR, b_dupI, b_dupR, b_dup2, b_ifCond, b_icmp, b_goto, b_tsw, b_ireturn, b_lreturn, b_areturn, b_return, b_getfield, b_iaload, b_baload, b_laload, b_aaload, b_iastore, b_bastore, b_lastore, b_arraylength, c_call0, c_call1, c_call2, c_call3, c_call4, c_call5, c_call6, c_call7, c_call8, b_invokestatic, b_max, b_min, b_copy, b_obj, v_virt0, v_poly0, v_virt1, v_poly1, v_virt2, v_poly2, v_virt3, v_poly3, v_virt4, v_poly4, v_virt5, v_poly5, v_virt6, v_poly6, v_virt7, v_poly7, v_spec0, v_spec1, v_spec2, b_nil, wGet_some, wLdI_some, wLdL_some, wLdA_some, wAI_some, wAL_some, wSI_some, wSLg_some, wLen_b, wLen_i, wLen_l, uI_eq, uI_ne1, uI_ne2, uL_eq, uL_ne1, uL_ne2, uA_ne, uB_ne, ne_eq, Nat.reduceEqDiff, not_false_eq_true, uA_self, uB_self, uA_uA, uB_uB, cl_0, cl_1, cl_2, cl_3, cl_4, cl_5, cl_6, cl_7, cl_8, cl_9, cl_10, cl_11, cl_12, cl_13, cl_14, cl_15, cl_16, nar_b0, nar_b1, nar_i, true_and, eq_self, Nat.reduceAdd, Nat.reduceLeDiff, mG, mS1, mS2, mD1, mCut, mC0, mC2, mWd, Value.category, Option.toList_none, Option.toList_some, List.cons_append, List.nil_append, Option.some.injEq, Value.int.injEq, exists_eq_left', k_19, f_19_0, f_19_1, f_19_2, f_19_3, f_19_4, f_19_5, f_19_6, f_19_7, f_19_8, f_19_9, f_19_10, g_cls (row_o rw30)]
    refine c_empty rw30 (fun hi2 hx2 hf2 => ?_)
    simp only [b_iconst, b_bipush, b_sipush, b_lconst, b_ldc, b_ldc_w, b_ldc2_w, b_getstatic, b_iload, b_iload_n, b_istore, b_istore_n, b_lload, b_lload_n, b_lstore, b_lstore_n, b_aload, b_aload_n, b_astore, b_astore_n, b_iinc, b_iadd, b_isub, b_imul, b_iand, b_ior, b_ixor, b_ishl, b_ishr, b_iushr, b_idiv, b_irem, b_ladd, b_lsub, b_lmul, b_land, b_lor, b_lxor, b_lshl, b_lshr, b_lushr, b_i2l, b_l2i, b_i2b, b_i2c, b_lcmp, b_popI, b_popR, b_dupI, b_dupR, b_dup2, b_ifCond, b_icmp, b_goto, b_tsw, b_ireturn, b_lreturn, b_areturn, b_return, b_getfield, b_iaload, b_baload, b_laload, b_aaload, b_iastore, b_bastore, b_lastore, b_arraylength, c_call0, c_call1, c_call2, c_call3, c_call4, c_call5, c_call6, c_call7, c_call8, b_invokestatic, b_max, b_min, b_copy, b_obj, v_virt0, v_poly0, v_virt1, v_poly1, v_virt2, v_poly2, v_virt3, v_poly3, v_virt4, v_poly4, v_virt5, v_poly5, v_virt6, v_poly6, v_virt7, v_poly7, v_spec0, v_spec1, v_spec2, b_nil, wGet_some, wLdI_some, wLdL_some, wLdA_some, wAI_some, wAL_some, wSI_some, wSLg_some, wLen_b, wLen_i, wLen_l, uI_eq, uI_ne1, uI_ne2, uL_eq, uL_ne1, uL_ne2, uA_ne, uB_ne, ne_eq, Nat.reduceEqDiff, not_false_eq_true, uA_self, uB_self, uA_uA, uB_uB, cl_0, cl_1, cl_2, cl_3, cl_4, cl_5, cl_6, cl_7, cl_8, cl_9, cl_10, cl_11, cl_12, cl_13, cl_14, cl_15, cl_16, nar_b0, nar_b1, nar_i, true_and, eq_self, Nat.reduceAdd, Nat.reduceLeDiff, mG, mS1, mS2, mD1, mCut, mC0, mC2, mWd, Value.category, Option.toList_none, Option.toList_some, List.cons_append, List.nil_append, Option.some.injEq, Value.int.injEq, exists_eq_left']
    have h0 := outer 10 0 0 hi2 none none rfl (by decide) (by decide) hx2 hf2
    rw [show kp W (exL 0) (8 * 0) = 0 from by unfold kp; simp [exL, Nat.mod_one]] at h0
    exact h0
  have first : ∀ (m j : Nat), j + m = 10 → mV SA 0 0 42 5 [some (.ref 19), some (.ref 21), some (.long (lI (dC F 0 j))), none, some (.int (nI j)), none, none, none, none, none, none] [] (bH hi hl) P := by
    intro m
    induction m with
    | zero =>
      intro j hj
      have hj10 : j = 10 := by omega
      subst hj10
      have b2 := dC_b bF hc0 10 (by omega)
      refine m_blk bk_42_5 cb_42_5 ?_
      simp only [bk_42_5, b_iconst, b_bipush, b_sipush, b_lconst, b_ldc, b_ldc_w, b_ldc2_w, b_getstatic, b_iload, b_iload_n, b_istore, b_istore_n, b_lload, b_lload_n, b_lstore, b_lstore_n, b_aload, b_aload_n, b_astore, b_astore_n, b_iinc, b_iadd, b_isub, b_imul, b_iand, b_ior, b_ixor, b_ishl, b_ishr, b_iushr, b_idiv, b_irem, b_ladd, b_lsub, b_lmul, b_land, b_lor, b_lxor, b_lshl, b_lshr, b_lushr, b_i2l, b_l2i, b_i2b, b_i2c, b_lcmp, b_popI, b_popR, b_dupI, b_dupR, b_dup2, b_ifCond, b_icmp, b_goto, b_tsw, b_ireturn, b_lreturn, b_areturn, b_return, b_getfield, b_iaload, b_baload, b_laload, b_aaload, b_iastore, b_bastore, b_lastore, b_arraylength, c_call0, c_call1, c_call2, c_call3, c_call4, c_call5, c_call6, c_call7, c_call8, b_invokestatic, b_max, b_min, b_copy, b_obj, v_virt0, v_poly0, v_virt1, v_poly1, v_virt2, v_poly2, v_virt3, v_poly3, v_virt4, v_poly4, v_virt5, v_poly5, v_virt6, v_poly6, v_virt7, v_poly7, v_spec0, v_spec1, v_spec2, b_nil, wGet_some, wLdI_some, wLdL_some, wLdA_some, wAI_some, wAL_some, wSI_some, wSLg_some, wLen_b, wLen_i, wLen_l, uI_eq, uI_ne1, uI_ne2, uL_eq, uL_ne1, uL_ne2, uA_ne, uB_ne, ne_eq, Nat.reduceEqDiff, not_false_eq_true, uA_self, uB_self, uA_uA, uB_uB, cl_0, cl_1, cl_2, cl_3, cl_4, cl_5, cl_6, cl_7, cl_8, cl_9, cl_10, cl_11, cl_12, cl_13, cl_14, cl_15, cl_16, nar_b0, nar_b1, nar_i, true_and, eq_self, Nat.reduceAdd, Nat.reduceLeDiff, mG, mS1, mS2, mD1, mCut, mC0, mC2, mWd, Value.category, Option.toList_none, Option.toList_some, List.cons_append, List.nil_append, Option.some.injEq, Value.int.injEq, exists_eq_left']
      refine ⟨fun _ => ?_, fun hc => absurd (by decide) hc⟩
      have hcm := cmp0 (x := dC F 0 10) (by omega) (by omega)
      refine m_blk bk_42_33 cb_42_33 ?_
      simp only [bk_42_33, b_iconst, b_bipush, b_sipush, b_lconst, b_ldc, b_ldc_w, b_ldc2_w, b_getstatic, b_iload, b_iload_n, b_istore, b_istore_n, b_lload, b_lload_n, b_lstore, b_lstore_n, b_aload, b_aload_n, b_astore, b_astore_n, b_iinc, b_iadd, b_isub, b_imul, b_iand, b_ior, b_ixor, b_ishl, b_ishr, b_iushr, b_idiv, b_irem, b_ladd, b_lsub, b_lmul, b_land, b_lor, b_lxor, b_lshl, b_lshr, b_lushr, b_i2l, b_l2i, b_i2b, b_i2c, b_lcmp, b_popI, b_popR, b_dupI, b_dupR, b_dup2, b_ifCond, b_icmp, b_goto, b_tsw, b_ireturn, b_lreturn, b_areturn, b_return, b_getfield, b_iaload, b_baload, b_laload, b_aaload, b_iastore, b_bastore, b_lastore, b_arraylength, c_call0, c_call1, c_call2, c_call3, c_call4, c_call5, c_call6, c_call7, c_call8, b_invokestatic, b_max, b_min, b_copy, b_obj, v_virt0, v_poly0, v_virt1, v_poly1, v_virt2, v_poly2, v_virt3, v_poly3, v_virt4, v_poly4, v_virt5, v_poly5, v_virt6, v_poly6, v_virt7, v_poly7, v_spec0, v_spec1, v_spec2, b_nil, wGet_some, wLdI_some, wLdL_some, wLdA_some, wAI_some, wAL_some, wSI_some, wSLg_some, wLen_b, wLen_i, wLen_l, uI_eq, uI_ne1, uI_ne2, uL_eq, uL_ne1, uL_ne2, uA_ne, uB_ne, ne_eq, Nat.reduceEqDiff, not_false_eq_true, uA_self, uB_self, uA_uA, uB_uB, cl_0, cl_1, cl_2, cl_3, cl_4, cl_5, cl_6, cl_7, cl_8, cl_9, cl_10, cl_11, cl_12, cl_13, cl_14, cl_15, cl_16, nar_b0, nar_b1, nar_i, true_and, eq_self, Nat.reduceAdd, Nat.reduceLeDiff, mG, mS1, mS2, mD1, mCut, mC0, mC2, mWd, Value.category, Option.toList_none, Option.toList_some, List.cons_append, List.nil_append, Option.some.injEq, Value.int.injEq, exists_eq_left']
      refine ⟨fun h => ?_, fun h => ?_⟩
      · refine m_blk bk_42_45 cb_42_45 ?_
        simp only [bk_42_45, b_iconst, b_bipush, b_sipush, b_lconst, b_ldc, b_ldc_w, b_ldc2_w, b_getstatic, b_iload, b_iload_n, b_istore, b_istore_n, b_lload, b_lload_n, b_lstore, b_lstore_n, b_aload, b_aload_n, b_astore, b_astore_n, b_iinc, b_iadd, b_isub, b_imul, b_iand, b_ior, b_ixor, b_ishl, b_ishr, b_iushr, b_idiv, b_irem, b_ladd, b_lsub, b_lmul, b_land, b_lor, b_lxor, b_lshl, b_lshr, b_lushr, b_i2l, b_l2i, b_i2b, b_i2c, b_lcmp, b_popI, b_popR, b_dupI, b_dupR, b_dup2, b_ifCond, b_icmp, b_goto, b_tsw, b_ireturn, b_lreturn, b_areturn, b_return, b_getfield, b_iaload, b_baload, b_laload, b_aaload, b_iastore, b_bastore, b_lastore, b_arraylength, c_call0, c_call1, c_call2, c_call3, c_call4, c_call5, c_call6, c_call7, c_call8, b_invokestatic, b_max, b_min, b_copy, b_obj, v_virt0, v_poly0, v_virt1, v_poly1, v_virt2, v_poly2, v_virt3, v_poly3, v_virt4, v_poly4, v_virt5, v_poly5, v_virt6, v_poly6, v_virt7, v_poly7, v_spec0, v_spec1, v_spec2, b_nil, wGet_some, wLdI_some, wLdL_some, wLdA_some, wAI_some, wAL_some, wSI_some, wSLg_some, wLen_b, wLen_i, wLen_l, uI_eq, uI_ne1, uI_ne2, uL_eq, uL_ne1, uL_ne2, uA_ne, uB_ne, ne_eq, Nat.reduceEqDiff, not_false_eq_true, uA_self, uB_self, uA_uA, uB_uB, cl_0, cl_1, cl_2, cl_3, cl_4, cl_5, cl_6, cl_7, cl_8, cl_9, cl_10, cl_11, cl_12, cl_13, cl_14, cl_15, cl_16, nar_b0, nar_b1, nar_i, true_and, eq_self, Nat.reduceAdd, Nat.reduceLeDiff, mG, mS1, mS2, mD1, mCut, mC0, mC2, mWd, Value.category, Option.toList_none, Option.toList_some, List.cons_append, List.nil_append, Option.some.injEq, Value.int.injEq, exists_eq_left']
        rw [hcm] at h
        rw [if_neg (by omega)] at hc
        have h0 := start (some (.int (nI 10)))
        rw [hc] at h0
        exact h0
      · refine m_blk bk_42_39 cb_42_39 ?_
        simp only [bk_42_39, b_iconst, b_bipush, b_sipush, b_lconst, b_ldc, b_ldc_w, b_ldc2_w, b_getstatic, b_iload, b_iload_n, b_istore, b_istore_n, b_lload, b_lload_n, b_lstore, b_lstore_n, b_aload, b_aload_n, b_astore, b_astore_n, b_iinc, b_iadd, b_isub, b_imul, b_iand, b_ior, b_ixor, b_ishl, b_ishr, b_iushr, b_idiv, b_irem, b_ladd, b_lsub, b_lmul, b_land, b_lor, b_lxor, b_lshl, b_lshr, b_lushr, b_i2l, b_l2i, b_i2b, b_i2c, b_lcmp, b_popI, b_popR, b_dupI, b_dupR, b_dup2, b_ifCond, b_icmp, b_goto, b_tsw, b_ireturn, b_lreturn, b_areturn, b_return, b_getfield, b_iaload, b_baload, b_laload, b_aaload, b_iastore, b_bastore, b_lastore, b_arraylength, c_call0, c_call1, c_call2, c_call3, c_call4, c_call5, c_call6, c_call7, c_call8, b_invokestatic, b_max, b_min, b_copy, b_obj, v_virt0, v_poly0, v_virt1, v_poly1, v_virt2, v_poly2, v_virt3, v_poly3, v_virt4, v_poly4, v_virt5, v_poly5, v_virt6, v_poly6, v_virt7, v_poly7, v_spec0, v_spec1, v_spec2, b_nil, wGet_some, wLdI_some, wLdL_some, wLdA_some, wAI_some, wAL_some, wSI_some, wSLg_some, wLen_b, wLen_i, wLen_l, uI_eq, uI_ne1, uI_ne2, uL_eq, uL_ne1, uL_ne2, uA_ne, uB_ne, ne_eq, Nat.reduceEqDiff, not_false_eq_true, uA_self, uB_self, uA_uA, uB_uB, cl_0, cl_1, cl_2, cl_3, cl_4, cl_5, cl_6, cl_7, cl_8, cl_9, cl_10, cl_11, cl_12, cl_13, cl_14, cl_15, cl_16, nar_b0, nar_b1, nar_i, true_and, eq_self, Nat.reduceAdd, Nat.reduceLeDiff, mG, mS1, mS2, mD1, mCut, mC0, mC2, mWd, Value.category, Option.toList_none, Option.toList_some, List.cons_append, List.nil_append, Option.some.injEq, Value.int.injEq, exists_eq_left']
        rw [hcm] at h
        rw [if_pos (by omega)] at hc
        have h0 := start (some (.int (nI 10)))
        rw [hc] at h0
        exact h0
    | succ m ih =>
      intro j hj
      have hw := wdL_ok j
      have ewj := ew ⟨j, by omega⟩
      simp only at ewj
      have b1 := hFb j (by omega)
      have b2 := dC_b bF hc0 j (by omega)
      refine m_blk bk_42_5 cb_42_5 ?_
      simp only [bk_42_5, b_iconst, b_bipush, b_sipush, b_lconst, b_ldc, b_ldc_w, b_ldc2_w, b_getstatic, b_iload, b_iload_n, b_istore, b_istore_n, b_lload, b_lload_n, b_lstore, b_lstore_n, b_aload, b_aload_n, b_astore, b_astore_n, b_iinc, b_iadd, b_isub, b_imul, b_iand, b_ior, b_ixor, b_ishl, b_ishr, b_iushr, b_idiv, b_irem, b_ladd, b_lsub, b_lmul, b_land, b_lor, b_lxor, b_lshl, b_lshr, b_lushr, b_i2l, b_l2i, b_i2b, b_i2c, b_lcmp, b_popI, b_popR, b_dupI, b_dupR, b_dup2, b_ifCond, b_icmp, b_goto, b_tsw, b_ireturn, b_lreturn, b_areturn, b_return, b_getfield, b_iaload, b_baload, b_laload, b_aaload, b_iastore, b_bastore, b_lastore, b_arraylength, c_call0, c_call1, c_call2, c_call3, c_call4, c_call5, c_call6, c_call7, c_call8, b_invokestatic, b_max, b_min, b_copy, b_obj, v_virt0, v_poly0, v_virt1, v_poly1, v_virt2, v_poly2, v_virt3, v_poly3, v_virt4, v_poly4, v_virt5, v_poly5, v_virt6, v_poly6, v_virt7, v_poly7, v_spec0, v_spec1, v_spec2, b_nil, wGet_some, wLdI_some, wLdL_some, wLdA_some, wAI_some, wAL_some, wSI_some, wSLg_some, wLen_b, wLen_i, wLen_l, uI_eq, uI_ne1, uI_ne2, uL_eq, uL_ne1, uL_ne2, uA_ne, uB_ne, ne_eq, Nat.reduceEqDiff, not_false_eq_true, uA_self, uB_self, uA_uA, uB_uB, cl_0, cl_1, cl_2, cl_3, cl_4, cl_5, cl_6, cl_7, cl_8, cl_9, cl_10, cl_11, cl_12, cl_13, cl_14, cl_15, cl_16, nar_b0, nar_b1, nar_i, true_and, eq_self, Nat.reduceAdd, Nat.reduceLeDiff, mG, mS1, mS2, mD1, mCut, mC0, mC2, mWd, Value.category, Option.toList_none, Option.toList_some, List.cons_append, List.nil_append, Option.some.injEq, Value.int.injEq, exists_eq_left']
      refine ⟨fun hc => absurd hc (by rw [show (10 : Int32) = nI 10 from rfl]; exact nI_ge (by omega) (by omega)), fun _ => ?_⟩
      refine m_blk bk_42_12 cb_42_12 ?_
      simp only [bk_42_12, b_iconst, b_bipush, b_sipush, b_lconst, b_ldc, b_ldc_w, b_ldc2_w, b_getstatic, b_iload, b_iload_n, b_istore, b_istore_n, b_lload, b_lload_n, b_lstore, b_lstore_n, b_aload, b_aload_n, b_astore, b_astore_n, b_iinc, b_iadd, b_isub, b_imul, b_iand, b_ior, b_ixor, b_ishl, b_ishr, b_iushr, b_idiv, b_irem, b_ladd, b_lsub, b_lmul, b_land, b_lor, b_lxor, b_lshl, b_lshr, b_lushr, b_i2l, b_l2i, b_i2b, b_i2c, b_lcmp, b_popI, b_popR, b_dupI, b_dupR, b_dup2, b_ifCond, b_icmp, b_goto, b_tsw, b_ireturn, b_lreturn, b_areturn, b_return, b_getfield, b_iaload, b_baload, b_laload, b_aaload, b_iastore, b_bastore, b_lastore, b_arraylength, c_call0, c_call1, c_call2, c_call3, c_call4, c_call5, c_call6, c_call7, c_call8, b_invokestatic, b_max, b_min, b_copy, b_obj, v_virt0, v_poly0, v_virt1, v_poly1, v_virt2, v_poly2, v_virt3, v_poly3, v_virt4, v_poly4, v_virt5, v_poly5, v_virt6, v_poly6, v_virt7, v_poly7, v_spec0, v_spec1, v_spec2, b_nil, wGet_some, wLdI_some, wLdL_some, wLdA_some, wAI_some, wAL_some, wSI_some, wSLg_some, wLen_b, wLen_i, wLen_l, uI_eq, uI_ne1, uI_ne2, uL_eq, uL_ne1, uL_ne2, uA_ne, uB_ne, ne_eq, Nat.reduceEqDiff, not_false_eq_true, uA_self, uB_self, uA_uA, uB_uB, cl_0, cl_1, cl_2, cl_3, cl_4, cl_5, cl_6, cl_7, cl_8, cl_9, cl_10, cl_11, cl_12, cl_13, cl_14, cl_15, cl_16, nar_b0, nar_b1, nar_i, true_and, eq_self, Nat.reduceAdd, Nat.reduceLeDiff, mG, mS1, mS2, mD1, mCut, mC0, mC2, mWd, Value.category, Option.toList_none, Option.toList_some, List.cons_append, List.nil_append, Option.some.injEq, Value.int.injEq, exists_eq_left', a_21, e_21, w_21, ewj, nI_1, nI_clamp (show j < 2 ^ 31 by omega), hF j (by omega), lI_add (F j) (dC F 0 j), asr_lI (show wdL j < 64 by omega) (show -9223372036854775808 ≤ F j + dC F 0 j by omega) (show F j + dC F 0 j < 9223372036854775808 by omega), hdiv]
      exact ⟨vp_in_nI (by omega) (by omega), ih (j + 1) (by omega)⟩
  refine m_met (Nat.le_of_ble_eq_true rfl) ?_
  rw [show mEnt 42 [.ref 19, .ref 21] = [some (.ref 19), some (.ref 21), none, none, none, none, none, none, none, none, none] from rfl]
  refine m_blk bk_42_0 cb_42_0 ?_
  simp only [bk_42_0, b_iconst, b_bipush, b_sipush, b_lconst, b_ldc, b_ldc_w, b_ldc2_w, b_getstatic, b_iload, b_iload_n, b_istore, b_istore_n, b_lload, b_lload_n, b_lstore, b_lstore_n, b_aload, b_aload_n, b_astore, b_astore_n, b_iinc, b_iadd, b_isub, b_imul, b_iand, b_ior, b_ixor, b_ishl, b_ishr, b_iushr, b_idiv, b_irem, b_ladd, b_lsub, b_lmul, b_land, b_lor, b_lxor, b_lshl, b_lshr, b_lushr, b_i2l, b_l2i, b_i2b, b_i2c, b_lcmp, b_popI, b_popR, b_dupI, b_dupR, b_dup2, b_ifCond, b_icmp, b_goto, b_tsw, b_ireturn, b_lreturn, b_areturn, b_return, b_getfield, b_iaload, b_baload, b_laload, b_aaload, b_iastore, b_bastore, b_lastore, b_arraylength, c_call0, c_call1, c_call2, c_call3, c_call4, c_call5, c_call6, c_call7, c_call8, b_invokestatic, b_max, b_min, b_copy, b_obj, v_virt0, v_poly0, v_virt1, v_poly1, v_virt2, v_poly2, v_virt3, v_poly3, v_virt4, v_poly4, v_virt5, v_poly5, v_virt6, v_poly6, v_virt7, v_poly7, v_spec0, v_spec1, v_spec2, b_nil, wGet_some, wLdI_some, wLdL_some, wLdA_some, wAI_some, wAL_some, wSI_some, wSLg_some, wLen_b, wLen_i, wLen_l, uI_eq, uI_ne1, uI_ne2, uL_eq, uL_ne1, uL_ne2, uA_ne, uB_ne, ne_eq, Nat.reduceEqDiff, not_false_eq_true, uA_self, uB_self, uA_uA, uB_uB, cl_0, cl_1, cl_2, cl_3, cl_4, cl_5, cl_6, cl_7, cl_8, cl_9, cl_10, cl_11, cl_12, cl_13, cl_14, cl_15, cl_16, nar_b0, nar_b1, nar_i, true_and, eq_self, Nat.reduceAdd, Nat.reduceLeDiff, mG, mS1, mS2, mD1, mCut, mC0, mC2, mWd, Value.category, Option.toList_none, Option.toList_some, List.cons_append, List.nil_append, Option.some.injEq, Value.int.injEq, exists_eq_left']
  exact first 10 0 rfl
end

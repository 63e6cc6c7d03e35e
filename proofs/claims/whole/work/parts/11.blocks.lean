/-! PART 11: an instruction, a block: what wI and wB ask is enough (m_op, m_blk) -/
theorem mRetT {n : Nat} {v : Value} {x : Int32} (hlb : (match mRe (mt n), v with
    | some .int, .int 0 => true
    | some .boolean, .int 1 => true
    | some .char, .int 2 => true
    | some .byte, .int 3 => true
    | _, _ => false) = true) (hn : mNarV v x) : ∃ ty, mRe (mt n) = some ty ∧ narrow ty (.int x) = .int x := by
  generalize mRe (mt n) = q at hlb ⊢
  split at hlb
  · exact ⟨_, rfl, rfl⟩
  · rcases hn.1 (by decide) with rfl | rfl <;> exact ⟨_, rfl, by decide⟩
  · exact ⟨_, rfl, hn.2.1 (by decide)⟩
  · exact ⟨_, rfl, hn.2.2 (by decide)⟩
  · cases hlb
theorem mCt_mono {SA : mSA} {mc ms n : Nat} {as : List Value} {h : mH} {P Q : Option Value → mH → Prop} (hPQ : ∀ v h', P v h' → Q v h') (hct : mCt SA mc ms n as h P) : mCt SA mc ms n as h Q := by
  intro l D dA ad B
  have hM := hct l D dA ad B
  intro p e ha hc hk s m args below hf hp hv htr
  obtain ⟨t, o, h1, h2, h3, h4, h5⟩ := hM p e ha hc hk s m args below hf hp hv htr
  obtain ⟨⟨v, h', e1, e2, e3⟩, e4⟩ := h4
  exact ⟨t, o, h1, h2, h3, ⟨⟨v, h', e1, hPQ v h' e2, e3⟩, e4⟩, h5⟩
theorem m_op {SA : mSA} {n pc kc ks : Nat} {P : Option Value → mH → Prop} {o : mO} {K : Nat → Nat → mL → List Value → mH → Prop} {L : mL} {st : List Value} {h : mH} (hc : mChk1 n pc o = true) (hw : wI SA (fun kc ks pc L st h => mV SA kc ks n pc L st h P) (mCt SA) P kc ks o K L st h) (hK : ∀ kc ks L st h, K kc ks L st h → mV SA kc ks n (pc + mLen o.1) L st h P) : mV SA kc ks n pc L st h P := by
  obtain ⟨i, a, b, v⟩ := o
  simp only [mChk1, Bool.and_eq_true] at hc
  obtain ⟨⟨hdec, hlb⟩, hlk⟩ := hc
  have hd0 : ∃ len, decode (mBy (mt n)) pc = .ok (i, len) ∧ (len = mLen i ∨ mIsSw i = true) := by
    split at hdec
    · rename_i q hq
      simp only [Bool.and_eq_true, Bool.or_eq_true, decide_eq_true_eq] at hdec
      obtain ⟨h1, h2⟩ := hdec
      exact ⟨q.2, by rw [hq, ← h1], h2⟩
    · cases hdec
  obtain ⟨len, hd1, hlen⟩ := hd0
  have hd : mIsSw i = false → decode (mBy (mt n)) pc = .ok (i, mLen i) := by
    intro hz
    rcases hlen with hlen | hlen
    · rw [hd1, hlen]
    · rw [hz] at hlen; cases hlen
  have hl : mIsLink i = true → ∃ ps, linkB (mt n).1.cls (i, a, b, v) ps = true := by
    intro hz
    rw [hz] at hlk
    simp only [Bool.not_true, Bool.false_or, List.any_eq_true, decide_eq_true_eq] at hlk
    obtain ⟨q, hq, he⟩ := hlk
    have := mLT_ok _ q hq
    rw [mOwn_ok, he] at this
    exact ⟨q.2, this⟩
  clear hdec hlk hlen
  cases i with
  | iconst z =>
    have e := of_decide_eq_true hlb
    simp only at e
    subst e
    exact s_iconst (hd rfl) (hK _ _ _ _ _ hw)
  | bipush z =>
    have e := of_decide_eq_true hlb
    simp only at e
    subst e
    exact s_bipush (hd rfl) (hK _ _ _ _ _ hw)
  | sipush z =>
    have e := of_decide_eq_true hlb
    simp only at e
    subst e
    exact s_sipush (hd rfl) (hK _ _ _ _ _ hw)
  | lconst z =>
    have e := of_decide_eq_true hlb
    simp only at e
    subst e
    exact s_lconst (hd rfl) (hK _ _ _ _ _ hw)
  | ldc idx =>
    obtain ⟨ps, hl⟩ := hl rfl
    simp only [linkB] at hl
    split at hl
    · rename_i w hv
      exact s_ldcI (mAt_in hl) (hd rfl) (hK _ _ _ _ _ hw)
    · rename_i k hv
      simp only [Bool.and_eq_true, decide_eq_true_eq] at hl
      obtain ⟨h1, h2⟩ := hl
      split at h2
      · rename_i q hq
        simp only [decide_eq_true_eq] at h2
        refine s_ldcS hq h2.1 h2.2 (hd rfl) ?_
        rw [show 2000000 + (k - 2000000) = k from Nat.add_sub_of_le h1]
        exact hK _ _ _ _ _ hw
      · cases h2
    · cases hl
  | ldc_w idx =>
    obtain ⟨ps, hl⟩ := hl rfl
    simp only [linkB] at hl
    split at hl
    · rename_i k hv
      simp only [Bool.and_eq_true, decide_eq_true_eq] at hl
      obtain ⟨h1, h2⟩ := hl
      split at h2
      · rename_i q hq
        simp only [decide_eq_true_eq] at h2
        refine s_ldcwS hq h2.1 h2.2 (hd rfl) ?_
        rw [show 2000000 + (k - 2000000) = k from Nat.add_sub_of_le h1]
        exact hK _ _ _ _ _ hw
      · cases h2
    · cases hl
  | ldc2_w idx =>
    obtain ⟨ps, hl⟩ := hl rfl
    simp only [linkB] at hl
    split at hl
    · rename_i w hv
      exact s_ldc2 (mAt_in hl) (hd rfl) (hK _ _ _ _ _ hw)
    · cases hl
  | getstatic idx =>
    obtain ⟨ps, hl⟩ := hl rfl
    simp only [linkB] at hl
    split at hl
    · rename_i q hq
      simp only [Bool.and_eq_true, decide_eq_true_eq] at hl
      obtain ⟨h1, h2⟩ := hl
      subst h1
      exact s_getstatic (List.mem_of_getElem? hq) (mAt_in h2) (hd rfl) (hK _ _ _ _ _ hw)
    · cases hl
  | iload i =>
    have e := of_decide_eq_true hlb
    simp only at e
    subst e
    obtain ⟨x, hg, hw⟩ := hw
    exact s_iload hg (hd rfl) (hK _ _ _ _ _ hw)
  | iload_n i =>
    have e := of_decide_eq_true hlb
    simp only at e
    obtain ⟨x, hg, hw⟩ := hw
    exact s_iload_n e.symm hg (hd rfl) (hK _ _ _ _ _ hw)
  | istore i =>
    simp only [mLb, Bool.and_eq_true, decide_eq_true_eq] at hlb
    obtain ⟨e, hn⟩ := hlb
    subst e
    obtain ⟨x, r, rfl, hw⟩ := hw
    exact s_istore hn (hd rfl) (hK _ _ _ _ _ hw)
  | istore_n i =>
    simp only [mLb, Bool.and_eq_true, decide_eq_true_eq] at hlb
    obtain ⟨e, hn⟩ := hlb
    obtain ⟨x, r, rfl, hw⟩ := hw
    rw [← e] at hn
    exact s_istore_n e.symm hn (hd rfl) (hK _ _ _ _ _ hw)
  | lload i =>
    have e := of_decide_eq_true hlb
    simp only at e
    subst e
    obtain ⟨x, hg, hw⟩ := hw
    exact s_lload hg (hd rfl) (hK _ _ _ _ _ hw)
  | lload_n i =>
    have e := of_decide_eq_true hlb
    simp only at e
    obtain ⟨x, hg, hw⟩ := hw
    exact s_lload_n e.symm hg (hd rfl) (hK _ _ _ _ _ hw)
  | lstore i =>
    simp only [mLb, Bool.and_eq_true, decide_eq_true_eq] at hlb
    obtain ⟨e, hn⟩ := hlb
    subst e
    obtain ⟨x, r, rfl, hw⟩ := hw
    exact s_lstore hn (hd rfl) (hK _ _ _ _ _ hw)
  | lstore_n i =>
    simp only [mLb, Bool.and_eq_true, decide_eq_true_eq] at hlb
    obtain ⟨e, hn⟩ := hlb
    obtain ⟨x, r, rfl, hw⟩ := hw
    rw [← e] at hn
    exact s_lstore_n e.symm hn (hd rfl) (hK _ _ _ _ _ hw)
  | aload i =>
    have e := of_decide_eq_true hlb
    simp only at e
    subst e
    obtain ⟨x, hg, hw⟩ := hw
    exact s_aload hg (hd rfl) (hK _ _ _ _ _ hw)
  | aload_n i =>
    have e := of_decide_eq_true hlb
    simp only at e
    obtain ⟨x, hg, hw⟩ := hw
    exact s_aload_n e.symm hg (hd rfl) (hK _ _ _ _ _ hw)
  | astore i =>
    simp only [mLb, Bool.and_eq_true, decide_eq_true_eq] at hlb
    obtain ⟨e, hn⟩ := hlb
    subst e
    obtain ⟨x, r, rfl, hw⟩ := hw
    exact s_astore hn (hd rfl) (hK _ _ _ _ _ hw)
  | astore_n i =>
    simp only [mLb, Bool.and_eq_true, decide_eq_true_eq] at hlb
    obtain ⟨e, hn⟩ := hlb
    obtain ⟨x, r, rfl, hw⟩ := hw
    rw [← e] at hn
    exact s_astore_n e.symm hn (hd rfl) (hK _ _ _ _ _ hw)
  | iinc i z =>
    simp only [mLb, Bool.and_eq_true, decide_eq_true_eq] at hlb
    obtain ⟨⟨e, hn⟩, e2⟩ := hlb
    subst e
    obtain ⟨x, c, hg, hv, hw⟩ := hw
    simp only at hv
    rw [e2] at hv
    cases hv
    exact s_iinc hg hn (hd rfl) (hK _ _ _ _ _ hw)
  | iadd =>
    obtain ⟨x, y, r, rfl, hw⟩ := hw
    exact s_iadd (hd rfl) (hK _ _ _ _ _ hw)
  | isub =>
    obtain ⟨x, y, r, rfl, hw⟩ := hw
    exact s_isub (hd rfl) (hK _ _ _ _ _ hw)
  | imul =>
    obtain ⟨x, y, r, rfl, hw⟩ := hw
    exact s_imul (hd rfl) (hK _ _ _ _ _ hw)
  | iand =>
    obtain ⟨x, y, r, rfl, hw⟩ := hw
    exact s_iand (hd rfl) (hK _ _ _ _ _ hw)
  | ior =>
    obtain ⟨x, y, r, rfl, hw⟩ := hw
    exact s_ior (hd rfl) (hK _ _ _ _ _ hw)
  | ixor =>
    obtain ⟨x, y, r, rfl, hw⟩ := hw
    exact s_ixor (hd rfl) (hK _ _ _ _ _ hw)
  | ishl =>
    obtain ⟨x, y, r, rfl, hw⟩ := hw
    exact s_ishl (hd rfl) (hK _ _ _ _ _ hw)
  | ishr =>
    obtain ⟨x, y, r, rfl, hw⟩ := hw
    exact s_ishr (hd rfl) (hK _ _ _ _ _ hw)
  | iushr =>
    obtain ⟨x, y, r, rfl, hw⟩ := hw
    exact s_iushr (hd rfl) (hK _ _ _ _ _ hw)
  | ladd =>
    obtain ⟨x, y, r, rfl, hw⟩ := hw
    exact s_ladd (hd rfl) (hK _ _ _ _ _ hw)
  | lsub =>
    obtain ⟨x, y, r, rfl, hw⟩ := hw
    exact s_lsub (hd rfl) (hK _ _ _ _ _ hw)
  | lmul =>
    obtain ⟨x, y, r, rfl, hw⟩ := hw
    exact s_lmul (hd rfl) (hK _ _ _ _ _ hw)
  | land =>
    obtain ⟨x, y, r, rfl, hw⟩ := hw
    exact s_land (hd rfl) (hK _ _ _ _ _ hw)
  | lor =>
    obtain ⟨x, y, r, rfl, hw⟩ := hw
    exact s_lor (hd rfl) (hK _ _ _ _ _ hw)
  | lxor =>
    obtain ⟨x, y, r, rfl, hw⟩ := hw
    exact s_lxor (hd rfl) (hK _ _ _ _ _ hw)
  | lshl =>
    obtain ⟨x, y, r, rfl, hw⟩ := hw
    exact s_lshl (hd rfl) (hK _ _ _ _ _ hw)
  | lshr =>
    obtain ⟨x, y, r, rfl, hw⟩ := hw
    exact s_lshr (hd rfl) (hK _ _ _ _ _ hw)
  | lushr =>
    obtain ⟨x, y, r, rfl, hw⟩ := hw
    exact s_lushr (hd rfl) (hK _ _ _ _ _ hw)
  | lcmp =>
    obtain ⟨x, y, r, rfl, hw⟩ := hw
    exact s_lcmp (hd rfl) (hK _ _ _ _ _ hw)
  | idiv =>
    obtain ⟨x, y, r, rfl, hy, hw⟩ := hw
    exact s_idiv hy (hd rfl) (hK _ _ _ _ _ hw)
  | irem =>
    obtain ⟨x, y, r, rfl, hy, hw⟩ := hw
    exact s_irem hy (hd rfl) (hK _ _ _ _ _ hw)
  | i2l =>
    obtain ⟨x, r, rfl, hw⟩ := hw
    exact s_i2l (hd rfl) (hK _ _ _ _ _ hw)
  | i2b =>
    obtain ⟨x, r, rfl, hw⟩ := hw
    exact s_i2b (hd rfl) (hK _ _ _ _ _ hw)
  | i2c =>
    obtain ⟨x, r, rfl, hw⟩ := hw
    exact s_i2c (hd rfl) (hK _ _ _ _ _ hw)
  | l2i =>
    obtain ⟨x, r, rfl, hw⟩ := hw
    exact s_l2i (hd rfl) (hK _ _ _ _ _ hw)
  | pop =>
    obtain ⟨x, r, rfl, hx, hw⟩ := hw
    exact s_pop hx (hd rfl) (hK _ _ _ _ _ hw)
  | dup =>
    obtain ⟨x, r, rfl, hx, hw⟩ := hw
    exact s_dup hx (hd rfl) (hK _ _ _ _ _ hw)
  | dup2 =>
    obtain ⟨x, y, r, rfl, hx, hy, hw⟩ := hw
    exact s_dup2 hx hy (hd rfl) (hK _ _ _ _ _ hw)
  | ifCond c z =>
    have e := of_decide_eq_true hlb
    simp only at e
    obtain ⟨x, r, rfl, h1, h2⟩ := hw
    cases c with
    | eq => exact s_if_eq e (hd rfl) h1 (fun q => hK _ _ _ _ _ (h2 q))
    | ne => exact s_if_ne e (hd rfl) h1 (fun q => hK _ _ _ _ _ (h2 q))
    | lt => exact s_if_lt e (hd rfl) h1 (fun q => hK _ _ _ _ _ (h2 q))
    | ge => exact s_if_ge e (hd rfl) h1 (fun q => hK _ _ _ _ _ (h2 q))
    | gt => exact s_if_gt e (hd rfl) h1 (fun q => hK _ _ _ _ _ (h2 q))
    | le => exact s_if_le e (hd rfl) h1 (fun q => hK _ _ _ _ _ (h2 q))
  | if_icmp c z =>
    have e := of_decide_eq_true hlb
    simp only at e
    obtain ⟨x, y, r, rfl, h1, h2⟩ := hw
    cases c with
    | eq => exact s_icmp_eq e (hd rfl) h1 (fun q => hK _ _ _ _ _ (h2 q))
    | ne => exact s_icmp_ne e (hd rfl) h1 (fun q => hK _ _ _ _ _ (h2 q))
    | lt => exact s_icmp_lt e (hd rfl) h1 (fun q => hK _ _ _ _ _ (h2 q))
    | ge => exact s_icmp_ge e (hd rfl) h1 (fun q => hK _ _ _ _ _ (h2 q))
    | gt => exact s_icmp_gt e (hd rfl) h1 (fun q => hK _ _ _ _ _ (h2 q))
    | le => exact s_icmp_le e (hd rfl) h1 (fun q => hK _ _ _ _ _ (h2 q))
  | goto z =>
    have e := of_decide_eq_true hlb
    exact s_goto e (hd rfl) hw
  | tableswitch d lo hi offs =>
    simp only [mLb, Bool.and_eq_true, decide_eq_true_eq, List.all_eq_true] at hlb
    obtain ⟨⟨⟨e, h0⟩, h1⟩, h2⟩ := hlb
    obtain ⟨x, r, rfl, hw⟩ := hw
    try simp only at e
    subst e
    exact s_tsw h0 h1 h2 hd1 hw
  | ireturn =>
    obtain ⟨x, rfl, hn, hz, hp⟩ := hw
    refine s_ret (v := some (.int x)) ?_ hp hz
    refine ⟨hd rfl, ?_⟩
    exact mRetT hlb hn
  | lreturn =>
    obtain ⟨x, rfl, hz, hp⟩ := hw
    exact s_ret (v := some (.long x)) ⟨hd rfl, of_decide_eq_true hlb⟩ hp hz
  | areturn =>
    obtain ⟨x, rfl, hz, hp⟩ := hw
    refine s_ret (v := some (.ref x)) ⟨hd rfl, ?_⟩ hp hz
    simp only [mLb] at hlb
    split at hlb
    · rename_i c e1; exact ⟨c, e1⟩
    · cases hlb
  | return_ =>
    obtain ⟨rfl, hz, hp⟩ := hw
    exact s_ret (v := none) ⟨hd rfl, of_decide_eq_true hlb⟩ hp hz
  | getfield idx =>
    obtain ⟨ps, hl⟩ := hl rfl
    obtain ⟨k, r, w, rfl, hf, hw⟩ := hw
    simp only [linkB] at hl
    simp only [mFld] at hf
    split at hf
    · rename_i h9
      subst h9
      split at hf
      · rename_i hk
        obtain ⟨i, e⟩ : ∃ i : Nat, (k : Nat) = 2000000 + i := ⟨k - 2000000, (Nat.add_sub_of_le hk.1).symm⟩
        subst e
        refine s_getfieldS (i := i) hl (by omega) ?_ (hd rfl) (hK _ _ _ _ _ hw)
        split at hf
        · rename_i hj
          cases hf
          refine Or.inl ⟨hj, ?_⟩
          rw [show 2000000 + i - 999000 = 1001000 + i by omega]
        · split at hf
          · rename_i hj
            cases hf
            exact Or.inr ⟨hj, rfl⟩
          · cases hf
      · cases hf
    · rename_i h9
      split at hf
      · rename_i q hq
        obtain ⟨ci, fs⟩ := q
        split at hf
        · rename_i ha
          exact s_getfield hl h9 hq ha hf (hd rfl) (hK _ _ _ _ _ hw)
        · cases hf
      · cases hf
  | putfield idx =>
    obtain ⟨ps, hl⟩ := hl rfl
    obtain ⟨k, r, w, ci, fs, rfl, h1, h2, h3, h4, hw⟩ := hw
    simp only [linkB, Bool.and_eq_true, decide_eq_true_eq] at hl
    obtain ⟨⟨h9, hl1⟩, hl2⟩ := hl
    refine s_putfield hl1 hl2 h9 ?_ h1 h2 h3 h4 (hd rfl) (hK _ _ _ _ _ hw)
    simp only [mLb, Bool.or_eq_true, decide_eq_true_eq] at hlb
    exact hlb
  | iaload =>
    obtain ⟨i, k, r, N, f, rfl, h1, h2, hw⟩ := hw
    exact s_iaload h1 h2 (hd rfl) (hK _ _ _ _ _ hw)
  | baload =>
    obtain ⟨i, k, r, N, f, rfl, h1, h2, hw⟩ := hw
    exact s_baload h1 h2 (hd rfl) (hK _ _ _ _ _ hw)
  | laload =>
    obtain ⟨i, k, r, N, f, rfl, h1, h2, hw⟩ := hw
    exact s_laload h1 h2 (hd rfl) (hK _ _ _ _ _ hw)
  | aaload =>
    obtain ⟨i, k, r, N, f, c, q, rfl, h1, h2, h3, h4, hw⟩ := hw
    rcases h2 with rfl | rfl
    · exact s_aaload (t0 := 3) h1 rfl h3 h4 (hd rfl) (hK _ _ _ _ _ hw)
    · exact s_aaload (t0 := 4) h1 rfl h3 h4 (hd rfl) (hK _ _ _ _ _ hw)
  | iastore =>
    obtain ⟨x, i, k, r, N, f, rfl, h1, h2, hw⟩ := hw
    exact s_iastore h1 h2 (hd rfl) (hK _ _ _ _ _ hw)
  | bastore =>
    obtain ⟨x, i, k, r, N, f, rfl, h1, h2, hw⟩ := hw
    exact s_bastore h1 h2 (hd rfl) (hK _ _ _ _ _ hw)
  | lastore =>
    obtain ⟨x, i, k, r, N, f, rfl, h1, h2, hw⟩ := hw
    exact s_lastore h1 h2 (hd rfl) (hK _ _ _ _ _ hw)
  | aastore =>
    obtain ⟨q, i, k, r, N, f, ci, fs, rfl, h1, h2, h3, h4, hw⟩ := hw
    rcases h1 with rfl | rfl
    · exact s_aastore (ci := 6) (t0 := 3) (w := (RX7, TX7, 2)) rfl rfl h2 h3 h4 (hd rfl) (hK _ _ _ _ _ hw)
    · exact s_aastore (ci := 1) (t0 := 4) (w := (RX2, TX2, 10)) rfl rfl h2 h3 h4 (hd rfl) (hK _ _ _ _ _ hw)
  | arraylength =>
    obtain ⟨k, r, e, rfl, h1, h2, hw⟩ := hw
    exact s_alen h1 h2 (hd rfl) (hK _ _ _ _ _ hw)
  | newarray t =>
    obtain ⟨ps, hl⟩ := hl rfl
    obtain ⟨i, r, kc2, rfl, h1, h2, rfl, h3, h4, h5, hw⟩ := hw
    exact s_newarray h5 (mAt_in hl) h1 h2 h3 h4 (hd rfl) (hK _ _ _ _ _ hw)
  | anewarray idx =>
    obtain ⟨ps, hl⟩ := hl rfl
    obtain ⟨i, r, kc2, rfl, h1, h2, rfl, h3, h4, h5, hw⟩ := hw
    simp only at h5
    rcases h5 with rfl | rfl
    · exact s_anewarray (c0 := RX7) (t0 := 3) (mAt_in hl) (by decide +kernel) rfl h1 h2 h3 h4 (hd rfl) (hK _ _ _ _ _ hw)
    · exact s_anewarray (c0 := RX2) (t0 := 4) (mAt_in hl) (by decide +kernel) rfl h1 h2 h3 h4 (hd rfl) (hK _ _ _ _ _ hw)
  | new idx =>
    obtain ⟨ps, hl⟩ := hl rfl
    obtain ⟨kc2, rfl, h1, h2, hw⟩ := hw
    simp only [linkB] at hl
    split at hl
    · rename_i q hq
      simp only [Bool.and_eq_true, decide_eq_true_eq] at hl
      obtain ⟨⟨⟨e, g1⟩, g2⟩, g3⟩ := hl
      simp only at h1 hw
      subst e
      exact s_new hq (mAt_in g1) (mAt_in g2) (mAt_in g3) h1 h2 (hd rfl) (hK _ _ _ _ _ hw)
    · cases hl
  | invokestatic idx =>
    obtain ⟨ps, hl⟩ := hl rfl
    simp only [linkB] at hl
    simp only [mLb] at hlb
    simp only [wI] at hw
    by_cases h1 : a = 9001
    · rw [if_pos h1] at hl hlb hw
      simp only [Bool.and_eq_true, decide_eq_true_eq] at hl hlb
      obtain ⟨⟨⟨g1, g2⟩, g3⟩, g4⟩ := hl
      obtain ⟨nn, dp, k1, sp, k0, r, rfl, hwd, n1, n2, n3, hor⟩ := hw
      rcases hor with ⟨ty, n0, f, m1, g, hty, q1, q2, q3, q4, hw⟩ | ⟨n0, f, m1, g, q1, q2, q3, q4, hw⟩
      · exact s_copyI (t0 := 0) hlb.1 hlb.2 hwd (mAt_in g1) (mAt_in g2) (mAt_in g3) (mAt_in g4) hty q1 q2 n1 n2 n3 q3 q4 (hd rfl) (hK _ _ _ _ _ hw)
      · exact s_copyL hlb.1 hlb.2 hwd (mAt_in g1) (mAt_in g2) (mAt_in g3) (mAt_in g4) q1 q2 n1 n2 n3 q3 q4 (hd rfl) (hK _ _ _ _ _ hw)
    · rw [if_neg h1] at hl hlb hw
      by_cases h2 : a = 9002
      · rw [if_pos h2] at hl hw
        rw [if_pos (Or.inl h2)] at hlb
        simp only [Bool.and_eq_true, decide_eq_true_eq] at hl hlb
        obtain ⟨⟨⟨g1, g2⟩, g3⟩, g4⟩ := hl
        obtain ⟨x, y, r, rfl, hwd, hw⟩ := hw
        exact s_max (mAt_in g1) (mAt_in g2) (mAt_in g3) (mAt_in g4) hlb.1 hlb.2 hwd (hd rfl) (hK _ _ _ _ _ hw)
      · rw [if_neg h2] at hl hw
        by_cases h3 : a = 9003
        · rw [if_pos h3] at hl hw
          rw [if_pos (Or.inr h3)] at hlb
          simp only [Bool.and_eq_true, decide_eq_true_eq] at hl hlb
          obtain ⟨⟨⟨g1, g2⟩, g3⟩, g4⟩ := hl
          obtain ⟨x, y, r, rfl, hwd, hw⟩ := hw
          exact s_min (mAt_in g1) (mAt_in g2) (mAt_in g3) (mAt_in g4) hlb.1 hlb.2 hwd (hd rfl) (hK _ _ _ _ _ hw)
        · rw [if_neg h3] at hl hw
          rw [if_neg (by omega)] at hlb
          simp only [Bool.and_eq_true, decide_eq_true_eq] at hl
          obtain ⟨⟨⟨⟨g0, g1⟩, g2⟩, g3⟩, g4⟩ := hl
          obtain ⟨as, r, hp, hwd, hw⟩ := hw
          obtain ⟨e1, e2⟩ := mPop_eq _ _ _ _ _ hp
          simp only [List.reverse_nil, List.nil_append, List.length_nil, Nat.zero_add] at e1 e2
          rw [← e1]
          refine s_static g0 g1 hlb (mAt_in g4) (mAt_in g2) (mAt_in g3) e2 hwd (hd rfl) ?_
          exact mCt_mono (fun v h' q => hK _ _ _ _ _ q) hw
  | invokespecial idx =>
    obtain ⟨ps, hl⟩ := hl rfl
    simp only [linkB] at hl
    simp only [mLb] at hlb
    simp only [wI] at hw
    by_cases h1 : a = 9000
    · rw [if_pos h1] at hl hlb hw
      simp only [Bool.and_eq_true, decide_eq_true_eq] at hl hlb
      obtain ⟨⟨g1, g2⟩, g3⟩ := hl
      obtain ⟨k, r, rfl, hwd, hw⟩ := hw
      exact s_objInit (mAt_in g1) (mAt_in g2) (mAt_in g3) hlb.1 hlb.2 hwd (hd rfl) (hK _ _ _ _ _ hw)
    · rw [if_neg h1] at hl hlb hw
      simp only [Bool.and_eq_true, Bool.or_eq_true, decide_eq_true_eq] at hl
      obtain ⟨⟨⟨⟨⟨⟨g0, g1⟩, g2⟩, g3⟩, g4⟩, g5⟩, g6⟩ := hl
      obtain ⟨as, r0, hp, hwd, k, r, mc, ms, rfl, hm1, hm2, hw⟩ := hw
      obtain ⟨e1, e2⟩ := mPop_eq _ _ _ _ _ hp
      simp only [List.reverse_nil, List.nil_append, List.length_nil, Nat.zero_add] at e1 e2
      rw [← e1]
      have hwd2 : mWd r ≤ 8 := by simp only [mWd] at hwd; omega
      refine s_special g0 g1 hlb (mAt_in g3) ?_ (mAt_in g2) g4 g5 e2 hwd2 hm1 hm2 (hd rfl) ?_
      · rcases g6 with g6 | g6
        · exact Or.inl (mAt_in g6)
        · exact Or.inr g6
      · exact mCt_mono (fun v h' q => hK _ _ _ _ _ q) hw
  | invokevirtual idx =>
    obtain ⟨ps, hl⟩ := hl rfl
    simp only [linkB] at hl
    simp only [mLb] at hlb
    obtain ⟨as, r0, hp, hwd, k, r, rfl, hw⟩ := hw
    obtain ⟨e1, e2⟩ := mPop_eq _ _ _ _ _ hp
    simp only [List.reverse_nil, List.nil_append, List.length_nil, Nat.zero_add] at e1 e2
    rw [← e1]
    have hwd2 : mWd r ≤ 8 := by simp only [mWd] at hwd; omega
    cases v with
    | ref ci =>
      exact s_virtual hl hlb hw.1 e2 hwd2 (hd rfl) (mCt_mono (fun v h' q => hK _ _ _ _ _ q) hw.2)
    | long m2 =>
      simp only [Bool.and_eq_true] at hl hlb
      rcases hw with hw | hw
      · exact s_virtual hl.1 hlb.1 hw.1 e2 hwd2 (hd rfl) (mCt_mono (fun v h' q => hK _ _ _ _ _ q) hw.2)
      · exact s_virtual hl.2 hlb.2 hw.1 e2 hwd2 (hd rfl) (mCt_mono (fun v h' q => hK _ _ _ _ _ q) hw.2)
    | int x => exact hw.elim
    | float x => exact hw.elim
    | double x => exact hw.elim
    | null => exact hw.elim
    | retAddr x => exact hw.elim
  | _ =>
    exact False.elim hw
theorem m_blk {SA : mSA} {n pe : Nat} {P : Option Value → mH → Prop} : ∀ (os : List mO) {pc kc ks : Nat} {L : mL} {st : List Value} {h : mH}, mChk n pc os pe = true → wB SA n pe P kc ks os L st h → mV SA kc ks n pc L st h P
  | [], pc, kc, ks, L, st, h, hc, hw => by
    have e : pc = pe := of_decide_eq_true hc
    rw [e]; exact hw
  | o :: os, pc, kc, ks, L, st, h, hc, hw => by
    simp only [mChk, Bool.and_eq_true] at hc
    exact m_op hc.1 hw (fun kc ks L st h hz => m_blk os hc.2 hz)

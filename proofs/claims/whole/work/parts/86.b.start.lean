/-! PART 86.b: the law from its entry: the picture stands (printed by wip/whole/gen87.py; its first rows are the skeleton's) -/
/-! THE CLAIM OUT OF ONE WALK OF THE LAW'S BODY. Your part is whole_start (and what it stands on); all else here is the same for every law, but numbers. -/
def R_law : String := "KeySealerLaw"
def lw_P (b : Addr) (xs : List Int32) (args : Array Value) (s : State) : Prop := args = #[.ref b] ∧ s.IntsAt b xs ∧ xs.length ≤ 4096 ∧ (Jvm.Cond.and given_1 narrow_1).before args s = true
def lw_Q (_ : Array Value) (s : State) (o : Outcome) (t : State) : Prop := o = .returned (some (.int 1)) ∧ Framed s o t [] 600000 7302249
def lw_Z (below : List Frame) (a : Array Value) (s : State) : State → Prop := fun t => ∃ o, t.status = .running ∧ Ended t below o ∧ lw_Q a s o t
/-- the law's own end, with 1 on the stack, nothing written that was there before, its room as the claim has it -/
theorem lw_ret {p : Program} {l : Launch} {e : Env} {s : State} {m : MethodId} {below : List Frame} {meth : Method} {c : Code} {b : Nat} (hx : p.tables.exec = Jvm.exec) (hb : c.code = code) (hr : meth.sig.returnType = ret) (hlocks : meth.locks = false) {pc : Nat} {H : Heap} {ls : Array Slot} (hdg : decode code pc = .ok (.ireturn, 1)) : W p l e room_1 s m #[Value.ref b] below meth c H [] 600000 7302249 (lw_Z below #[Value.ref b] s) (F0 m pc ls [.int 1]) := by
  intro T hT X
  obtain ⟨fs, hret, hrun, hended, hW, hframe⟩ := X.leave (v := some (.int 1)) (hlocks := hlocks) (fun h => by rw [hr] at h; cases h)
  have hmeth' : T.vm.method? m = some meth := X.method'
  refine ⟨T.setFrames fs, ?_, .returned (some (.int 1)), hrun, hended, rfl, ⟨_, rfl⟩, hW, hframe⟩
  jvm_step X.here [X.here.top, hx, hb, hdg, hmeth', hr, ret, narrow_b1]
  (try refine ⟨rfl, ?_⟩); (try refine ⟨rfl, ?_⟩)
  first | (intro acts; rw [hret _ acts rfl rfl rfl]) | rw [hret _ _ rfl rfl rfl]
  exact Steps.refl _
/-- what holds at the law's entry: the machine, the code, the tables' words (any of lw_tbl by 'hts w (by decide +kernel)'), the script of L ints xs at the cell b, what the Statement gives of the start (any of its parts by flat_of_before) -/
def lw_At (p : Program) (s : State) (m : MethodId) (meth : Method) (c : Code) (b L : Nat) (xs : Nat → Int32) : Prop :=
  p.tables.exec = Jvm.exec ∧ c.code = code ∧ meth.sig.returnType = ret ∧ c.maxLocals = 4 ∧ s.vm.findClass R_law = some m.cls ∧ (∀ w ∈ lw_tbl, w.before #[Value.ref b] s = true) ∧ va_X b L xs s s.heap ∧ b < s.heap.size ∧ meth.locks = false ∧ (Jvm.Cond.and given_1 narrow_1).before #[Value.ref b] s = true ∧ meth.name = "law"
def adF (B b z : Nat) (tA vA kA : List Nat) (k : Nat) : Nat := if k < 1000000 then B + k else if k = 1000500 then b else if k < 1001000 then tA.getD (k - 1000000) 0 else if k < 2000000 then vA.getD (k - 1001000) 0 else if k < 3000000 then kA.getD (k - 2000000) 0 else z
theorem adF_own (B b z : Nat) (tA vA kA : List Nat) {k : Nat} (h : k < 1000000) : adF B b z tA vA kA k = B + k := if_pos h
def saT : List (FieldType × vp_A) := [(.long, 8, .inr (.inl fun j => st_0.getD j 0)), (.int, 12, .inl fun j => st_1.getD j 0), (.int, 12, .inl fun j => st_2.getD j 0), (.long, 80, .inr (.inl fun j => st_3.getD j 0)), (.long, 8, .inr (.inl fun j => st_4.getD j 0)), (.long, 80, .inr (.inl fun j => st_5.getD j 0)), (.int, 4, .inl fun j => st_6.getD j 0), (.int, 5, .inl fun j => st_7.getD j 0), (.int, 7, .inl fun j => st_8.getD j 0), (.int, 7, .inl fun j => st_9.getD j 0), (.int, 2, .inl fun j => st_10.getD j 0), (.int, 7, .inl fun j => st_11.getD j 0), (.int, 13, .inl fun j => st_12.getD j 0), (.int, 11, .inl fun j => st_13.getD j 0), (.int, 9, .inl fun j => st_14.getD j 0), (.int, 6, .inl fun j => st_15.getD j 0), (.int, 3, .inl fun j => st_16.getD j 0), (.int, 10, .inl fun j => st_17.getD j 0), (.int, 3, .inl fun j => st_18.getD j 0), (.int, 3, .inl fun j => st_19.getD j 0)]
def saV : List (FieldType × vp_A) := (List.range 14).map (fun i => (.byte, (mTx.getD i []).length, .inl fun j => nI ((mTx.getD i []).getD j 0)))
def SAF (L : Nat) (xs : Nat → Int32) : mSA := fun k => if k < 1000000 then none else if k = 1000500 then some (.int, L, .inl xs) else if k < 1001000 then saT[k - 1000000]? else if k < 2000000 then saV[k - 1001000]? else none
theorem SAF_ok (L : Nat) (xs : Nat → Int32) : sOK (SAF L xs) := by
  refine ⟨rfl, rfl, rfl, rfl, rfl, rfl, rfl, rfl, rfl, rfl, rfl, rfl, rfl, rfl, rfl, rfl, rfl, rfl, rfl, rfl, fun i hi => ?_⟩
  unfold SAF
  rw [if_neg (by omega), if_neg (by omega), if_neg (by omega), if_pos (by omega), show 1001000 + i - 1001000 = i by omega]
  unfold saV
  rw [List.getElem?_map, List.getElem?_range hi]
  rfl
theorem SAF_x (L : Nat) (xs : Nat → Int32) : SAF L xs 1000500 = some (.int, L, .inl xs) := rfl
theorem arr_ok {s : State} {b : Nat} (hts : ∀ w ∈ lw_tbl, w.before #[Value.ref b] s = true) (ty : FieldType) : ∃ cA : ClassId, ty ∈ mTy → ArrOfT s cA ty ∧ va_RA s cA ty := by
  by_cases h : ty ∈ mTy
  · simp only [mTy, List.mem_cons, List.not_mem_nil, or_false] at h
    rcases h with rfl | rfl | rfl | rfl | rfl
    · obtain ⟨c, k, comp, h1, h2, h3⟩ := Cond.arrayClass_spec (hts _ la_int)
      exact ⟨c, fun _ => ⟨fun n z => ⟨fun k h => (by cases h), k, h2, comp, h3⟩, h1⟩⟩
    · obtain ⟨c, k, comp, h1, h2, h3⟩ := Cond.arrayClass_spec (hts _ la_long)
      exact ⟨c, fun _ => ⟨fun n z => ⟨fun k h => (by cases h), k, h2, comp, h3⟩, h1⟩⟩
    · obtain ⟨c, k, comp, h1, h2, h3⟩ := Cond.arrayClass_spec (hts _ la_byte)
      exact ⟨c, fun _ => ⟨fun n z => ⟨fun k h => (by cases h), k, h2, comp, h3⟩, h1⟩⟩
    · obtain ⟨comp, c, k, h1, -, h3, h4, h5⟩ := Cond.arrayOver_spec (n := RX7) (hts _ (mNW_in _ (List.mem_of_getElem? (i := 0) rfl)))
      exact ⟨c, fun _ => ⟨fun n z => ⟨fun k h => (by cases h), k, h3, comp, h4⟩, k, comp, h3, h4, h1, h5⟩⟩
    · obtain ⟨comp, c, k, h1, -, h3, h4, h5⟩ := Cond.arrayOver_spec (n := RX2) (hts _ (mNW_in _ (List.mem_of_getElem? (i := 1) rfl)))
      exact ⟨c, fun _ => ⟨fun n z => ⟨fun k h => (by cases h), k, h3, comp, h4⟩, k, comp, h3, h4, h1, h5⟩⟩
  · exact ⟨0, fun z => absurd z h⟩
theorem cls_ok {s : State} {b : Nat} (hts : ∀ w ∈ lw_tbl, w.before #[Value.ref b] s = true) (k : Nat) : ∃ q : ClassId × (Nat → Nat), ∀ r, vwCl[k]? = some r → u_Kn s r.1 r.2.1 r.2.2 q.1 q.2 := by
  cases h : vwCl[k]? with
  | none => exact ⟨(0, fun _ => 0), fun r hr => by cases hr⟩
  | some r =>
    obtain ⟨cC, iS, hu⟩ := u_known (wAll hts) (mCl_ok k r h).1 (hts _ (inst_ok k r h))
    exact ⟨(cC, iS), fun r' hr => by cases hr; exact hu⟩
theorem nw_ok {s : State} {b : Nat} (hts : ∀ w ∈ lw_tbl, w.before #[Value.ref b] s = true) : ∀ w ∈ mNW, va_Nw w s := by
  intro w hw
  have h := hts w (mNW_in w hw)
  rcases mNW_kind w hw with ⟨C, rfl⟩ | ⟨a, i, x, h', rfl⟩ | ⟨x, rfl⟩
  · exact va_AO.of h
  · exact va_Nw.of rfl h
  · exact va_Nw.of rfl h
set_option maxRecDepth 100000 in
theorem mK_start {s : State} {b L : Nat} {xs : Nat → Int32} (hL : L ≤ 4096) (hts : ∀ w ∈ lw_tbl, w.before #[Value.ref b] s = true) (hX : va_X b L xs s s.heap) (hbl : b < s.heap.size) (hgv : (Jvm.Cond.and given_1 narrow_1).before #[Value.ref b] s = true) : ∃ (D : va_G) (dA : FieldType → ClassId) (ad : Nat → Nat), ad 1000500 = b ∧ mK D dA ad s.heap.size (SAF L xs) s := by
  have hA : ∀ a : Nat, a < s.heap.size → ¬ (fun q : Nat => s.heap.size ≤ q) a := fun a h => Nat.not_le.mpr h
  have hs : ∀ c ∈ flatC nT, c.before #[Value.ref b] s = true := flat_of_before nT hgv
  obtain ⟨t0, e0, T0⟩ := tab_l (A := fun q : Nat => s.heap.size ≤ q) hs (by decide) nx_0 hA
  obtain ⟨t1, e1, T1⟩ := tab_i (A := fun q : Nat => s.heap.size ≤ q) hs (by decide) nx_1 hA
  obtain ⟨t2, e2, T2⟩ := tab_i (A := fun q : Nat => s.heap.size ≤ q) hs (by decide) nx_2 hA
  obtain ⟨t3, e3, T3⟩ := tab_l (A := fun q : Nat => s.heap.size ≤ q) hs (by decide) nx_3 hA
  obtain ⟨t4, e4, T4⟩ := tab_l (A := fun q : Nat => s.heap.size ≤ q) hs (by decide) nx_4 hA
  obtain ⟨t5, e5, T5⟩ := tab_l (A := fun q : Nat => s.heap.size ≤ q) hs (by decide) nx_5 hA
  obtain ⟨t6, e6, T6⟩ := tab_i (A := fun q : Nat => s.heap.size ≤ q) hs (by decide) nx_6 hA
  obtain ⟨t7, e7, T7⟩ := tab_i (A := fun q : Nat => s.heap.size ≤ q) hs (by decide) nx_7 hA
  obtain ⟨t8, e8, T8⟩ := tab_i (A := fun q : Nat => s.heap.size ≤ q) hs (by decide) nx_8 hA
  obtain ⟨t9, e9, T9⟩ := tab_i (A := fun q : Nat => s.heap.size ≤ q) hs (by decide) nx_9 hA
  obtain ⟨t10, e10, T10⟩ := tab_i (A := fun q : Nat => s.heap.size ≤ q) hs (by decide) nx_10 hA
  obtain ⟨t11, e11, T11⟩ := tab_i (A := fun q : Nat => s.heap.size ≤ q) hs (by decide) nx_11 hA
  obtain ⟨t12, e12, T12⟩ := tab_i (A := fun q : Nat => s.heap.size ≤ q) hs (by decide) nx_12 hA
  obtain ⟨t13, e13, T13⟩ := tab_i (A := fun q : Nat => s.heap.size ≤ q) hs (by decide) nx_13 hA
  obtain ⟨t14, e14, T14⟩ := tab_i (A := fun q : Nat => s.heap.size ≤ q) hs (by decide) nx_14 hA
  obtain ⟨t15, e15, T15⟩ := tab_i (A := fun q : Nat => s.heap.size ≤ q) hs (by decide) nx_15 hA
  obtain ⟨t16, e16, T16⟩ := tab_i (A := fun q : Nat => s.heap.size ≤ q) hs (by decide) nx_16 hA
  obtain ⟨t17, e17, T17⟩ := tab_i (A := fun q : Nat => s.heap.size ≤ q) hs (by decide) nx_17 hA
  obtain ⟨t18, e18, T18⟩ := tab_i (A := fun q : Nat => s.heap.size ≤ q) hs (by decide) nx_18 hA
  obtain ⟨t19, e19, T19⟩ := tab_i (A := fun q : Nat => s.heap.size ≤ q) hs (by decide) nx_19 hA
  obtain ⟨k0, v0, f0, O0, P0, Q0, V0⟩ := tab_s (A := fun q : Nat => s.heap.size ≤ q) hs (by decide) ny_0 hA
  obtain ⟨k1, v1, f1, O1, P1, Q1, V1⟩ := tab_s (A := fun q : Nat => s.heap.size ≤ q) hs (by decide) ny_1 hA
  obtain ⟨k2, v2, f2, O2, P2, Q2, V2⟩ := tab_s (A := fun q : Nat => s.heap.size ≤ q) hs (by decide) ny_2 hA
  obtain ⟨k3, v3, f3, O3, P3, Q3, V3⟩ := tab_s (A := fun q : Nat => s.heap.size ≤ q) hs (by decide) ny_3 hA
  obtain ⟨k4, v4, f4, O4, P4, Q4, V4⟩ := tab_s (A := fun q : Nat => s.heap.size ≤ q) hs (by decide) ny_4 hA
  obtain ⟨k5, v5, f5, O5, P5, Q5, V5⟩ := tab_s (A := fun q : Nat => s.heap.size ≤ q) hs (by decide) ny_5 hA
  obtain ⟨k6, v6, f6, O6, P6, Q6, V6⟩ := tab_s (A := fun q : Nat => s.heap.size ≤ q) hs (by decide) ny_6 hA
  obtain ⟨k7, v7, f7, O7, P7, Q7, V7⟩ := tab_s (A := fun q : Nat => s.heap.size ≤ q) hs (by decide) ny_7 hA
  obtain ⟨k8, v8, f8, O8, P8, Q8, V8⟩ := tab_s (A := fun q : Nat => s.heap.size ≤ q) hs (by decide) ny_8 hA
  obtain ⟨k9, v9, f9, O9, P9, Q9, V9⟩ := tab_s (A := fun q : Nat => s.heap.size ≤ q) hs (by decide) ny_9 hA
  obtain ⟨k10, v10, f10, O10, P10, Q10, V10⟩ := tab_s (A := fun q : Nat => s.heap.size ≤ q) hs (by decide) ny_10 hA
  obtain ⟨k11, v11, f11, O11, P11, Q11, V11⟩ := tab_s (A := fun q : Nat => s.heap.size ≤ q) hs (by decide) ny_11 hA
  obtain ⟨k12, v12, f12, O12, P12, Q12, V12⟩ := tab_s (A := fun q : Nat => s.heap.size ≤ q) hs (by decide) ny_12 hA
  obtain ⟨k13, v13, f13, O13, P13, Q13, V13⟩ := tab_s (A := fun q : Nat => s.heap.size ≤ q) hs (by decide) ny_13 hA
  have hcs := va_eqi (hs (Cond.eq (.static "java/lang/String" "COMPACT_STRINGS" "Z") (.int 1)) (by decide +kernel))
  have hq := va_Zqof (A := fun q : Nat => s.heap.size ≤ q) (hts _ ls_21) (hts _ li_3) (hs (Cond.isRef (.static "jdk/internal/util/Preconditions" "SIOOBE_FORMATTER" "Ljava/util/function/BiFunction;")) (by decide +kernel)) hA
  obtain ⟨z, hz⟩ : ∃ z : Nat, va_Z "jdk/internal/util/Preconditions" "SIOOBE_FORMATTER" "Ljava/util/function/BiFunction;" (match z with
    | 0 => .null
    | t + 1 => .ref t) (fun q : Nat => s.heap.size ≤ q) s s.heap := by
    rcases hq with h | ⟨t, h⟩
    · exact ⟨0, h⟩
    · exact ⟨t + 1, h⟩
  obtain ⟨F, hF⟩ := Classical.axiomOfChoice (cls_ok hts)
  obtain ⟨dA, hdA⟩ := Classical.axiomOfChoice (arr_ok hts)
  refine ⟨(fun k => (F k).1, fun k => (F k).2), dA, adF s.heap.size b z [t0, t1, t2, t3, t4, t5, t6, t7, t8, t9, t10, t11, t12, t13, t14, t15, t16, t17, t18, t19] [v0, v1, v2, v3, v4, v5, v6, v7, v8, v9, v10, v11, v12, v13] [k0, k1, k2, k3, k4, k5, k6, k7, k8, k9, k10, k11, k12, k13], rfl, ⟨fun c q hq => hF c q hq, fun k q hk => ?_⟩, fun k hk => adF_own _ _ _ _ _ _ hk, fun q hq => ?_, fun k e he => ?_, fun i hi => ?_, fun i q hq => ?_, nw_ok hts⟩
  · rw [List.getElem?_map] at hk
    cases h : mTy[k]? with
    | none => rw [h] at hk; cases hk
    | some ty =>
      rw [h] at hk
      cases hk
      exact hdA ty (List.mem_of_getElem? h)
  · simp only [mStat, List.mem_cons, List.not_mem_nil, or_false] at hq
    rcases hq with rfl | rfl | rfl | rfl | rfl | rfl | rfl | rfl | rfl | rfl | rfl | rfl | rfl | rfl | rfl | rfl | rfl | rfl | rfl | rfl | rfl | rfl
    · exact va_Zof (hts _ ls_0) (hts _ li_0) e0 hA
    · exact va_Zof (hts _ ls_1) (hts _ li_0) e1 hA
    · exact va_Zof (hts _ ls_2) (hts _ li_0) e2 hA
    · exact va_Zof (hts _ ls_3) (hts _ li_0) e3 hA
    · exact va_Zof (hts _ ls_4) (hts _ li_1) e4 hA
    · exact va_Zof (hts _ ls_5) (hts _ li_1) e5 hA
    · exact va_Zof (hts _ ls_6) (hts _ li_1) e6 hA
    · exact va_Zof (hts _ ls_7) (hts _ li_1) e7 hA
    · exact va_Zof (hts _ ls_8) (hts _ li_1) e8 hA
    · exact va_Zof (hts _ ls_9) (hts _ li_1) e9 hA
    · exact va_Zof (hts _ ls_10) (hts _ li_1) e10 hA
    · exact va_Zof (hts _ ls_11) (hts _ li_1) e11 hA
    · exact va_Zof (hts _ ls_12) (hts _ li_1) e12 hA
    · exact va_Zof (hts _ ls_13) (hts _ li_1) e13 hA
    · exact va_Zof (hts _ ls_14) (hts _ li_1) e14 hA
    · exact va_Zof (hts _ ls_15) (hts _ li_1) e15 hA
    · exact va_Zof (hts _ ls_16) (hts _ li_1) e16 hA
    · exact va_Zof (hts _ ls_17) (hts _ li_1) e17 hA
    · exact va_Zof (hts _ ls_18) (hts _ li_1) e18 hA
    · exact va_Zof (hts _ ls_19) (hts _ li_1) e19 hA
    · exact va_Zof (hts _ ls_20) (hts _ li_2) hcs hA
    · exact hz
  · unfold SAF at he
    by_cases h1 : k < 1000000
    · rw [if_pos h1] at he; cases he
    rw [if_neg h1] at he
    by_cases h2 : k = 1000500
    · rw [if_pos h2] at he
      subst h2
      cases he
      obtain ⟨scr, g1, g2, g3, g4, g5⟩ := hX
      exact ⟨scr, g1, g2, g3, Nat.le_of_eq g4.symm, by first | (rw [g4]; rfl; done) | (rw [g4]; done), g5, Nat.not_le.mpr hbl⟩
    rw [if_neg h2] at he
    by_cases h3 : k < 1001000
    · rw [if_pos h3] at he
      obtain ⟨i, rfl⟩ : ∃ i, k = 1000000 + i := ⟨k - 1000000, by omega⟩
      rw [show 1000000 + i - 1000000 = i by omega] at he
      clear h1 h2 h3
      match i, he with
      | 0, he => cases he; exact T0
      | 1, he => cases he; exact T1
      | 2, he => cases he; exact T2
      | 3, he => cases he; exact T3
      | 4, he => cases he; exact T4
      | 5, he => cases he; exact T5
      | 6, he => cases he; exact T6
      | 7, he => cases he; exact T7
      | 8, he => cases he; exact T8
      | 9, he => cases he; exact T9
      | 10, he => cases he; exact T10
      | 11, he => cases he; exact T11
      | 12, he => cases he; exact T12
      | 13, he => cases he; exact T13
      | 14, he => cases he; exact T14
      | 15, he => cases he; exact T15
      | 16, he => cases he; exact T16
      | 17, he => cases he; exact T17
      | 18, he => cases he; exact T18
      | 19, he => cases he; exact T19
      | j + 20, he => exact absurd he (by rw [List.getElem?_eq_none (by show 20 ≤ j + 20; omega)]; exact fun z => by cases z)
    rw [if_neg h3] at he
    by_cases h4 : k < 2000000
    · rw [if_pos h4] at he
      obtain ⟨i, rfl⟩ : ∃ i, k = 1001000 + i := ⟨k - 1001000, by omega⟩
      rw [show 1001000 + i - 1001000 = i by omega] at he
      clear h1 h2 h3 h4
      match i, he with
      | 0, he => cases he; exact V0
      | 1, he => cases he; exact V1
      | 2, he => cases he; exact V2
      | 3, he => cases he; exact V3
      | 4, he => cases he; exact V4
      | 5, he => cases he; exact V5
      | 6, he => cases he; exact V6
      | 7, he => cases he; exact V7
      | 8, he => cases he; exact V8
      | 9, he => cases he; exact V9
      | 10, he => cases he; exact V10
      | 11, he => cases he; exact V11
      | 12, he => cases he; exact V12
      | 13, he => cases he; exact V13
      | j + 14, he => exact absurd he (by rw [List.getElem?_eq_none (by show 14 ≤ j + 14; omega)]; exact fun z => by cases z)
    · rw [if_neg h4] at he; cases he
  · match i, hi with
    | 0, _ => exact ⟨O0, P0, Q0⟩
    | 1, _ => exact ⟨O1, P1, Q1⟩
    | 2, _ => exact ⟨O2, P2, Q2⟩
    | 3, _ => exact ⟨O3, P3, Q3⟩
    | 4, _ => exact ⟨O4, P4, Q4⟩
    | 5, _ => exact ⟨O5, P5, Q5⟩
    | 6, _ => exact ⟨O6, P6, Q6⟩
    | 7, _ => exact ⟨O7, P7, Q7⟩
    | 8, _ => exact ⟨O8, P8, Q8⟩
    | 9, _ => exact ⟨O9, P9, Q9⟩
    | 10, _ => exact ⟨O10, P10, Q10⟩
    | 11, _ => exact ⟨O11, P11, Q11⟩
    | 12, _ => exact ⟨O12, P12, Q12⟩
    | 13, _ => exact ⟨O13, P13, Q13⟩
  · match i, hq with
    | 0, hq => cases hq; exact vk_R.of (hts _ lr_0) f0
    | 1, hq => cases hq; exact vk_R.of (hts _ lr_1) f1
    | 2, hq => cases hq; exact vk_R.of (hts _ lr_2) f2
    | 3, hq => cases hq; exact vk_R.of (hts _ lr_3) f3
    | 4, hq => cases hq; exact vk_R.of (hts _ lr_4) f4
    | 5, hq => cases hq; exact vk_R.of (hts _ lr_5) f5
    | 6, hq => cases hq; exact vk_R.of (hts _ lr_6) f6
    | 7, hq => cases hq; exact vk_R.of (hts _ lr_7) f7
    | 8, hq => cases hq; exact vk_R.of (hts _ lr_8) f8
    | 9, hq => cases hq; exact vk_R.of (hts _ lr_9) f9
    | 10, hq => cases hq; exact vk_R.of (hts _ lr_10) f10
    | 11, hq => cases hq; exact vk_R.of (hts _ lr_11) f11
    | 12, hq => cases hq; exact vk_R.of (hts _ lr_12) f12
    | 13, hq => cases hq; exact vk_R.of (hts _ lr_13) f13
    | j + 14, hq => exact absurd hq (by rw [List.getElem?_eq_none (by show 14 ≤ j + 14; omega)]; exact fun z => by cases z)
/-- from the entry, for every script of at most 4096 ints, the law comes to its end with true -/
theorem whole_start {p : Program} {e : Env} {s : State} {m : MethodId} {below : List Frame} {meth : Method} {c : Code} (l : Launch) {b L : Nat} {xs : Nat → Int32} (hL : L ≤ 4096) (C0 : lw_At p s m meth c b L xs) : W p l e room_1 s m #[Value.ref b] below meth c s.heap [] 0 0 (lw_Z below #[Value.ref b] s) (entryFrame m ([Value.ref b] : List Value).toArray 4) := by
  obtain ⟨hx, hb, hr, hml, hown, hts, hX, hbl, hlocks, hgv, hnm⟩ := id C0
  obtain ⟨D, dA, ad, hab, hK⟩ := mK_start hL hts hX hbl hgv
  have hl := lv_entry ([Value.ref b]) (n := 4) (Nat.le_of_ble_eq_true rfl)
  rw [lg_entry_eq]
  generalize (lg_sl ([Value.ref b]) ++ List.replicate (4 - (lg_sl ([Value.ref b])).length) Slot.unset).toArray = ls at hl ⊢
  have hl2 : lv_has ls (mLo (mt 243)) (mP ad 0 [some (.ref 1000500), none, none, none]) := by
    have e : mP ad 0 [some (.ref 1000500), none, none, none] = [(0, .ref b)] := by rw [← hab]; rfl
    rw [e]
    exact hl
  have hV : mV (SAF L xs) 187 21902 243 0 [some (.ref 1000500), none, none, none] [] [] (fun v _ => v = some (.int 1)) := law_0 (fun hi hl h1 h2 => law_loop (SAF_ok L xs) (SAF_x L xs) hL (fun _ => rfl) L 0 S0 hi hl (by omega) (by omega) wf0 h1 h2)
  refine hV p l e room_1 s m #[Value.ref b] below meth c D dA ad s.heap.size (lw_Z below #[Value.ref b] s) 187 s.heap [] 0 0 ls ⟨hx, hb, hml, hown, wAll hts, hnm, by decide, by decide, hK, by decide, ?_⟩ rfl (by decide) ⟨fun k q h => by simp [tW] at h, va_S.rf, rfl, by decide, fun k n f h => by simp at h, Nat.le_refl _⟩ hl2
  intro v h H locs slots pc ls hv hR hsl hm
  subst hv
  refine va_forget (fun q hq => hR.2.1.2.2 q hq) ?_
  refine W.widen (k := 600000) (n := 7302249) (by decide) hsl ?_
  exact lw_ret hx hb hr hlocks hm.1

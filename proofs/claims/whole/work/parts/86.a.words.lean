/-! PART 86: the start: what the Statement gives of it, as a picture (printed by wip/whole/gen86.py) -/
def nT : Cond := Jvm.Cond.and given_1 narrow_1
section
variable {args : Array Value} {s : State} {A : Nat → Prop} {C n d own : String} {N off k : Nat}
theorem nx_in {ws : List Cond} {M : Nat} (hs : ∀ c ∈ flatC nT, c.before args s = true) (hx : ((flatC nT).drop off).take M = ws) : ∀ c ∈ ws, c.before args s = true := fun c hc => hs c (List.mem_of_mem_drop (List.mem_of_mem_take (by rw [hx]; exact hc)))
theorem tab_l {vs : List Int64} (hs : ∀ c ∈ flatC nT, c.before args s = true) (hN : N < 2 ^ 31) (hx : ((flatC nT).drop off).take (N + 2) = Cond.arrayOf (.static C n d) .long :: Cond.eq (.length (.static C n d)) (.int (Int32.ofNat N)) :: (List.range N).map (fun j => Cond.eq (.elem (.static C n d) (.int (Int32.ofNat j))) (.long (vs.getD j 0)))) (hA : ∀ a : Nat, a < s.heap.size → ¬ A a) : ∃ t : Nat, (Term.static C n d).eval args s none [] s = some (.ref t) ∧ va_T .long t N (fun j => .long (vs.getD j 0)) A s s.heap := by
  have hm := nx_in hs hx
  exact va_Tof hN (hm _ List.mem_cons_self) (va_eqt (hm _ (List.mem_cons_of_mem _ List.mem_cons_self))) (fun j hj => va_eqtl (hm _ (List.mem_cons_of_mem _ (List.mem_cons_of_mem _ (List.mem_map.mpr ⟨j, List.mem_range.mpr hj, rfl⟩))))) hA
theorem tab_i {vs : List Int32} (hs : ∀ c ∈ flatC nT, c.before args s = true) (hN : N < 2 ^ 31) (hx : ((flatC nT).drop off).take (N + 2) = Cond.arrayOf (.static C n d) .int :: Cond.eq (.length (.static C n d)) (.int (Int32.ofNat N)) :: (List.range N).map (fun j => Cond.eq (.elem (.static C n d) (.int (Int32.ofNat j))) (.int (vs.getD j 0)))) (hA : ∀ a : Nat, a < s.heap.size → ¬ A a) : ∃ t : Nat, (Term.static C n d).eval args s none [] s = some (.ref t) ∧ va_T .int t N (fun j => .int (vs.getD j 0)) A s s.heap := by
  have hm := nx_in hs hx
  exact va_Tof hN (hm _ List.mem_cons_self) (va_eqt (hm _ (List.mem_cons_of_mem _ List.mem_cons_self))) (fun j hj => va_eqt (hm _ (List.mem_cons_of_mem _ (List.mem_cons_of_mem _ (List.mem_map.mpr ⟨j, List.mem_range.mpr hj, rfl⟩))))) hA
theorem tab_s {vs : List Nat} (hs : ∀ c ∈ flatC nT, c.before args s = true) (hN : N < 2 ^ 31) (hx : ((flatC nT).drop off).take (N + 4) = Cond.exactly (.string own k) "java/lang/String" :: Cond.eq (.field (.string own k) "java/lang/String" "coder" "B") (.int 0) :: Cond.arrayOf (.field (.string own k) "java/lang/String" "value" "[B") .byte :: Cond.eq (.length (.field (.string own k) "java/lang/String" "value" "[B")) (.int (Int32.ofNat N)) :: (List.range N).map (fun j => Cond.eq (.elem (.field (.string own k) "java/lang/String" "value" "[B") (.int (Int32.ofNat j))) (.int (nI (vs.getD j 0))))) (hA : ∀ a : Nat, a < s.heap.size → ¬ A a) : ∃ a t : Nat, (Term.string own k).eval args s none [] s = some (.ref a) ∧ va_O "java/lang/String" a A s s.heap ∧ va_OF "java/lang/String" "coder" "B" (.int 0) a A s s.heap ∧ va_OF "java/lang/String" "value" "[B" (.ref t) a A s s.heap ∧ va_T .byte t N (fun j => .int (nI (vs.getD j 0))) A s s.heap := by
  have hm := nx_in hs hx
  obtain ⟨a, c, cA, kA, q1, q2, q3, q4, q5, q6, -⟩ := Cond.exactly_spec (args := args) (first := s) (o := none) (s := s) (idx := []) (t := .string own k) (cls := "java/lang/String") (hm _ List.mem_cons_self)
  obtain ⟨t, ht, hT⟩ := va_Tof (f := fun j => .int (nI (vs.getD j 0))) (A := A) hN (hm _ (List.mem_cons_of_mem _ (List.mem_cons_of_mem _ List.mem_cons_self))) (va_eqt (hm _ (List.mem_cons_of_mem _ (List.mem_cons_of_mem _ (List.mem_cons_of_mem _ List.mem_cons_self))))) (fun j hj => va_eqt (hm _ (List.mem_cons_of_mem _ (List.mem_cons_of_mem _ (List.mem_cons_of_mem _ (List.mem_cons_of_mem _ (List.mem_map.mpr ⟨j, List.mem_range.mpr hj, rfl⟩))))))) hA
  exact ⟨a, t, q1, ⟨cA, q3, q5, by rw [q6]; exact q2, hA a (Array.getElem?_eq_some_iff.mp q3).1⟩, vk_OFof q1 (va_eqt (hm _ (List.mem_cons_of_mem _ List.mem_cons_self))) hA, vk_OFof q1 ht hA, hT⟩
end
set_option maxRecDepth 100000 in
theorem nx_0 : ((flatC nT).drop 5).take (8 + 2) = Cond.arrayOf (.static "KeySealer$Digest" "STARTS" "[J") .long :: Cond.eq (.length (.static "KeySealer$Digest" "STARTS" "[J")) (.int (Int32.ofNat 8)) :: (List.range 8).map (fun j => Cond.eq (.elem (.static "KeySealer$Digest" "STARTS" "[J") (.int (Int32.ofNat j))) (.long (st_0.getD j 0))) := by decide +kernel
set_option maxRecDepth 100000 in
theorem nx_1 : ((flatC nT).drop 16).take (12 + 2) = Cond.arrayOf (.static "KeySealer$Digest" "WIDE" "[I") .int :: Cond.eq (.length (.static "KeySealer$Digest" "WIDE" "[I")) (.int (Int32.ofNat 12)) :: (List.range 12).map (fun j => Cond.eq (.elem (.static "KeySealer$Digest" "WIDE" "[I") (.int (Int32.ofNat j))) (.int (st_1.getD j 0))) := by decide +kernel
set_option maxRecDepth 100000 in
theorem nx_2 : ((flatC nT).drop 31).take (12 + 2) = Cond.arrayOf (.static "KeySealer$Digest" "NARROW" "[I") .int :: Cond.eq (.length (.static "KeySealer$Digest" "NARROW" "[I")) (.int (Int32.ofNat 12)) :: (List.range 12).map (fun j => Cond.eq (.elem (.static "KeySealer$Digest" "NARROW" "[I") (.int (Int32.ofNat j))) (.int (st_2.getD j 0))) := by decide +kernel
set_option maxRecDepth 100000 in
theorem nx_3 : ((flatC nT).drop 46).take (80 + 2) = Cond.arrayOf (.static "KeySealer$Digest" "CUBES" "[J") .long :: Cond.eq (.length (.static "KeySealer$Digest" "CUBES" "[J")) (.int (Int32.ofNat 80)) :: (List.range 80).map (fun j => Cond.eq (.elem (.static "KeySealer$Digest" "CUBES" "[J") (.int (Int32.ofNat j))) (.long (st_3.getD j 0))) := by decide +kernel
set_option maxRecDepth 100000 in
theorem nx_4 : ((flatC nT).drop 134).take (8 + 2) = Cond.arrayOf (.static "KeySealerModel" "SQUARES" "[J") .long :: Cond.eq (.length (.static "KeySealerModel" "SQUARES" "[J")) (.int (Int32.ofNat 8)) :: (List.range 8).map (fun j => Cond.eq (.elem (.static "KeySealerModel" "SQUARES" "[J") (.int (Int32.ofNat j))) (.long (st_4.getD j 0))) := by decide +kernel
set_option maxRecDepth 100000 in
theorem nx_5 : ((flatC nT).drop 145).take (80 + 2) = Cond.arrayOf (.static "KeySealerModel" "CUBES" "[J") .long :: Cond.eq (.length (.static "KeySealerModel" "CUBES" "[J")) (.int (Int32.ofNat 80)) :: (List.range 80).map (fun j => Cond.eq (.elem (.static "KeySealerModel" "CUBES" "[J") (.int (Int32.ofNat j))) (.long (st_5.getD j 0))) := by decide +kernel
set_option maxRecDepth 100000 in
theorem nx_6 : ((flatC nT).drop 228).take (4 + 2) = Cond.arrayOf (.static "KeySealerModel" "EXPAND" "[I") .int :: Cond.eq (.length (.static "KeySealerModel" "EXPAND" "[I")) (.int (Int32.ofNat 4)) :: (List.range 4).map (fun j => Cond.eq (.elem (.static "KeySealerModel" "EXPAND" "[I") (.int (Int32.ofNat j))) (.int (st_6.getD j 0))) := by decide +kernel
set_option maxRecDepth 100000 in
theorem nx_7 : ((flatC nT).drop 235).take (5 + 2) = Cond.arrayOf (.static "KeySealerModel" "KEM" "[I") .int :: Cond.eq (.length (.static "KeySealerModel" "KEM" "[I")) (.int (Int32.ofNat 5)) :: (List.range 5).map (fun j => Cond.eq (.elem (.static "KeySealerModel" "KEM" "[I") (.int (Int32.ofNat j))) (.int (st_7.getD j 0))) := by decide +kernel
set_option maxRecDepth 100000 in
theorem nx_8 : ((flatC nT).drop 253).take (7 + 2) = Cond.arrayOf (.static "KeySealerModel" "VERSION" "[I") .int :: Cond.eq (.length (.static "KeySealerModel" "VERSION" "[I")) (.int (Int32.ofNat 7)) :: (List.range 7).map (fun j => Cond.eq (.elem (.static "KeySealerModel" "VERSION" "[I") (.int (Int32.ofNat j))) (.int (st_8.getD j 0))) := by decide +kernel
set_option maxRecDepth 100000 in
theorem nx_9 : ((flatC nT).drop 243).take (7 + 2) = Cond.arrayOf (.static "KeySealerModel" "DKP" "[I") .int :: Cond.eq (.length (.static "KeySealerModel" "DKP" "[I")) (.int (Int32.ofNat 7)) :: (List.range 7).map (fun j => Cond.eq (.elem (.static "KeySealerModel" "DKP" "[I") (.int (Int32.ofNat j))) (.int (st_9.getD j 0))) := by decide +kernel
set_option maxRecDepth 100000 in
theorem nx_10 : ((flatC nT).drop 263).take (2 + 2) = Cond.arrayOf (.static "KeySealerModel" "SK" "[I") .int :: Cond.eq (.length (.static "KeySealerModel" "SK" "[I")) (.int (Int32.ofNat 2)) :: (List.range 2).map (fun j => Cond.eq (.elem (.static "KeySealerModel" "SK" "[I") (.int (Int32.ofNat j))) (.int (st_10.getD j 0))) := by decide +kernel
set_option maxRecDepth 100000 in
theorem nx_11 : ((flatC nT).drop 268).take (7 + 2) = Cond.arrayOf (.static "KeySealerModel" "EAE" "[I") .int :: Cond.eq (.length (.static "KeySealerModel" "EAE" "[I")) (.int (Int32.ofNat 7)) :: (List.range 7).map (fun j => Cond.eq (.elem (.static "KeySealerModel" "EAE" "[I") (.int (Int32.ofNat j))) (.int (st_11.getD j 0))) := by decide +kernel
set_option maxRecDepth 100000 in
theorem nx_12 : ((flatC nT).drop 278).take (13 + 2) = Cond.arrayOf (.static "KeySealerModel" "SHARED_SECRET" "[I") .int :: Cond.eq (.length (.static "KeySealerModel" "SHARED_SECRET" "[I")) (.int (Int32.ofNat 13)) :: (List.range 13).map (fun j => Cond.eq (.elem (.static "KeySealerModel" "SHARED_SECRET" "[I") (.int (Int32.ofNat j))) (.int (st_12.getD j 0))) := by decide +kernel
set_option maxRecDepth 100000 in
theorem nx_13 : ((flatC nT).drop 294).take (11 + 2) = Cond.arrayOf (.static "KeySealerModel" "PSK_ID" "[I") .int :: Cond.eq (.length (.static "KeySealerModel" "PSK_ID" "[I")) (.int (Int32.ofNat 11)) :: (List.range 11).map (fun j => Cond.eq (.elem (.static "KeySealerModel" "PSK_ID" "[I") (.int (Int32.ofNat j))) (.int (st_13.getD j 0))) := by decide +kernel
set_option maxRecDepth 100000 in
theorem nx_14 : ((flatC nT).drop 308).take (9 + 2) = Cond.arrayOf (.static "KeySealerModel" "INFO" "[I") .int :: Cond.eq (.length (.static "KeySealerModel" "INFO" "[I")) (.int (Int32.ofNat 9)) :: (List.range 9).map (fun j => Cond.eq (.elem (.static "KeySealerModel" "INFO" "[I") (.int (Int32.ofNat j))) (.int (st_14.getD j 0))) := by decide +kernel
set_option maxRecDepth 100000 in
theorem nx_15 : ((flatC nT).drop 320).take (6 + 2) = Cond.arrayOf (.static "KeySealerModel" "SECRET" "[I") .int :: Cond.eq (.length (.static "KeySealerModel" "SECRET" "[I")) (.int (Int32.ofNat 6)) :: (List.range 6).map (fun j => Cond.eq (.elem (.static "KeySealerModel" "SECRET" "[I") (.int (Int32.ofNat j))) (.int (st_15.getD j 0))) := by decide +kernel
set_option maxRecDepth 100000 in
theorem nx_16 : ((flatC nT).drop 329).take (3 + 2) = Cond.arrayOf (.static "KeySealerModel" "KEY" "[I") .int :: Cond.eq (.length (.static "KeySealerModel" "KEY" "[I")) (.int (Int32.ofNat 3)) :: (List.range 3).map (fun j => Cond.eq (.elem (.static "KeySealerModel" "KEY" "[I") (.int (Int32.ofNat j))) (.int (st_16.getD j 0))) := by decide +kernel
set_option maxRecDepth 100000 in
theorem nx_17 : ((flatC nT).drop 335).take (10 + 2) = Cond.arrayOf (.static "KeySealerModel" "BASE" "[I") .int :: Cond.eq (.length (.static "KeySealerModel" "BASE" "[I")) (.int (Int32.ofNat 10)) :: (List.range 10).map (fun j => Cond.eq (.elem (.static "KeySealerModel" "BASE" "[I") (.int (Int32.ofNat j))) (.int (st_17.getD j 0))) := by decide +kernel
set_option maxRecDepth 100000 in
theorem nx_18 : ((flatC nT).drop 348).take (3 + 2) = Cond.arrayOf (.static "KeySealerModel" "EXP" "[I") .int :: Cond.eq (.length (.static "KeySealerModel" "EXP" "[I")) (.int (Int32.ofNat 3)) :: (List.range 3).map (fun j => Cond.eq (.elem (.static "KeySealerModel" "EXP" "[I") (.int (Int32.ofNat j))) (.int (st_18.getD j 0))) := by decide +kernel
set_option maxRecDepth 100000 in
theorem nx_19 : ((flatC nT).drop 354).take (3 + 2) = Cond.arrayOf (.static "KeySealerModel" "SEC" "[I") .int :: Cond.eq (.length (.static "KeySealerModel" "SEC" "[I")) (.int (Int32.ofNat 3)) :: (List.range 3).map (fun j => Cond.eq (.elem (.static "KeySealerModel" "SEC" "[I") (.int (Int32.ofNat j))) (.int (st_19.getD j 0))) := by decide +kernel
set_option maxRecDepth 100000 in
theorem ny_0 : ((flatC nT).drop 359).take (3 + 4) = Cond.exactly (.string "KeySealer$Labels" 37) "java/lang/String" :: Cond.eq (.field (.string "KeySealer$Labels" 37) "java/lang/String" "coder" "B") (.int 0) :: Cond.arrayOf (.field (.string "KeySealer$Labels" 37) "java/lang/String" "value" "[B") .byte :: Cond.eq (.length (.field (.string "KeySealer$Labels" 37) "java/lang/String" "value" "[B")) (.int (Int32.ofNat 3)) :: (List.range 3).map (fun j => Cond.eq (.elem (.field (.string "KeySealer$Labels" 37) "java/lang/String" "value" "[B") (.int (Int32.ofNat j))) (.int (nI ((mTx.getD 0 []).getD j 0)))) := by decide +kernel
set_option maxRecDepth 100000 in
theorem ny_1 : ((flatC nT).drop 366).take (7 + 4) = Cond.exactly (.string "KeySealer" 172) "java/lang/String" :: Cond.eq (.field (.string "KeySealer" 172) "java/lang/String" "coder" "B") (.int 0) :: Cond.arrayOf (.field (.string "KeySealer" 172) "java/lang/String" "value" "[B") .byte :: Cond.eq (.length (.field (.string "KeySealer" 172) "java/lang/String" "value" "[B")) (.int (Int32.ofNat 7)) :: (List.range 7).map (fun j => Cond.eq (.elem (.field (.string "KeySealer" 172) "java/lang/String" "value" "[B") (.int (Int32.ofNat j))) (.int (nI ((mTx.getD 1 []).getD j 0)))) := by decide +kernel
set_option maxRecDepth 100000 in
theorem ny_2 : ((flatC nT).drop 378).take (7 + 4) = Cond.exactly (.string "KeySealer$Labels" 80) "java/lang/String" :: Cond.eq (.field (.string "KeySealer$Labels" 80) "java/lang/String" "coder" "B") (.int 0) :: Cond.arrayOf (.field (.string "KeySealer$Labels" 80) "java/lang/String" "value" "[B") .byte :: Cond.eq (.length (.field (.string "KeySealer$Labels" 80) "java/lang/String" "value" "[B")) (.int (Int32.ofNat 7)) :: (List.range 7).map (fun j => Cond.eq (.elem (.field (.string "KeySealer$Labels" 80) "java/lang/String" "value" "[B") (.int (Int32.ofNat j))) (.int (nI ((mTx.getD 2 []).getD j 0)))) := by decide +kernel
set_option maxRecDepth 100000 in
theorem ny_3 : ((flatC nT).drop 391).take (2 + 4) = Cond.exactly (.string "KeySealer" 178) "java/lang/String" :: Cond.eq (.field (.string "KeySealer" 178) "java/lang/String" "coder" "B") (.int 0) :: Cond.arrayOf (.field (.string "KeySealer" 178) "java/lang/String" "value" "[B") .byte :: Cond.eq (.length (.field (.string "KeySealer" 178) "java/lang/String" "value" "[B")) (.int (Int32.ofNat 2)) :: (List.range 2).map (fun j => Cond.eq (.elem (.field (.string "KeySealer" 178) "java/lang/String" "value" "[B") (.int (Int32.ofNat j))) (.int (nI ((mTx.getD 3 []).getD j 0)))) := by decide +kernel
set_option maxRecDepth 100000 in
theorem ny_4 : ((flatC nT).drop 400).take (7 + 4) = Cond.exactly (.string "KeySealer" 307) "java/lang/String" :: Cond.eq (.field (.string "KeySealer" 307) "java/lang/String" "coder" "B") (.int 0) :: Cond.arrayOf (.field (.string "KeySealer" 307) "java/lang/String" "value" "[B") .byte :: Cond.eq (.length (.field (.string "KeySealer" 307) "java/lang/String" "value" "[B")) (.int (Int32.ofNat 7)) :: (List.range 7).map (fun j => Cond.eq (.elem (.field (.string "KeySealer" 307) "java/lang/String" "value" "[B") (.int (Int32.ofNat j))) (.int (nI ((mTx.getD 4 []).getD j 0)))) := by decide +kernel
set_option maxRecDepth 100000 in
theorem ny_5 : ((flatC nT).drop 415).take (13 + 4) = Cond.exactly (.string "KeySealer" 309) "java/lang/String" :: Cond.eq (.field (.string "KeySealer" 309) "java/lang/String" "coder" "B") (.int 0) :: Cond.arrayOf (.field (.string "KeySealer" 309) "java/lang/String" "value" "[B") .byte :: Cond.eq (.length (.field (.string "KeySealer" 309) "java/lang/String" "value" "[B")) (.int (Int32.ofNat 13)) :: (List.range 13).map (fun j => Cond.eq (.elem (.field (.string "KeySealer" 309) "java/lang/String" "value" "[B") (.int (Int32.ofNat j))) (.int (nI ((mTx.getD 5 []).getD j 0)))) := by decide +kernel
set_option maxRecDepth 100000 in
theorem ny_6 : ((flatC nT).drop 437).take (4 + 4) = Cond.exactly (.string "KeySealer$Labels" 49) "java/lang/String" :: Cond.eq (.field (.string "KeySealer$Labels" 49) "java/lang/String" "coder" "B") (.int 0) :: Cond.arrayOf (.field (.string "KeySealer$Labels" 49) "java/lang/String" "value" "[B") .byte :: Cond.eq (.length (.field (.string "KeySealer$Labels" 49) "java/lang/String" "value" "[B")) (.int (Int32.ofNat 4)) :: (List.range 4).map (fun j => Cond.eq (.elem (.field (.string "KeySealer$Labels" 49) "java/lang/String" "value" "[B") (.int (Int32.ofNat j))) (.int (nI ((mTx.getD 6 []).getD j 0)))) := by decide +kernel
set_option maxRecDepth 100000 in
theorem ny_7 : ((flatC nT).drop 451).take (11 + 4) = Cond.exactly (.string "KeySealer" 311) "java/lang/String" :: Cond.eq (.field (.string "KeySealer" 311) "java/lang/String" "coder" "B") (.int 0) :: Cond.arrayOf (.field (.string "KeySealer" 311) "java/lang/String" "value" "[B") .byte :: Cond.eq (.length (.field (.string "KeySealer" 311) "java/lang/String" "value" "[B")) (.int (Int32.ofNat 11)) :: (List.range 11).map (fun j => Cond.eq (.elem (.field (.string "KeySealer" 311) "java/lang/String" "value" "[B") (.int (Int32.ofNat j))) (.int (nI ((mTx.getD 7 []).getD j 0)))) := by decide +kernel
set_option maxRecDepth 100000 in
theorem ny_8 : ((flatC nT).drop 473).take (9 + 4) = Cond.exactly (.string "KeySealer" 313) "java/lang/String" :: Cond.eq (.field (.string "KeySealer" 313) "java/lang/String" "coder" "B") (.int 0) :: Cond.arrayOf (.field (.string "KeySealer" 313) "java/lang/String" "value" "[B") .byte :: Cond.eq (.length (.field (.string "KeySealer" 313) "java/lang/String" "value" "[B")) (.int (Int32.ofNat 9)) :: (List.range 9).map (fun j => Cond.eq (.elem (.field (.string "KeySealer" 313) "java/lang/String" "value" "[B") (.int (Int32.ofNat j))) (.int (nI ((mTx.getD 8 []).getD j 0)))) := by decide +kernel
set_option maxRecDepth 100000 in
theorem ny_9 : ((flatC nT).drop 494).take (6 + 4) = Cond.exactly (.string "KeySealer" 315) "java/lang/String" :: Cond.eq (.field (.string "KeySealer" 315) "java/lang/String" "coder" "B") (.int 0) :: Cond.arrayOf (.field (.string "KeySealer" 315) "java/lang/String" "value" "[B") .byte :: Cond.eq (.length (.field (.string "KeySealer" 315) "java/lang/String" "value" "[B")) (.int (Int32.ofNat 6)) :: (List.range 6).map (fun j => Cond.eq (.elem (.field (.string "KeySealer" 315) "java/lang/String" "value" "[B") (.int (Int32.ofNat j))) (.int (nI ((mTx.getD 9 []).getD j 0)))) := by decide +kernel
set_option maxRecDepth 100000 in
theorem ny_10 : ((flatC nT).drop 513).take (3 + 4) = Cond.exactly (.string "KeySealer" 317) "java/lang/String" :: Cond.eq (.field (.string "KeySealer" 317) "java/lang/String" "coder" "B") (.int 0) :: Cond.arrayOf (.field (.string "KeySealer" 317) "java/lang/String" "value" "[B") .byte :: Cond.eq (.length (.field (.string "KeySealer" 317) "java/lang/String" "value" "[B")) (.int (Int32.ofNat 3)) :: (List.range 3).map (fun j => Cond.eq (.elem (.field (.string "KeySealer" 317) "java/lang/String" "value" "[B") (.int (Int32.ofNat j))) (.int (nI ((mTx.getD 10 []).getD j 0)))) := by decide +kernel
set_option maxRecDepth 100000 in
theorem ny_11 : ((flatC nT).drop 530).take (10 + 4) = Cond.exactly (.string "KeySealer" 318) "java/lang/String" :: Cond.eq (.field (.string "KeySealer" 318) "java/lang/String" "coder" "B") (.int 0) :: Cond.arrayOf (.field (.string "KeySealer" 318) "java/lang/String" "value" "[B") .byte :: Cond.eq (.length (.field (.string "KeySealer" 318) "java/lang/String" "value" "[B")) (.int (Int32.ofNat 10)) :: (List.range 10).map (fun j => Cond.eq (.elem (.field (.string "KeySealer" 318) "java/lang/String" "value" "[B") (.int (Int32.ofNat j))) (.int (nI ((mTx.getD 11 []).getD j 0)))) := by decide +kernel
set_option maxRecDepth 100000 in
theorem ny_12 : ((flatC nT).drop 555).take (3 + 4) = Cond.exactly (.string "KeySealer" 320) "java/lang/String" :: Cond.eq (.field (.string "KeySealer" 320) "java/lang/String" "coder" "B") (.int 0) :: Cond.arrayOf (.field (.string "KeySealer" 320) "java/lang/String" "value" "[B") .byte :: Cond.eq (.length (.field (.string "KeySealer" 320) "java/lang/String" "value" "[B")) (.int (Int32.ofNat 3)) :: (List.range 3).map (fun j => Cond.eq (.elem (.field (.string "KeySealer" 320) "java/lang/String" "value" "[B") (.int (Int32.ofNat j))) (.int (nI ((mTx.getD 12 []).getD j 0)))) := by decide +kernel
set_option maxRecDepth 100000 in
theorem ny_13 : ((flatC nT).drop 574).take (3 + 4) = Cond.exactly (.string "KeySealer" 267) "java/lang/String" :: Cond.eq (.field (.string "KeySealer" 267) "java/lang/String" "coder" "B") (.int 0) :: Cond.arrayOf (.field (.string "KeySealer" 267) "java/lang/String" "value" "[B") .byte :: Cond.eq (.length (.field (.string "KeySealer" 267) "java/lang/String" "value" "[B")) (.int (Int32.ofNat 3)) :: (List.range 3).map (fun j => Cond.eq (.elem (.field (.string "KeySealer" 267) "java/lang/String" "value" "[B") (.int (Int32.ofNat j))) (.int (nI ((mTx.getD 13 []).getD j 0)))) := by decide +kernel
set_option maxRecDepth 100000 in
theorem mNW_in : ∀ w ∈ mNW, w ∈ lw_tbl := by decide +kernel
set_option maxRecDepth 100000 in
theorem ls_0 : Cond.laysStatic "KeySealer$Digest" "STARTS" "[J" ∈ lw_tbl := List.mem_of_getElem? (i := 556) (by decide +kernel)
set_option maxRecDepth 100000 in
theorem ls_1 : Cond.laysStatic "KeySealer$Digest" "WIDE" "[I" ∈ lw_tbl := List.mem_of_getElem? (i := 575) (by decide +kernel)
set_option maxRecDepth 100000 in
theorem ls_2 : Cond.laysStatic "KeySealer$Digest" "NARROW" "[I" ∈ lw_tbl := List.mem_of_getElem? (i := 577) (by decide +kernel)
set_option maxRecDepth 100000 in
theorem ls_3 : Cond.laysStatic "KeySealer$Digest" "CUBES" "[J" ∈ lw_tbl := List.mem_of_getElem? (i := 583) (by decide +kernel)
set_option maxRecDepth 100000 in
theorem ls_4 : Cond.laysStatic "KeySealerModel" "SQUARES" "[J" ∈ lw_tbl := List.mem_of_getElem? (i := 1363) (by decide +kernel)
set_option maxRecDepth 100000 in
theorem ls_5 : Cond.laysStatic "KeySealerModel" "CUBES" "[J" ∈ lw_tbl := List.mem_of_getElem? (i := 1380) (by decide +kernel)
set_option maxRecDepth 100000 in
theorem ls_6 : Cond.laysStatic "KeySealerModel" "EXPAND" "[I" ∈ lw_tbl := List.mem_of_getElem? (i := 1529) (by decide +kernel)
set_option maxRecDepth 100000 in
theorem ls_7 : Cond.laysStatic "KeySealerModel" "KEM" "[I" ∈ lw_tbl := List.mem_of_getElem? (i := 1598) (by decide +kernel)
set_option maxRecDepth 100000 in
theorem ls_8 : Cond.laysStatic "KeySealerModel" "VERSION" "[I" ∈ lw_tbl := List.mem_of_getElem? (i := 1606) (by decide +kernel)
set_option maxRecDepth 100000 in
theorem ls_9 : Cond.laysStatic "KeySealerModel" "DKP" "[I" ∈ lw_tbl := List.mem_of_getElem? (i := 1600) (by decide +kernel)
set_option maxRecDepth 100000 in
theorem ls_10 : Cond.laysStatic "KeySealerModel" "SK" "[I" ∈ lw_tbl := List.mem_of_getElem? (i := 1616) (by decide +kernel)
set_option maxRecDepth 100000 in
theorem ls_11 : Cond.laysStatic "KeySealerModel" "EAE" "[I" ∈ lw_tbl := List.mem_of_getElem? (i := 1664) (by decide +kernel)
set_option maxRecDepth 100000 in
theorem ls_12 : Cond.laysStatic "KeySealerModel" "SHARED_SECRET" "[I" ∈ lw_tbl := List.mem_of_getElem? (i := 1666) (by decide +kernel)
set_option maxRecDepth 100000 in
theorem ls_13 : Cond.laysStatic "KeySealerModel" "PSK_ID" "[I" ∈ lw_tbl := List.mem_of_getElem? (i := 1672) (by decide +kernel)
set_option maxRecDepth 100000 in
theorem ls_14 : Cond.laysStatic "KeySealerModel" "INFO" "[I" ∈ lw_tbl := List.mem_of_getElem? (i := 1678) (by decide +kernel)
set_option maxRecDepth 100000 in
theorem ls_15 : Cond.laysStatic "KeySealerModel" "SECRET" "[I" ∈ lw_tbl := List.mem_of_getElem? (i := 1680) (by decide +kernel)
set_option maxRecDepth 100000 in
theorem ls_16 : Cond.laysStatic "KeySealerModel" "KEY" "[I" ∈ lw_tbl := List.mem_of_getElem? (i := 1682) (by decide +kernel)
set_option maxRecDepth 100000 in
theorem ls_17 : Cond.laysStatic "KeySealerModel" "BASE" "[I" ∈ lw_tbl := List.mem_of_getElem? (i := 1688) (by decide +kernel)
set_option maxRecDepth 100000 in
theorem ls_18 : Cond.laysStatic "KeySealerModel" "EXP" "[I" ∈ lw_tbl := List.mem_of_getElem? (i := 1690) (by decide +kernel)
set_option maxRecDepth 100000 in
theorem ls_19 : Cond.laysStatic "KeySealerModel" "SEC" "[I" ∈ lw_tbl := List.mem_of_getElem? (i := 1720) (by decide +kernel)
set_option maxRecDepth 100000 in
theorem ls_20 : Cond.laysStatic "java/lang/String" "COMPACT_STRINGS" "Z" ∈ lw_tbl := List.mem_of_getElem? (i := 729) (by decide +kernel)
set_option maxRecDepth 100000 in
theorem ls_21 : Cond.laysStatic "jdk/internal/util/Preconditions" "SIOOBE_FORMATTER" "Ljava/util/function/BiFunction;" ∈ lw_tbl := List.mem_of_getElem? (i := 745) (by decide +kernel)
set_option maxRecDepth 100000 in
theorem li_0 : Cond.initialized "KeySealer$Digest" ∈ lw_tbl := List.mem_of_getElem? (i := 97) (by decide +kernel)
set_option maxRecDepth 100000 in
theorem li_1 : Cond.initialized "KeySealerModel" ∈ lw_tbl := List.mem_of_getElem? (i := 105) (by decide +kernel)
set_option maxRecDepth 100000 in
theorem li_2 : Cond.initialized "java/lang/String" ∈ lw_tbl := List.mem_of_getElem? (i := 107) (by decide +kernel)
set_option maxRecDepth 100000 in
theorem li_3 : Cond.initialized "jdk/internal/util/Preconditions" ∈ lw_tbl := List.mem_of_getElem? (i := 109) (by decide +kernel)
set_option maxRecDepth 100000 in
theorem lr_0 : Cond.stringRef "KeySealer$Labels" 37 "KEM" ∈ lw_tbl := List.mem_of_getElem? (i := 715) (by decide +kernel)
set_option maxRecDepth 100000 in
theorem lr_1 : Cond.stringRef "KeySealer" 172 "dkp_prk" ∈ lw_tbl := List.mem_of_getElem? (i := 770) (by decide +kernel)
set_option maxRecDepth 100000 in
theorem lr_2 : Cond.stringRef "KeySealer$Labels" 80 "HPKE-v1" ∈ lw_tbl := List.mem_of_getElem? (i := 779) (by decide +kernel)
set_option maxRecDepth 100000 in
theorem lr_3 : Cond.stringRef "KeySealer" 178 "sk" ∈ lw_tbl := List.mem_of_getElem? (i := 784) (by decide +kernel)
set_option maxRecDepth 100000 in
theorem lr_4 : Cond.stringRef "KeySealer" 307 "eae_prk" ∈ lw_tbl := List.mem_of_getElem? (i := 1015) (by decide +kernel)
set_option maxRecDepth 100000 in
theorem lr_5 : Cond.stringRef "KeySealer" 309 "shared_secret" ∈ lw_tbl := List.mem_of_getElem? (i := 1016) (by decide +kernel)
set_option maxRecDepth 100000 in
theorem lr_6 : Cond.stringRef "KeySealer$Labels" 49 "HPKE" ∈ lw_tbl := List.mem_of_getElem? (i := 1021) (by decide +kernel)
set_option maxRecDepth 100000 in
theorem lr_7 : Cond.stringRef "KeySealer" 311 "psk_id_hash" ∈ lw_tbl := List.mem_of_getElem? (i := 1023) (by decide +kernel)
set_option maxRecDepth 100000 in
theorem lr_8 : Cond.stringRef "KeySealer" 313 "info_hash" ∈ lw_tbl := List.mem_of_getElem? (i := 1024) (by decide +kernel)
set_option maxRecDepth 100000 in
theorem lr_9 : Cond.stringRef "KeySealer" 315 "secret" ∈ lw_tbl := List.mem_of_getElem? (i := 1025) (by decide +kernel)
set_option maxRecDepth 100000 in
theorem lr_10 : Cond.stringRef "KeySealer" 317 "key" ∈ lw_tbl := List.mem_of_getElem? (i := 1026) (by decide +kernel)
set_option maxRecDepth 100000 in
theorem lr_11 : Cond.stringRef "KeySealer" 318 "base_nonce" ∈ lw_tbl := List.mem_of_getElem? (i := 1027) (by decide +kernel)
set_option maxRecDepth 100000 in
theorem lr_12 : Cond.stringRef "KeySealer" 320 "exp" ∈ lw_tbl := List.mem_of_getElem? (i := 1028) (by decide +kernel)
set_option maxRecDepth 100000 in
theorem lr_13 : Cond.stringRef "KeySealer" 267 "sec" ∈ lw_tbl := List.mem_of_getElem? (i := 1076) (by decide +kernel)
set_option maxRecDepth 100000 in
theorem la_int : Cond.arrayClass .int ∈ lw_tbl := List.mem_of_getElem? (i := 167) (by decide +kernel)
set_option maxRecDepth 100000 in
theorem la_long : Cond.arrayClass .long ∈ lw_tbl := List.mem_of_getElem? (i := 168) (by decide +kernel)
set_option maxRecDepth 100000 in
theorem la_byte : Cond.arrayClass .byte ∈ lw_tbl := List.mem_of_getElem? (i := 190) (by decide +kernel)
set_option maxRecDepth 100000 in
theorem lc_i0 : Cond.instantiable RX0 12 ∈ lw_tbl := List.mem_of_getElem? (i := 268) (by decide +kernel)
set_option maxRecDepth 100000 in
theorem lc_i1 : Cond.instantiable RX2 10 ∈ lw_tbl := List.mem_of_getElem? (i := 366) (by decide +kernel)
set_option maxRecDepth 100000 in
theorem lc_i2 : Cond.instantiable RX3 11 ∈ lw_tbl := List.mem_of_getElem? (i := 226) (by decide +kernel)
set_option maxRecDepth 100000 in
theorem lc_i3 : Cond.instantiable RX4 8 ∈ lw_tbl := List.mem_of_getElem? (i := 136) (by decide +kernel)
set_option maxRecDepth 100000 in
theorem lc_i4 : Cond.instantiable RX5 5 ∈ lw_tbl := List.mem_of_getElem? (i := 130) (by decide +kernel)
set_option maxRecDepth 100000 in
theorem lc_i5 : Cond.instantiable RX6 4 ∈ lw_tbl := List.mem_of_getElem? (i := 124) (by decide +kernel)
set_option maxRecDepth 100000 in
theorem lc_i6 : Cond.instantiable RX7 2 ∈ lw_tbl := List.mem_of_getElem? (i := 170) (by decide +kernel)
set_option maxRecDepth 100000 in
theorem lc_i7 : Cond.instantiable RX8 9 ∈ lw_tbl := List.mem_of_getElem? (i := 338) (by decide +kernel)
set_option maxRecDepth 100000 in
theorem lc_i8 : Cond.instantiable RX9 15 ∈ lw_tbl := List.mem_of_getElem? (i := 112) (by decide +kernel)
set_option maxRecDepth 100000 in
theorem lc_i9 : Cond.instantiable RX10 71 ∈ lw_tbl := List.mem_of_getElem? (i := 1091) (by decide +kernel)
theorem inst_ok (ci : Nat) (r : vw_C) (hr : vwCl[ci]? = some r) : Cond.instantiable r.1 r.2.2 ∈ lw_tbl := by
  match ci, hr with
  | 0, hr => cases hr; exact lc_i0
  | 1, hr => cases hr; exact lc_i1
  | 2, hr => cases hr; exact lc_i2
  | 3, hr => cases hr; exact lc_i3
  | 4, hr => cases hr; exact lc_i4
  | 5, hr => cases hr; exact lc_i5
  | 6, hr => cases hr; exact lc_i6
  | 7, hr => cases hr; exact lc_i7
  | 8, hr => cases hr; exact lc_i8
  | 9, hr => cases hr; exact lc_i9
  | k + 10, hr => simp [vwCl] at hr
set_option maxRecDepth 100000 in
theorem lsel : Cond.selects "KeySealer$BlockCipher" ⟨"KeySealer$Cipher", "protect", "(LKeySealer$Row;LKeySealer$Row;LKeySealer$Row;)V"⟩ ⟨"KeySealer$Cipher", "protect", "(LKeySealer$Row;LKeySealer$Row;LKeySealer$Row;)V"⟩ ∈ lw_tbl := List.mem_of_getElem? (i := 877) (by decide +kernel)
set_option maxRecDepth 100000 in
theorem lp_scramble : Cond.privateMethod ⟨"KeySealer$Cipher", "scramble", "(LKeySealer$Row;ILKeySealer$Row;)V"⟩ ∈ lw_tbl := List.mem_of_getElem? (i := 882) (by decide +kernel)
set_option maxRecDepth 100000 in
theorem ln_scramble : Cond.instanceMethod ⟨"KeySealer$Cipher", "scramble", "(LKeySealer$Row;ILKeySealer$Row;)V"⟩ ∈ lw_tbl := List.mem_of_getElem? (i := 883) (by decide +kernel)
set_option maxRecDepth 100000 in
theorem lp_makeTag : Cond.privateMethod ⟨"KeySealer$Cipher", "makeTag", "(LKeySealer$Row;LKeySealer$Row;I)V"⟩ ∈ lw_tbl := List.mem_of_getElem? (i := 901) (by decide +kernel)
set_option maxRecDepth 100000 in
theorem ln_makeTag : Cond.instanceMethod ⟨"KeySealer$Cipher", "makeTag", "(LKeySealer$Row;LKeySealer$Row;I)V"⟩ ∈ lw_tbl := List.mem_of_getElem? (i := 902) (by decide +kernel)
set_option maxRecDepth 100000 in
theorem lp_absorbRow : Cond.privateMethod ⟨"KeySealer$Cipher", "absorbRow", "(LKeySealer$Row;I)V"⟩ ∈ lw_tbl := List.mem_of_getElem? (i := 905) (by decide +kernel)
set_option maxRecDepth 100000 in
theorem ln_absorbRow : Cond.instanceMethod ⟨"KeySealer$Cipher", "absorbRow", "(LKeySealer$Row;I)V"⟩ ∈ lw_tbl := List.mem_of_getElem? (i := 906) (by decide +kernel)
theorem wAll {s : State} {b : Nat} (hts : ∀ w ∈ lw_tbl, w.before #[Value.ref b] s = true) : ∀ w ∈ mAllW, w.before #[Value.ref b] s = true := by
  intro w hw
  rcases List.mem_append.mp (List.mem_filter.mp hw).1 with hw | hw
  · simp only [mSel6, List.mem_cons, List.not_mem_nil, or_false] at hw
    rcases hw with rfl | rfl | rfl | rfl | rfl | rfl
    · exact m_selects_priv ⟨by decide, by decide⟩ (hts _ lc_i0) (hts _ lp_scramble) (hts _ ln_scramble) (hts _ lsel) rfl
    · exact m_selects_priv ⟨by decide, by decide⟩ (hts _ lc_i7) (hts _ lp_scramble) (hts _ ln_scramble) (hts _ lsel) rfl
    · exact m_selects_priv ⟨by decide, by decide⟩ (hts _ lc_i0) (hts _ lp_makeTag) (hts _ ln_makeTag) (hts _ lsel) rfl
    · exact m_selects_priv ⟨by decide, by decide⟩ (hts _ lc_i7) (hts _ lp_makeTag) (hts _ ln_makeTag) (hts _ lsel) rfl
    · exact m_selects_priv ⟨by decide, by decide⟩ (hts _ lc_i0) (hts _ lp_absorbRow) (hts _ ln_absorbRow) (hts _ lsel) rfl
    · exact m_selects_priv ⟨by decide, by decide⟩ (hts _ lc_i7) (hts _ lp_absorbRow) (hts _ ln_absorbRow) (hts _ lsel) rfl
  · exact hts w hw

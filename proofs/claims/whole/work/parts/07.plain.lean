/-! PART 07: each instruction over pictures, plain ones: printed by program (wip/whole/mk07.py) -/
theorem s_iconst {SA : mSA} {kc ks n pc : Nat} {L : mL} {h : mH} {P : Option Value → mH → Prop} {r : List Value} {z : Int} (hd : decode (mBy (mt n)) pc = .ok (.iconst z, 1)) (hk : mV SA kc ks n (pc + 1) L (.int (Int32.ofInt z) :: r) h P) : mV SA kc ks n pc L (r) h P := by
  intro p l e R s m args below meth c D dA ad B Qf mc0 H locs cells slots ls hC hc hs hR hL
  exact lv_iconst hC.1 hC.2.1 hd rfl (hk p l e R s m args below meth c D dA ad B Qf mc0 H locs cells slots ls hC hc hs hR hL)
theorem s_bipush {SA : mSA} {kc ks n pc : Nat} {L : mL} {h : mH} {P : Option Value → mH → Prop} {r : List Value} {z : Int} (hd : decode (mBy (mt n)) pc = .ok (.bipush z, 2)) (hk : mV SA kc ks n (pc + 2) L (.int (Int8.ofInt z).toInt32 :: r) h P) : mV SA kc ks n pc L (r) h P := by
  intro p l e R s m args below meth c D dA ad B Qf mc0 H locs cells slots ls hC hc hs hR hL
  exact lv_bipush hC.1 hC.2.1 hd rfl (hk p l e R s m args below meth c D dA ad B Qf mc0 H locs cells slots ls hC hc hs hR hL)
theorem s_sipush {SA : mSA} {kc ks n pc : Nat} {L : mL} {h : mH} {P : Option Value → mH → Prop} {r : List Value} {z : Int} (hd : decode (mBy (mt n)) pc = .ok (.sipush z, 3)) (hk : mV SA kc ks n (pc + 3) L (.int (Int16.ofInt z).toInt32 :: r) h P) : mV SA kc ks n pc L (r) h P := by
  intro p l e R s m args below meth c D dA ad B Qf mc0 H locs cells slots ls hC hc hs hR hL
  exact lv_sipush hC.1 hC.2.1 hd rfl (hk p l e R s m args below meth c D dA ad B Qf mc0 H locs cells slots ls hC hc hs hR hL)
theorem s_lconst {SA : mSA} {kc ks n pc : Nat} {L : mL} {h : mH} {P : Option Value → mH → Prop} {r : List Value} {z : Fin 2} (hd : decode (mBy (mt n)) pc = .ok (.lconst z, 1)) (hk : mV SA kc ks n (pc + 1) L (.long (Int64.ofNat z) :: r) h P) : mV SA kc ks n pc L (r) h P := by
  intro p l e R s m args below meth c D dA ad B Qf mc0 H locs cells slots ls hC hc hs hR hL
  exact lv_lconst hC.1 hC.2.1 hd rfl (hk p l e R s m args below meth c D dA ad B Qf mc0 H locs cells slots ls hC hc hs hR hL)
theorem s_iload {SA : mSA} {kc ks n pc : Nat} {L : mL} {h : mH} {P : Option Value → mH → Prop} {r : List Value} {i : Nat} {x : Int32} (hg : mG L i = some (.int x)) (hd : decode (mBy (mt n)) pc = .ok (.iload i, 2)) (hk : mV SA kc ks n (pc + 2) L (.int x :: r) h P) : mV SA kc ks n pc L (r) h P := by
  intro p l e R s m args below meth c D dA ad B Qf mc0 H locs cells slots ls hC hc hs hR hL
  exact lv_iload hC.1 hC.2.1 hd (mP_load hL hg) (hk p l e R s m args below meth c D dA ad B Qf mc0 H locs cells slots ls hC hc hs hR hL)
theorem s_iload_n {SA : mSA} {kc ks n pc : Nat} {L : mL} {h : mH} {P : Option Value → mH → Prop} {r : List Value} {j : Fin 4} {i : Nat} (hj : (j : Nat) = i) {x : Int32} (hg : mG L i = some (.int x)) (hd : decode (mBy (mt n)) pc = .ok (.iload_n j, 1)) (hk : mV SA kc ks n (pc + 1) L (.int x :: r) h P) : mV SA kc ks n pc L (r) h P := by
  intro p l e R s m args below meth c D dA ad B Qf mc0 H locs cells slots ls hC hc hs hR hL
  exact lv_iload_n hC.1 hC.2.1 hd hj (mP_load hL hg) (hk p l e R s m args below meth c D dA ad B Qf mc0 H locs cells slots ls hC hc hs hR hL)
theorem s_istore {SA : mSA} {kc ks n pc : Nat} {L : mL} {h : mH} {P : Option Value → mH → Prop} {r : List Value} {i : Nat} {x : Int32}  (hn : i < mLo (mt n)) (hd : decode (mBy (mt n)) pc = .ok (.istore i, 2)) (hk : mV SA kc ks n (pc + 2) (mS1 L i (.int x)) r h P) : mV SA kc ks n pc L (.int x :: r) h P := by
  intro p l e R s m args below meth c D dA ad B Qf mc0 H locs cells slots ls hC hc hs hR hL
  exact lv_istore hC.1 hC.2.1 hd hL hn rfl (fun ls2 hl2 => hk p l e R s m args below meth c D dA ad B Qf mc0 H locs cells slots ls2 hC hc hs hR (mP_store1 hl2))
theorem s_istore_n {SA : mSA} {kc ks n pc : Nat} {L : mL} {h : mH} {P : Option Value → mH → Prop} {r : List Value} {i : Nat} {x : Int32} {j : Fin 4} (hj : (j : Nat) = i) (hn : i < mLo (mt n)) (hd : decode (mBy (mt n)) pc = .ok (.istore_n j, 1)) (hk : mV SA kc ks n (pc + 1) (mS1 L i (.int x)) r h P) : mV SA kc ks n pc L (.int x :: r) h P := by
  intro p l e R s m args below meth c D dA ad B Qf mc0 H locs cells slots ls hC hc hs hR hL
  exact lv_istore_n hC.1 hC.2.1 hd hj hL hn rfl (fun ls2 hl2 => hk p l e R s m args below meth c D dA ad B Qf mc0 H locs cells slots ls2 hC hc hs hR (mP_store1 hl2))
theorem s_lload {SA : mSA} {kc ks n pc : Nat} {L : mL} {h : mH} {P : Option Value → mH → Prop} {r : List Value} {i : Nat} {x : Int64} (hg : mG L i = some (.long x)) (hd : decode (mBy (mt n)) pc = .ok (.lload i, 2)) (hk : mV SA kc ks n (pc + 2) L (.long x :: r) h P) : mV SA kc ks n pc L (r) h P := by
  intro p l e R s m args below meth c D dA ad B Qf mc0 H locs cells slots ls hC hc hs hR hL
  exact lv_lload hC.1 hC.2.1 hd (mP_load hL hg) (hk p l e R s m args below meth c D dA ad B Qf mc0 H locs cells slots ls hC hc hs hR hL)
theorem s_lload_n {SA : mSA} {kc ks n pc : Nat} {L : mL} {h : mH} {P : Option Value → mH → Prop} {r : List Value} {j : Fin 4} {i : Nat} (hj : (j : Nat) = i) {x : Int64} (hg : mG L i = some (.long x)) (hd : decode (mBy (mt n)) pc = .ok (.lload_n j, 1)) (hk : mV SA kc ks n (pc + 1) L (.long x :: r) h P) : mV SA kc ks n pc L (r) h P := by
  intro p l e R s m args below meth c D dA ad B Qf mc0 H locs cells slots ls hC hc hs hR hL
  exact lv_lload_n hC.1 hC.2.1 hd hj (mP_load hL hg) (hk p l e R s m args below meth c D dA ad B Qf mc0 H locs cells slots ls hC hc hs hR hL)
theorem s_lstore {SA : mSA} {kc ks n pc : Nat} {L : mL} {h : mH} {P : Option Value → mH → Prop} {r : List Value} {i : Nat} {x : Int64}  (hn : i + 1 < mLo (mt n)) (hd : decode (mBy (mt n)) pc = .ok (.lstore i, 2)) (hk : mV SA kc ks n (pc + 2) (mS2 L i (.long x)) r h P) : mV SA kc ks n pc L (.long x :: r) h P := by
  intro p l e R s m args below meth c D dA ad B Qf mc0 H locs cells slots ls hC hc hs hR hL
  exact lv_lstore hC.1 hC.2.1 hd hL hn rfl (fun ls2 hl2 => hk p l e R s m args below meth c D dA ad B Qf mc0 H locs cells slots ls2 hC hc hs hR (mP_store2 hl2))
theorem s_lstore_n {SA : mSA} {kc ks n pc : Nat} {L : mL} {h : mH} {P : Option Value → mH → Prop} {r : List Value} {i : Nat} {x : Int64} {j : Fin 4} (hj : (j : Nat) = i) (hn : i + 1 < mLo (mt n)) (hd : decode (mBy (mt n)) pc = .ok (.lstore_n j, 1)) (hk : mV SA kc ks n (pc + 1) (mS2 L i (.long x)) r h P) : mV SA kc ks n pc L (.long x :: r) h P := by
  intro p l e R s m args below meth c D dA ad B Qf mc0 H locs cells slots ls hC hc hs hR hL
  exact lv_lstore_n hC.1 hC.2.1 hd hj hL hn rfl (fun ls2 hl2 => hk p l e R s m args below meth c D dA ad B Qf mc0 H locs cells slots ls2 hC hc hs hR (mP_store2 hl2))
theorem s_aload {SA : mSA} {kc ks n pc : Nat} {L : mL} {h : mH} {P : Option Value → mH → Prop} {r : List Value} {i : Nat} {x : Nat} (hg : mG L i = some (.ref x)) (hd : decode (mBy (mt n)) pc = .ok (.aload i, 2)) (hk : mV SA kc ks n (pc + 2) L (.ref x :: r) h P) : mV SA kc ks n pc L (r) h P := by
  intro p l e R s m args below meth c D dA ad B Qf mc0 H locs cells slots ls hC hc hs hR hL
  exact lv_aload hC.1 hC.2.1 hd (mP_load hL hg) (hk p l e R s m args below meth c D dA ad B Qf mc0 H locs cells slots ls hC hc hs hR hL)
theorem s_aload_n {SA : mSA} {kc ks n pc : Nat} {L : mL} {h : mH} {P : Option Value → mH → Prop} {r : List Value} {j : Fin 4} {i : Nat} (hj : (j : Nat) = i) {x : Nat} (hg : mG L i = some (.ref x)) (hd : decode (mBy (mt n)) pc = .ok (.aload_n j, 1)) (hk : mV SA kc ks n (pc + 1) L (.ref x :: r) h P) : mV SA kc ks n pc L (r) h P := by
  intro p l e R s m args below meth c D dA ad B Qf mc0 H locs cells slots ls hC hc hs hR hL
  exact lv_aload_n hC.1 hC.2.1 hd hj (mP_load hL hg) (hk p l e R s m args below meth c D dA ad B Qf mc0 H locs cells slots ls hC hc hs hR hL)
theorem s_astore {SA : mSA} {kc ks n pc : Nat} {L : mL} {h : mH} {P : Option Value → mH → Prop} {r : List Value} {i : Nat} {x : Nat}  (hn : i < mLo (mt n)) (hd : decode (mBy (mt n)) pc = .ok (.astore i, 2)) (hk : mV SA kc ks n (pc + 2) (mS1 L i (.ref x)) r h P) : mV SA kc ks n pc L (.ref x :: r) h P := by
  intro p l e R s m args below meth c D dA ad B Qf mc0 H locs cells slots ls hC hc hs hR hL
  exact lv_astore hC.1 hC.2.1 hd hL hn rfl (fun ls2 hl2 => hk p l e R s m args below meth c D dA ad B Qf mc0 H locs cells slots ls2 hC hc hs hR (mP_store1 hl2))
theorem s_astore_n {SA : mSA} {kc ks n pc : Nat} {L : mL} {h : mH} {P : Option Value → mH → Prop} {r : List Value} {i : Nat} {x : Nat} {j : Fin 4} (hj : (j : Nat) = i) (hn : i < mLo (mt n)) (hd : decode (mBy (mt n)) pc = .ok (.astore_n j, 1)) (hk : mV SA kc ks n (pc + 1) (mS1 L i (.ref x)) r h P) : mV SA kc ks n pc L (.ref x :: r) h P := by
  intro p l e R s m args below meth c D dA ad B Qf mc0 H locs cells slots ls hC hc hs hR hL
  exact lv_astore_n hC.1 hC.2.1 hd hj hL hn rfl (fun ls2 hl2 => hk p l e R s m args below meth c D dA ad B Qf mc0 H locs cells slots ls2 hC hc hs hR (mP_store1 hl2))
theorem s_iinc {SA : mSA} {kc ks n pc : Nat} {L : mL} {h : mH} {P : Option Value → mH → Prop} {r : List Value} {i : Nat} {z : Int} {x : Int32} (hg : mG L i = some (.int x)) (hn : i < mLo (mt n)) (hd : decode (mBy (mt n)) pc = .ok (.iinc i z, 3)) (hk : mV SA kc ks n (pc + 3) (mS1 L i (.int (x + Int32.ofInt z))) r h P) : mV SA kc ks n pc L r h P := by
  intro p l e R s m args below meth c D dA ad B Qf mc0 H locs cells slots ls hC hc hs hR hL
  have hm : (i, Value.int x) ∈ mP ad 0 L := by have := mP_mem (ad := ad) L 0 i _ hg; rw [Nat.zero_add] at this; exact this
  obtain ⟨k, hkk⟩ := List.getElem?_of_mem hm
  exact lv_iinc hC.1 hC.2.1 hd hL hkk rfl hn rfl (fun ls2 hl2 => hk p l e R s m args below meth c D dA ad B Qf mc0 H locs cells slots ls2 hC hc hs hR (mP_store1 hl2))
theorem s_iadd {SA : mSA} {kc ks n pc : Nat} {L : mL} {h : mH} {P : Option Value → mH → Prop} {r : List Value} {x y : Int32} (hd : decode (mBy (mt n)) pc = .ok (.iadd, 1)) (hk : mV SA kc ks n (pc + 1) L (.int (x + y) :: r) h P) : mV SA kc ks n pc L (.int y :: .int x :: r) h P := by
  intro p l e R s m args below meth c D dA ad B Qf mc0 H locs cells slots ls hC hc hs hR hL
  exact lv_iadd hC.1 hC.2.1 hd  (hk p l e R s m args below meth c D dA ad B Qf mc0 H locs cells slots ls hC hc hs hR hL)
theorem s_isub {SA : mSA} {kc ks n pc : Nat} {L : mL} {h : mH} {P : Option Value → mH → Prop} {r : List Value} {x y : Int32} (hd : decode (mBy (mt n)) pc = .ok (.isub, 1)) (hk : mV SA kc ks n (pc + 1) L (.int (x - y) :: r) h P) : mV SA kc ks n pc L (.int y :: .int x :: r) h P := by
  intro p l e R s m args below meth c D dA ad B Qf mc0 H locs cells slots ls hC hc hs hR hL
  exact lv_isub hC.1 hC.2.1 hd  (hk p l e R s m args below meth c D dA ad B Qf mc0 H locs cells slots ls hC hc hs hR hL)
theorem s_imul {SA : mSA} {kc ks n pc : Nat} {L : mL} {h : mH} {P : Option Value → mH → Prop} {r : List Value} {x y : Int32} (hd : decode (mBy (mt n)) pc = .ok (.imul, 1)) (hk : mV SA kc ks n (pc + 1) L (.int (x * y) :: r) h P) : mV SA kc ks n pc L (.int y :: .int x :: r) h P := by
  intro p l e R s m args below meth c D dA ad B Qf mc0 H locs cells slots ls hC hc hs hR hL
  exact lv_imul hC.1 hC.2.1 hd  (hk p l e R s m args below meth c D dA ad B Qf mc0 H locs cells slots ls hC hc hs hR hL)
theorem s_iand {SA : mSA} {kc ks n pc : Nat} {L : mL} {h : mH} {P : Option Value → mH → Prop} {r : List Value} {x y : Int32} (hd : decode (mBy (mt n)) pc = .ok (.iand, 1)) (hk : mV SA kc ks n (pc + 1) L (.int (x &&& y) :: r) h P) : mV SA kc ks n pc L (.int y :: .int x :: r) h P := by
  intro p l e R s m args below meth c D dA ad B Qf mc0 H locs cells slots ls hC hc hs hR hL
  exact lv_iand hC.1 hC.2.1 hd  (hk p l e R s m args below meth c D dA ad B Qf mc0 H locs cells slots ls hC hc hs hR hL)
theorem s_ior {SA : mSA} {kc ks n pc : Nat} {L : mL} {h : mH} {P : Option Value → mH → Prop} {r : List Value} {x y : Int32} (hd : decode (mBy (mt n)) pc = .ok (.ior, 1)) (hk : mV SA kc ks n (pc + 1) L (.int (x ||| y) :: r) h P) : mV SA kc ks n pc L (.int y :: .int x :: r) h P := by
  intro p l e R s m args below meth c D dA ad B Qf mc0 H locs cells slots ls hC hc hs hR hL
  exact lv_ior hC.1 hC.2.1 hd  (hk p l e R s m args below meth c D dA ad B Qf mc0 H locs cells slots ls hC hc hs hR hL)
theorem s_ixor {SA : mSA} {kc ks n pc : Nat} {L : mL} {h : mH} {P : Option Value → mH → Prop} {r : List Value} {x y : Int32} (hd : decode (mBy (mt n)) pc = .ok (.ixor, 1)) (hk : mV SA kc ks n (pc + 1) L (.int (x ^^^ y) :: r) h P) : mV SA kc ks n pc L (.int y :: .int x :: r) h P := by
  intro p l e R s m args below meth c D dA ad B Qf mc0 H locs cells slots ls hC hc hs hR hL
  exact lv_ixor hC.1 hC.2.1 hd  (hk p l e R s m args below meth c D dA ad B Qf mc0 H locs cells slots ls hC hc hs hR hL)
theorem s_ishl {SA : mSA} {kc ks n pc : Nat} {L : mL} {h : mH} {P : Option Value → mH → Prop} {r : List Value} {x y : Int32} (hd : decode (mBy (mt n)) pc = .ok (.ishl, 1)) (hk : mV SA kc ks n (pc + 1) L (.int (x <<< (y &&& 31)) :: r) h P) : mV SA kc ks n pc L (.int y :: .int x :: r) h P := by
  intro p l e R s m args below meth c D dA ad B Qf mc0 H locs cells slots ls hC hc hs hR hL
  exact lv_ishl hC.1 hC.2.1 hd  (hk p l e R s m args below meth c D dA ad B Qf mc0 H locs cells slots ls hC hc hs hR hL)
theorem s_ishr {SA : mSA} {kc ks n pc : Nat} {L : mL} {h : mH} {P : Option Value → mH → Prop} {r : List Value} {x y : Int32} (hd : decode (mBy (mt n)) pc = .ok (.ishr, 1)) (hk : mV SA kc ks n (pc + 1) L (.int (x >>> (y &&& 31)) :: r) h P) : mV SA kc ks n pc L (.int y :: .int x :: r) h P := by
  intro p l e R s m args below meth c D dA ad B Qf mc0 H locs cells slots ls hC hc hs hR hL
  exact lv_ishr hC.1 hC.2.1 hd  (hk p l e R s m args below meth c D dA ad B Qf mc0 H locs cells slots ls hC hc hs hR hL)
theorem s_iushr {SA : mSA} {kc ks n pc : Nat} {L : mL} {h : mH} {P : Option Value → mH → Prop} {r : List Value} {x y : Int32} (hd : decode (mBy (mt n)) pc = .ok (.iushr, 1)) (hk : mV SA kc ks n (pc + 1) L (.int ((x.toUInt32 >>> (y.toUInt32 &&& Int32.toUInt32 31)).toInt32) :: r) h P) : mV SA kc ks n pc L (.int y :: .int x :: r) h P := by
  intro p l e R s m args below meth c D dA ad B Qf mc0 H locs cells slots ls hC hc hs hR hL
  exact lv_iushr hC.1 hC.2.1 hd rfl (hk p l e R s m args below meth c D dA ad B Qf mc0 H locs cells slots ls hC hc hs hR hL)
theorem s_idiv {SA : mSA} {kc ks n pc : Nat} {L : mL} {h : mH} {P : Option Value → mH → Prop} {r : List Value} {x y : Int32} (hy : ¬ y = 0) (hd : decode (mBy (mt n)) pc = .ok (.idiv, 1)) (hk : mV SA kc ks n (pc + 1) L (.int (x / y) :: r) h P) : mV SA kc ks n pc L (.int y :: .int x :: r) h P := by
  intro p l e R s m args below meth c D dA ad B Qf mc0 H locs cells slots ls hC hc hs hR hL
  exact lv_idiv hC.1 hC.2.1 hd hy (hk p l e R s m args below meth c D dA ad B Qf mc0 H locs cells slots ls hC hc hs hR hL)
theorem s_irem {SA : mSA} {kc ks n pc : Nat} {L : mL} {h : mH} {P : Option Value → mH → Prop} {r : List Value} {x y : Int32} (hy : ¬ y = 0) (hd : decode (mBy (mt n)) pc = .ok (.irem, 1)) (hk : mV SA kc ks n (pc + 1) L (.int (x - x / y * y) :: r) h P) : mV SA kc ks n pc L (.int y :: .int x :: r) h P := by
  intro p l e R s m args below meth c D dA ad B Qf mc0 H locs cells slots ls hC hc hs hR hL
  exact lv_irem hC.1 hC.2.1 hd hy (hk p l e R s m args below meth c D dA ad B Qf mc0 H locs cells slots ls hC hc hs hR hL)
theorem s_ladd {SA : mSA} {kc ks n pc : Nat} {L : mL} {h : mH} {P : Option Value → mH → Prop} {r : List Value} {x y : Int64} (hd : decode (mBy (mt n)) pc = .ok (.ladd, 1)) (hk : mV SA kc ks n (pc + 1) L (.long (x + y) :: r) h P) : mV SA kc ks n pc L (.long y :: .long x :: r) h P := by
  intro p l e R s m args below meth c D dA ad B Qf mc0 H locs cells slots ls hC hc hs hR hL
  exact lv_ladd hC.1 hC.2.1 hd (hk p l e R s m args below meth c D dA ad B Qf mc0 H locs cells slots ls hC hc hs hR hL)
theorem s_lsub {SA : mSA} {kc ks n pc : Nat} {L : mL} {h : mH} {P : Option Value → mH → Prop} {r : List Value} {x y : Int64} (hd : decode (mBy (mt n)) pc = .ok (.lsub, 1)) (hk : mV SA kc ks n (pc + 1) L (.long (x - y) :: r) h P) : mV SA kc ks n pc L (.long y :: .long x :: r) h P := by
  intro p l e R s m args below meth c D dA ad B Qf mc0 H locs cells slots ls hC hc hs hR hL
  exact lv_lsub hC.1 hC.2.1 hd (hk p l e R s m args below meth c D dA ad B Qf mc0 H locs cells slots ls hC hc hs hR hL)
theorem s_lmul {SA : mSA} {kc ks n pc : Nat} {L : mL} {h : mH} {P : Option Value → mH → Prop} {r : List Value} {x y : Int64} (hd : decode (mBy (mt n)) pc = .ok (.lmul, 1)) (hk : mV SA kc ks n (pc + 1) L (.long (x * y) :: r) h P) : mV SA kc ks n pc L (.long y :: .long x :: r) h P := by
  intro p l e R s m args below meth c D dA ad B Qf mc0 H locs cells slots ls hC hc hs hR hL
  exact lv_lmul hC.1 hC.2.1 hd (hk p l e R s m args below meth c D dA ad B Qf mc0 H locs cells slots ls hC hc hs hR hL)
theorem s_land {SA : mSA} {kc ks n pc : Nat} {L : mL} {h : mH} {P : Option Value → mH → Prop} {r : List Value} {x y : Int64} (hd : decode (mBy (mt n)) pc = .ok (.land, 1)) (hk : mV SA kc ks n (pc + 1) L (.long (x &&& y) :: r) h P) : mV SA kc ks n pc L (.long y :: .long x :: r) h P := by
  intro p l e R s m args below meth c D dA ad B Qf mc0 H locs cells slots ls hC hc hs hR hL
  exact lv_land hC.1 hC.2.1 hd (hk p l e R s m args below meth c D dA ad B Qf mc0 H locs cells slots ls hC hc hs hR hL)
theorem s_lor {SA : mSA} {kc ks n pc : Nat} {L : mL} {h : mH} {P : Option Value → mH → Prop} {r : List Value} {x y : Int64} (hd : decode (mBy (mt n)) pc = .ok (.lor, 1)) (hk : mV SA kc ks n (pc + 1) L (.long (x ||| y) :: r) h P) : mV SA kc ks n pc L (.long y :: .long x :: r) h P := by
  intro p l e R s m args below meth c D dA ad B Qf mc0 H locs cells slots ls hC hc hs hR hL
  exact lv_lor hC.1 hC.2.1 hd (hk p l e R s m args below meth c D dA ad B Qf mc0 H locs cells slots ls hC hc hs hR hL)
theorem s_lxor {SA : mSA} {kc ks n pc : Nat} {L : mL} {h : mH} {P : Option Value → mH → Prop} {r : List Value} {x y : Int64} (hd : decode (mBy (mt n)) pc = .ok (.lxor, 1)) (hk : mV SA kc ks n (pc + 1) L (.long (x ^^^ y) :: r) h P) : mV SA kc ks n pc L (.long y :: .long x :: r) h P := by
  intro p l e R s m args below meth c D dA ad B Qf mc0 H locs cells slots ls hC hc hs hR hL
  exact lv_lxor hC.1 hC.2.1 hd (hk p l e R s m args below meth c D dA ad B Qf mc0 H locs cells slots ls hC hc hs hR hL)
theorem s_lshl {SA : mSA} {kc ks n pc : Nat} {L : mL} {h : mH} {P : Option Value → mH → Prop} {r : List Value} {x : Int64} {y : Int32} (hd : decode (mBy (mt n)) pc = .ok (.lshl, 1)) (hk : mV SA kc ks n (pc + 1) L (.long (x <<< (y.toInt64 &&& 63)) :: r) h P) : mV SA kc ks n pc L (.int y :: .long x :: r) h P := by
  intro p l e R s m args below meth c D dA ad B Qf mc0 H locs cells slots ls hC hc hs hR hL
  exact lv_lshl hC.1 hC.2.1 hd rfl (hk p l e R s m args below meth c D dA ad B Qf mc0 H locs cells slots ls hC hc hs hR hL)
theorem s_lshr {SA : mSA} {kc ks n pc : Nat} {L : mL} {h : mH} {P : Option Value → mH → Prop} {r : List Value} {x : Int64} {y : Int32} (hd : decode (mBy (mt n)) pc = .ok (.lshr, 1)) (hk : mV SA kc ks n (pc + 1) L (.long (x >>> (y.toInt64 &&& 63)) :: r) h P) : mV SA kc ks n pc L (.int y :: .long x :: r) h P := by
  intro p l e R s m args below meth c D dA ad B Qf mc0 H locs cells slots ls hC hc hs hR hL
  exact lv_lshr hC.1 hC.2.1 hd rfl (hk p l e R s m args below meth c D dA ad B Qf mc0 H locs cells slots ls hC hc hs hR hL)
theorem s_lushr {SA : mSA} {kc ks n pc : Nat} {L : mL} {h : mH} {P : Option Value → mH → Prop} {r : List Value} {x : Int64} {y : Int32} (hd : decode (mBy (mt n)) pc = .ok (.lushr, 1)) (hk : mV SA kc ks n (pc + 1) L (.long ((x.toUInt64 >>> (y.toInt64.toUInt64 &&& Int64.toUInt64 63)).toInt64) :: r) h P) : mV SA kc ks n pc L (.int y :: .long x :: r) h P := by
  intro p l e R s m args below meth c D dA ad B Qf mc0 H locs cells slots ls hC hc hs hR hL
  exact lv_lushr hC.1 hC.2.1 hd rfl (hk p l e R s m args below meth c D dA ad B Qf mc0 H locs cells slots ls hC hc hs hR hL)
theorem s_i2l {SA : mSA} {kc ks n pc : Nat} {L : mL} {h : mH} {P : Option Value → mH → Prop} {r : List Value} {x : Int32} (hd : decode (mBy (mt n)) pc = .ok (.i2l, 1)) (hk : mV SA kc ks n (pc + 1) L (.long x.toInt64 :: r) h P) : mV SA kc ks n pc L (.int x :: r) h P := by
  intro p l e R s m args below meth c D dA ad B Qf mc0 H locs cells slots ls hC hc hs hR hL
  exact lv_i2l hC.1 hC.2.1 hd rfl (hk p l e R s m args below meth c D dA ad B Qf mc0 H locs cells slots ls hC hc hs hR hL)
theorem s_l2i {SA : mSA} {kc ks n pc : Nat} {L : mL} {h : mH} {P : Option Value → mH → Prop} {r : List Value} {x : Int64} (hd : decode (mBy (mt n)) pc = .ok (.l2i, 1)) (hk : mV SA kc ks n (pc + 1) L (.int x.toInt32 :: r) h P) : mV SA kc ks n pc L (.long x :: r) h P := by
  intro p l e R s m args below meth c D dA ad B Qf mc0 H locs cells slots ls hC hc hs hR hL
  exact lv_l2i hC.1 hC.2.1 hd rfl (hk p l e R s m args below meth c D dA ad B Qf mc0 H locs cells slots ls hC hc hs hR hL)
theorem s_i2b {SA : mSA} {kc ks n pc : Nat} {L : mL} {h : mH} {P : Option Value → mH → Prop} {r : List Value} {x : Int32} (hd : decode (mBy (mt n)) pc = .ok (.i2b, 1)) (hk : mV SA kc ks n (pc + 1) L (.int x.toInt8.toInt32 :: r) h P) : mV SA kc ks n pc L (.int x :: r) h P := by
  intro p l e R s m args below meth c D dA ad B Qf mc0 H locs cells slots ls hC hc hs hR hL
  exact lv_i2b hC.1 hC.2.1 hd rfl (hk p l e R s m args below meth c D dA ad B Qf mc0 H locs cells slots ls hC hc hs hR hL)
theorem s_i2c {SA : mSA} {kc ks n pc : Nat} {L : mL} {h : mH} {P : Option Value → mH → Prop} {r : List Value} {x : Int32} (hd : decode (mBy (mt n)) pc = .ok (.i2c, 1)) (hk : mV SA kc ks n (pc + 1) L (.int (x.toUInt32 % 65536).toInt32 :: r) h P) : mV SA kc ks n pc L (.int x :: r) h P := by
  intro p l e R s m args below meth c D dA ad B Qf mc0 H locs cells slots ls hC hc hs hR hL
  exact lv_i2c hC.1 hC.2.1 hd rfl (hk p l e R s m args below meth c D dA ad B Qf mc0 H locs cells slots ls hC hc hs hR hL)
theorem s_lcmp {SA : mSA} {kc ks n pc : Nat} {L : mL} {h : mH} {P : Option Value → mH → Prop} {r : List Value} {x y : Int64} (hd : decode (mBy (mt n)) pc = .ok (.lcmp, 1)) (hk : mV SA kc ks n (pc + 1) L (.int (lg_cmp x y) :: r) h P) : mV SA kc ks n pc L (.long y :: .long x :: r) h P := by
  intro p l e R s m args below meth c D dA ad B Qf mc0 H locs cells slots ls hC hc hs hR hL
  exact W.lcmp hC.1 hC.2.1 hd (hk p l e R s m args below meth c D dA ad B Qf mc0 H locs cells slots ls hC hc hs hR hL)
theorem s_pop {SA : mSA} {kc ks n pc : Nat} {L : mL} {h : mH} {P : Option Value → mH → Prop} {r : List Value} {v : Value} (hv : v.category = 1) (hd : decode (mBy (mt n)) pc = .ok (.pop, 1)) (hk : mV SA kc ks n (pc + 1) L (r) h P) : mV SA kc ks n pc L (v :: r) h P := by
  intro p l e R s m args below meth c D dA ad B Qf mc0 H locs cells slots ls hC hc hs hR hL
  exact lv_pop hC.1 hC.2.1 hd (by rw [tv_cat]; exact hv) (hk p l e R s m args below meth c D dA ad B Qf mc0 H locs cells slots ls hC hc hs hR hL)
theorem s_dup {SA : mSA} {kc ks n pc : Nat} {L : mL} {h : mH} {P : Option Value → mH → Prop} {r : List Value} {v : Value} (hv : v.category = 1) (hd : decode (mBy (mt n)) pc = .ok (.dup, 1)) (hk : mV SA kc ks n (pc + 1) L (v :: v :: r) h P) : mV SA kc ks n pc L (v :: r) h P := by
  intro p l e R s m args below meth c D dA ad B Qf mc0 H locs cells slots ls hC hc hs hR hL
  exact lv_dup hC.1 hC.2.1 hd (by rw [tv_cat]; exact hv) (hk p l e R s m args below meth c D dA ad B Qf mc0 H locs cells slots ls hC hc hs hR hL)
theorem s_dup2 {SA : mSA} {kc ks n pc : Nat} {L : mL} {h : mH} {P : Option Value → mH → Prop} {r : List Value} {v w : Value} (hv : v.category = 1) (hw : w.category = 1) (hd : decode (mBy (mt n)) pc = .ok (.dup2, 1)) (hk : mV SA kc ks n (pc + 1) L (v :: w :: v :: w :: r) h P) : mV SA kc ks n pc L (v :: w :: r) h P := by
  intro p l e R s m args below meth c D dA ad B Qf mc0 H locs cells slots ls hC hc hs hR hL
  exact lv_dup2_11 hC.1 hC.2.1 hd (by rw [tv_cat]; exact hv) (by rw [tv_cat]; exact hw) (hk p l e R s m args below meth c D dA ad B Qf mc0 H locs cells slots ls hC hc hs hR hL)
theorem s_if_eq {SA : mSA} {kc ks n pc : Nat} {L : mL} {h : mH} {P : Option Value → mH → Prop} {r : List Value} {x : Int32} {off : Int} {tgt : Nat} (ht : (pc : Int) + off = (tgt : Int)) (hd : decode (mBy (mt n)) pc = .ok (.ifCond .eq off, 3)) (hk : mC0 .eq x → mV SA kc ks n tgt L r h P) (hf : ¬ mC0 .eq x → mV SA kc ks n (pc + 3) L r h P) : mV SA kc ks n pc L (.int x :: r) h P := by
  intro p l e R s m args below meth c D dA ad B Qf mc0 H locs cells slots ls hC hc hs hR hL
  exact lv_if_eq hC.1 hC.2.1 hd ht (fun q => hk q p l e R s m args below meth c D dA ad B Qf mc0 H locs cells slots ls hC hc hs hR hL) (fun q => hf (by simpa [mC0] using q) p l e R s m args below meth c D dA ad B Qf mc0 H locs cells slots ls hC hc hs hR hL)
theorem s_icmp_eq {SA : mSA} {kc ks n pc : Nat} {L : mL} {h : mH} {P : Option Value → mH → Prop} {r : List Value} {x y : Int32} {off : Int} {tgt : Nat} (ht : (pc : Int) + off = (tgt : Int)) (hd : decode (mBy (mt n)) pc = .ok (.if_icmp .eq off, 3)) (hk : mC2 .eq x y → mV SA kc ks n tgt L r h P) (hf : ¬ mC2 .eq x y → mV SA kc ks n (pc + 3) L r h P) : mV SA kc ks n pc L (.int y :: .int x :: r) h P := by
  intro p l e R s m args below meth c D dA ad B Qf mc0 H locs cells slots ls hC hc hs hR hL
  exact lv_icmp_eq hC.1 hC.2.1 hd ht (fun q => hk q p l e R s m args below meth c D dA ad B Qf mc0 H locs cells slots ls hC hc hs hR hL) (fun q => hf (by simpa [mC2] using q) p l e R s m args below meth c D dA ad B Qf mc0 H locs cells slots ls hC hc hs hR hL)
theorem s_if_ne {SA : mSA} {kc ks n pc : Nat} {L : mL} {h : mH} {P : Option Value → mH → Prop} {r : List Value} {x : Int32} {off : Int} {tgt : Nat} (ht : (pc : Int) + off = (tgt : Int)) (hd : decode (mBy (mt n)) pc = .ok (.ifCond .ne off, 3)) (hk : mC0 .ne x → mV SA kc ks n tgt L r h P) (hf : ¬ mC0 .ne x → mV SA kc ks n (pc + 3) L r h P) : mV SA kc ks n pc L (.int x :: r) h P := by
  intro p l e R s m args below meth c D dA ad B Qf mc0 H locs cells slots ls hC hc hs hR hL
  exact lv_if_ne hC.1 hC.2.1 hd ht (fun q => hk q p l e R s m args below meth c D dA ad B Qf mc0 H locs cells slots ls hC hc hs hR hL) (fun q => hf (by simpa [mC0] using q) p l e R s m args below meth c D dA ad B Qf mc0 H locs cells slots ls hC hc hs hR hL)
theorem s_icmp_ne {SA : mSA} {kc ks n pc : Nat} {L : mL} {h : mH} {P : Option Value → mH → Prop} {r : List Value} {x y : Int32} {off : Int} {tgt : Nat} (ht : (pc : Int) + off = (tgt : Int)) (hd : decode (mBy (mt n)) pc = .ok (.if_icmp .ne off, 3)) (hk : mC2 .ne x y → mV SA kc ks n tgt L r h P) (hf : ¬ mC2 .ne x y → mV SA kc ks n (pc + 3) L r h P) : mV SA kc ks n pc L (.int y :: .int x :: r) h P := by
  intro p l e R s m args below meth c D dA ad B Qf mc0 H locs cells slots ls hC hc hs hR hL
  exact lv_icmp_ne hC.1 hC.2.1 hd ht (fun q => hk q p l e R s m args below meth c D dA ad B Qf mc0 H locs cells slots ls hC hc hs hR hL) (fun q => hf (by simpa [mC2] using q) p l e R s m args below meth c D dA ad B Qf mc0 H locs cells slots ls hC hc hs hR hL)
theorem s_if_lt {SA : mSA} {kc ks n pc : Nat} {L : mL} {h : mH} {P : Option Value → mH → Prop} {r : List Value} {x : Int32} {off : Int} {tgt : Nat} (ht : (pc : Int) + off = (tgt : Int)) (hd : decode (mBy (mt n)) pc = .ok (.ifCond .lt off, 3)) (hk : mC0 .lt x → mV SA kc ks n tgt L r h P) (hf : ¬ mC0 .lt x → mV SA kc ks n (pc + 3) L r h P) : mV SA kc ks n pc L (.int x :: r) h P := by
  intro p l e R s m args below meth c D dA ad B Qf mc0 H locs cells slots ls hC hc hs hR hL
  exact lv_if_lt hC.1 hC.2.1 hd ht (fun q => hk q p l e R s m args below meth c D dA ad B Qf mc0 H locs cells slots ls hC hc hs hR hL) (fun q => hf (by simpa [mC0] using q) p l e R s m args below meth c D dA ad B Qf mc0 H locs cells slots ls hC hc hs hR hL)
theorem s_icmp_lt {SA : mSA} {kc ks n pc : Nat} {L : mL} {h : mH} {P : Option Value → mH → Prop} {r : List Value} {x y : Int32} {off : Int} {tgt : Nat} (ht : (pc : Int) + off = (tgt : Int)) (hd : decode (mBy (mt n)) pc = .ok (.if_icmp .lt off, 3)) (hk : mC2 .lt x y → mV SA kc ks n tgt L r h P) (hf : ¬ mC2 .lt x y → mV SA kc ks n (pc + 3) L r h P) : mV SA kc ks n pc L (.int y :: .int x :: r) h P := by
  intro p l e R s m args below meth c D dA ad B Qf mc0 H locs cells slots ls hC hc hs hR hL
  exact lv_icmp_lt hC.1 hC.2.1 hd ht (fun q => hk q p l e R s m args below meth c D dA ad B Qf mc0 H locs cells slots ls hC hc hs hR hL) (fun q => hf (by simpa [mC2] using q) p l e R s m args below meth c D dA ad B Qf mc0 H locs cells slots ls hC hc hs hR hL)
theorem s_if_ge {SA : mSA} {kc ks n pc : Nat} {L : mL} {h : mH} {P : Option Value → mH → Prop} {r : List Value} {x : Int32} {off : Int} {tgt : Nat} (ht : (pc : Int) + off = (tgt : Int)) (hd : decode (mBy (mt n)) pc = .ok (.ifCond .ge off, 3)) (hk : mC0 .ge x → mV SA kc ks n tgt L r h P) (hf : ¬ mC0 .ge x → mV SA kc ks n (pc + 3) L r h P) : mV SA kc ks n pc L (.int x :: r) h P := by
  intro p l e R s m args below meth c D dA ad B Qf mc0 H locs cells slots ls hC hc hs hR hL
  exact lv_if_ge hC.1 hC.2.1 hd ht (fun q => hk q p l e R s m args below meth c D dA ad B Qf mc0 H locs cells slots ls hC hc hs hR hL) (fun q => hf (by simpa [mC0] using q) p l e R s m args below meth c D dA ad B Qf mc0 H locs cells slots ls hC hc hs hR hL)
theorem s_icmp_ge {SA : mSA} {kc ks n pc : Nat} {L : mL} {h : mH} {P : Option Value → mH → Prop} {r : List Value} {x y : Int32} {off : Int} {tgt : Nat} (ht : (pc : Int) + off = (tgt : Int)) (hd : decode (mBy (mt n)) pc = .ok (.if_icmp .ge off, 3)) (hk : mC2 .ge x y → mV SA kc ks n tgt L r h P) (hf : ¬ mC2 .ge x y → mV SA kc ks n (pc + 3) L r h P) : mV SA kc ks n pc L (.int y :: .int x :: r) h P := by
  intro p l e R s m args below meth c D dA ad B Qf mc0 H locs cells slots ls hC hc hs hR hL
  exact lv_icmp_ge hC.1 hC.2.1 hd ht (fun q => hk q p l e R s m args below meth c D dA ad B Qf mc0 H locs cells slots ls hC hc hs hR hL) (fun q => hf (by simpa [mC2] using q) p l e R s m args below meth c D dA ad B Qf mc0 H locs cells slots ls hC hc hs hR hL)
theorem s_if_gt {SA : mSA} {kc ks n pc : Nat} {L : mL} {h : mH} {P : Option Value → mH → Prop} {r : List Value} {x : Int32} {off : Int} {tgt : Nat} (ht : (pc : Int) + off = (tgt : Int)) (hd : decode (mBy (mt n)) pc = .ok (.ifCond .gt off, 3)) (hk : mC0 .gt x → mV SA kc ks n tgt L r h P) (hf : ¬ mC0 .gt x → mV SA kc ks n (pc + 3) L r h P) : mV SA kc ks n pc L (.int x :: r) h P := by
  intro p l e R s m args below meth c D dA ad B Qf mc0 H locs cells slots ls hC hc hs hR hL
  exact lv_if_gt hC.1 hC.2.1 hd ht (fun q => hk q p l e R s m args below meth c D dA ad B Qf mc0 H locs cells slots ls hC hc hs hR hL) (fun q => hf (by simpa [mC0] using q) p l e R s m args below meth c D dA ad B Qf mc0 H locs cells slots ls hC hc hs hR hL)
theorem s_icmp_gt {SA : mSA} {kc ks n pc : Nat} {L : mL} {h : mH} {P : Option Value → mH → Prop} {r : List Value} {x y : Int32} {off : Int} {tgt : Nat} (ht : (pc : Int) + off = (tgt : Int)) (hd : decode (mBy (mt n)) pc = .ok (.if_icmp .gt off, 3)) (hk : mC2 .gt x y → mV SA kc ks n tgt L r h P) (hf : ¬ mC2 .gt x y → mV SA kc ks n (pc + 3) L r h P) : mV SA kc ks n pc L (.int y :: .int x :: r) h P := by
  intro p l e R s m args below meth c D dA ad B Qf mc0 H locs cells slots ls hC hc hs hR hL
  exact lv_icmp_gt hC.1 hC.2.1 hd ht (fun q => hk q p l e R s m args below meth c D dA ad B Qf mc0 H locs cells slots ls hC hc hs hR hL) (fun q => hf (by simpa [mC2] using q) p l e R s m args below meth c D dA ad B Qf mc0 H locs cells slots ls hC hc hs hR hL)
theorem s_if_le {SA : mSA} {kc ks n pc : Nat} {L : mL} {h : mH} {P : Option Value → mH → Prop} {r : List Value} {x : Int32} {off : Int} {tgt : Nat} (ht : (pc : Int) + off = (tgt : Int)) (hd : decode (mBy (mt n)) pc = .ok (.ifCond .le off, 3)) (hk : mC0 .le x → mV SA kc ks n tgt L r h P) (hf : ¬ mC0 .le x → mV SA kc ks n (pc + 3) L r h P) : mV SA kc ks n pc L (.int x :: r) h P := by
  intro p l e R s m args below meth c D dA ad B Qf mc0 H locs cells slots ls hC hc hs hR hL
  exact lv_if_le hC.1 hC.2.1 hd ht (fun q => hk q p l e R s m args below meth c D dA ad B Qf mc0 H locs cells slots ls hC hc hs hR hL) (fun q => hf (by simpa [mC0] using q) p l e R s m args below meth c D dA ad B Qf mc0 H locs cells slots ls hC hc hs hR hL)
theorem s_icmp_le {SA : mSA} {kc ks n pc : Nat} {L : mL} {h : mH} {P : Option Value → mH → Prop} {r : List Value} {x y : Int32} {off : Int} {tgt : Nat} (ht : (pc : Int) + off = (tgt : Int)) (hd : decode (mBy (mt n)) pc = .ok (.if_icmp .le off, 3)) (hk : mC2 .le x y → mV SA kc ks n tgt L r h P) (hf : ¬ mC2 .le x y → mV SA kc ks n (pc + 3) L r h P) : mV SA kc ks n pc L (.int y :: .int x :: r) h P := by
  intro p l e R s m args below meth c D dA ad B Qf mc0 H locs cells slots ls hC hc hs hR hL
  exact lv_icmp_le hC.1 hC.2.1 hd ht (fun q => hk q p l e R s m args below meth c D dA ad B Qf mc0 H locs cells slots ls hC hc hs hR hL) (fun q => hf (by simpa [mC2] using q) p l e R s m args below meth c D dA ad B Qf mc0 H locs cells slots ls hC hc hs hR hL)
theorem s_goto {SA : mSA} {kc ks n pc : Nat} {L : mL} {h : mH} {P : Option Value → mH → Prop} {r : List Value} {off : Int} {tgt : Nat} (ht : (pc : Int) + off = (tgt : Int)) (hd : decode (mBy (mt n)) pc = .ok (.goto off, 3)) (hk : mV SA kc ks n tgt L r h P) : mV SA kc ks n pc L r h P := by
  intro p l e R s m args below meth c D dA ad B Qf mc0 H locs cells slots ls hC hc hs hR hL
  exact lv_goto hC.1 hC.2.1 hd ht (hk p l e R s m args below meth c D dA ad B Qf mc0 H locs cells slots ls hC hc hs hR hL)
theorem s_tsw {SA : mSA} {kc ks n pc : Nat} {L : mL} {h : mH} {P : Option Value → mH → Prop} {r : List Value} {x : Int32} {dflt lo hi : Int} {offs : Array Int} {len : Nat} (h0 : 0 ≤ (pc : Int) + dflt) (h1 : hi - lo + 1 = (offs.size : Int)) (h2 : ∀ z ∈ offs.toList, 0 ≤ (pc : Int) + z) (hd : decode (mBy (mt n)) pc = .ok (.tableswitch dflt lo hi offs, len)) (hk : mV SA kc ks n (mSw pc dflt lo hi offs x) L r h P) : mV SA kc ks n pc L (.int x :: r) h P := by
  intro p l e R s m args below meth c D dA ad B Qf mc0 H locs cells slots ls hC hc hs hR hL
  by_cases hz : x.toInt < lo ∨ hi < x.toInt
  · rw [mSw, if_pos hz] at hk
    exact lv_tableOut hC.1 hC.2.1 hd hz (by omega) (hk p l e R s m args below meth c D dA ad B Qf mc0 H locs cells slots ls hC hc hs hR hL)
  · rw [mSw, if_neg hz] at hk
    have hz1 : ¬ x.toInt < lo := fun q => hz (Or.inl q)
    have hz2 : ¬ hi < x.toInt := fun q => hz (Or.inr q)
    have hlt : (x.toInt - lo).toNat < offs.size := by omega
    have hg : offs[(x.toInt - lo).toNat]? = some (offs.getD (x.toInt - lo).toNat 0) := by simp [Array.getD_eq_getD_getElem?, Array.getElem?_eq_getElem hlt]
    have hm : offs.getD (x.toInt - lo).toNat 0 ∈ offs.toList := by
      have := Array.mem_of_getElem? hg
      simpa using this
    have h3 := h2 _ hm
    exact lv_tableIn hC.1 hC.2.1 hd hz1 hz2 hg (by omega) (hk p l e R s m args below meth c D dA ad B Qf mc0 H locs cells slots ls hC hc hs hR hL)
theorem s_ret {SA : mSA} {kc ks n pc : Nat} {L : mL} {h : mH} {P : Option Value → mH → Prop} {v : Option Value} (hm : mRt n v pc) (hp : P v h) (hz : kc = 0) : mV SA kc ks n pc L v.toList h P := by
  intro p l e R s m args below meth c D dA ad B Qf mc0 H locs cells slots ls hC hc hs hR hL
  subst hz
  have e : cells = mc0 := by omega
  subst e
  have e2 : (v.toList).map (tv ad) = (v.map (tv ad)).toList := by cases v <;> rfl
  rw [e2]
  exact hC.2.2.2.2.2.2.2.2.2.2 v h H locs slots pc ls hp hR (by omega) hm

/-! PART 04: what a stretch of code asks of a picture (wI an instruction, wB a block), and the checks that a program does (mChk) -/
abbrev mBy (y : mM) : ByteArray := y.2.1
abbrev mLo (y : mM) : Nat := y.2.2.1
abbrev mRe (y : mM) : Option FieldType := y.2.2.2.1
abbrev mFr (y : mM) : Nat := y.2.2.2.2.1
abbrev mWo (y : mM) : Nat := y.2.2.2.2.2.1
abbrev mCn (y : mM) : Nat := y.2.2.2.2.2.2
def mAdm (dc ci : Nat) : Bool := dc == ci || (dc == 50 && (ci == 0 || ci == 7))
def mFld (h : mH) (k dc j : Nat) : Option Value :=
  if dc = 999 then (if 2000000 ≤ k ∧ k < 2000014 then (if j = 0 then some (.ref (k - 999000)) else if j = 1 then some (.int 0) else none) else none)
  else match h[k]? with
    | some (.inr o) => if mAdm dc o.1 = true then o.2[j]? else none
    | _ => none
def mArr (SA : mSA) (h : mH) (k : Nat) : Option (FieldType × vp_A) :=
  if k < 1000000 then (match h[k]? with
    | some (.inl e) => some e
    | _ => none) else SA k
def mCls (h : mH) (k : Nat) : Option Nat :=
  if k < 1000000 then (match h[k]? with
    | some (.inr o) => some o.1
    | _ => none) else if 2000000 ≤ k ∧ k < 2000014 then some 999 else none
def mPop : Nat → List Value → List Value → Option (List Value × List Value)
  | 0, acc, st => some (acc, st)
  | n + 1, acc, v :: st => mPop n (v :: acc) st
  | _ + 1, _, [] => none
def mWd : List Value → Nat
  | [] => 0
  | v :: r => v.category + mWd r
def mZero : FieldType → ((Nat → Int32) ⊕ (Nat → Int64) ⊕ (Nat → UInt32) ⊕ (Nat → UInt64) ⊕ (Nat → Option Nat))
  | .long => .inr (.inl fun _ => 0)
  | _ => .inl fun _ => 0
def mDef : Nat → List Value
  | 0 => [.null, .null, .null, .null, .null, .null, .null, .int 0, .long 0, .long 0, .long 0, .long 0]
  | 1 => [.null, .null, .null, .int 0, .int 0, .int 0, .int 0, .int 0, .int 0, .int 0]
  | 2 => [.null, .null, .null, .null, .null, .null, .null, .null, .null, .null, .null]
  | 3 => [.null, .null, .int 0, .int 0, .int 0, .long 0, .int 0, .int 0]
  | 4 => [.null, .null, .null, .null, .int 0]
  | 5 => [.null, .null, .null, .int 0]
  | 6 => [.null, .int 0]
  | 7 => [.null, .null, .null, .null, .null, .null, .null, .null, .null]
  | 8 => [.null, .null, .null, .null, .null, .null, .null, .null, .null, .null, .null, .null, .null, .null, .null]
  | 9 => [.null, .null, .null, .null, .int 0, .null, .null, .null, .null, .int 0, .null, .int 0, .null, .int 0, .null, .null, .null, .null, .null, .null, .null, .null, .null, .null, .null, .null, .null, .null, .null, .null, .null, .null, .int 0, .null, .null, .null, .null, .null, .int 0, .null, .int 0, .null, .long 0, .long 0, .long 0, .long 0, .null, .null, .null, .null, .null, .null, .null, .null, .int 0, .null, .null, .int 0, .null, .int 0, .null, .null, .null, .null, .null, .null, .null, .null, .null, .null, .int 0]
  | _ => []
def mTyOf (ci j : Nat) : FieldType := match ci with
  | 0 => tyX0 j
  | 1 => tyX2 j
  | 2 => tyX3 j
  | 3 => tyX4 j
  | 4 => tyX5 j
  | 5 => tyX6 j
  | 6 => tyX7 j
  | 7 => tyX8 j
  | 8 => tyX9 j
  | 9 => tyX10 j
  | _ => .int
def mOkV (t w : Value) : Prop := match t, w with
  | .int a, .int x => a = 1 → (x = 0 ∨ x = 1)
  | .long _, .long _ => True
  | .ref _, .ref _ => True
  | _, _ => False
def mNarV (t : Value) (x : Int32) : Prop := match t with
  | .int a => (a = 1 → (x = 0 ∨ x = 1)) ∧ (a = 2 → narrow .char (.int x) = .int x) ∧ (a = 3 → narrow .byte (.int x) = .int x)
  | _ => False
def mSw (pc : Nat) (dflt lo hi : Int) (offs : Array Int) (x : Int32) : Nat :=
  if x.toInt < lo ∨ hi < x.toInt then ((pc : Int) + dflt).toNat else ((pc : Int) + offs.getD (x.toInt - lo).toNat 0).toNat
def mC0 (c : Jvm.ClassFile.Cond) (x : Int32) : Prop := match c with
  | .eq => x = 0
  | .ne => ¬ x = 0
  | .lt => x < 0
  | .ge => 0 ≤ x
  | .gt => 0 < x
  | .le => x ≤ 0
def mC2 (c : Jvm.ClassFile.Cond) (x y : Int32) : Prop := match c with
  | .eq => x = y
  | .ne => ¬ x = y
  | .lt => x < y
  | .ge => y ≤ x
  | .gt => y < x
  | .le => x ≤ y
def wBI (f : Int32 → Int32 → Int32) (st : List Value) (K : List Value → Prop) : Prop := ∃ x y r, st = .int y :: .int x :: r ∧ K (.int (f x y) :: r)
def wBL (f : Int64 → Int64 → Int64) (st : List Value) (K : List Value → Prop) : Prop := ∃ x y r, st = .long y :: .long x :: r ∧ K (.long (f x y) :: r)
def wSL (f : Int64 → Int32 → Int64) (st : List Value) (K : List Value → Prop) : Prop := ∃ x y r, st = .int y :: .long x :: r ∧ K (.long (f x y) :: r)
def wUI (f : Int32 → Value) (st : List Value) (K : List Value → Prop) : Prop := ∃ x r, st = .int x :: r ∧ K (f x :: r)
def wLdI (o : Option Value) (K : Value → Prop) : Prop := ∃ x, o = some (.int x) ∧ K (.int x)
def wLdL (o : Option Value) (K : Value → Prop) : Prop := ∃ x, o = some (.long x) ∧ K (.long x)
def wLdA (o : Option Value) (K : Value → Prop) : Prop := ∃ x, o = some (.ref x) ∧ K (.ref x)
def wStI (st : List Value) (K : Value → List Value → Prop) : Prop := ∃ x r, st = .int x :: r ∧ K (.int x) r
def wStL (st : List Value) (K : Value → List Value → Prop) : Prop := ∃ x r, st = .long x :: r ∧ K (.long x) r
def wStA (st : List Value) (K : Value → List Value → Prop) : Prop := ∃ x r, st = .ref x :: r ∧ K (.ref x) r
def wCall (nargs : Nat) (st : List Value) (K : List Value → List Value → Prop) : Prop := ∃ as r, mPop nargs [] st = some (as, r) ∧ mWd r ≤ 8 ∧ K as r
section
variable (SA : mSA) (V : Nat → Nat → Nat → mL → List Value → mH → Prop) (C : Nat → Nat → Nat → List Value → mH → (Option Value → mH → Prop) → Prop) (P : Option Value → mH → Prop) (kc ks : Nat)
def wCopy (st : List Value) (h : mH) (K : List Value → mH → Prop) : Prop :=
  ∃ n dp k1 sp k0 r, st = .int n :: .int dp :: .ref k1 :: .int sp :: .ref k0 :: r ∧ mWd r ≤ 8 ∧ ¬ sp < 0 ∧ ¬ dp < 0 ∧ ¬ n < 0 ∧
    ((∃ ty n0 f n1 g, (ty = .int ∨ ty = .byte) ∧ h[k0]? = some (.inl (ty, n0, .inl f)) ∧ h[k1]? = some (.inl (ty, n1, .inl g)) ∧ sp.toNatClampNeg + n.toNatClampNeg ≤ n0 ∧ dp.toNatClampNeg + n.toNatClampNeg ≤ n1 ∧
        K r (h.set k1 (.inl (ty, n1, .inl (va_cpy f g sp.toNatClampNeg dp.toNatClampNeg n.toNatClampNeg))))) ∨
     (∃ n0 f n1 g, h[k0]? = some (.inl (.long, n0, .inr (.inl f))) ∧ h[k1]? = some (.inl (.long, n1, .inr (.inl g))) ∧ sp.toNatClampNeg + n.toNatClampNeg ≤ n0 ∧ dp.toNatClampNeg + n.toNatClampNeg ≤ n1 ∧
        K r (h.set k1 (.inl (.long, n1, .inr (.inl (va_cpy f g sp.toNatClampNeg dp.toNatClampNeg n.toNatClampNeg)))))))
def wVirt (o : mO) (st : List Value) (h : mH) (K : Option Value → List Value → mH → Prop) : Prop :=
  wCall o.2.2.1 st fun as r0 => ∃ k r, r0 = .ref k :: r ∧ match o.2.2.2 with
    | .ref ci => mCls h k = some ci ∧ C 0 0 o.2.1 (.ref k :: as) h (fun v h' => K v r h')
    | .long m2 => (mCls h k = some 0 ∧ C 0 0 o.2.1 (.ref k :: as) h (fun v h' => K v r h')) ∨ (mCls h k = some 7 ∧ C 0 0 m2.toInt.toNat (.ref k :: as) h (fun v h' => K v r h'))
    | _ => False
def wI (o : mO) (K : Nat → Nat → mL → List Value → mH → Prop) (L : mL) (st : List Value) (h : mH) : Prop :=
  match o.1 with
  | .iconst _ => K kc ks L (o.2.2.2 :: st) h
  | .bipush _ => K kc ks L (o.2.2.2 :: st) h
  | .sipush _ => K kc ks L (o.2.2.2 :: st) h
  | .lconst _ => K kc ks L (o.2.2.2 :: st) h
  | .ldc _ => K kc ks L (o.2.2.2 :: st) h
  | .ldc_w _ => K kc ks L (o.2.2.2 :: st) h
  | .ldc2_w _ => K kc ks L (o.2.2.2 :: st) h
  | .getstatic _ => K kc ks L (o.2.2.2 :: st) h
  | .iload _ => wLdI (mG L o.2.1) fun v => K kc ks L (v :: st) h
  | .iload_n _ => wLdI (mG L o.2.1) fun v => K kc ks L (v :: st) h
  | .lload _ => wLdL (mG L o.2.1) fun v => K kc ks L (v :: st) h
  | .lload_n _ => wLdL (mG L o.2.1) fun v => K kc ks L (v :: st) h
  | .aload _ => wLdA (mG L o.2.1) fun v => K kc ks L (v :: st) h
  | .aload_n _ => wLdA (mG L o.2.1) fun v => K kc ks L (v :: st) h
  | .istore _ => wStI st fun v r => K kc ks (mS1 L o.2.1 v) r h
  | .istore_n _ => wStI st fun v r => K kc ks (mS1 L o.2.1 v) r h
  | .lstore _ => wStL st fun v r => K kc ks (mS2 L o.2.1 v) r h
  | .lstore_n _ => wStL st fun v r => K kc ks (mS2 L o.2.1 v) r h
  | .astore _ => wStA st fun v r => K kc ks (mS1 L o.2.1 v) r h
  | .astore_n _ => wStA st fun v r => K kc ks (mS1 L o.2.1 v) r h
  | .iinc _ _ => ∃ x c, mG L o.2.1 = some (.int x) ∧ o.2.2.2 = .int c ∧ K kc ks (mS1 L o.2.1 (.int (x + c))) st h
  | .iadd => wBI (fun x y => x + y) st fun s => K kc ks L s h
  | .isub => wBI (fun x y => x - y) st fun s => K kc ks L s h
  | .imul => wBI (fun x y => x * y) st fun s => K kc ks L s h
  | .iand => wBI (fun x y => x &&& y) st fun s => K kc ks L s h
  | .ior => wBI (fun x y => x ||| y) st fun s => K kc ks L s h
  | .ixor => wBI (fun x y => x ^^^ y) st fun s => K kc ks L s h
  | .ishl => wBI (fun x y => x <<< (y &&& 31)) st fun s => K kc ks L s h
  | .ishr => wBI (fun x y => x >>> (y &&& 31)) st fun s => K kc ks L s h
  | .iushr => wBI (fun x y => (x.toUInt32 >>> (y.toUInt32 &&& Int32.toUInt32 31)).toInt32) st fun s => K kc ks L s h
  | .idiv => ∃ x y r, st = .int y :: .int x :: r ∧ ¬ y = 0 ∧ K kc ks L (.int (x / y) :: r) h
  | .irem => ∃ x y r, st = .int y :: .int x :: r ∧ ¬ y = 0 ∧ K kc ks L (.int (x - x / y * y) :: r) h
  | .ladd => wBL (fun x y => x + y) st fun s => K kc ks L s h
  | .lsub => wBL (fun x y => x - y) st fun s => K kc ks L s h
  | .lmul => wBL (fun x y => x * y) st fun s => K kc ks L s h
  | .land => wBL (fun x y => x &&& y) st fun s => K kc ks L s h
  | .lor => wBL (fun x y => x ||| y) st fun s => K kc ks L s h
  | .lxor => wBL (fun x y => x ^^^ y) st fun s => K kc ks L s h
  | .lshl => wSL (fun x y => x <<< (y.toInt64 &&& 63)) st fun s => K kc ks L s h
  | .lshr => wSL (fun x y => x >>> (y.toInt64 &&& 63)) st fun s => K kc ks L s h
  | .lushr => wSL (fun x y => (x.toUInt64 >>> (y.toInt64.toUInt64 &&& Int64.toUInt64 63)).toInt64) st fun s => K kc ks L s h
  | .i2l => wUI (fun x => .long x.toInt64) st fun s => K kc ks L s h
  | .i2b => wUI (fun x => .int x.toInt8.toInt32) st fun s => K kc ks L s h
  | .i2c => wUI (fun x => .int (x.toUInt32 % 65536).toInt32) st fun s => K kc ks L s h
  | .l2i => ∃ x r, st = .long x :: r ∧ K kc ks L (.int x.toInt32 :: r) h
  | .lcmp => ∃ x y r, st = .long y :: .long x :: r ∧ K kc ks L (.int (lg_cmp x y) :: r) h
  | .pop => ∃ v r, st = v :: r ∧ v.category = 1 ∧ K kc ks L r h
  | .dup => ∃ v r, st = v :: r ∧ v.category = 1 ∧ K kc ks L (v :: v :: r) h
  | .dup2 => ∃ v w r, st = v :: w :: r ∧ v.category = 1 ∧ w.category = 1 ∧ K kc ks L (v :: w :: v :: w :: r) h
  | .ifCond c _ => ∃ x r, st = .int x :: r ∧ (mC0 c x → V kc ks o.2.1 L r h) ∧ (¬ mC0 c x → K kc ks L r h)
  | .if_icmp c _ => ∃ x y r, st = .int y :: .int x :: r ∧ (mC2 c x y → V kc ks o.2.1 L r h) ∧ (¬ mC2 c x y → K kc ks L r h)
  | .goto _ => V kc ks o.2.1 L st h
  | .tableswitch d lo hi offs => ∃ x r, st = .int x :: r ∧ V kc ks (mSw o.2.1 d lo hi offs x) L r h
  | .ireturn => ∃ x, st = [.int x] ∧ mNarV o.2.2.2 x ∧ kc = 0 ∧ P (some (.int x)) h
  | .lreturn => ∃ x, st = [.long x] ∧ kc = 0 ∧ P (some (.long x)) h
  | .areturn => ∃ x, st = [.ref x] ∧ kc = 0 ∧ P (some (.ref x)) h
  | .return_ => st = [] ∧ kc = 0 ∧ P none h
  | .getfield _ => ∃ k r w, st = .ref k :: r ∧ mFld h k o.2.1 o.2.2.1 = some w ∧ K kc ks L (w :: r) h
  | .putfield _ => ∃ k r w ci fs, st = w :: .ref k :: r ∧ h[k]? = some (.inr (ci, fs)) ∧ mAdm o.2.1 ci = true ∧ o.2.2.1 < fs.length ∧ mOkV o.2.2.2 w ∧ K kc ks L r (h.set k (.inr (ci, fs.set o.2.2.1 w)))
  | .iaload => ∃ i k r n f, st = .int i :: .ref k :: r ∧ mArr SA h k = some (.int, n, .inl f) ∧ vp_in i n ∧ K kc ks L (.int (f i.toNatClampNeg) :: r) h
  | .baload => ∃ i k r n f, st = .int i :: .ref k :: r ∧ mArr SA h k = some (.byte, n, .inl f) ∧ vp_in i n ∧ K kc ks L (.int (f i.toNatClampNeg) :: r) h
  | .laload => ∃ i k r n f, st = .int i :: .ref k :: r ∧ mArr SA h k = some (.long, n, .inr (.inl f)) ∧ vp_in i n ∧ K kc ks L (.long (f i.toNatClampNeg) :: r) h
  | .aaload => ∃ i k r n f c q, st = .int i :: .ref k :: r ∧ h[k]? = some (.inl (.object c, n, .inr (.inr (.inr (.inr f))))) ∧ (c = RX7 ∨ c = RX2) ∧ vp_in i n ∧ f i.toNatClampNeg = some q ∧ K kc ks L (.ref q :: r) h
  | .iastore => ∃ x i k r n f, st = .int x :: .int i :: .ref k :: r ∧ h[k]? = some (.inl (.int, n, .inl f)) ∧ vp_in i n ∧ K kc ks L r (h.set k (.inl (.int, n, .inl (upd f i.toNatClampNeg x))))
  | .bastore => ∃ x i k r n f, st = .int x :: .int i :: .ref k :: r ∧ h[k]? = some (.inl (.byte, n, .inl f)) ∧ vp_in i n ∧ K kc ks L r (h.set k (.inl (.byte, n, .inl (upd f i.toNatClampNeg x.toInt8.toInt32))))
  | .lastore => ∃ x i k r n f, st = .long x :: .int i :: .ref k :: r ∧ h[k]? = some (.inl (.long, n, .inr (.inl f))) ∧ vp_in i n ∧ K kc ks L r (h.set k (.inl (.long, n, .inr (.inl (vp_updL f i.toNatClampNeg x)))))
  | .aastore => ∃ q i k r n f ci fs, st = .ref q :: .int i :: .ref k :: r ∧ (ci = 6 ∨ ci = 1) ∧ h[k]? = some (.inl (.object (if ci = 6 then RX7 else RX2), n, .inr (.inr (.inr (.inr f))))) ∧ h[q]? = some (.inr (ci, fs)) ∧ vp_in i n ∧ K kc ks L r (h.set k (.inl (.object (if ci = 6 then RX7 else RX2), n, .inr (.inr (.inr (.inr (va_up f i.toNatClampNeg (some q))))))))
  | .arraylength => ∃ k r e, st = .ref k :: r ∧ mArr SA h k = some e ∧ (e.1 = .int ∨ e.1 = .long ∨ e.1 = .byte) ∧ K kc ks L (.int (nI e.2.1) :: r) h
  | .newarray t => ∃ n r kc', st = .int n :: r ∧ ¬ n < 0 ∧ n.toNatClampNeg ≤ 100000 ∧ kc = kc' + 1 ∧ n.toNatClampNeg ≤ ks ∧ h.length < 1000000 ∧ (t = .int ∨ t = .long ∨ t = .byte) ∧ K kc' (ks - n.toNatClampNeg) L (.ref h.length :: r) (h ++ [.inl (newarray.typeOf t, n.toNatClampNeg, mZero (newarray.typeOf t))])
  | .anewarray _ => ∃ n r kc', st = .int n :: r ∧ ¬ n < 0 ∧ n.toNatClampNeg ≤ 100000 ∧ kc = kc' + 1 ∧ n.toNatClampNeg ≤ ks ∧ h.length < 1000000 ∧ (o.2.1 = 6 ∨ o.2.1 = 1) ∧ K kc' (ks - n.toNatClampNeg) L (.ref h.length :: r) (h ++ [.inl (.object (if o.2.1 = 6 then RX7 else RX2), n.toNatClampNeg, .inr (.inr (.inr (.inr (fun _ => none)))))])
  | .new _ => ∃ kc', kc = kc' + 1 ∧ o.2.2.1 ≤ ks ∧ h.length < 1000000 ∧ K kc' (ks - o.2.2.1) L (.ref h.length :: st) (h ++ [.inr (o.2.1, mDef o.2.1)])
  | .invokestatic _ => if o.2.1 = 9001 then wCopy st h (fun r h' => K kc ks L r h') else if o.2.1 = 9002 then (∃ x y r, st = .int y :: .int x :: r ∧ mWd r ≤ 8 ∧ K kc ks L (.int (if x < y then y else x) :: r) h) else if o.2.1 = 9003 then (∃ x y r, st = .int y :: .int x :: r ∧ mWd r ≤ 8 ∧ K kc ks L (.int (if y < x then y else x) :: r) h) else wCall o.2.2.1 st fun as r => C 0 0 o.2.1 as h (fun v h' => K kc ks L (v.toList ++ r) h')
  | .invokespecial _ => if o.2.1 = 9000 then (∃ k r, st = .ref k :: r ∧ mWd r ≤ 8 ∧ K kc ks L r h) else
      wCall o.2.2.1 st fun as r0 => ∃ k r mc ms, r0 = .ref k :: r ∧ mc ≤ kc ∧ ms ≤ ks ∧ C mc ms o.2.1 (.ref k :: as) h (fun v h' => K (kc - mc) (ks - ms) L (v.toList ++ r) h')
  | .invokevirtual _ => wVirt C o st h (fun v r h' => K kc ks L (v.toList ++ r) h')
  | _ => False
end
/-! the checks -/
def mLen : Instr → Nat
  | .bipush _ => 2
  | .sipush _ => 3
  | .ldc _ => 2
  | .ldc_w _ => 3
  | .ldc2_w _ => 3
  | .getstatic _ => 3
  | .iload _ => 2
  | .lload _ => 2
  | .aload _ => 2
  | .istore _ => 2
  | .lstore _ => 2
  | .astore _ => 2
  | .iinc _ _ => 3
  | .ifCond _ _ => 3
  | .if_icmp _ _ => 3
  | .goto _ => 3
  | .getfield _ => 3
  | .putfield _ => 3
  | .newarray _ => 2
  | .anewarray _ => 3
  | .new _ => 3
  | .invokestatic _ => 3
  | .invokespecial _ => 3
  | .invokevirtual _ => 3
  | _ => 1
def mIsSw : Instr → Bool
  | .tableswitch _ _ _ _ => true
  | _ => false
def mAdmL (dc : Nat) : List Nat := if dc = 50 then [0, 7] else [dc]
def mTyV : FieldType → Value → Bool
  | .int, .int 0 => true
  | .boolean, .int 1 => true
  | .long, .long _ => true
  | .object _, .ref _ => true
  | .array _, .ref _ => true
  | _, _ => false
def mFinal (ci j : Nat) : Bool := match vwCl[ci]? with
  | some r => (r.2.1 j).2.2.2
  | none => false
def mFieldB (own : String) (idx dc j : Nat) (v : Value) (ps : List Nat) : Bool :=
  if dc = 999 then mAt (ps.getD 0 0) (.fieldLink own idx "java/lang/String" (if j = 0 then "value" else "coder") (if j = 0 then "[B" else "B"))
  else (mAdmL dc).all fun ci => match vwCl[ci]? with
    | some r => decide (j < r.2.2) &&
      (mAt (ps.getD 0 0) (.fieldLink own idx (r.2.1 j).1 (r.2.1 j).2.1 (r.2.1 j).2.2.1) || (mAt (ps.getD 0 0) (.fieldLink own idx r.1 (r.2.1 j).2.1 (r.2.1 j).2.2.1) && mAt (ps.getD 1 0) (.sameField r.1 (r.2.1 j).1 (r.2.1 j).2.1 (r.2.1 j).2.2.1)))
    | none => false
def mPutB (own : String) (dc j : Nat) (v : Value) : Bool := (mAdmL dc).all fun ci => match vwCl[ci]? with
    | some r => mTyV (mTyOf ci j) v && (!(r.2.1 j).2.2.2 || decide ((r.2.1 j).1 = own))
    | none => false
def mNotMH (s : String) : Bool := decide (s ≠ "java/lang/invoke/MethodHandle") && decide (s ≠ "java/lang/invoke/VarHandle")
def mArgsB (y : MethodName) (n : Nat) : Bool := decide ((parseMethodDescriptor y.desc).map (fun d => d.parameters.length) = some n) && mNotMH y.cls
def mClsN (ci : Nat) : String := if ci = 999 then "java/lang/String" else match vwCl[ci]? with
  | some r => r.1
  | none => ""
def mNW : List Cond := [(Jvm.Cond.arrayOver (Jvm.ClassFile.FieldType.object "KeySealer$Row")), (Jvm.Cond.arrayOver (Jvm.ClassFile.FieldType.object "KeySealer$Context")), (Jvm.Cond.methodLinkNest "KeySealer" (27 : Nat) ({ cls := "KeySealer$Labels", name := "<init>", desc := "()V" } : Jvm.MethodName) "KeySealer"), (Jvm.Cond.methodLinkNest "KeySealer$Labels" (11 : Nat) ({ cls := "KeySealer$Keyed", name := "<init>", desc := "()V" } : Jvm.MethodName) "KeySealer"), (Jvm.Cond.methodLinkNest "KeySealer$Keyed" (11 : Nat) ({ cls := "KeySealer$Digest", name := "<init>", desc := "()V" } : Jvm.MethodName) "KeySealer"), (Jvm.Cond.methodLinkNest "KeySealer" (34 : Nat) ({ cls := "KeySealer$Curve", name := "<init>", desc := "()V" } : Jvm.MethodName) "KeySealer"), (Jvm.Cond.methodLinkNest "KeySealer" (81 : Nat) ({ cls := "KeySealer$Context", name := "<init>", desc := "()V" } : Jvm.MethodName) "KeySealer"), (Jvm.Cond.declares ({ cls := "KeySealer$Cipher", name := "begin", desc := "(LKeySealer$Row;LKeySealer$Row;)V" } : Jvm.MethodName)), (Jvm.Cond.declares ({ cls := "KeySealer$Cipher", name := "fillStream", desc := "(I)V" } : Jvm.MethodName)), (Jvm.Cond.declares ({ cls := "KeySealer$Cipher", name := "absorb", desc := "()V" } : Jvm.MethodName)), (Jvm.Cond.declares ({ cls := "KeySealer$Cipher", name := "absorbLengths", desc := "(II)V" } : Jvm.MethodName)), (Jvm.Cond.declares ({ cls := "KeySealer$Cipher", name := "writeTag", desc := "()V" } : Jvm.MethodName))]
def mVirtB (own : String) (idx : Nat) (ci n nargs p0 : Nat) (q : List Nat) : Bool :=
  let y := (mt n).1
  decide (n < 243) && mArgsB y nargs && mAt (q.getD 0 0) (.instanceMethod y) && mAt (q.getD 2 0) (.initialized y.cls) &&
  ((mAt p0 (.methodLink own idx y) && mAt (q.getD 1 0) (.selects (mClsN ci) y y)) ||
   (mAt p0 (.methodLink own idx ⟨RX1, y.name, y.desc⟩) && mAt (q.getD 4 0) (.sameMethod RX1 RX1 y.name y.desc) && mAt (q.getD 1 0) (.selects (mClsN ci) ⟨RX1, y.name, y.desc⟩ y) && decide (Cond.declares ⟨RX1, y.name, y.desc⟩ ∈ mNW)))
def linkB (own : String) (o : mO) (ps : List Nat) : Bool := match o.1 with
  | .ldc idx => (match o.2.2.2 with
    | .int v => mAt (ps.getD 0 0) (.constant own idx v)
    | .ref k => decide (2000000 ≤ k) && (match mStrs[k - 2000000]? with
      | some q => decide (q.1 = own ∧ q.2.1 = idx)
      | none => false)
    | _ => false)
  | .ldc_w idx => (match o.2.2.2 with
    | .ref k => decide (2000000 ≤ k) && (match mStrs[k - 2000000]? with
      | some q => decide (q.1 = own ∧ q.2.1 = idx)
      | none => false)
    | _ => false)
  | .ldc2_w idx => (match o.2.2.2 with
    | .long v => mAt (ps.getD 0 0) (.constantLong own idx v)
    | _ => false)
  | .getstatic idx => (match mStat[ps.getD 1 0]? with
    | some q => decide (q.2.2.2 = o.2.2.2) && mAt (ps.getD 0 0) (.fieldLink own idx q.1 q.2.1 q.2.2.1)
    | none => false)
  | .getfield idx => mFieldB own idx o.2.1 o.2.2.1 o.2.2.2 ps
  | .putfield idx => decide (o.2.1 ≠ 999) && mFieldB own idx o.2.1 o.2.2.1 o.2.2.2 ps && mPutB own o.2.1 o.2.2.1 o.2.2.2
  | .new idx => (match vwCl[o.2.1]? with
    | some r => decide (o.2.2.1 = r.2.2) && mAt (ps.getD 0 0) (.classLink own idx r.1) && mAt (ps.getD 1 0) (.instantiable r.1 r.2.2) && mAt (ps.getD 2 0) (.initialized r.1)
    | none => false)
  | .anewarray idx => mAt (ps.getD 0 0) (.classLink own idx (if o.2.1 = 6 then RX7 else RX2))
  | .newarray t => mAt (ps.getD 0 0) (.arrayClass (newarray.typeOf t))
  | .invokestatic idx => if o.2.1 = 9001 then mAt (ps.getD 0 0) (.methodLink own idx arraycopyName) && mAt (ps.getD 1 0) (.native arraycopyName) && mAt (ps.getD 2 0) (.static arraycopyName) && mAt (ps.getD 3 0) (.initialized "java/lang/System")
      else if o.2.1 = 9002 then mAt (ps.getD 0 0) (.methodLink own idx Lib.Math.max.name) && mAt (ps.getD 1 0) (.static Lib.Math.max.name) && mAt (ps.getD 2 0) (.initialized "java/lang/Math") && mAt (ps.getD 3 0) (.code Lib.Math.max.name Lib.Math.max.code 2 (some .int))
      else if o.2.1 = 9003 then mAt (ps.getD 0 0) (.methodLink own idx Lib.Math.min.name) && mAt (ps.getD 1 0) (.static Lib.Math.min.name) && mAt (ps.getD 2 0) (.initialized "java/lang/Math") && mAt (ps.getD 3 0) (.code Lib.Math.min.name Lib.Math.min.code 2 (some .int))
      else decide (o.2.1 < 243) && mArgsB (mt o.2.1).1 o.2.2.1 && mAt (ps.getD 0 0) (.methodLink own idx (mt o.2.1).1) && mAt (ps.getD 1 0) (.static (mt o.2.1).1) && mAt (ps.getD 2 0) (.initialized (mt o.2.1).1.cls)
  | .invokespecial idx => if o.2.1 = 9000 then mAt (ps.getD 0 0) (.methodLink own idx Lib.objectInit) && mAt (ps.getD 1 0) (.instanceMethod Lib.objectInit) && mAt (ps.getD 2 0) (.code Lib.objectInit ⟨#[0xb1]⟩ 1 none)
      else decide (o.2.1 < 243) && mArgsB (mt o.2.1).1 o.2.2.1 && mAt (ps.getD 1 0) (.instanceMethod (mt o.2.1).1) && mAt (ps.getD 2 0) (.initialized (mt o.2.1).1.cls) && decide ((mt o.2.1).1.name = "<init>") && decide (mRe (mt o.2.1) = none) &&
        (mAt (ps.getD 0 0) (.methodLink own idx (mt o.2.1).1) || decide (Cond.methodLinkNest own idx (mt o.2.1).1 RX9 ∈ mNW))
  | .invokevirtual idx => (match o.2.2.2 with
    | .ref ci => mVirtB own idx ci o.2.1 o.2.2.1 (ps.getD 0 0) (ps.drop 1)
    | .long m2 => mVirtB own idx 0 o.2.1 o.2.2.1 (ps.getD 0 0) (ps.drop 1) && mVirtB own idx 7 m2.toInt.toNat o.2.2.1 (ps.getD 0 0) (ps.drop 6)
    | _ => false)
  | _ => true
def mIsLink : Instr → Bool
  | .ldc _ => true
  | .ldc_w _ => true
  | .ldc2_w _ => true
  | .getstatic _ => true
  | .getfield _ => true
  | .putfield _ => true
  | .new _ => true
  | .anewarray _ => true
  | .newarray _ => true
  | .invokestatic _ => true
  | .invokespecial _ => true
  | .invokevirtual _ => true
  | _ => false
def mRoomB (n a : Nat) : Bool := decide (mFr (mt a) + 1 ≤ mFr (mt n)) && decide (8 + (mLo (mt a) + 11) + mWo (mt a) ≤ mWo (mt n))
def mLb (n pc : Nat) (o : mO) : Bool := match o.1 with
  | .iconst c => decide (o.2.2.2 = .int (Int32.ofInt c))
  | .bipush c => decide (o.2.2.2 = .int (Int8.ofInt c).toInt32)
  | .sipush c => decide (o.2.2.2 = .int (Int16.ofInt c).toInt32)
  | .lconst c => decide (o.2.2.2 = .long (Int64.ofNat c))
  | .iload i => decide (o.2.1 = i)
  | .iload_n i => decide (o.2.1 = i)
  | .lload i => decide (o.2.1 = i)
  | .lload_n i => decide (o.2.1 = i)
  | .aload i => decide (o.2.1 = i)
  | .aload_n i => decide (o.2.1 = i)
  | .istore i => decide (o.2.1 = i) && decide (i < mLo (mt n))
  | .istore_n i => decide (o.2.1 = i) && decide ((i : Nat) < mLo (mt n))
  | .lstore i => decide (o.2.1 = i) && decide (i + 1 < mLo (mt n))
  | .lstore_n i => decide (o.2.1 = i) && decide ((i : Nat) + 1 < mLo (mt n))
  | .astore i => decide (o.2.1 = i) && decide (i < mLo (mt n))
  | .astore_n i => decide (o.2.1 = i) && decide ((i : Nat) < mLo (mt n))
  | .iinc i c => decide (o.2.1 = i) && decide (i < mLo (mt n)) && decide (o.2.2.2 = .int (Int32.ofInt c))
  | .ifCond _ off => decide ((pc : Int) + off = (o.2.1 : Int))
  | .if_icmp _ off => decide ((pc : Int) + off = (o.2.1 : Int))
  | .goto off => decide ((pc : Int) + off = (o.2.1 : Int))
  | .tableswitch d lo hi offs => decide (o.2.1 = pc) && decide (0 ≤ (pc : Int) + d) && decide (hi - lo + 1 = (offs.size : Int)) && offs.toList.all (fun z => decide (0 ≤ (pc : Int) + z))
  | .ireturn => (match mRe (mt n), o.2.2.2 with
    | some .int, .int 0 => true
    | some .boolean, .int 1 => true
    | some .char, .int 2 => true
    | some .byte, .int 3 => true
    | _, _ => false)
  | .lreturn => decide (mRe (mt n) = some .long)
  | .areturn => (match mRe (mt n) with
    | some (.object _) => true
    | _ => false)
  | .return_ => decide (mRe (mt n) = none)
  | .putfield _ => (mAdmL o.2.1).all (fun ci => !mFinal ci o.2.2.1) || decide ((mt n).1.name = "<init>")
  | .invokestatic _ => if o.2.1 = 9001 then decide (1 ≤ mFr (mt n)) && decide (26 ≤ mWo (mt n)) else if o.2.1 = 9002 ∨ o.2.1 = 9003 then decide (1 ≤ mFr (mt n)) && decide (21 ≤ mWo (mt n)) else mRoomB n o.2.1
  | .invokespecial _ => if o.2.1 = 9000 then decide (1 ≤ mFr (mt n)) && decide (20 ≤ mWo (mt n)) else mRoomB n o.2.1
  | .invokevirtual _ => (match o.2.2.2 with
    | .ref _ => mRoomB n o.2.1
    | .long m2 => mRoomB n o.2.1 && mRoomB n m2.toInt.toNat
    | _ => false)
  | _ => true
def mChk1 (n pc : Nat) (o : mO) : Bool := (match decode (mBy (mt n)) pc with
    | .ok q => decide (q.1 = o.1) && (decide (q.2 = mLen o.1) || mIsSw o.1)
    | _ => false) && mLb n pc o && (!mIsLink o.1 || (mLT (mCn (mt n))).any (fun q => decide (q.1 = o)))
def mChk (n : Nat) : Nat → List mO → Nat → Bool
  | pc, [], pe => decide (pc = pe)
  | pc, o :: os, pe => mChk1 n pc o && mChk n (pc + mLen o.1) os pe

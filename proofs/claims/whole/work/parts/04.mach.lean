/-! WHAT AN INSTRUCTION DOES to locals, stack and state; what it needs -/
abbrev xK : Type := Nat → xL → List Value → xS → Prop
abbrev xCall : Type := Bool × Nat × (List Value → xS → Prop) × (List Value → xS → Option Value × xS)
def xpop : Nat → List Value → List Value → (List Value → List Value → Prop) → Prop
  | 0, st, acc, P => P acc st
  | n + 1, v :: st, acc, P => xpop n st (v :: acc) P
  | _ + 1, [], _, _ => False
def xob (w : xD) (K ci : Nat) : Prop := K ∈ w.1 ∧ w.2.1 K = ci + 5
def xar (w : xD) (K kd : Nat) : Prop := K ∈ w.1 ∧ w.2.1 K = kd
def xf4 (n : Fin 4) : Nat := n.val
def xrem (x y : Int32) : Int32 := x - x / y * y
def xshl (x y : Int32) : Int32 := x <<< (y &&& 31)
def xshr (x y : Int32) : Int32 := x >>> (y &&& 31)
def xushr (x y : Int32) : Int32 := (x.toUInt32 >>> (y.toUInt32 &&& Int32.toUInt32 31)).toInt32
def xlshl (x : Int64) (y : Int32) : Int64 := x <<< (y.toInt64 &&& 63)
def xlushr (x : Int64) (y : Int32) : Int64 := (x.toUInt64 >>> (y.toInt64.toUInt64 &&& Int64.toUInt64 63)).toInt64
def xcmp : Jvm.ClassFile.Cond → Int32 → Int32 → Prop
  | .eq, x, y => x = y
  | .ne, x, y => ¬ x = y
  | .lt, x, y => x < y
  | .ge, x, y => y ≤ x
  | .gt, x, y => y < x
  | .le, x, y => x ≤ y
def xgo (K : xK) (pc : Nat) (off : Int) (L : xL) (st : List Value) (σ : xS) : Prop := 0 ≤ (pc : Int) + off ∧ K ((pc : Int) + off).toNat L st σ
def xsw (K : xK) (pc : Nat) (x : Int32) (L : xL) (st : List Value) (σ : xS) (d : Prop) : List (Int × Int) → Prop
  | [] => d
  | (a, o) :: r => (x = Int32.ofInt a → xgo K pc o L st σ) ∧ (¬ x = Int32.ofInt a → xsw K pc x L st σ d r)
def xtb : Int → List Int → List (Int × Int)
  | _, [] => []
  | lo, o :: r => (lo, o) :: xtb (lo + 1) r
def xsrt : List (Int × Int) → Prop
  | [] => True
  | a :: r => (-2147483648 ≤ a.1 ∧ a.1 < 2147483648) ∧ (match r with | [] => True | b :: _ => a.1 < b.1) ∧ xsrt r
def xfg (w : xD) (σ : xS) (K f t : Nat) : Value := match t with
  | 0 => .int (σ.1 K f)
  | 1 => .int (σ.1 K f)
  | 2 => .long (σ.2 K f)
  | 3 => .ref (w.2.2.2 K f)
  | _ => .int (σ.1 K f)
def xst (w : xD) (nL : Nat) (fld : Nat → Option (Nat × Nat × Nat)) (cal : Nat → Option xCall) (ks : Nat → Option Value) (gs : Nat → Option Nat) (ro : Nat → Option (Nat × (Nat → Int32))) (rb : Nat) (i : Instr) (len pc : Nat) (K : xK) (Rt : Option Value → xS → Prop) (L : xL) (st : List Value) (σ : xS) : Prop := match i with
  | .iconst n => len = 1 ∧ K (pc + 1) L (.int (Int32.ofInt n) :: st) σ
  | .bipush n => len = 2 ∧ (-128 ≤ n ∧ n < 128) ∧ K (pc + 2) L (.int (Int32.ofInt n) :: st) σ
  | .sipush n => len = 3 ∧ (-32768 ≤ n ∧ n < 32768) ∧ K (pc + 3) L (.int (Int32.ofInt n) :: st) σ
  | .lconst n => len = 1 ∧ K (pc + 1) L (.long (if n = 0 then 0 else 1) :: st) σ
  | .aconst_null => len = 1 ∧ K (pc + 1) L (.null :: st) σ
  | .ldc idx => len = 2 ∧ (match ks idx with | some (.int v) => K (pc + 2) L (.int v :: st) σ | some (.ref a) => K (pc + 2) L (.ref a :: st) σ | _ => False)
  | .ldc_w idx => len = 3 ∧ (match ks idx with | some (.int v) => K (pc + 3) L (.int v :: st) σ | _ => False)
  | .ldc2_w idx => len = 3 ∧ (match ks idx with | some (.long v) => K (pc + 3) L (.long v :: st) σ | _ => False)
  | .iload_n k => len = 1 ∧ xld L (xf4 k) (fun v => match v with | .int x => K (pc + 1) L (.int x :: st) σ | _ => False)
  | .iload k => len = 2 ∧ xld L k (fun v => match v with | .int x => K (pc + 2) L (.int x :: st) σ | _ => False)
  | .lload_n k => len = 1 ∧ xld L (xf4 k) (fun v => match v with | .long x => K (pc + 1) L (.long x :: st) σ | _ => False)
  | .lload k => len = 2 ∧ xld L k (fun v => match v with | .long x => K (pc + 2) L (.long x :: st) σ | _ => False)
  | .aload_n k => len = 1 ∧ xld L (xf4 k) (fun v => match v with | .ref x => K (pc + 1) L (.ref x :: st) σ | .null => K (pc + 1) L (.null :: st) σ | _ => False)
  | .aload k => len = 2 ∧ xld L k (fun v => match v with | .ref x => K (pc + 2) L (.ref x :: st) σ | .null => K (pc + 2) L (.null :: st) σ | _ => False)
  | .istore_n k => len = 1 ∧ xf4 k < nL ∧ (match st with | .int x :: st => K (pc + 1) (xs1 L (xf4 k) (.int x)) st σ | _ => False)
  | .istore k => len = 2 ∧ k < nL ∧ (match st with | .int x :: st => K (pc + 2) (xs1 L k (.int x)) st σ | _ => False)
  | .lstore_n k => len = 1 ∧ xf4 k + 1 < nL ∧ (match st with | .long x :: st => K (pc + 1) (xs2 L (xf4 k) (.long x)) st σ | _ => False)
  | .lstore k => len = 2 ∧ k + 1 < nL ∧ (match st with | .long x :: st => K (pc + 2) (xs2 L k (.long x)) st σ | _ => False)
  | .astore_n k => len = 1 ∧ xf4 k < nL ∧ (match st with | .ref x :: st => K (pc + 1) (xs1 L (xf4 k) (.ref x)) st σ | .null :: st => K (pc + 1) (xs1 L (xf4 k) .null) st σ | _ => False)
  | .astore k => len = 2 ∧ k < nL ∧ (match st with | .ref x :: st => K (pc + 2) (xs1 L k (.ref x)) st σ | .null :: st => K (pc + 2) (xs1 L k .null) st σ | _ => False)
  | .iinc k n => len = 3 ∧ k < nL ∧ xld L k (fun v => match v with | .int x => K (pc + 3) (xs1 L k (.int (x + Int32.ofInt n))) st σ | _ => False)
  | .iadd => len = 1 ∧ (match st with | .int y :: .int x :: st => K (pc + 1) L (.int (x + y) :: st) σ | _ => False)
  | .isub => len = 1 ∧ (match st with | .int y :: .int x :: st => K (pc + 1) L (.int (x - y) :: st) σ | _ => False)
  | .imul => len = 1 ∧ (match st with | .int y :: .int x :: st => K (pc + 1) L (.int (x * y) :: st) σ | _ => False)
  | .idiv => len = 1 ∧ (match st with | .int y :: .int x :: st => ¬ y = 0 ∧ K (pc + 1) L (.int (x / y) :: st) σ | _ => False)
  | .irem => len = 1 ∧ (match st with | .int y :: .int x :: st => ¬ y = 0 ∧ K (pc + 1) L (.int (xrem x y) :: st) σ | _ => False)
  | .iand => len = 1 ∧ (match st with | .int y :: .int x :: st => K (pc + 1) L (.int (x &&& y) :: st) σ | _ => False)
  | .ior => len = 1 ∧ (match st with | .int y :: .int x :: st => K (pc + 1) L (.int (x ||| y) :: st) σ | _ => False)
  | .ixor => len = 1 ∧ (match st with | .int y :: .int x :: st => K (pc + 1) L (.int (x ^^^ y) :: st) σ | _ => False)
  | .ineg => len = 1 ∧ (match st with | .int x :: st => K (pc + 1) L (.int (-x) :: st) σ | _ => False)
  | .ishl => len = 1 ∧ (match st with | .int y :: .int x :: st => K (pc + 1) L (.int (xshl x y) :: st) σ | _ => False)
  | .ishr => len = 1 ∧ (match st with | .int y :: .int x :: st => K (pc + 1) L (.int (xshr x y) :: st) σ | _ => False)
  | .iushr => len = 1 ∧ (match st with | .int y :: .int x :: st => K (pc + 1) L (.int (xushr x y) :: st) σ | _ => False)
  | .ladd => len = 1 ∧ (match st with | .long y :: .long x :: st => K (pc + 1) L (.long (x + y) :: st) σ | _ => False)
  | .lsub => len = 1 ∧ (match st with | .long y :: .long x :: st => K (pc + 1) L (.long (x - y) :: st) σ | _ => False)
  | .lmul => len = 1 ∧ (match st with | .long y :: .long x :: st => K (pc + 1) L (.long (x * y) :: st) σ | _ => False)
  | .land => len = 1 ∧ (match st with | .long y :: .long x :: st => K (pc + 1) L (.long (x &&& y) :: st) σ | _ => False)
  | .lor => len = 1 ∧ (match st with | .long y :: .long x :: st => K (pc + 1) L (.long (x ||| y) :: st) σ | _ => False)
  | .lxor => len = 1 ∧ (match st with | .long y :: .long x :: st => K (pc + 1) L (.long (x ^^^ y) :: st) σ | _ => False)
  | .lshl => len = 1 ∧ (match st with | .int y :: .long x :: st => K (pc + 1) L (.long (xlshl x y) :: st) σ | _ => False)
  | .lushr => len = 1 ∧ (match st with | .int y :: .long x :: st => K (pc + 1) L (.long (xlushr x y) :: st) σ | _ => False)
  | .lcmp => len = 1 ∧ (match st with | .long y :: .long x :: st => K (pc + 1) L (.int (lg_cmp x y) :: st) σ | _ => False)
  | .i2l => len = 1 ∧ (match st with | .int x :: st => K (pc + 1) L (.long x.toInt64 :: st) σ | _ => False)
  | .l2i => len = 1 ∧ (match st with | .long x :: st => K (pc + 1) L (.int x.toInt32 :: st) σ | _ => False)
  | .i2b => len = 1 ∧ (match st with | .int x :: st => K (pc + 1) L (.int x.toInt8.toInt32 :: st) σ | _ => False)
  | .i2s => len = 1 ∧ (match st with | .int x :: st => K (pc + 1) L (.int x.toInt16.toInt32 :: st) σ | _ => False)
  | .dup => len = 1 ∧ (match st with | v :: st => v.category = 1 ∧ K (pc + 1) L (v :: v :: st) σ | _ => False)
  | .pop => len = 1 ∧ (match st with | v :: st => v.category = 1 ∧ K (pc + 1) L st σ | _ => False)
  | .dup2 => len = 1 ∧ (match st with | v :: u :: st => (v.category = 1 ∧ u.category = 1) ∧ K (pc + 1) L (v :: u :: v :: u :: st) σ | _ => False)
  | .dup_x1 => len = 1 ∧ (match st with | v :: u :: st => (v.category = 1 ∧ u.category = 1) ∧ K (pc + 1) L (v :: u :: v :: st) σ | _ => False)
  | .ifCond cd off => len = 3 ∧ 0 ≤ (pc : Int) + off ∧ (match st with | .int x :: st => (xcmp cd x 0 → K ((pc : Int) + off).toNat L st σ) ∧ (¬ xcmp cd x 0 → K (pc + 3) L st σ) | _ => False)
  | .if_icmp cd off => len = 3 ∧ 0 ≤ (pc : Int) + off ∧ (match st with | .int y :: .int x :: st => (xcmp cd x y → K ((pc : Int) + off).toNat L st σ) ∧ (¬ xcmp cd x y → K (pc + 3) L st σ) | _ => False)
  | .goto off => len = 3 ∧ xgo K pc off L st σ
  | .ifnull off => len = 3 ∧ (match st with | .ref _ :: st => K (pc + 3) L st σ | .null :: st => xgo K pc off L st σ | _ => False)
  | .ifnonnull off => len = 3 ∧ (match st with | .ref _ :: st => xgo K pc off L st σ | .null :: st => K (pc + 3) L st σ | _ => False)
  | .tableswitch d lo hi offs => (match st with | .int x :: st => (hi = lo + (offs.toList.length : Int) - 1 ∧ -2147483648 ≤ lo ∧ hi < 2147483648) ∧ xsw K pc x L st σ (xgo K pc d L st σ) (xtb lo offs.toList) | _ => False)
  | .lookupswitch d ps => (match st with | .int x :: st => xsrt ps.toList ∧ xsw K pc x L st σ (xgo K pc d L st σ) ps.toList | _ => False)
  | .getfield idx => len = 3 ∧ (match fld idx with
    | some (ci, f, t) => (match st with | .ref a :: st => xob w a ci ∧ K (pc + 3) L (xfg w σ a f t :: st) σ | _ => False)
    | none => False)
  | .putfield idx => len = 3 ∧ (match fld idx with
    | some (ci, f, t) => (match t, st with
      | 0, .int x :: .ref a :: st => xob w a ci ∧ K (pc + 3) L st (xI σ a f x)
      | 1, .int x :: .ref a :: st => xob w a ci ∧ (x = 0 ∨ x = 1) ∧ K (pc + 3) L st (xI σ a f x)
      | 2, .long x :: .ref a :: st => xob w a ci ∧ K (pc + 3) L st (xJ σ a f x)
      | _, _ => False)
    | none => False)
  | .getstatic idx => len = 3 ∧ (match gs idx with | some a => K (pc + 3) L (.ref a :: st) σ | none => False)
  | .iaload => len = 1 ∧ (match st with
    | .int i :: .ref a :: st => (match ro a with
      | some (n, g) => vp_in i n ∧ K (pc + 1) L (.int (g i.toNatClampNeg) :: st) σ
      | none => (xar w a 0 ∧ vp_in i (w.2.2.1 a)) ∧ K (pc + 1) L (.int (σ.1 a i.toNatClampNeg) :: st) σ)
    | _ => False)
  | .laload => len = 1 ∧ (match st with
    | .int i :: .ref a :: st => (xar w a 1 ∧ vp_in i (w.2.2.1 a)) ∧ K (pc + 1) L (.long (σ.2 a i.toNatClampNeg) :: st) σ
    | _ => False)
  | .aaload => len = 1 ∧ (match st with
    | .int i :: .ref a :: st => ((xar w a 2 ∨ xar w a 3 ∨ xar w a 4) ∧ vp_in i (w.2.2.1 a)) ∧ K (pc + 1) L (.ref (w.2.2.2 a i.toNatClampNeg) :: st) σ
    | _ => False)
  | .iastore => len = 1 ∧ (match st with
    | .int x :: .int i :: .ref a :: st => (xar w a 0 ∧ vp_in i (w.2.2.1 a)) ∧ K (pc + 1) L st (xI σ a i.toNatClampNeg x)
    | _ => False)
  | .lastore => len = 1 ∧ (match st with
    | .long x :: .int i :: .ref a :: st => (xar w a 1 ∧ vp_in i (w.2.2.1 a)) ∧ K (pc + 1) L st (xJ σ a i.toNatClampNeg x)
    | _ => False)
  | .arraylength => len = 1 ∧ (match st with
    | .ref a :: st => (match ro a with
      | some (n, _) => K (pc + 1) L (.int (Int32.ofNat n) :: st) σ
      | none => (xar w a 0 ∨ xar w a 1 ∨ xar w a 2 ∨ xar w a 3 ∨ xar w a 4) ∧ K (pc + 1) L (.int (Int32.ofNat (w.2.2.1 a)) :: st) σ)
    | _ => False)
  | .invokevirtual idx => len = 3 ∧ (match cal idx with
    | some (false, n, pre, fn) => xpop n st [] (fun as st => st.length ≤ 4 ∧ pre as σ ∧ K (pc + 3) L ((fn as σ).1.toList ++ st) (fn as σ).2)
    | _ => False)
  | .invokestatic idx => len = 3 ∧ (match cal idx with
    | some (true, n, pre, fn) => xpop n st [] (fun as st => st.length ≤ 4 ∧ pre as σ ∧ K (pc + 3) L ((fn as σ).1.toList ++ st) (fn as σ).2)
    | _ => False)
  | .ireturn => len = 1 ∧ (match st with | .int x :: [] => (rb = 0 ∨ rb = 1 ∧ (x = 0 ∨ x = 1)) ∧ Rt (some (.int x)) σ | _ => False)
  | .lreturn => len = 1 ∧ (match st with | .long x :: [] => rb = 2 ∧ Rt (some (.long x)) σ | _ => False)
  | .areturn => len = 1 ∧ (match st with | .ref x :: [] => rb = 3 ∧ Rt (some (.ref x)) σ | .null :: [] => rb = 3 ∧ Rt (some .null) σ | _ => False)
  | .return_ => len = 1 ∧ (match st with | [] => rb = 4 ∧ Rt none σ | _ => False)
  | _ => False
def xwp (w : xD) (nL : Nat) (fld : Nat → Option (Nat × Nat × Nat)) (cal : Nat → Option xCall) (ks : Nat → Option Value) (gs : Nat → Option Nat) (ro : Nat → Option (Nat × (Nat → Int32))) (rb : Nat) (cc : ByteArray) (cut : Nat → Option (xL → List Value → xS → Prop)) (Rt : Option Value → xS → Prop) : Nat → xK
  | 0, _, _, _, _ => False
  | n + 1, pc, L, st, σ => match cut pc with
    | some P => P L st σ
    | none => match decode cc pc with
      | .ok (i, len) => xst w nL fld cal ks gs ro rb i len pc (xwp w nL fld cal ks gs ro rb cc cut Rt n) Rt L st σ
      | .error _ => False
def xws (w : xD) (nL : Nat) (fld : Nat → Option (Nat × Nat × Nat)) (cal : Nat → Option xCall) (ks : Nat → Option Value) (gs : Nat → Option Nat) (ro : Nat → Option (Nat × (Nat → Int32))) (rb : Nat) (cc : ByteArray) (cut : Nat → Option (xL → List Value → xS → Prop)) (Rt : Option Value → xS → Prop) (n pc : Nat) (L : xL) (st : List Value) (σ : xS) : Prop := match decode cc pc with
  | .ok (i, len) => xst w nL fld cal ks gs ro rb i len pc (xwp w nL fld cal ks gs ro rb cc cut Rt n) Rt L st σ
  | .error _ => False
def xG (p : Program) (l : Launch) (e : Env) (R : Room) (s : State) (m : MethodId) (args : Array Value) (below : List Frame) (meth : Method) (c : Code) (cells slots : Nat) (Q : State → Prop) (w : xD) (ad : Nat → Nat) (ca : Nat → ClassId) (D : va_G) (A0 : Nat → Prop) (nL : Nat) (pc : Nat) (L : xL) (st : List Value) (σ : xS) : Prop :=
  ∀ (H : Heap) (locs : List Loc) (ls : Array Slot), va_P D vwCl (xW w ad ca σ) H → va_S A0 s.heap H locs → xh ad ls nL L → W p l e R s m args below meth c H locs cells slots Q (F0 m pc ls (st.map (xc ad)))
def xCx (p : Program) (R : Room) (s : State) (m : MethodId) (args : Array Value) (meth : Method) (c : Code) (cells slots : Nat) (cc : ByteArray) (own : String) (ret : Option FieldType) (nL : Nat) (w : xD) (ad : Nat → Nat) (ca : Nat → ClassId) (D : va_G) (A0 : Nat → Prop) (d : Nat) : Prop :=
  p.tables.exec = Jvm.exec ∧ c.code = cc ∧ c.maxLocals = nL ∧ meth.sig.returnType = ret ∧ meth.locks = false ∧ s.vm.findClass own = some m.cls ∧ (∀ x ∈ xBig, x.before args s = true) ∧ va_K D vwCl (xtys ca) s ∧ (∀ σ, va_D A0 (xW w ad ca σ)) ∧ (∀ q : Nat, s.heap.size ≤ q → A0 q) ∧ xX ad A0 s s.heap ∧ w.1.Nodup ∧ (d ≤ R.frames ∧ 40 * d ≤ R.locals) ∧ (cells ≤ R.cells ∧ slots ≤ R.slots)
/-- what the tables of a method must say -/
def xFt (own : String) (fld : Nat → Option (Nat × Nat × Nat)) : Prop := ∀ idx ci f t, fld idx = some (ci, f, t) → (ci < 8 ∧ f < xNf ci ∧ t < 5) ∧ (t < 4 → (Jvm.Cond.fieldLink own idx (xTT ci f).1 (xTT ci f).2.1 (xTT ci f).2.2.1) ∈ xBig) ∧ (t = 0 → xTy ci f = .int ∧ (xTT ci f).2.2.2 = false) ∧ (t = 1 → xTy ci f = .boolean ∧ (xTT ci f).2.2.2 = false) ∧ (t = 2 → xTy ci f = .long ∧ (xTT ci f).2.2.2 = false) ∧ (t = 3 → (∃ n, xTy ci f = .object n) ∨ ∃ n, xTy ci f = .array n) ∧ (t = 4 → own = RX4 ∧ ((idx, ci, f) = (179, 5, 8) ∨ (idx, ci, f) = (185, 5, 10)))
def xKt (own : String) (ks : Nat → Option Value) (ad : Nat → Nat) (s : State) (args : Array Value) : Prop := ∀ idx v, ks idx = some v → match v with
  | .int x => (Jvm.Cond.constant own idx x).before args s = true
  | .long x => (Jvm.Cond.constantLong own idx x).before args s = true
  | .ref a => ∃ tx, vk_R own idx tx (ad a) s
  | _ => False
def xGt (own : String) (gs : Nat → Option Nat) (ad : Nat → Nat) (A0 : Nat → Prop) (s : State) (args : Array Value) : Prop := ∀ idx a, gs idx = some a → ∃ C n d, va_Z C n d (.ref (ad a)) A0 s s.heap ∧ (Jvm.Cond.fieldLink own idx C n d).before args s = true
def xRo (ro : Nat → Option (Nat × (Nat → Int32))) (ad : Nat → Nat) (A0 : Nat → Prop) (s : State) : Prop := ∀ a n g, ro a = some (n, g) → va_T .int (ad a) n (fun j => .int (g j)) A0 s s.heap
def xRi (cc : ByteArray) (rb : Nat) (pc : Nat) (r : Option Value) : Prop := match r with
  | some (.int x) => decode cc pc = .ok (.ireturn, 1) ∧ (rb = 0 ∨ rb = 1 ∧ (x = 0 ∨ x = 1))
  | some (.long _) => decode cc pc = .ok (.lreturn, 1) ∧ rb = 2
  | some (.ref _) => decode cc pc = .ok (.areturn, 1) ∧ rb = 3
  | some .null => decode cc pc = .ok (.areturn, 1) ∧ rb = 3
  | none => decode cc pc = .ok (.return_, 1) ∧ rb = 4
  | _ => False
theorem xpop_at {n : Nat} {st acc : List Value} {P : List Value → List Value → Prop} (h : xpop n st acc P) : ∃ as st' : List Value, as.length = n ∧ st = as.reverse ++ st' ∧ P (as ++ acc) st' := by
  induction n generalizing st acc with
  | zero => exact ⟨[], st, rfl, rfl, h⟩
  | succ n ih =>
    cases st with
    | nil => exact absurd h (by simp [xpop])
    | cons v st =>
      obtain ⟨as, st', h1, h2, h3⟩ := ih (show xpop n st (v :: acc) P from h)
      exact ⟨as ++ [v], st', by simp [h1], by simp [h2], by simpa using h3⟩
theorem xE_ob {w : xD} {ad : Nat → Nat} {ca : Nat → ClassId} {σ : xS} {K ci : Nat} (h : w.2.1 K = ci + 5) : xE w ad ca σ K = .inr (ci, (List.range (xNf ci)).map (fun f => xfv w ad σ K (xTy ci f) f)) := by
  unfold xE
  rw [h]
theorem xE_0 {w : xD} {ad : Nat → Nat} {ca : Nat → ClassId} {σ : xS} {K : Nat} (h : w.2.1 K = 0) : xE w ad ca σ K = .inl (ca 0, w.2.2.1 K, .inl (σ.1 K)) := by
  unfold xE
  rw [h]
theorem xE_1 {w : xD} {ad : Nat → Nat} {ca : Nat → ClassId} {σ : xS} {K : Nat} (h : w.2.1 K = 1) : xE w ad ca σ K = .inl (ca 1, w.2.2.1 K, .inr (.inl (σ.2 K))) := by
  unfold xE
  rw [h]
theorem xE_2 {w : xD} {ad : Nat → Nat} {ca : Nat → ClassId} {σ : xS} {K : Nat} (h : w.2.1 K = 2) : xE w ad ca σ K = .inl (ca 2, w.2.2.1 K, .inr (.inr (.inr (.inr (fun i => some (ad (w.2.2.2 K i))))))) := by
  unfold xE
  rw [h]
theorem xE_3 {w : xD} {ad : Nat → Nat} {ca : Nat → ClassId} {σ : xS} {K : Nat} (h : w.2.1 K = 3) : xE w ad ca σ K = .inl (ca 3, w.2.2.1 K, .inr (.inr (.inr (.inr (fun i => some (ad (w.2.2.2 K i))))))) := by
  unfold xE
  rw [h]
theorem xE_4 {w : xD} {ad : Nat → Nat} {ca : Nat → ClassId} {σ : xS} {K : Nat} (h : w.2.1 K = 4) : xE w ad ca σ K = .inl (ca 4, w.2.2.1 K, .inr (.inr (.inr (.inr (fun i => some (ad (w.2.2.2 K i))))))) := by
  unfold xE
  rw [h]
theorem xfs_get {w : xD} {ad : Nat → Nat} {σ : xS} {K ci f : Nat} (h : f < xNf ci) : ((List.range (xNf ci)).map (fun f => xfv w ad σ K (xTy ci f) f))[f]? = some (xfv w ad σ K (xTy ci f) f) := by
  rw [List.getElem?_map, List.getElem?_range h]
  rfl
theorem xfs_set {w : xD} {ad : Nat → Nat} {σ σ' : xS} {K ci f : Nat} {v : Value} (h : f < xNf ci) (hv : xfv w ad σ' K (xTy ci f) f = v) (h1 : ∀ k, k ≠ f → σ'.1 K k = σ.1 K k) (h2 : ∀ k, k ≠ f → σ'.2 K k = σ.2 K k) : ((List.range (xNf ci)).map (fun f => xfv w ad σ K (xTy ci f) f)).set f v = (List.range (xNf ci)).map (fun f => xfv w ad σ' K (xTy ci f) f) := by
  apply List.ext_getElem?
  intro k
  by_cases hk : k = f
  · subst hk
    rw [List.getElem?_set_self (by simpa using h), xfs_get h, hv]
  · rw [List.getElem?_set_ne (Ne.symm hk), List.getElem?_map, List.getElem?_map]
    cases hr : (List.range (xNf ci))[k]? with
    | none => rfl
    | some k' =>
      have e : k' = k := by
        obtain ⟨g1, g2⟩ := List.getElem?_eq_some_iff.mp hr
        simpa using g2.symm
      subst e
      show some (xfv w ad σ K (xTy ci k') k') = some (xfv w ad σ' K (xTy ci k') k')
      unfold xfv
      rw [h1 k' hk, h2 k' hk]
theorem xfv_c {w : xD} {ad : Nat → Nat} {σ : xS} {K ci f t : Nat} (ht : t < 5) (t0 : t = 0 → xTy ci f = .int) (t1 : t = 1 → xTy ci f = .boolean) (t2 : t = 2 → xTy ci f = .long) (t3 : t = 3 → (∃ n, xTy ci f = .object n) ∨ ∃ n, xTy ci f = .array n) (t4 : t = 4 → xTy ci f = .int) : xfv w ad σ K (xTy ci f) f = xc ad (xfg w σ K f t) := by
  match t, ht with
  | 0, _ => rw [t0 rfl]; rfl
  | 1, _ => rw [t1 rfl]; rfl
  | 2, _ => rw [t2 rfl]; rfl
  | 3, _ => rcases t3 rfl with ⟨n, h⟩ | ⟨n, h⟩ <;> rw [h] <;> rfl
  | 4, _ => rw [t4 rfl]; rfl
theorem xtb_at : ∀ (os : List Int) (lo : Int) (j : Nat), (xtb lo os)[j]? = (os[j]?).map (fun o => (lo + (j : Int), o))
  | [], lo, j => by simp [xtb]
  | o :: r, lo, 0 => by simp [xtb]
  | o :: r, lo, j + 1 => by
    have h := xtb_at r (lo + 1) j
    simp only [xtb, List.getElem?_cons_succ, h]
    congr 1
    funext o
    have e : lo + 1 + (j : Int) = lo + ((j + 1 : Nat) : Int) := by omega
    rw [e]
theorem xofI {z : Int} (h1 : -2147483648 ≤ z) (h2 : z < 2147483648) : (Int32.ofInt z).toInt = z := by
  have e : Int32.size = 4294967296 := rfl
  rw [Int32.toInt_ofInt, e]
  simp only [Int.bmod]
  omega
theorem xsw_hit {K : xK} {pc : Nat} {x : Int32} {L : xL} {st : List Value} {σ : xS} {d : Prop} : ∀ (r : List (Int × Int)) (j : Nat) (a o : Int), (∀ q ∈ r, -2147483648 ≤ q.1 ∧ q.1 < 2147483648) → (∀ i q, i < j → r[i]? = some q → q.1 ≠ a) → r[j]? = some (a, o) → x.toInt = a → xsw K pc x L st σ d r → xgo K pc o L st σ
  | [], j, a, o, _, _, hj, _, _ => by simp at hj
  | (a', o') :: r, 0, a, o, hr, _, hj, hx, h => by
    simp at hj
    obtain ⟨rfl, rfl⟩ := hj
    have h1 := hr _ List.mem_cons_self
    exact h.1 (by rw [← Int32.toInt_inj, xofI h1.1 h1.2]; exact hx)
  | (a', o') :: r, j + 1, a, o, hr, hne, hj, hx, h => by
    have h1 := hr _ List.mem_cons_self
    have hn := hne 0 (a', o') (by omega) rfl
    have h2 := h.2 (fun e => hn (by rw [e, xofI h1.1 h1.2] at hx; exact hx))
    exact xsw_hit r j a o (fun q hq => hr q (List.mem_cons_of_mem _ hq)) (fun i q hi hq => hne (i + 1) q (by omega) (by simpa using hq)) (by simpa using hj) hx h2
theorem xsw_miss {K : xK} {pc : Nat} {x : Int32} {L : xL} {st : List Value} {σ : xS} {d : Prop} : ∀ (r : List (Int × Int)), (∀ q ∈ r, -2147483648 ≤ q.1 ∧ q.1 < 2147483648) → (∀ q ∈ r, q.1 ≠ x.toInt) → xsw K pc x L st σ d r → d
  | [], _, _, h => h
  | (a', o') :: r, hr, hne, h => by
    have h1 := hr _ List.mem_cons_self
    have hn := hne _ List.mem_cons_self
    refine xsw_miss r (fun q hq => hr q (List.mem_cons_of_mem _ hq)) (fun q hq => hne q (List.mem_cons_of_mem _ hq)) (h.2 (fun e => hn ?_))
    rw [e, xofI h1.1 h1.2]
theorem xsrt_rng : ∀ {r : List (Int × Int)}, xsrt r → ∀ q ∈ r, -2147483648 ≤ q.1 ∧ q.1 < 2147483648
  | [], _, q, hq => by simp at hq
  | a :: r, h, q, hq => by
    rcases List.mem_cons.mp hq with rfl | hq
    · exact h.1
    · exact xsrt_rng h.2.2 q hq
theorem xsrt_ok : ∀ {r : List (Int × Int)}, xsrt r → (r.zip (r.drop 1)).all (fun (a, next) => a.1 < next.1) = true
  | [], _ => rfl
  | [a], _ => rfl
  | a :: b :: r, h => by
    have ih := xsrt_ok (r := b :: r) h.2.2
    have h1 : a.1 < b.1 := h.2.1
    simp only [List.drop_succ_cons, List.drop_zero, List.zip_cons_cons, List.all_cons, Bool.and_eq_true, decide_eq_true_eq] at ih ⊢
    exact ⟨h1, ih⟩
theorem xlk_ok {K : xK} {pc : Nat} {x : Int32} {L : xL} {st : List Value} {σ : xS} {dd : Int} : ∀ (r : List (Int × Int)), (∀ q ∈ r, -2147483648 ≤ q.1 ∧ q.1 < 2147483648) → xsw K pc x L st σ (xgo K pc dd L st σ) r → xgo K pc (Op.lookupswitch.offset r dd x.toInt) L st σ
  | [], _, h => h
  | (a, o) :: r, hr, h => by
    have h1 := hr _ List.mem_cons_self
    by_cases e : x = Int32.ofInt a
    · have e2 : x.toInt = a := by rw [e, xofI h1.1 h1.2]
      have e3 : Op.lookupswitch.offset ((a, o) :: r) dd x.toInt = o := by simp [Op.lookupswitch.offset, e2]
      rw [e3]
      exact h.1 e
    · rw [lv_osw e (xofI h1.1 h1.2)]
      exact xlk_ok r (fun q hq => hr q (List.mem_cons_of_mem _ hq)) (h.2 e)

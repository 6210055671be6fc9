section XSTL
variable {w : xD} {nL : Nat} {fld : Nat → Option (Nat × Nat × Nat)} {cal : Nat → Option xCall} {ks : Nat → Option Value} {gs : Nat → Option Nat} {ro : Nat → Option (Nat × (Nat → Int32))} {rb : Nat} {len pc : Nat} {K : xK} {Rt : Option Value → xS → Prop} {L : xL} {st : List Value} {σ : xS}
theorem st_iconst {n : Int} : xst w nL fld cal ks gs ro rb (.iconst n) len pc K Rt L st σ = (len = 1 ∧ K (pc + 1) L (.int (Int32.ofInt n) :: st) σ) := rfl
theorem st_bipush {n : Int} : xst w nL fld cal ks gs ro rb (.bipush n) len pc K Rt L st σ = (len = 2 ∧ (-128 ≤ n ∧ n < 128) ∧ K (pc + 2) L (.int (Int32.ofInt n) :: st) σ) := rfl
theorem st_sipush {n : Int} : xst w nL fld cal ks gs ro rb (.sipush n) len pc K Rt L st σ = (len = 3 ∧ (-32768 ≤ n ∧ n < 32768) ∧ K (pc + 3) L (.int (Int32.ofInt n) :: st) σ) := rfl
theorem st_lconst {n : Fin 2} : xst w nL fld cal ks gs ro rb (.lconst n) len pc K Rt L st σ = (len = 1 ∧ K (pc + 1) L (.long (if n = 0 then 0 else 1) :: st) σ) := rfl
theorem st_aconst_null  : xst w nL fld cal ks gs ro rb (.aconst_null) len pc K Rt L st σ = (len = 1 ∧ K (pc + 1) L (.null :: st) σ) := rfl
theorem st_ldc {idx : Nat} : xst w nL fld cal ks gs ro rb (.ldc idx) len pc K Rt L st σ = (len = 2 ∧ (match ks idx with | some (.int v) => K (pc + 2) L (.int v :: st) σ | some (.ref a) => K (pc + 2) L (.ref a :: st) σ | _ => False)) := rfl
theorem st_ldc_w {idx : Nat} : xst w nL fld cal ks gs ro rb (.ldc_w idx) len pc K Rt L st σ = (len = 3 ∧ (match ks idx with | some (.int v) => K (pc + 3) L (.int v :: st) σ | _ => False)) := rfl
theorem st_ldc2_w {idx : Nat} : xst w nL fld cal ks gs ro rb (.ldc2_w idx) len pc K Rt L st σ = (len = 3 ∧ (match ks idx with | some (.long v) => K (pc + 3) L (.long v :: st) σ | _ => False)) := rfl
theorem st_iload_n {k : Fin 4} : xst w nL fld cal ks gs ro rb (.iload_n k) len pc K Rt L st σ = (len = 1 ∧ xld L (xf4 k) (fun v => match v with | .int x => K (pc + 1) L (.int x :: st) σ | _ => False)) := rfl
theorem st_iload {k : Nat} : xst w nL fld cal ks gs ro rb (.iload k) len pc K Rt L st σ = (len = 2 ∧ xld L k (fun v => match v with | .int x => K (pc + 2) L (.int x :: st) σ | _ => False)) := rfl
theorem st_lload_n {k : Fin 4} : xst w nL fld cal ks gs ro rb (.lload_n k) len pc K Rt L st σ = (len = 1 ∧ xld L (xf4 k) (fun v => match v with | .long x => K (pc + 1) L (.long x :: st) σ | _ => False)) := rfl
theorem st_lload {k : Nat} : xst w nL fld cal ks gs ro rb (.lload k) len pc K Rt L st σ = (len = 2 ∧ xld L k (fun v => match v with | .long x => K (pc + 2) L (.long x :: st) σ | _ => False)) := rfl
theorem st_aload_n {k : Fin 4} : xst w nL fld cal ks gs ro rb (.aload_n k) len pc K Rt L st σ = (len = 1 ∧ xld L (xf4 k) (fun v => match v with | .ref x => K (pc + 1) L (.ref x :: st) σ | .null => K (pc + 1) L (.null :: st) σ | _ => False)) := rfl
theorem st_aload {k : Nat} : xst w nL fld cal ks gs ro rb (.aload k) len pc K Rt L st σ = (len = 2 ∧ xld L k (fun v => match v with | .ref x => K (pc + 2) L (.ref x :: st) σ | .null => K (pc + 2) L (.null :: st) σ | _ => False)) := rfl
theorem st_istore_n {k : Fin 4} : xst w nL fld cal ks gs ro rb (.istore_n k) len pc K Rt L st σ = (len = 1 ∧ xf4 k < nL ∧ (match st with | .int x :: st => K (pc + 1) (xs1 L (xf4 k) (.int x)) st σ | _ => False)) := rfl
theorem st_istore {k : Nat} : xst w nL fld cal ks gs ro rb (.istore k) len pc K Rt L st σ = (len = 2 ∧ k < nL ∧ (match st with | .int x :: st => K (pc + 2) (xs1 L k (.int x)) st σ | _ => False)) := rfl
theorem st_lstore_n {k : Fin 4} : xst w nL fld cal ks gs ro rb (.lstore_n k) len pc K Rt L st σ = (len = 1 ∧ xf4 k + 1 < nL ∧ (match st with | .long x :: st => K (pc + 1) (xs2 L (xf4 k) (.long x)) st σ | _ => False)) := rfl
theorem st_lstore {k : Nat} : xst w nL fld cal ks gs ro rb (.lstore k) len pc K Rt L st σ = (len = 2 ∧ k + 1 < nL ∧ (match st with | .long x :: st => K (pc + 2) (xs2 L k (.long x)) st σ | _ => False)) := rfl
theorem st_astore_n {k : Fin 4} : xst w nL fld cal ks gs ro rb (.astore_n k) len pc K Rt L st σ = (len = 1 ∧ xf4 k < nL ∧ (match st with | .ref x :: st => K (pc + 1) (xs1 L (xf4 k) (.ref x)) st σ | .null :: st => K (pc + 1) (xs1 L (xf4 k) .null) st σ | _ => False)) := rfl
theorem st_astore {k : Nat} : xst w nL fld cal ks gs ro rb (.astore k) len pc K Rt L st σ = (len = 2 ∧ k < nL ∧ (match st with | .ref x :: st => K (pc + 2) (xs1 L k (.ref x)) st σ | .null :: st => K (pc + 2) (xs1 L k .null) st σ | _ => False)) := rfl
theorem st_iinc {k : Nat} {n : Int} : xst w nL fld cal ks gs ro rb (.iinc k n) len pc K Rt L st σ = (len = 3 ∧ k < nL ∧ xld L k (fun v => match v with | .int x => K (pc + 3) (xs1 L k (.int (x + Int32.ofInt n))) st σ | _ => False)) := rfl
theorem st_iadd  : xst w nL fld cal ks gs ro rb (.iadd) len pc K Rt L st σ = (len = 1 ∧ (match st with | .int y :: .int x :: st => K (pc + 1) L (.int (x + y) :: st) σ | _ => False)) := rfl
theorem st_isub  : xst w nL fld cal ks gs ro rb (.isub) len pc K Rt L st σ = (len = 1 ∧ (match st with | .int y :: .int x :: st => K (pc + 1) L (.int (x - y) :: st) σ | _ => False)) := rfl
theorem st_imul  : xst w nL fld cal ks gs ro rb (.imul) len pc K Rt L st σ = (len = 1 ∧ (match st with | .int y :: .int x :: st => K (pc + 1) L (.int (x * y) :: st) σ | _ => False)) := rfl
theorem st_idiv  : xst w nL fld cal ks gs ro rb (.idiv) len pc K Rt L st σ = (len = 1 ∧ (match st with | .int y :: .int x :: st => ¬ y = 0 ∧ K (pc + 1) L (.int (x / y) :: st) σ | _ => False)) := rfl
theorem st_irem  : xst w nL fld cal ks gs ro rb (.irem) len pc K Rt L st σ = (len = 1 ∧ (match st with | .int y :: .int x :: st => ¬ y = 0 ∧ K (pc + 1) L (.int (xrem x y) :: st) σ | _ => False)) := rfl
theorem st_iand  : xst w nL fld cal ks gs ro rb (.iand) len pc K Rt L st σ = (len = 1 ∧ (match st with | .int y :: .int x :: st => K (pc + 1) L (.int (x &&& y) :: st) σ | _ => False)) := rfl
theorem st_ior  : xst w nL fld cal ks gs ro rb (.ior) len pc K Rt L st σ = (len = 1 ∧ (match st with | .int y :: .int x :: st => K (pc + 1) L (.int (x ||| y) :: st) σ | _ => False)) := rfl
theorem st_ixor  : xst w nL fld cal ks gs ro rb (.ixor) len pc K Rt L st σ = (len = 1 ∧ (match st with | .int y :: .int x :: st => K (pc + 1) L (.int (x ^^^ y) :: st) σ | _ => False)) := rfl
theorem st_ineg  : xst w nL fld cal ks gs ro rb (.ineg) len pc K Rt L st σ = (len = 1 ∧ (match st with | .int x :: st => K (pc + 1) L (.int (-x) :: st) σ | _ => False)) := rfl
theorem st_ishl  : xst w nL fld cal ks gs ro rb (.ishl) len pc K Rt L st σ = (len = 1 ∧ (match st with | .int y :: .int x :: st => K (pc + 1) L (.int (xshl x y) :: st) σ | _ => False)) := rfl
theorem st_ishr  : xst w nL fld cal ks gs ro rb (.ishr) len pc K Rt L st σ = (len = 1 ∧ (match st with | .int y :: .int x :: st => K (pc + 1) L (.int (xshr x y) :: st) σ | _ => False)) := rfl
theorem st_iushr  : xst w nL fld cal ks gs ro rb (.iushr) len pc K Rt L st σ = (len = 1 ∧ (match st with | .int y :: .int x :: st => K (pc + 1) L (.int (xushr x y) :: st) σ | _ => False)) := rfl
theorem st_ladd  : xst w nL fld cal ks gs ro rb (.ladd) len pc K Rt L st σ = (len = 1 ∧ (match st with | .long y :: .long x :: st => K (pc + 1) L (.long (x + y) :: st) σ | _ => False)) := rfl
theorem st_lsub  : xst w nL fld cal ks gs ro rb (.lsub) len pc K Rt L st σ = (len = 1 ∧ (match st with | .long y :: .long x :: st => K (pc + 1) L (.long (x - y) :: st) σ | _ => False)) := rfl
theorem st_lmul  : xst w nL fld cal ks gs ro rb (.lmul) len pc K Rt L st σ = (len = 1 ∧ (match st with | .long y :: .long x :: st => K (pc + 1) L (.long (x * y) :: st) σ | _ => False)) := rfl
theorem st_land  : xst w nL fld cal ks gs ro rb (.land) len pc K Rt L st σ = (len = 1 ∧ (match st with | .long y :: .long x :: st => K (pc + 1) L (.long (x &&& y) :: st) σ | _ => False)) := rfl
theorem st_lor  : xst w nL fld cal ks gs ro rb (.lor) len pc K Rt L st σ = (len = 1 ∧ (match st with | .long y :: .long x :: st => K (pc + 1) L (.long (x ||| y) :: st) σ | _ => False)) := rfl
theorem st_lxor  : xst w nL fld cal ks gs ro rb (.lxor) len pc K Rt L st σ = (len = 1 ∧ (match st with | .long y :: .long x :: st => K (pc + 1) L (.long (x ^^^ y) :: st) σ | _ => False)) := rfl
theorem st_lshl  : xst w nL fld cal ks gs ro rb (.lshl) len pc K Rt L st σ = (len = 1 ∧ (match st with | .int y :: .long x :: st => K (pc + 1) L (.long (xlshl x y) :: st) σ | _ => False)) := rfl
theorem st_lushr  : xst w nL fld cal ks gs ro rb (.lushr) len pc K Rt L st σ = (len = 1 ∧ (match st with | .int y :: .long x :: st => K (pc + 1) L (.long (xlushr x y) :: st) σ | _ => False)) := rfl
theorem st_lcmp  : xst w nL fld cal ks gs ro rb (.lcmp) len pc K Rt L st σ = (len = 1 ∧ (match st with | .long y :: .long x :: st => K (pc + 1) L (.int (lg_cmp x y) :: st) σ | _ => False)) := rfl
theorem st_i2l  : xst w nL fld cal ks gs ro rb (.i2l) len pc K Rt L st σ = (len = 1 ∧ (match st with | .int x :: st => K (pc + 1) L (.long x.toInt64 :: st) σ | _ => False)) := rfl
theorem st_l2i  : xst w nL fld cal ks gs ro rb (.l2i) len pc K Rt L st σ = (len = 1 ∧ (match st with | .long x :: st => K (pc + 1) L (.int x.toInt32 :: st) σ | _ => False)) := rfl
theorem st_i2b  : xst w nL fld cal ks gs ro rb (.i2b) len pc K Rt L st σ = (len = 1 ∧ (match st with | .int x :: st => K (pc + 1) L (.int x.toInt8.toInt32 :: st) σ | _ => False)) := rfl
theorem st_i2s  : xst w nL fld cal ks gs ro rb (.i2s) len pc K Rt L st σ = (len = 1 ∧ (match st with | .int x :: st => K (pc + 1) L (.int x.toInt16.toInt32 :: st) σ | _ => False)) := rfl
theorem st_dup  : xst w nL fld cal ks gs ro rb (.dup) len pc K Rt L st σ = (len = 1 ∧ (match st with | v :: st => v.category = 1 ∧ K (pc + 1) L (v :: v :: st) σ | _ => False)) := rfl
theorem st_pop  : xst w nL fld cal ks gs ro rb (.pop) len pc K Rt L st σ = (len = 1 ∧ (match st with | v :: st => v.category = 1 ∧ K (pc + 1) L st σ | _ => False)) := rfl
theorem st_dup2  : xst w nL fld cal ks gs ro rb (.dup2) len pc K Rt L st σ = (len = 1 ∧ (match st with | v :: u :: st => (v.category = 1 ∧ u.category = 1) ∧ K (pc + 1) L (v :: u :: v :: u :: st) σ | _ => False)) := rfl
theorem st_dup_x1  : xst w nL fld cal ks gs ro rb (.dup_x1) len pc K Rt L st σ = (len = 1 ∧ (match st with | v :: u :: st => (v.category = 1 ∧ u.category = 1) ∧ K (pc + 1) L (v :: u :: v :: st) σ | _ => False)) := rfl
theorem st_ifCond {cd : Jvm.ClassFile.Cond} {off : Int} : xst w nL fld cal ks gs ro rb (.ifCond cd off) len pc K Rt L st σ = (len = 3 ∧ 0 ≤ (pc : Int) + off ∧ (match st with | .int x :: st => (xcmp cd x 0 → K ((pc : Int) + off).toNat L st σ) ∧ (¬ xcmp cd x 0 → K (pc + 3) L st σ) | _ => False)) := rfl
theorem st_if_icmp {cd : Jvm.ClassFile.Cond} {off : Int} : xst w nL fld cal ks gs ro rb (.if_icmp cd off) len pc K Rt L st σ = (len = 3 ∧ 0 ≤ (pc : Int) + off ∧ (match st with | .int y :: .int x :: st => (xcmp cd x y → K ((pc : Int) + off).toNat L st σ) ∧ (¬ xcmp cd x y → K (pc + 3) L st σ) | _ => False)) := rfl
theorem st_goto {off : Int} : xst w nL fld cal ks gs ro rb (.goto off) len pc K Rt L st σ = (len = 3 ∧ xgo K pc off L st σ) := rfl
theorem st_ifnull {off : Int} : xst w nL fld cal ks gs ro rb (.ifnull off) len pc K Rt L st σ = (len = 3 ∧ (match st with | .ref _ :: st => K (pc + 3) L st σ | .null :: st => xgo K pc off L st σ | _ => False)) := rfl
theorem st_ifnonnull {off : Int} : xst w nL fld cal ks gs ro rb (.ifnonnull off) len pc K Rt L st σ = (len = 3 ∧ (match st with | .ref _ :: st => xgo K pc off L st σ | .null :: st => K (pc + 3) L st σ | _ => False)) := rfl
theorem st_tableswitch {d lo hi : Int} {offs : Array Int} : xst w nL fld cal ks gs ro rb (.tableswitch d lo hi offs) len pc K Rt L st σ = ((match st with | .int x :: st => (hi = lo + (offs.toList.length : Int) - 1 ∧ -2147483648 ≤ lo ∧ hi < 2147483648) ∧ xsw K pc x L st σ (xgo K pc d L st σ) (xtb lo offs.toList) | _ => False)) := rfl
theorem st_lookupswitch {d : Int} {ps : Array (Int × Int)} : xst w nL fld cal ks gs ro rb (.lookupswitch d ps) len pc K Rt L st σ = ((match st with | .int x :: st => xsrt ps.toList ∧ xsw K pc x L st σ (xgo K pc d L st σ) ps.toList | _ => False)) := rfl
theorem st_getfield {idx : Nat} : xst w nL fld cal ks gs ro rb (.getfield idx) len pc K Rt L st σ = (len = 3 ∧ (match fld idx with
    | some (ci, f, t) => (match st with | .ref a :: st => xob w a ci ∧ K (pc + 3) L (xfg w σ a f t :: st) σ | _ => False)
    | none => False)) := rfl
theorem st_putfield {idx : Nat} : xst w nL fld cal ks gs ro rb (.putfield idx) len pc K Rt L st σ = (len = 3 ∧ (match fld idx with
    | some (ci, f, t) => (match t, st with
      | 0, .int x :: .ref a :: st => xob w a ci ∧ K (pc + 3) L st (xI σ a f x)
      | 1, .int x :: .ref a :: st => xob w a ci ∧ (x = 0 ∨ x = 1) ∧ K (pc + 3) L st (xI σ a f x)
      | 2, .long x :: .ref a :: st => xob w a ci ∧ K (pc + 3) L st (xJ σ a f x)
      | _, _ => False)
    | none => False)) := rfl
theorem st_getstatic {idx : Nat} : xst w nL fld cal ks gs ro rb (.getstatic idx) len pc K Rt L st σ = (len = 3 ∧ (match gs idx with | some a => K (pc + 3) L (.ref a :: st) σ | none => False)) := rfl
theorem st_iaload  : xst w nL fld cal ks gs ro rb (.iaload) len pc K Rt L st σ = (len = 1 ∧ (match st with
    | .int i :: .ref a :: st => (match ro a with
      | some (n, g) => vp_in i n ∧ K (pc + 1) L (.int (g i.toNatClampNeg) :: st) σ
      | none => (xar w a 0 ∧ vp_in i (w.2.2.1 a)) ∧ K (pc + 1) L (.int (σ.1 a i.toNatClampNeg) :: st) σ)
    | _ => False)) := rfl
theorem st_laload  : xst w nL fld cal ks gs ro rb (.laload) len pc K Rt L st σ = (len = 1 ∧ (match st with
    | .int i :: .ref a :: st => (xar w a 1 ∧ vp_in i (w.2.2.1 a)) ∧ K (pc + 1) L (.long (σ.2 a i.toNatClampNeg) :: st) σ
    | _ => False)) := rfl
theorem st_aaload  : xst w nL fld cal ks gs ro rb (.aaload) len pc K Rt L st σ = (len = 1 ∧ (match st with
    | .int i :: .ref a :: st => ((xar w a 2 ∨ xar w a 3 ∨ xar w a 4) ∧ vp_in i (w.2.2.1 a)) ∧ K (pc + 1) L (.ref (w.2.2.2 a i.toNatClampNeg) :: st) σ
    | _ => False)) := rfl
theorem st_iastore  : xst w nL fld cal ks gs ro rb (.iastore) len pc K Rt L st σ = (len = 1 ∧ (match st with
    | .int x :: .int i :: .ref a :: st => (xar w a 0 ∧ vp_in i (w.2.2.1 a)) ∧ K (pc + 1) L st (xI σ a i.toNatClampNeg x)
    | _ => False)) := rfl
theorem st_lastore  : xst w nL fld cal ks gs ro rb (.lastore) len pc K Rt L st σ = (len = 1 ∧ (match st with
    | .long x :: .int i :: .ref a :: st => (xar w a 1 ∧ vp_in i (w.2.2.1 a)) ∧ K (pc + 1) L st (xJ σ a i.toNatClampNeg x)
    | _ => False)) := rfl
theorem st_arraylength  : xst w nL fld cal ks gs ro rb (.arraylength) len pc K Rt L st σ = (len = 1 ∧ (match st with
    | .ref a :: st => (match ro a with
      | some (n, _) => K (pc + 1) L (.int (Int32.ofNat n) :: st) σ
      | none => (xar w a 0 ∨ xar w a 1 ∨ xar w a 2 ∨ xar w a 3 ∨ xar w a 4) ∧ K (pc + 1) L (.int (Int32.ofNat (w.2.2.1 a)) :: st) σ)
    | _ => False)) := rfl
theorem st_invokevirtual {idx : Nat} : xst w nL fld cal ks gs ro rb (.invokevirtual idx) len pc K Rt L st σ = (len = 3 ∧ (match cal idx with
    | some (false, n, pre, fn) => xpop n st [] (fun as st => st.length ≤ 4 ∧ pre as σ ∧ K (pc + 3) L ((fn as σ).1.toList ++ st) (fn as σ).2)
    | _ => False)) := rfl
theorem st_invokestatic {idx : Nat} : xst w nL fld cal ks gs ro rb (.invokestatic idx) len pc K Rt L st σ = (len = 3 ∧ (match cal idx with
    | some (true, n, pre, fn) => xpop n st [] (fun as st => st.length ≤ 4 ∧ pre as σ ∧ K (pc + 3) L ((fn as σ).1.toList ++ st) (fn as σ).2)
    | _ => False)) := rfl
theorem st_ireturn  : xst w nL fld cal ks gs ro rb (.ireturn) len pc K Rt L st σ = (len = 1 ∧ (match st with | .int x :: [] => (rb = 0 ∨ rb = 1 ∧ (x = 0 ∨ x = 1)) ∧ Rt (some (.int x)) σ | _ => False)) := rfl
theorem st_lreturn  : xst w nL fld cal ks gs ro rb (.lreturn) len pc K Rt L st σ = (len = 1 ∧ (match st with | .long x :: [] => rb = 2 ∧ Rt (some (.long x)) σ | _ => False)) := rfl
theorem st_areturn  : xst w nL fld cal ks gs ro rb (.areturn) len pc K Rt L st σ = (len = 1 ∧ (match st with | .ref x :: [] => rb = 3 ∧ Rt (some (.ref x)) σ | .null :: [] => rb = 3 ∧ Rt (some .null) σ | _ => False)) := rfl
theorem st_return_  : xst w nL fld cal ks gs ro rb (.return_) len pc K Rt L st σ = (len = 1 ∧ (match st with | [] => rb = 4 ∧ Rt none σ | _ => False)) := rfl
end XSTL
section XWPL
variable {w : xD} {nL : Nat} {fld : Nat → Option (Nat × Nat × Nat)} {cal : Nat → Option xCall} {ks : Nat → Option Value} {gs : Nat → Option Nat} {ro : Nat → Option (Nat × (Nat → Int32))} {rb : Nat} {cc : ByteArray} {cut : Nat → Option (xL → List Value → xS → Prop)} {Rt : Option Value → xS → Prop} {n pc : Nat} {L : xL} {st : List Value} {σ : xS}
def xcu (o : Option (xL → List Value → xS → Prop)) (L : xL) (st : List Value) (σ : xS) (p : Prop) : Prop := match o with
  | some P => P L st σ
  | none => p
def xdd (r : Except DecodeError (Instr × Nat)) (f : Instr → Nat → Prop) : Prop := match r with
  | .ok (i, len) => f i len
  | .error _ => False
theorem xcu_n {p : Prop} : xcu none L st σ p = p := rfl
theorem xcu_s {P : xL → List Value → xS → Prop} {p : Prop} : xcu (some P) L st σ p = P L st σ := rfl
theorem xdd_o {i : Instr} {len : Nat} {f : Instr → Nat → Prop} : xdd (.ok (i, len)) f = f i len := rfl
theorem xwp_s : xwp w nL fld cal ks gs ro rb cc cut Rt (n + 1) pc L st σ = xcu (cut pc) L st σ (xdd (decode cc pc) (fun i len => xst w nL fld cal ks gs ro rb i len pc (xwp w nL fld cal ks gs ro rb cc cut Rt n) Rt L st σ)) := by
  rw [xwp]
  unfold xcu xdd
  cases cut pc with
  | some P => rfl
  | none => cases decode cc pc with
    | ok q => obtain ⟨i, len⟩ := q; rfl
    | error q => rfl
theorem xws_s : xws w nL fld cal ks gs ro rb cc cut Rt n pc L st σ = xdd (decode cc pc) (fun i len => xst w nL fld cal ks gs ro rb i len pc (xwp w nL fld cal ks gs ro rb cc cut Rt n) Rt L st σ) := by
  unfold xws xdd
  cases decode cc pc with
  | ok q => obtain ⟨i, len⟩ := q; rfl
  | error q => rfl
theorem xno_n : xno pc = none := rfl
theorem xcut1_e {h : Nat} {P : xL → List Value → xS → Prop} : xcut1 h P pc = if pc = h then some P else none := rfl
theorem xwp_0 : xwp w nL fld cal ks gs ro rb cc xno Rt (n + 1) pc L st σ = xdd (decode cc pc) (fun i len => xst w nL fld cal ks gs ro rb i len pc (xwp w nL fld cal ks gs ro rb cc xno Rt n) Rt L st σ) := by
  rw [xwp_s]
  rfl
theorem xwp_1 {h : Nat} {P : xL → List Value → xS → Prop} : xwp w nL fld cal ks gs ro rb cc (xcut1 h P) Rt (n + 1) pc L st σ = if pc = h then P L st σ else xdd (decode cc pc) (fun i len => xst w nL fld cal ks gs ro rb i len pc (xwp w nL fld cal ks gs ro rb cc (xcut1 h P) Rt n) Rt L st σ) := by
  rw [xwp_s, xcut1]
  by_cases e : pc = h
  · rw [if_pos e, if_pos e]; rfl
  · rw [if_neg e, if_neg e]; rfl
theorem xwp_m {hd : List Nat} {Inv : Nat → Nat → xL → List Value → xS → Prop} {μ : Nat} : xwp w nL fld cal ks gs ro rb cc (xcut hd Inv μ) Rt (n + 1) pc L st σ = if pc ∈ hd then (∃ μ', μ' < μ ∧ Inv pc μ' L st σ) else xdd (decode cc pc) (fun i len => xst w nL fld cal ks gs ro rb i len pc (xwp w nL fld cal ks gs ro rb cc (xcut hd Inv μ) Rt n) Rt L st σ) := by
  rw [xwp_s, xcut]
  by_cases e : pc ∈ hd
  · rw [if_pos e, if_pos e]; rfl
  · rw [if_neg e, if_neg e]; rfl
end XWPL
theorem xf4_0 : xf4 0 = 0 := rfl
theorem xf4_1 : xf4 1 = 1 := rfl
theorem xf4_2 : xf4 2 = 2 := rfl
theorem xf4_3 : xf4 3 = 3 := rfl
theorem xld_0 {v : Value} {L : xL} {P : Value → Prop} : xld (some v :: L) 0 P = P v := rfl
theorem xld_s {a : Option Value} {L : xL} {k : Nat} {P : Value → Prop} : xld (a :: L) (k + 1) P = xld L k P := by cases a <;> rfl
theorem xs1_0 {a : Option Value} {L : xL} {v : Value} : xs1 (a :: L) 0 v = some v :: L := rfl
theorem xs1_1 {a : Option Value} {L : xL} {v : Value} : xs1 (a :: L) 1 v = xlg a :: xs1 L 0 v := rfl
theorem xs1_s {a : Option Value} {L : xL} {k : Nat} {v : Value} : xs1 (a :: L) (k + 2) v = a :: xs1 L (k + 1) v := rfl
theorem xs2_0 {a b : Option Value} {L : xL} {v : Value} : xs2 (a :: b :: L) 0 v = some v :: none :: L := rfl
theorem xs2_1 {a : Option Value} {L : xL} {v : Value} : xs2 (a :: L) 1 v = xlg a :: xs2 L 0 v := by cases L <;> rfl
theorem xs2_s {a : Option Value} {L : xL} {k : Nat} {v : Value} : xs2 (a :: L) (k + 2) v = a :: xs2 L (k + 1) v := by cases L <;> rfl
theorem xlg_n : xlg none = none := rfl
theorem xlg_i {x : Int32} : xlg (some (.int x)) = some (.int x) := rfl
theorem xlg_r {x : Nat} : xlg (some (.ref x)) = some (.ref x) := rfl
theorem xlg_z : xlg (some .null) = some .null := rfl
theorem xlg_l {x : Int64} : xlg (some (.long x)) = none := rfl
theorem xpop_0 {st acc : List Value} {P : List Value → List Value → Prop} : xpop 0 st acc P = P acc st := rfl
theorem xpop_s {n : Nat} {v : Value} {st acc : List Value} {P : List Value → List Value → Prop} : xpop (n + 1) (v :: st) acc P = xpop n st (v :: acc) P := rfl
theorem xfg_0 {w : xD} {σ : xS} {K f : Nat} : xfg w σ K f 0 = .int (σ.1 K f) := rfl
theorem xfg_1 {w : xD} {σ : xS} {K f : Nat} : xfg w σ K f 1 = .int (σ.1 K f) := rfl
theorem xfg_2 {w : xD} {σ : xS} {K f : Nat} : xfg w σ K f 2 = .long (σ.2 K f) := rfl
theorem xfg_3 {w : xD} {σ : xS} {K f : Nat} : xfg w σ K f 3 = .ref (w.2.2.2 K f) := rfl
theorem xfg_4 {w : xD} {σ : xS} {K f : Nat} : xfg w σ K f 4 = .int (σ.1 K f) := rfl
theorem xcmp_eq {x y : Int32} : xcmp .eq x y = (x = y) := rfl
theorem xcmp_ne {x y : Int32} : xcmp .ne x y = (¬ x = y) := rfl
theorem xcmp_lt {x y : Int32} : xcmp .lt x y = (x < y) := rfl
theorem xcmp_ge {x y : Int32} : xcmp .ge x y = (y ≤ x) := rfl
theorem xcmp_gt {x y : Int32} : xcmp .gt x y = (y < x) := rfl
theorem xcmp_le {x y : Int32} : xcmp .le x y = (x ≤ y) := rfl
theorem xgo_e {K : xK} {pc : Nat} {off : Int} {L : xL} {st : List Value} {σ : xS} : xgo K pc off L st σ = (0 ≤ (pc : Int) + off ∧ K ((pc : Int) + off).toNat L st σ) := rfl
theorem xsw_n {K : xK} {pc : Nat} {x : Int32} {L : xL} {st : List Value} {σ : xS} {d : Prop} : xsw K pc x L st σ d [] = d := rfl
theorem xsw_c {K : xK} {pc : Nat} {x : Int32} {L : xL} {st : List Value} {σ : xS} {d : Prop} {a o : Int} {r : List (Int × Int)} : xsw K pc x L st σ d ((a, o) :: r) = ((x = Int32.ofInt a → xgo K pc o L st σ) ∧ (¬ x = Int32.ofInt a → xsw K pc x L st σ d r)) := rfl
theorem xtb_n {lo : Int} : xtb lo [] = [] := rfl
theorem xtb_c {lo o : Int} {r : List Int} : xtb lo (o :: r) = (lo, o) :: xtb (lo + 1) r := rfl
theorem xlk_n {α : Type} {i : Nat} : xlk ([] : List (Nat × α)) i = none := rfl
theorem xlk_c {α : Type} {i k : Nat} {v : α} {r : List (Nat × α)} : xlk ((k, v) :: r) i = if i = k then some v else xlk r i := rfl
theorem xen_n : xen [] = [] := rfl
theorem xen_i {x : Int32} {r : List Value} : xen (.int x :: r) = some (.int x) :: xen r := rfl
theorem xen_r {x : Nat} {r : List Value} : xen (.ref x :: r) = some (.ref x) :: xen r := rfl
theorem xen_z {r : List Value} : xen (.null :: r) = some .null :: xen r := rfl
theorem xen_l {x : Int64} {r : List Value} : xen (.long x :: r) = some (.long x) :: none :: xen r := rfl
theorem xrep_0 : xrep 0 = [] := rfl
theorem xrep_s {n : Nat} : xrep (n + 1) = none :: xrep n := rfl
theorem xenp_n {n : Nat} : xenp n [] = xrep n := rfl
theorem xenp_i {n : Nat} {x : Int32} {r : List Value} : xenp n (.int x :: r) = some (.int x) :: xenp (n - 1) r := rfl
theorem xenp_r {n : Nat} {x : Nat} {r : List Value} : xenp n (.ref x :: r) = some (.ref x) :: xenp (n - 1) r := rfl
theorem xenp_z {n : Nat} {r : List Value} : xenp n (.null :: r) = some .null :: xenp (n - 1) r := rfl
theorem xenp_l {n : Nat} {x : Int64} {r : List Value} : xenp n (.long x :: r) = some (.long x) :: none :: xenp (n - 2) r := rfl
theorem tr_and {p : Prop} : (True ∧ p) = p := by simp
theorem cat_i {x : Int32} : (Value.int x).category = 1 := rfl
theorem cat_r {x : Nat} : (Value.ref x).category = 1 := rfl

theorem xnc (n : Nat) : (Nat.cast (no_index (OfNat.ofNat n : Nat)) : Int) = OfNat.ofNat n := rfl
theorem xnt {p : Prop} : (¬¬p) = p := propext Classical.not_not
theorem xI_s {σ : xS} {K f : Nat} {v : Int32} : (xI σ K f v).1 K f = v := by simp [xI]
theorem xI_n {σ : xS} {K f a b : Nat} {v : Int32} (h : ¬ (a = K ∧ b = f)) : (xI σ K f v).1 a b = σ.1 a b := by simp only [xI, if_neg h]
theorem xI_f {σ : xS} {K f b : Nat} {v : Int32} : (xI σ K f v).1 K b = if b = f then v else σ.1 K b := by simp [xI]
theorem xI_g {σ : xS} {K f a b : Nat} {v : Int32} : (xI σ K f v).1 a b = if a = K ∧ b = f then v else σ.1 a b := rfl
theorem xI_2 {σ : xS} {K f : Nat} {v : Int32} : (xI σ K f v).2 = σ.2 := rfl
theorem xJ_s {σ : xS} {K f : Nat} {v : Int64} : (xJ σ K f v).2 K f = v := by simp [xJ]
theorem xJ_g {σ : xS} {K f a b : Nat} {v : Int64} : (xJ σ K f v).2 a b = if a = K ∧ b = f then v else σ.2 a b := rfl
theorem xJ_1 {σ : xS} {K f : Nat} {v : Int64} : (xJ σ K f v).1 = σ.1 := rfl
theorem xI_x {σ : xS} {K f : Nat} {v : Int32} (h : v = σ.1 K f) : xI σ K f v = σ := by
  refine Prod.ext ?_ rfl
  funext a b
  show (if a = K ∧ b = f then v else σ.1 a b) = σ.1 a b
  split
  · rename_i e; rw [e.1, e.2, h]
  · rfl
theorem xS_e {σ τ : xS} (h1 : ∀ a b, σ.1 a b = τ.1 a b) (h2 : ∀ a b, σ.2 a b = τ.2 a b) : σ = τ := Prod.ext (by funext a b; exact h1 a b) (by funext a b; exact h2 a b)
theorem i10 : ((1 : Int32) = 0) = False := eq_false (by decide)
theorem i01 : ((0 : Int32) = 1) = False := eq_false (by decide)
theorem i0_2 : ((2 : Int32) = 0) = False := eq_false (by decide)
theorem i0_3 : ((3 : Int32) = 0) = False := eq_false (by decide)
theorem i0_4 : ((4 : Int32) = 0) = False := eq_false (by decide)
theorem i0_6 : ((6 : Int32) = 0) = False := eq_false (by decide)
theorem i0_7 : ((7 : Int32) = 0) = False := eq_false (by decide)
theorem i0_8 : ((8 : Int32) = 0) = False := eq_false (by decide)
theorem i0_49 : ((49 : Int32) = 0) = False := eq_false (by decide)
theorem i0_10 : ((10 : Int32) = 0) = False := eq_false (by decide)
theorem ite_10 {c : Prop} [Decidable c] : ((if c then (1 : Int32) else 0) = 0) = ¬ c := by by_cases h : c <;> simp [h]
theorem xlc0 : (if (0 : Fin 2) = 0 then (0 : Int64) else 1) = 0 := rfl
theorem xlc1 : (if (1 : Fin 2) = 0 then (0 : Int64) else 1) = 1 := rfl
theorem ofI_m17 : Int32.ofInt (-17) = -17 := rfl
theorem ofI_m16 : Int32.ofInt (-16) = -16 := rfl
theorem ofI_m15 : Int32.ofInt (-15) = -15 := rfl
theorem ofI_m11 : Int32.ofInt (-11) = -11 := rfl
theorem ofI_m10 : Int32.ofInt (-10) = -10 := rfl
theorem ofI_m7 : Int32.ofInt (-7) = -7 := rfl
theorem ofI_m6 : Int32.ofInt (-6) = -6 := rfl
theorem ofI_m5 : Int32.ofInt (-5) = -5 := rfl
theorem ofI_m4 : Int32.ofInt (-4) = -4 := rfl
theorem ofI_m3 : Int32.ofInt (-3) = -3 := rfl
theorem ofI_m2 : Int32.ofInt (-2) = -2 := rfl
theorem ofI_m1 : Int32.ofInt (-1) = -1 := rfl
theorem ofI_0 : Int32.ofInt 0 = 0 := rfl
theorem ofI_1 : Int32.ofInt 1 = 1 := rfl
theorem ofI_2 : Int32.ofInt 2 = 2 := rfl
theorem ofI_3 : Int32.ofInt 3 = 3 := rfl
theorem ofI_4 : Int32.ofInt 4 = 4 := rfl
theorem ofI_5 : Int32.ofInt 5 = 5 := rfl
theorem ofI_6 : Int32.ofInt 6 = 6 := rfl
theorem ofI_7 : Int32.ofInt 7 = 7 := rfl
theorem ofI_8 : Int32.ofInt 8 = 8 := rfl
theorem ofI_9 : Int32.ofInt 9 = 9 := rfl
theorem ofI_10 : Int32.ofInt 10 = 10 := rfl
theorem ofI_11 : Int32.ofInt 11 = 11 := rfl
theorem ofI_12 : Int32.ofInt 12 = 12 := rfl
theorem ofI_13 : Int32.ofInt 13 = 13 := rfl
theorem ofI_14 : Int32.ofInt 14 = 14 := rfl
theorem ofI_15 : Int32.ofInt 15 = 15 := rfl
theorem ofI_16 : Int32.ofInt 16 = 16 := rfl
theorem ofI_17 : Int32.ofInt 17 = 17 := rfl
theorem ofI_18 : Int32.ofInt 18 = 18 := rfl
theorem ofI_19 : Int32.ofInt 19 = 19 := rfl
theorem ofI_20 : Int32.ofInt 20 = 20 := rfl
theorem ofI_21 : Int32.ofInt 21 = 21 := rfl
theorem ofI_22 : Int32.ofInt 22 = 22 := rfl
theorem ofI_23 : Int32.ofInt 23 = 23 := rfl
theorem ofI_24 : Int32.ofInt 24 = 24 := rfl
theorem ofI_25 : Int32.ofInt 25 = 25 := rfl
theorem ofI_26 : Int32.ofInt 26 = 26 := rfl
theorem ofI_27 : Int32.ofInt 27 = 27 := rfl
theorem ofI_28 : Int32.ofInt 28 = 28 := rfl
theorem ofI_29 : Int32.ofInt 29 = 29 := rfl
theorem ofI_30 : Int32.ofInt 30 = 30 := rfl
theorem ofI_31 : Int32.ofInt 31 = 31 := rfl
theorem ofI_32 : Int32.ofInt 32 = 32 := rfl
theorem ofI_40 : Int32.ofInt 40 = 40 := rfl
theorem ofI_42 : Int32.ofInt 42 = 42 := rfl
theorem ofI_48 : Int32.ofInt 48 = 48 := rfl
theorem ofI_49 : Int32.ofInt 49 = 49 := rfl
theorem ofI_50 : Int32.ofInt 50 = 50 := rfl
theorem ofI_51 : Int32.ofInt 51 = 51 := rfl
theorem ofI_57 : Int32.ofInt 57 = 57 := rfl
theorem ofI_59 : Int32.ofInt 59 = 59 := rfl
theorem ofI_60 : Int32.ofInt 60 = 60 := rfl
theorem ofI_63 : Int32.ofInt 63 = 63 := rfl
theorem ofI_64 : Int32.ofInt 64 = 64 := rfl
theorem ofI_70 : Int32.ofInt 70 = 70 := rfl
theorem ofI_71 : Int32.ofInt 71 = 71 := rfl
theorem ofI_97 : Int32.ofInt 97 = 97 := rfl
theorem ofI_98 : Int32.ofInt 98 = 98 := rfl
theorem ofI_99 : Int32.ofInt 99 = 99 := rfl
theorem ofI_100 : Int32.ofInt 100 = 100 := rfl
theorem ofI_101 : Int32.ofInt 101 = 101 := rfl
theorem ofI_102 : Int32.ofInt 102 = 102 := rfl
theorem ofI_103 : Int32.ofInt 103 = 103 := rfl
theorem ofI_105 : Int32.ofInt 105 = 105 := rfl
theorem ofI_107 : Int32.ofInt 107 = 107 := rfl
theorem ofI_108 : Int32.ofInt 108 = 108 := rfl
theorem ofI_110 : Int32.ofInt 110 = 110 := rfl
theorem ofI_111 : Int32.ofInt 111 = 111 := rfl
theorem ofI_112 : Int32.ofInt 112 = 112 := rfl
theorem ofI_114 : Int32.ofInt 114 = 114 := rfl
theorem ofI_115 : Int32.ofInt 115 = 115 := rfl
theorem ofI_116 : Int32.ofInt 116 = 116 := rfl
theorem ofI_119 : Int32.ofInt 119 = 119 := rfl
theorem ofI_127 : Int32.ofInt 127 = 127 := rfl
theorem ofI_160 : Int32.ofInt 160 = 160 := rfl
theorem ofI_196 : Int32.ofInt 196 = 196 := rfl
theorem ofI_200 : Int32.ofInt 200 = 200 := rfl
theorem ofI_255 : Int32.ofInt 255 = 255 := rfl
theorem ofI_400 : Int32.ofInt 400 = 400 := rfl
theorem ofI_401 : Int32.ofInt 401 = 401 := rfl
theorem ofI_1280 : Int32.ofInt 1280 = 1280 := rfl
theorem ofI_12345 : Int32.ofInt 12345 = 12345 := rfl

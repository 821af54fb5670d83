/-! what each instruction does in the small machine; runs of it. 'fl': whether this frame may read the script -/
def m_inv (L : ML) (k : Nat) : ML := match k with
  | 0 => L
  | k + 1 => match L[k]? with
    | some (some w) => if w.category = 2 then L.set k none else L
    | _ => L
def m_st1 (L : ML) (k : Nat) (v : Value) : ML := (m_inv L k).set k (some v)
def m_st2 (L : ML) (k : Nat) (v : Value) : ML := ((m_inv L k).set (k + 1) none).set k (some v)
def m_cmp (c : Jvm.ClassFile.Cond) (x y : Int32) : Bool := match c with
  | .eq => decide (x = y)
  | .ne => decide (¬ x = y)
  | .lt => decide (x < y)
  | .ge => decide (y ≤ x)
  | .gt => decide (y < x)
  | .le => decide (x ≤ y)
def m_out (j : Int32) (n : Nat) : Prop := j < 0 ∨ n ≤ j.toNatClampNeg
def m_ok (j : Int32) (n : Nat) : Bool := !(decide (j < 0)) && decide (j.toNatClampNeg < n)
def m_fit (tc : Nat) (v : Value) : Bool := match v with
  | .int x => tc == 0 || (tc == 1 && (decide (x = 0) || decide (x = 1)))
  | .ref _ => tc == 2
  | _ => false
def m_small (rest : List Value) : Bool := decide ((rest.map fun v => v.category).sum ≤ 8)
def o_nx (i : Nat) (L : ML) (st : List Value) (h : MH) : Option MO := some (.inl (i + 1, L, st, h))
def o_ii (f : Int32 → Int32 → Int32) (i : Nat) (L : ML) (st : List Value) (h : MH) : Option MO := match st with
  | .int y :: .int x :: r => o_nx i L (.int (f x y) :: r) h
  | _ => none
def o_id (f : Int32 → Int32 → Int32) (i : Nat) (L : ML) (st : List Value) (h : MH) : Option MO := match st with
  | .int y :: .int x :: r => if y = 0 then none else o_nx i L (.int (f x y) :: r) h
  | _ => none
def o_jj (f : Int64 → Int64 → Int64) (i : Nat) (L : ML) (st : List Value) (h : MH) : Option MO := match st with
  | .long y :: .long x :: r => o_nx i L (.long (f x y) :: r) h
  | _ => none
def o_jd (f : Int64 → Int64 → Int64) (i : Nat) (L : ML) (st : List Value) (h : MH) : Option MO := match st with
  | .long y :: .long x :: r => if y = 0 then none else o_nx i L (.long (f x y) :: r) h
  | _ => none
def o_i1 (f : Int32 → Value) (i : Nat) (L : ML) (st : List Value) (h : MH) : Option MO := match st with
  | .int x :: r => o_nx i L (f x :: r) h
  | _ => none
def o_lshl (i : Nat) (L : ML) (st : List Value) (h : MH) : Option MO := match st with
  | .int y :: .long x :: r => o_nx i L (.long (x <<< (y.toInt64 &&& 63)) :: r) h
  | _ => none
def o_lcmp (i : Nat) (L : ML) (st : List Value) (h : MH) : Option MO := match st with
  | .long y :: .long x :: r => o_nx i L (.int (lg_cmp x y) :: r) h
  | _ => none
def o_il (k i : Nat) (L : ML) (st : List Value) (h : MH) : Option MO := match L[k]? with
  | some (some (.int x)) => o_nx i L (.int x :: st) h
  | _ => none
def o_jl (k i : Nat) (L : ML) (st : List Value) (h : MH) : Option MO := match L[k]? with
  | some (some (.long x)) => o_nx i L (.long x :: st) h
  | _ => none
def o_al (k i : Nat) (L : ML) (st : List Value) (h : MH) : Option MO := match L[k]? with
  | some (some (.ref x)) => o_nx i L (.ref x :: st) h
  | some (some (.float x)) => o_nx i L (.float x :: st) h
  | _ => none
def o_is (k i : Nat) (L : ML) (st : List Value) (h : MH) : Option MO := match st with
  | .int x :: r => if k < L.length then o_nx i (m_st1 L k (.int x)) r h else none
  | _ => none
def o_js (k i : Nat) (L : ML) (st : List Value) (h : MH) : Option MO := match st with
  | .long x :: r => if k + 1 < L.length then o_nx i (m_st2 L k (.long x)) r h else none
  | _ => none
def o_as (k i : Nat) (L : ML) (st : List Value) (h : MH) : Option MO := match st with
  | .ref x :: r => if k < L.length then o_nx i (m_st1 L k (.ref x)) r h else none
  | _ => none
def o_inc (k : Nat) (n : Int) (i : Nat) (L : ML) (st : List Value) (h : MH) : Option MO := match L[k]? with
  | some (some (.int x)) => o_nx i (m_st1 L k (.int (x + Int32.ofInt n))) st h
  | _ => none
def o_dup (i : Nat) (L : ML) (st : List Value) (h : MH) : Option MO := match st with
  | v :: r => if v.category = 1 then o_nx i L (v :: v :: r) h else none
  | _ => none
def o_dup2 (i : Nat) (L : ML) (st : List Value) (h : MH) : Option MO := match st with
  | v :: w :: r => if v.category = 1 ∧ w.category = 1 then o_nx i L (v :: w :: v :: w :: r) h else none
  | _ => none
def o_pop (i : Nat) (L : ML) (st : List Value) (h : MH) : Option MO := match st with
  | v :: r => if v.category = 1 then o_nx i L r h else none
  | _ => none
def o_pop2 (i : Nat) (L : ML) (st : List Value) (h : MH) : Option MO := match st with
  | v :: r => if v.category = 2 then o_nx i L r h else none
  | _ => none
def o_if (c : Jvm.ClassFile.Cond) (t i : Nat) (L : ML) (st : List Value) (h : MH) : Option MO := match st with
  | .int x :: r => bif m_cmp c x 0 then some (.inl (t, L, r, h)) else o_nx i L r h
  | _ => none
def o_icmp (c : Jvm.ClassFile.Cond) (t i : Nat) (L : ML) (st : List Value) (h : MH) : Option MO := match st with
  | .int y :: .int x :: r => bif m_cmp c x y then some (.inl (t, L, r, h)) else o_nx i L r h
  | _ => none
def o_sw (lo hi : Int) (ops : List Int) (L : ML) (st : List Value) (h : MH) : Option MO := match st with
  | .int x :: r => if x.toInt < lo ∨ hi < x.toInt then some (.inl (m_n ops 0, L, r, h)) else some (.inl (m_n ops ((x.toInt - lo).toNat + 1), L, r, h))
  | _ => none
def o_ald (fl : Bool) (xs : List Int32) (t i : Nat) (L : ML) (st : List Value) (h : MH) : Option MO := match st with
  | .int j :: .ref a :: r => match h[a]? with
    | some (.inl (u, .inl l)) => bif u == t && m_ok j l.length then o_nx i L (.int (l.getD j.toNatClampNeg 0) :: r) h else none
    | _ => none
  | .int j :: .float _ :: r => bif fl && (0 == t && m_ok j xs.length) then o_nx i L (.int (xs.getD j.toNatClampNeg 0) :: r) h else none
  | _ => none
def o_ast (t i : Nat) (L : ML) (st : List Value) (h : MH) : Option MO := match st with
  | .int x :: .int j :: .ref a :: r => match h[a]? with
    | some (.inl (u, .inl l)) => bif u == t && (m_ok j l.length && m_fit t (.int x)) then o_nx i L r (h.set a (.inl (u, .inl (l.set j.toNatClampNeg x)))) else none
    | _ => none
  | _ => none
def m_rf (o : Option Nat) : Value := match o with
  | some q => .ref q
  | none => .null
def o_aald (i : Nat) (L : ML) (st : List Value) (h : MH) : Option MO := match st with
  | .int j :: .ref a :: r => match h[a]? with
    | some (.inl (u, .inr l)) => bif (u == 2 || (u == 3 || u == 4)) && m_ok j l.length then o_nx i L (m_rf (l.getD j.toNatClampNeg none) :: r) h else none
    | _ => none
  | _ => none
def o_aast (i : Nat) (L : ML) (st : List Value) (h : MH) : Option MO := match st with
  | .ref v :: .int j :: .ref a :: r => match h[a]?, h[v]? with
    | some (.inl (u, .inr l)), some (.inr (c, _)) => bif ((u == 2 && c == 4) || (u == 3 && c == 3)) && m_ok j l.length then o_nx i L r (h.set a (.inl (u, .inr (l.set j.toNatClampNeg (some v))))) else none
    | _, _ => none
  | _ => none
def o_len (fl : Bool) (xs : List Int32) (i : Nat) (L : ML) (st : List Value) (h : MH) : Option MO := match st with
  | .ref a :: r => match h[a]? with
    | some (.inl (0, .inl l)) => o_nx i L (.int (Int32.ofNat l.length) :: r) h
    | _ => none
  | .float _ :: r => bif fl then o_nx i L (.int (Int32.ofNat xs.length) :: r) h else none
  | _ => none
def o_newa (t i : Nat) (L : ML) (st : List Value) (h : MH) : Option MO := match st with
  | .int n :: r => bif !(decide (n < 0)) && decide (n.toNatClampNeg * 4 ≤ 536870912) then o_nx i L (.ref h.length :: r) (h ++ [.inl (t, .inl (List.replicate n.toNatClampNeg 0))]) else none
  | _ => none
def o_newq (t i : Nat) (L : ML) (st : List Value) (h : MH) : Option MO := match st with
  | .int n :: r => bif !(decide (n < 0)) && decide (n.toNatClampNeg * 4 ≤ 536870912) then o_nx i L (.ref h.length :: r) (h ++ [.inl (t, .inr (List.replicate n.toNatClampNeg none))]) else none
  | _ => none
def o_newm (i : Nat) (L : ML) (st : List Value) (h : MH) : Option MO := match st with
  | .int k :: .int n :: r => bif !(decide (n < 0)) && (!(decide (k < 0)) && (decide (n.toNatClampNeg * 4 ≤ 536870912) && decide (k.toNatClampNeg * 4 ≤ 536870912))) then
      o_nx i L (.ref h.length :: r) (h ++ .inl (4, .inr ((List.range n.toNatClampNeg).map fun j => some (h.length + 1 + j))) :: List.replicate n.toNatClampNeg (.inl (0, .inl (List.replicate k.toNatClampNeg 0)))) else none
  | _ => none
def o_new (fs : List Value) (ci i : Nat) (L : ML) (st : List Value) (h : MH) : Option MO := o_nx i L (.ref h.length :: st) (h ++ [.inr (ci, fs)])
def o_get (ci k i : Nat) (L : ML) (st : List Value) (h : MH) : Option MO := match st with
  | .ref a :: r => match h[a]? with
    | some (.inr (c, fs)) => bif c == ci then (match fs[k]? with | some v => o_nx i L (v :: r) h | none => none) else none
    | _ => none
  | _ => none
def o_put (ci k tc i : Nat) (L : ML) (st : List Value) (h : MH) : Option MO := match st with
  | v :: .ref a :: r => match h[a]? with
    | some (.inr (c, fs)) => bif c == ci && (m_fit tc v && decide (k < fs.length)) then o_nx i L r (h.set a (.inr (c, fs.set k v))) else none
    | _ => none
  | _ => none
def o_cv (y n ci : Nat) (st : List Value) (h : MH) : Option MO := match (st.take (n + 1)).reverse with
  | .ref a :: as => match h[a]? with
    | some (.inr (c, _)) => bif c == ci && (decide (as.length = n) && m_small (st.drop (n + 1))) then some (.inr (.inl (y, .ref a :: as, st.drop (n + 1)))) else none
    | _ => none
  | _ => none
def o_cs (y n : Nat) (st : List Value) : Option MO := bif decide ((st.take n).length = n) && m_small (st.drop n) then some (.inr (.inl (y, (st.take n).reverse, st.drop n))) else none
def o_ci (y n : Nat) (st : List Value) : Option MO := match (st.take (n + 1)).reverse with
  | .ref a :: as => bif decide (as.length = n) && m_small (st.drop (n + 1)) then some (.inr (.inl (y, .ref a :: as, st.drop (n + 1)))) else none
  | _ => none
def o_obj (i : Nat) (L : ML) (st : List Value) (h : MH) : Option MO := match st with
  | .ref _ :: r => bif m_small r then o_nx i L r h else none
  | _ => none
def m_cpy (f g : List Int32) (sp dp n : Nat) : List Int32 := g.take dp ++ ((f.drop sp).take n ++ g.drop (dp + n))
def o_cpy (i : Nat) (L : ML) (st : List Value) (h : MH) : Option MO := match st with
  | .int n :: .int dp :: .ref a1 :: .int sp :: .ref a0 :: r => match h[a0]?, h[a1]? with
    | some (.inl (0, .inl f)), some (.inl (0, .inl g)) => bif (!(decide (sp < 0)) && (!(decide (dp < 0)) && !(decide (n < 0)))) && (decide (sp.toNatClampNeg + n.toNatClampNeg ≤ f.length) && (decide (dp.toNatClampNeg + n.toNatClampNeg ≤ g.length) && m_small r)) then
        o_nx i L r (h.set a1 (.inl (0, .inl (m_cpy f g sp.toNatClampNeg dp.toNatClampNeg n.toNatClampNeg)))) else none
    | _, _ => none
  | _ => none
def o_mm (f : Int32 → Int32 → Int32) (i : Nat) (L : ML) (st : List Value) (h : MH) : Option MO := match st with
  | .int y :: .int x :: r => bif m_small r then o_nx i L (.int (f x y) :: r) h else none
  | _ => none
def o_ma (i : Nat) (L : ML) (st : List Value) (h : MH) : Option MO := match st with
  | .int x :: r => bif m_small r then o_nx i L (.int (if 0 ≤ x then x else 0 - x) :: r) h else none
  | _ => none
def o_ret (z : Nat) (st : List Value) : Option MO := match st with
  | [.int v] => bif m_fit z (.int v) then some (.inr (.inr (some (.int v)))) else none
  | _ => none
def o_lret (st : List Value) : Option MO := match st with
  | [.long v] => some (.inr (.inr (some (.long v))))
  | _ => none
def o_aret (st : List Value) : Option MO := match st with
  | [.ref v] => some (.inr (.inr (some (.ref v))))
  | _ => none
def o_vret (st : List Value) : Option MO := match st with
  | [] => some (.inr (.inr none))
  | _ => none
/-- the fields of a new object -/
def m_dfl : List (List Value) := [[.int 0, .null, .null, .null, .null, .int 0, .int 0], [.null, .null, .null, .int 0], [.null, .null, .int 0], [.null, .int 0, .int 0, .int 0], [.null, .int 0], [.null, .null, .null, .null, .null, .null, .null, .null, .int 0, .null, .null, .null, .null, .null], [.null, .null, .null, .null, .int 0, .null, .null, .null, .null, .null, .null, .null, .int 0, .int 0], [.null, .null, .int 0, .null, .null, .int 0, .null, .int 0, .null, .int 0, .int 0, .int 0, .null, .null, .null, .null, .null, .int 0, .null, .int 0, .int 0, .int 0, .int 0, .int 0, .int 0, .int 0, .int 0, .int 0, .null, .null, .null, .null, .null, .null, .null, .null, .null, .int 0, .null, .null, .null, .null, .null, .null, .null, .null, .int 0]]
def mexec (fl : Bool) (xs : List Int32) (ins : Instr) (ops : List Int) (i : Nat) (L : ML) (st : List Value) (h : MH) : Option MO := match ins with
  | .iconst n => o_nx i L (.int (Int32.ofInt n) :: st) h
  | .bipush n => o_nx i L (.int (Int8.ofInt n).toInt32 :: st) h
  | .sipush n => o_nx i L (.int (Int16.ofInt n).toInt32 :: st) h
  | .ldc _ => o_nx i L (.int (Int32.ofInt (ops.getD 0 0)) :: st) h
  | .ldc_w _ => o_nx i L (.int (Int32.ofInt (ops.getD 0 0)) :: st) h
  | .ldc2_w _ => o_nx i L (.long (Int64.ofInt (ops.getD 0 0)) :: st) h
  | .lconst n => o_nx i L (.long (Int64.ofNat n) :: st) h
  | .iload k => o_il k i L st h
  | .iload_n k => o_il k i L st h
  | .lload k => o_jl k i L st h
  | .lload_n k => o_jl k i L st h
  | .aload k => o_al k i L st h
  | .aload_n k => o_al k i L st h
  | .istore k => o_is k i L st h
  | .istore_n k => o_is k i L st h
  | .lstore k => o_js k i L st h
  | .lstore_n k => o_js k i L st h
  | .astore k => o_as k i L st h
  | .astore_n k => o_as k i L st h
  | .iinc k n => o_inc k n i L st h
  | .dup => o_dup i L st h
  | .dup2 => o_dup2 i L st h
  | .pop => o_pop i L st h
  | .pop2 => o_pop2 i L st h
  | .iadd => o_ii (fun x y => x + y) i L st h
  | .isub => o_ii (fun x y => x - y) i L st h
  | .imul => o_ii (fun x y => x * y) i L st h
  | .iand => o_ii (fun x y => x &&& y) i L st h
  | .ior => o_ii (fun x y => x ||| y) i L st h
  | .ixor => o_ii (fun x y => x ^^^ y) i L st h
  | .ishl => o_ii (fun x y => x <<< (y &&& 31)) i L st h
  | .ishr => o_ii (fun x y => x >>> (y &&& 31)) i L st h
  | .iushr => o_ii (fun x y => (x.toUInt32 >>> (y.toUInt32 &&& Int32.toUInt32 31)).toInt32) i L st h
  | .idiv => o_id (fun x y => x / y) i L st h
  | .irem => o_id (fun x y => x - x / y * y) i L st h
  | .ineg => o_i1 (fun x => .int (-x)) i L st h
  | .ladd => o_jj (fun x y => x + y) i L st h
  | .lsub => o_jj (fun x y => x - y) i L st h
  | .lmul => o_jj (fun x y => x * y) i L st h
  | .ldiv => o_jd (fun x y => x / y) i L st h
  | .lrem => o_jd (fun x y => x - x / y * y) i L st h
  | .lshl => o_lshl i L st h
  | .lcmp => o_lcmp i L st h
  | .i2l => o_i1 (fun x => .long x.toInt64) i L st h
  | .i2b => o_i1 (fun x => .int x.toInt8.toInt32) i L st h
  | .i2s => o_i1 (fun x => .int x.toInt16.toInt32) i L st h
  | .ifCond c _ => o_if c (m_n ops 0) i L st h
  | .if_icmp c _ => o_icmp c (m_n ops 0) i L st h
  | .goto _ => some (.inl (m_n ops 0, L, st, h))
  | .tableswitch _ lo hi _ => o_sw lo hi ops L st h
  | .iaload => o_ald fl xs 0 i L st h
  | .baload => o_ald fl xs 1 i L st h
  | .iastore => o_ast 0 i L st h
  | .bastore => o_ast 1 i L st h
  | .aaload => o_aald i L st h
  | .aastore => o_aast i L st h
  | .arraylength => o_len fl xs i L st h
  | .newarray t => (match t with | .int => o_newa 0 i L st h | .boolean => o_newa 1 i L st h | _ => none)
  | .anewarray _ => o_newq (m_n ops 0) i L st h
  | .multianewarray _ _ => o_newm i L st h
  | .new _ => o_new (m_dfl.getD (m_n ops 0) []) (m_n ops 0) i L st h
  | .getfield _ => o_get (m_n ops 0) (m_n ops 1) i L st h
  | .putfield _ => o_put (m_n ops 0) (m_n ops 1) (m_n ops 3) i L st h
  | .invokevirtual _ => o_cv (m_n ops 0) (m_n ops 1) (m_n ops 2) st h
  | .invokestatic _ => (match m_n ops 0 with | 2 => o_cpy i L st h | 3 => o_mm (fun x y => if x < y then y else x) i L st h | 4 => o_mm (fun x y => if y < x then y else x) i L st h | 5 => o_ma i L st h | _ => o_cs (m_n ops 1) (m_n ops 2) st)
  | .invokespecial _ => if m_n ops 0 = 2 then o_obj i L st h else o_ci (m_n ops 1) (m_n ops 2) st
  | .ireturn => o_ret (m_n ops 0) st
  | .lreturn => o_lret st
  | .areturn => o_aret st
  | .return_ => o_vret st
  | _ => none
def mstep (fl : Bool) (xs : List Int32) (M : MM) (i : Nat) (L : ML) (st : List Value) (h : MH) : Option MO := match (mc M)[i]? with
  | some (_, ins, _, ops) => mexec fl xs ins ops i L st h
  | none => none
def entL : List Value → ML
  | [] => []
  | v :: vs => if v.category = 2 then some v :: none :: entL vs else some v :: entL vs
def m_ent (n : Nat) (as : List Value) : ML := entL as ++ List.replicate (n - (entL as).length) none
/-- one step of a run: 'ih' runs with a step less, 'tab' are the methods; who is called can't read the script -/
def mbody (tab : List MM) (xs : List Int32) (ih : Bool → MM → Nat → ML → List Value → MH → Option (Option Value × MH)) (fl : Bool) (M : MM) (i : Nat) (L : ML) (st : List Value) (h : MH) : Option (Option Value × MH) := match mstep fl xs M i L st h with
  | none => none
  | some (.inl (i1, L1, st1, h1)) => ih fl M i1 L1 st1 h1
  | some (.inr (.inl (y, as, rest))) => match tab[y]? with
    | none => none
    | some M1 => bif Nat.ble (entL as).length (mx M1) then (match ih false M1 0 (m_ent (mx M1) as) [] h with
      | none => none
      | some (r, h1) => ih fl M (i + 1) L (r.toList ++ rest) h1) else none
  | some (.inr (.inr r)) => some (r, h)
noncomputable def mrun (tab : List MM) (xs : List Int32) (n : Nat) : Bool → MM → Nat → ML → List Value → MH → Option (Option Value × MH) := Nat.rec (fun _ _ _ _ _ _ => none) (fun _ ih => mbody tab xs ih) n
theorem mrun_0 (tab : List MM) (xs : List Int32) (fl : Bool) (M : MM) (i : Nat) (L : ML) (st : List Value) (h : MH) : mrun tab xs 0 fl M i L st h = none := rfl
theorem mrun_s (tab : List MM) (xs : List Int32) (n : Nat) (fl : Bool) (M : MM) (i : Nat) (L : ML) (st : List Value) (h : MH) : mrun tab xs (n + 1) fl M i L st h = mbody tab xs (mrun tab xs n) fl M i L st h := rfl

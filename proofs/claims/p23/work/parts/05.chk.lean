/-! what the tables say of each row, as a test -/
def m_nest : List (String × Nat × MethodName × String) := [("RowingEight", 17, ⟨"RowingEight$Events", "<init>", "()V"⟩, "RowingEight"), ("RowingEight", 24, ⟨"RowingEight$Seen", "<init>", "()V"⟩, "RowingEight"), ("RowingEight", 48, ⟨"RowingEight$Trip", "<init>", "()V"⟩, "RowingEight"), ("RowingEight", 81, ⟨"RowingEight$Sheet", "<init>", "()V"⟩, "RowingEight"), ("RowingEight$Sheet", 32, ⟨"RowingEight", "isBelow", "(II)Z"⟩, "RowingEight")]
def st8 {α : Type} (l : List α) : List α := match l with
  | _ :: _ :: _ :: _ :: _ :: _ :: _ :: _ :: t => t
  | _ => []
def dr8 {α : Type} (n : Nat) (l : List α) : List α := Nat.rec l (fun _ r => st8 r) n
def flk {α : Type} (k : Nat) (l : List α) : Option α := (dr8 (k / 8) l)[k % 8]?
theorem st8_in {α : Type} {x : α} {l : List α} (h : x ∈ st8 l) : x ∈ l := by
  unfold st8 at h
  split at h
  · exact List.mem_cons_of_mem _ (List.mem_cons_of_mem _ (List.mem_cons_of_mem _ (List.mem_cons_of_mem _ (List.mem_cons_of_mem _ (List.mem_cons_of_mem _ (List.mem_cons_of_mem _ (List.mem_cons_of_mem _ h)))))))
  · cases h
theorem dr8_in {α : Type} {x : α} {l : List α} : ∀ n, x ∈ dr8 n l → x ∈ l
  | 0, h => h
  | n + 1, h => dr8_in n (st8_in h)
theorem flk_in {α : Type} {x : α} {k : Nat} {l : List α} (h : flk k l = some x) : x ∈ l := dr8_in _ (List.mem_of_getElem? h)
def c_nx (M : MM) (i pc len : Nat) : Bool := match (mc M)[i + 1]? with
  | some r => decide (r.1 = pc + len)
  | none => false
def c_to (M : MM) (t pc : Nat) (off : Int) : Bool := match (mc M)[t]? with
  | some r => decide ((pc : Int) + off = (r.1 : Int))
  | none => false
def c_w (k : Nat) (w : Jvm.Cond) : Bool := match flk k lw_tbl with
  | some v => decide (v = w)
  | none => false
def c_fld (own : String) (idx ci k place : Nat) : Bool := match vwCl[ci]? with
  | some q => decide (k < q.2.2) && c_w place (.fieldLink own idx (q.2.1 k).1 (q.2.1 k).2.1 (q.2.1 k).2.2.1)
  | none => false
def m_rty (ty : FieldType) : Bool := match ty with
  | .object _ => true
  | .array _ => true
  | _ => false
def c_ty (tc : Nat) (o : Option FieldType) : Bool := match o with
  | some ty => (decide (tc = 0) && decide (ty = .int)) || ((decide (tc = 1) && decide (ty = .boolean)) || (decide (tc = 2) && m_rty ty))
  | none => false
def c_fin (M : MM) (ci k : Nat) : Bool := match vwCl[ci]? with
  | some q => bif (q.2.1 k).2.2.2 then decide ((mn M).name = "<init>") && decide ((q.2.1 k).1 = (mn M).cls) else true
  | none => false
def c_dsc (ci k : Nat) : Option FieldType := match vwCl[ci]? with
  | some q => parseFieldDescriptor (q.2.1 k).2.2.1
  | none => none
def c_call (M M1 : MM) (n : Nat) : Bool := (decide ((mn M1).cls ≠ "java/lang/invoke/MethodHandle") && decide ((mn M1).cls ≠ "java/lang/invoke/VarHandle")) && (decide ((parseMethodDescriptor (mn M1).desc).map (fun d => d.parameters.length) = some n) && (decide (mf M1 + 1 ≤ mf M) && decide (8 + (mx M1 + 11) + mw M1 ≤ mw M)))
def c_nst (j : Nat) (own : String) (idx : Nat) (y : MethodName) : Bool := match m_nest[j]? with
  | some q => decide (q.1 = own) && (decide (q.2.1 = idx) && decide (q.2.2.1 = y))
  | none => false
def c_cls (ci : Nat) (C : String) : Bool := match vwCl[ci]? with
  | some q => decide (q.1 = C)
  | none => false
def c_new (ci p2 : Nat) : Bool := match vwCl[ci]? with
  | some q => c_w p2 (.instantiable q.1 q.2.2)
  | none => false
def c_clk (own : String) (idx ci p1 p3 : Nat) : Bool := match vwCl[ci]? with
  | some q => c_w p1 (.classLink own idx q.1) && c_w p3 (.initialized q.1)
  | none => false
def m_qn (t : Nat) : String := if t = 2 then "RowingEight$Text" else "RowingEight$Sheet"
def c_math (M : MM) (idx : Nat) (ops : List Int) (y : MethodName) (cd : ByteArray) (n : Nat) : Bool := c_w (m_n ops 1) (.methodLink (mn M).cls idx y) && (c_w (m_n ops 2) (.static y) && (c_w (m_n ops 3) (.initialized "java/lang/Math") && (c_w (m_n ops 4) (.code y cd n (some .int)) && (decide (1 ≤ mf M) && decide (21 ≤ mw M)))))
/-- how long an instruction is (0: as its row says) -/
def m_len (ins : Instr) : Nat := match ins with
  | .bipush _ => 2
  | .sipush _ => 3
  | .ldc _ => 2
  | .ldc_w _ => 3
  | .ldc2_w _ => 3
  | .iload _ => 2
  | .lload _ => 2
  | .aload _ => 2
  | .istore _ => 2
  | .lstore _ => 2
  | .astore _ => 2
  | .iinc _ _ => 3
  | .ifCond _ _ => 3
  | .if_icmp _ _ => 3
  | .goto _ => 3
  | .tableswitch _ _ _ _ => 0
  | .newarray _ => 2
  | .anewarray _ => 3
  | .multianewarray _ _ => 4
  | .new _ => 3
  | .getfield _ => 3
  | .putfield _ => 3
  | .invokevirtual _ => 3
  | .invokestatic _ => 3
  | .invokespecial _ => 3
  | _ => 1
def m_chk (tab : List MM) (M : MM) (i : Nat) (row : MR) : Bool := decide (decode (mb M) row.1 = .ok (row.2.1, row.2.2.1)) && ((decide (m_len row.2.1 = 0) || decide (row.2.2.1 = m_len row.2.1)) && (match row.2.1 with
  | .ifCond _ off => c_nx M i row.1 row.2.2.1 && c_to M (m_n row.2.2.2 0) row.1 off
  | .if_icmp _ off => c_nx M i row.1 row.2.2.1 && c_to M (m_n row.2.2.2 0) row.1 off
  | .goto off => c_to M (m_n row.2.2.2 0) row.1 off
  | .tableswitch d lo hi offs => c_to M (m_n row.2.2.2 0) row.1 d && ((List.range offs.size).all (fun k => c_to M (m_n row.2.2.2 (k + 1)) row.1 (offs.getD k 0)) && decide ((offs.size : Int) = hi - lo + 1))
  | .ldc idx => c_nx M i row.1 row.2.2.1 && c_w (m_n row.2.2.2 1) (.constant (mn M).cls idx (Int32.ofInt (row.2.2.2.getD 0 0)))
  | .ldc_w idx => c_nx M i row.1 row.2.2.1 && c_w (m_n row.2.2.2 1) (.constant (mn M).cls idx (Int32.ofInt (row.2.2.2.getD 0 0)))
  | .ldc2_w idx => c_nx M i row.1 row.2.2.1 && c_w (m_n row.2.2.2 1) (.constantLong (mn M).cls idx (Int64.ofInt (row.2.2.2.getD 0 0)))
  | .getfield idx => c_nx M i row.1 row.2.2.1 && c_fld (mn M).cls idx (m_n row.2.2.2 0) (m_n row.2.2.2 1) (m_n row.2.2.2 2)
  | .putfield idx => c_nx M i row.1 row.2.2.1 && (c_fld (mn M).cls idx (m_n row.2.2.2 0) (m_n row.2.2.2 1) (m_n row.2.2.2 2) && (c_ty (m_n row.2.2.2 3) (c_dsc (m_n row.2.2.2 0) (m_n row.2.2.2 1)) && c_fin M (m_n row.2.2.2 0) (m_n row.2.2.2 1)))
  | .new idx => c_nx M i row.1 row.2.2.1 && (c_clk (mn M).cls idx (m_n row.2.2.2 0) (m_n row.2.2.2 1) (m_n row.2.2.2 3) && c_new (m_n row.2.2.2 0) (m_n row.2.2.2 2))
  | .anewarray idx => c_nx M i row.1 row.2.2.1 && (c_w (m_n row.2.2.2 1) (.classLink (mn M).cls idx (m_qn (m_n row.2.2.2 0))) && (decide (m_n row.2.2.2 0 = 2) || decide (m_n row.2.2.2 0 = 3)))
  | .multianewarray idx d => c_nx M i row.1 row.2.2.1 && (c_w (m_n row.2.2.2 0) (.classLink (mn M).cls idx "[[I") && decide (d = 2))
  | .invokevirtual idx => c_nx M i row.1 row.2.2.1 && (match tab[m_n row.2.2.2 0]? with
    | some M1 => (c_call M M1 (m_n row.2.2.2 1) && c_cls (m_n row.2.2.2 2) (mn M1).cls) && (c_w (m_n row.2.2.2 3) (.methodLink (mn M).cls idx (mn M1)) && (c_w (m_n row.2.2.2 4) (.instanceMethod (mn M1)) && (c_w (m_n row.2.2.2 5) (.selects (mn M1).cls (mn M1) (mn M1)) && c_w (m_n row.2.2.2 6) (.initialized (mn M1).cls))))
    | none => false)
  | .invokestatic idx => c_nx M i row.1 row.2.2.1 && (match m_n row.2.2.2 0 with
    | 2 => c_w (m_n row.2.2.2 1) (.methodLink (mn M).cls idx arraycopyName) && (c_w (m_n row.2.2.2 2) (.native arraycopyName) && (c_w (m_n row.2.2.2 3) (.static arraycopyName) && (c_w (m_n row.2.2.2 4) (.initialized "java/lang/System") && (decide (1 ≤ mf M) && decide (8 + (nativeFrameWords "java/lang/System" "arraycopy" 5 + 11) ≤ mw M)))))
    | 3 => c_math M idx row.2.2.2 Lib.Math.max.name Lib.Math.max.code 2
    | 4 => c_math M idx row.2.2.2 Lib.Math.min.name Lib.Math.min.code 2
    | 5 => c_math M idx row.2.2.2 Lib.Math.abs.name Lib.Math.abs.code 1
    | 0 => (match tab[m_n row.2.2.2 1]? with
      | some M1 => c_call M M1 (m_n row.2.2.2 2) && (c_w (m_n row.2.2.2 4) (.static (mn M1)) && (c_w (m_n row.2.2.2 5) (.initialized (mn M1).cls) && c_w (m_n row.2.2.2 3) (.methodLink (mn M).cls idx (mn M1))))
      | none => false)
    | 1 => (match tab[m_n row.2.2.2 1]? with
      | some M1 => c_call M M1 (m_n row.2.2.2 2) && (c_w (m_n row.2.2.2 4) (.static (mn M1)) && (c_w (m_n row.2.2.2 5) (.initialized (mn M1).cls) && c_nst (m_n row.2.2.2 3) (mn M).cls idx (mn M1)))
      | none => false)
    | _ => false)
  | .invokespecial idx => c_nx M i row.1 row.2.2.1 && (match m_n row.2.2.2 0 with
    | 2 => c_w (m_n row.2.2.2 1) (.methodLink (mn M).cls idx objectInit) && (c_w (m_n row.2.2.2 2) (.instanceMethod objectInit) && (c_w (m_n row.2.2.2 3) (.code objectInit ⟨#[0xb1]⟩ 1 none) && (decide (1 ≤ mf M) && decide (20 ≤ mw M))))
    | 0 => (match tab[m_n row.2.2.2 1]? with
      | some M1 => (c_call M M1 (m_n row.2.2.2 2) && (decide ((mn M1).name = "<init>") && decide (mt M1 = none))) && (c_w (m_n row.2.2.2 4) (.instanceMethod (mn M1)) && (c_w (m_n row.2.2.2 5) (.initialized (mn M1).cls) && c_w (m_n row.2.2.2 3) (.methodLink (mn M).cls idx (mn M1))))
      | none => false)
    | 1 => (match tab[m_n row.2.2.2 1]? with
      | some M1 => (c_call M M1 (m_n row.2.2.2 2) && (decide ((mn M1).name = "<init>") && decide (mt M1 = none))) && (c_w (m_n row.2.2.2 4) (.instanceMethod (mn M1)) && (c_w (m_n row.2.2.2 5) (.initialized (mn M1).cls) && c_nst (m_n row.2.2.2 3) (mn M).cls idx (mn M1)))
      | none => false)
    | _ => false)
  | .ireturn => bif decide (m_n row.2.2.2 0 = 1) then decide (mt M = some .boolean) else decide (mt M = some .int) && decide (m_n row.2.2.2 0 = 0)
  | .lreturn => decide (mt M = some .long)
  | .areturn => (match mt M with | some ty => m_rty ty | none => false)
  | .return_ => decide (mt M = none)
  | _ => c_nx M i row.1 row.2.2.1))
def c_0 (M : MM) : Bool := match (mc M)[0]? with
  | some r => decide (r.1 = 0)
  | none => false
def c_all (tab : List MM) (M : MM) : Bool := (mc M).zipIdx.all (fun q => m_chk tab M q.2 q.1) && (decide (plainName (mn M).cls = true) && c_0 M)
def c_sg (tab : List MM) (M : MM) (k n : Nat) : Bool := ((((mc M).drop k).take n).zipIdx k).all (fun q => m_chk tab M q.2 q.1)

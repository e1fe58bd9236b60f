/-! what the tables say of the code, checked by program -/
def ab_fd (ci k : Nat) : String × String × String × Bool := match ci with
  | 0 => TX0 k
  | 1 => TX1 k
  | 2 => TX2 k
  | 3 => TX3 k
  | 4 => TX4 k
  | 5 => TX5 k
  | 6 => TX6 k
  | 7 => TX7 k
  | 8 => TX8 k
  | 9 => TX9 k
  | 10 => TX10 k
  | 11 => TX11 k
  | _ => match k with
    | 0 => ("java/lang/String", "value", "[B", true)
    | _ => ("java/lang/String", "coder", "B", true)
def ab_ty (ci k : Nat) : FieldType := match ci with
  | 0 => tyX0 k
  | 1 => tyX1 k
  | 2 => tyX2 k
  | 3 => tyX3 k
  | 4 => tyX4 k
  | 5 => tyX5 k
  | 6 => tyX6 k
  | 7 => tyX7 k
  | 8 => tyX8 k
  | 9 => tyX9 k
  | 10 => tyX10 k
  | 11 => tyX11 k
  | _ => match k with
    | 0 => .array .byte
    | _ => .byte
def ab_nf (ci : Nat) : Nat := match ci with
  | 0 => 4
  | 1 => 4
  | 2 => 6
  | 3 => 5
  | 4 => 9
  | 5 => 1
  | 6 => 2
  | 7 => 16
  | 8 => 5
  | 9 => 3
  | 10 => 9
  | 11 => 66
  | _ => 2
def ab_cnm (ci : Nat) : String := match ci with
  | 0 => RX0
  | 1 => RX1
  | 2 => RX2
  | 3 => RX3
  | 4 => RX4
  | 5 => RX5
  | 6 => RX6
  | 7 => RX7
  | 8 => RX8
  | 9 => RX9
  | 10 => RX10
  | 11 => RX11
  | _ => "java/lang/String"
abbrev ab_cls : List vw_C := [(RX0, TX0, 4), (RX1, TX1, 4), (RX2, TX2, 6), (RX3, TX3, 5), (RX4, TX4, 9), (RX5, TX5, 1), (RX6, TX6, 2), (RX7, TX7, 16), (RX8, TX8, 5), (RX9, TX9, 3), (RX10, TX10, 9), (RX11, TX11, 66)]

def ab_at (z : Nat) (w : Cond) : Bool := decide (lw_tbl[z]? = some w) && goodWord w
def ab_atN (z : Nat) (w : Cond) : Bool := decide (lw_tbl[z]? = some w)
def ab_isR : FieldType → Bool
  | .object _ => true
  | .array _ => true
  | _ => false
def ab_len : Instr → Nat
  | .iload _ => 2
  | .lload _ => 2
  | .aload _ => 2
  | .istore _ => 2
  | .lstore _ => 2
  | .astore _ => 2
  | .bipush _ => 2
  | .ldc _ => 2
  | .newarray _ => 2
  | .iinc _ _ => 3
  | .sipush _ => 3
  | .ldc_w _ => 3
  | .ldc2_w _ => 3
  | .getstatic _ => 3
  | .getfield _ => 3
  | .putfield _ => 3
  | .new _ => 3
  | .ifCond _ _ => 3
  | .if_icmp _ _ => 3
  | .goto _ => 3
  | .invokestatic _ => 3
  | .invokevirtual _ => 3
  | .invokespecial _ => 3
  | _ => 1
def ab_pn (y : MethodName) (n : Nat) : Bool := decide ((parseMethodDescriptor y.desc).map (fun d => d.parameters.length) = some n)
/-- a row of a code table is what the bytes and the tables say -/
def ab_ce (M : ab_M) (q : ab_I) : Bool := match q with
  | (pc, ins, len, x, y, ts) => decide (decode (ab_mb M) pc = .ok (ins, len)) && (match ins with
    | .tableswitch dflt lo hi offs => decide ((pc : Int) + dflt = (x : Int)) && decide (offs.toList.map (fun o => (pc : Int) + o) = ts.map Int.ofNat) && decide (hi + 1 = lo + (ts.length : Int))
    | _ => Nat.beq len (ab_len ins)) && (match ins with
    | .ldc k => match ts with
      | [z] => ab_at z (.constant (ab_my M).cls k (Int32.ofNat x))
      | [z, _] => (decide (x = 1000001) && decide (k = 25) && decide ((ab_my M).cls = RX8)) || (decide (x = 1000002) && decide (k = 88) && decide ((ab_my M).cls = RX8))
      | _ => false
    | .ldc_w k => match ts with
      | z :: _ => ab_at z (.constant (ab_my M).cls k (Int32.ofNat x))
      | _ => false
    | .ldc2_w k => match ts with
      | z :: _ => ab_at z (.constantLong (ab_my M).cls k (Int64.ofNat x))
      | _ => false
    | .getstatic k => match ts with
      | [z] => ab_at z (.fieldLink (ab_my M).cls k "java/lang/String" "COMPACT_STRINGS" "Z")
      | z :: _ => ab_at z (.fieldLink (ab_my M).cls k "jdk/internal/util/Preconditions" "SIOOBE_FORMATTER" "Ljava/util/function/BiFunction;")
      | _ => false
    | .getfield k => match ts with
      | [z] => ab_at z (.fieldLink (ab_my M).cls k (ab_fd x y).1 (ab_fd x y).2.1 (ab_fd x y).2.2.1) && (decide (x < 12) || decide (x = 90)) && decide (y < ab_nf x) && !ab_isR (ab_ty x y)
      | z :: _ => ab_at z (.fieldLink (ab_my M).cls k (ab_fd x y).1 (ab_fd x y).2.1 (ab_fd x y).2.2.1) && (decide (x < 12) || decide (x = 90)) && decide (y < ab_nf x) && ab_isR (ab_ty x y)
      | _ => false
    | .putfield k => match ts with
      | [z] => ab_at z (.fieldLink (ab_my M).cls k (ab_fd x y).1 (ab_fd x y).2.1 (ab_fd x y).2.2.1) && decide (x < 12) && decide (y < ab_nf x) && decide (ab_ty x y = .int) && (!(ab_fd x y).2.2.2 || (decide ((ab_my M).name = "<init>") && decide ((ab_fd x y).1 = (ab_my M).cls)))
      | [z, _] => ab_at z (.fieldLink (ab_my M).cls k (ab_fd x y).1 (ab_fd x y).2.1 (ab_fd x y).2.2.1) && decide (x < 12) && decide (y < ab_nf x) && decide (ab_ty x y = .boolean) && (!(ab_fd x y).2.2.2 || (decide ((ab_my M).name = "<init>") && decide ((ab_fd x y).1 = (ab_my M).cls)))
      | z :: _ => ab_at z (.fieldLink (ab_my M).cls k (ab_fd x y).1 (ab_fd x y).2.1 (ab_fd x y).2.2.1) && decide (x < 12) && decide (y < ab_nf x) && ab_isR (ab_ty x y) && (!(ab_fd x y).2.2.2 || (decide ((ab_my M).name = "<init>") && decide ((ab_fd x y).1 = (ab_my M).cls)))
      | _ => false
    | .new k => match ts with
      | z :: _ => ab_at z (.classLink (ab_my M).cls k (ab_cnm x)) && decide (x < 12) && decide (y = ab_nf x)
      | _ => false
    | .ifCond _ off => decide ((pc : Int) + off = (x : Int))
    | .if_icmp _ off => decide ((pc : Int) + off = (x : Int))
    | .goto off => decide ((pc : Int) + off = (x : Int))
    | .newarray a => match a with
      | .int => true
      | .byte => true
      | .boolean => true
      | .long => true
      | _ => false
    | .invokestatic k => match ts, ab_MT[x]? with
      | [z, n], some M2 => ab_at z (.methodLink (ab_my M).cls k (ab_my M2)) && ab_pn (ab_my M2) n && Nat.beq (ab_mk M2) 0
      | z :: n :: _, some M2 => ab_atN z (.methodLinkNest (ab_my M).cls k (ab_my M2) "SaintTheft") && ab_pn (ab_my M2) n && Nat.beq (ab_mk M2) 0
      | _, _ => false
    | .invokevirtual k => match ts, ab_MT[x]? with
      | [z, n], some M2 => ab_at z (.methodLink (ab_my M).cls k (ab_my M2)) && ab_pn (ab_my M2) n && Nat.beq (ab_mk M2) 1 && decide (ab_cnm y = (ab_my M2).cls) && (decide (y < 12) || decide (y = 90))
      | _, _ => false
    | .invokespecial k => match ts, ab_MT[x]? with
      | [z], _ => ab_at z (.methodLink (ab_my M).cls k objectInit)
      | [z, n], some M2 => ab_at z (.methodLink (ab_my M).cls k (ab_my M2)) && ab_pn (ab_my M2) n && Nat.beq (ab_mk M2) 2
      | z :: n :: _, some M2 => ab_atN z (.methodLinkNest (ab_my M).cls k (ab_my M2) "SaintTheft") && ab_pn (ab_my M2) n && Nat.beq (ab_mk M2) 2
      | _, _ => false
    | _ => true)
/-- a method's own words stand in the tables -/
def ab_cm (M : ab_M) (z : Nat × Nat × Nat × Nat) : Bool := ab_at z.1 (.code (ab_my M) (ab_mb M) (ab_ml M) (ab_mr M)) && ab_at z.2.2.2 (.initialized (ab_my M).cls) && decide (ab_ml M ≤ 40) && plainName (ab_my M).cls && decide ((ab_my M).cls ≠ "java/lang/invoke/MethodHandle") && decide ((ab_my M).cls ≠ "java/lang/invoke/VarHandle") && (match ab_mk M with
  | 0 => ab_at z.2.1 (.static (ab_my M))
  | 1 => ab_at z.2.1 (.instanceMethod (ab_my M)) && ab_at z.2.2.1 (.selects (ab_my M).cls (ab_my M) (ab_my M))
  | 2 => ab_at z.2.1 (.instanceMethod (ab_my M)) && decide ((ab_my M).name = "<init>") && decide (ab_mr M = none)
  | _ => false) && (ab_mo M).all (ab_ce M)
/-- for each method of a list -/
def ab_okM (M : ab_M) : Prop := ∃ z, ab_cm M z = true
theorem ab_ok0 : ∀ M ∈ ([] : List ab_M), ab_okM M := fun _ h => by cases h
theorem ab_okc {M : ab_M} {z : Nat × Nat × Nat × Nat} {l : List ab_M} (h : ab_cm M z = true) (hl : ∀ M ∈ l, ab_okM M) : ∀ N ∈ M :: l, ab_okM N := List.forall_mem_cons.mpr ⟨⟨z, h⟩, hl⟩

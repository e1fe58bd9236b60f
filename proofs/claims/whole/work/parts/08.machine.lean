/-! the steps of that machine, and its runs -/
abbrev ab_Lo : Type := List (Option Value)
/-- where a method stands: pc, locals, stack, heap, cells and slots made -/
abbrev ab_T : Type := Nat × ab_Lo × List Value × ab_H × Nat × Nat
abbrev ab_R : Type := (Prop × List (Prop × ab_T)) ⊕ ((Prop × Nat × List Value × (Nat → Nat → Option Value → ab_H → ab_T)) ⊕ (Prop × Option Value))
def ab_find : Nat → List ab_I → Option (Instr × Nat × Nat × Nat × List Nat)
  | _, [] => none
  | pc, q :: t => match Nat.beq pc q.1 with
    | true => some q.2
    | false => ab_find pc t
def ab_no : ab_R := .inl (False, [])
def ab_go (t : ab_T) : ab_R := .inl (True, [(True, t)])
def ab_gc (g : Prop) (t : ab_T) : ab_R := .inl (g, [(True, t)])
def ab_br (g : Prop) (t1 t2 : ab_T) : ab_R := .inl (True, [(g, t1), (¬ g, t2)])
def ab_pi (st : List Value) (k : Int32 → List Value → ab_R) : ab_R := match st with
  | .int v :: r => k v r
  | _ => ab_no
def ab_pl (st : List Value) (k : Int64 → List Value → ab_R) : ab_R := match st with
  | .long v :: r => k v r
  | _ => ab_no
def ab_pr (st : List Value) (k : Nat → List Value → ab_R) : ab_R := match st with
  | .ref v :: r => k v r
  | _ => ab_no
def ab_li (L : ab_Lo) (i : Nat) (k : Int32 → ab_R) : ab_R := match L[i]? with
  | some (some (.int v)) => k v
  | _ => ab_no
def ab_ll (L : ab_Lo) (i : Nat) (k : Int64 → ab_R) : ab_R := match L[i]? with
  | some (some (.long v)) => k v
  | _ => ab_no
def ab_lr (L : ab_Lo) (i : Nat) (k : Nat → ab_R) : ab_R := match L[i]? with
  | some (some (.ref v)) => k v
  | _ => ab_no
/-- the locals behind a store of a value of one slot -/
def ab_s1 : ab_Lo → Nat → Value → ab_Lo
  | [], _, _ => []
  | _ :: t, 0, v => some v :: t
  | some (.long w) :: t, 1, v => none :: ab_s1 t 0 v
  | some (.double w) :: t, 1, v => none :: ab_s1 t 0 v
  | q :: t, i + 1, v => q :: ab_s1 t i v
/-- .. of a long -/
def ab_s2 : ab_Lo → Nat → Value → ab_Lo
  | [], _, _ => []
  | _ :: [], 0, v => [some v]
  | _ :: _ :: t, 0, v => some v :: none :: t
  | some (.long w) :: t, 1, v => none :: ab_s2 t 0 v
  | some (.double w) :: t, 1, v => none :: ab_s2 t 0 v
  | q :: t, i + 1, v => q :: ab_s2 t i v
def ab_rf (r : Option Nat) : Value := match r with
  | some i => .ref i
  | none => .null
abbrev ab_n (h : ab_H) : Nat := h.1
abbrev ab_S (h : ab_H) : Nat → ab_Sh := h.2.1
abbrev ab_i (h : ab_H) : Nat → Nat → Int32 := h.2.2.1
abbrev ab_l (h : ab_H) : Nat → Nat → Int64 := h.2.2.2.1
abbrev ab_p (h : ab_H) : Nat → Nat → Option Nat := h.2.2.2.2
/-- the heap behind a store -/
def ab_ui (h : ab_H) (c k : Nat) (v : Int32) : ab_H := (h.1, h.2.1, va_up h.2.2.1 c (upd (h.2.2.1 c) k v), h.2.2.2.1, h.2.2.2.2)
def ab_ul (h : ab_H) (c k : Nat) (v : Int64) : ab_H := (h.1, h.2.1, h.2.2.1, va_up h.2.2.2.1 c (vp_updL (h.2.2.2.1 c) k v), h.2.2.2.2)
def ab_up (h : ab_H) (c k : Nat) (v : Option Nat) : ab_H := (h.1, h.2.1, h.2.2.1, h.2.2.2.1, va_up h.2.2.2.2 c (va_up (h.2.2.2.2 c) k v))
/-- .. behind a new cell -/
def ab_nw (h : ab_H) (q : ab_Sh) : ab_H := (h.1 + 1, va_up h.2.1 h.1 q, va_up h.2.2.1 h.1 (fun _ => 0), va_up h.2.2.2.1 h.1 (fun _ => 0), va_up h.2.2.2.2 h.1 (fun _ => none))
def ab_cmp (c : ClassFile.Cond) (a b : Int32) : Prop := match c with
  | .eq => a = b
  | .ne => ¬ a = b
  | .lt => a < b
  | .ge => b ≤ a
  | .gt => b < a
  | .le => a ≤ b
def ab_aty : ArrayType → FieldType := newarray.typeOf
/-- the value that an array of this type holds of an int that is stored -/
def ab_nar (ty : FieldType) (x : Int32) : Int32 := match ty with
  | .byte => vp_nar .byte x
  | .boolean => vp_nar .boolean x
  | _ => x
def ab_ok1 (v : Value) : Prop := v.category = 1
/-- one row in a list, or more -/
def ab_gv (ts : List Nat) (a b : Value) : Value := match ts with
  | [_] => a
  | _ => b
/-- targets of a tableswitch, one by one -/
def ab_sw (v : Int32) (lo : Int) (L : ab_Lo) (r : List Value) (h : ab_H) (cs sl : Nat) : Nat → List Nat → List (Prop × ab_T)
  | _, [] => []
  | j, t :: ts => (v.toInt = lo + (j : Int), (t, L, r, h, cs, sl)) :: ab_sw v lo L r h cs sl (j + 1) ts
def ab_step (M : ab_M) (pc : Nat) (L : ab_Lo) (st : List Value) (h : ab_H) (cs sl : Nat) : ab_R := match ab_find pc (ab_mo M) with
  | none => ab_no
  | some (ins, len, x, y, ts) => match ins with
    | .iload i => ab_li L i fun v => ab_go (pc + len, L, .int v :: st, h, cs, sl)
    | .iload_n i => ab_li L i.val fun v => ab_go (pc + len, L, .int v :: st, h, cs, sl)
    | .lload i => ab_ll L i fun v => ab_go (pc + len, L, .long v :: st, h, cs, sl)
    | .lload_n i => ab_ll L i.val fun v => ab_go (pc + len, L, .long v :: st, h, cs, sl)
    | .aload i => ab_lr L i fun v => ab_go (pc + len, L, .ref v :: st, h, cs, sl)
    | .aload_n i => ab_lr L i.val fun v => ab_go (pc + len, L, .ref v :: st, h, cs, sl)
    | .istore i => ab_pi st fun v r => ab_gc (i < ab_ml M) (pc + len, ab_s1 L i (.int v), r, h, cs, sl)
    | .istore_n i => ab_pi st fun v r => ab_gc (i.val < ab_ml M) (pc + len, ab_s1 L i.val (.int v), r, h, cs, sl)
    | .lstore i => ab_pl st fun v r => ab_gc (i + 1 < ab_ml M) (pc + len, ab_s2 L i (.long v), r, h, cs, sl)
    | .lstore_n i => ab_pl st fun v r => ab_gc (i.val + 1 < ab_ml M) (pc + len, ab_s2 L i.val (.long v), r, h, cs, sl)
    | .astore i => ab_pr st fun v r => ab_gc (v < 1000000 ∧ i < ab_ml M) (pc + len, ab_s1 L i (.ref v), r, h, cs, sl)
    | .astore_n i => ab_pr st fun v r => ab_gc (v < 1000000 ∧ i.val < ab_ml M) (pc + len, ab_s1 L i.val (.ref v), r, h, cs, sl)
    | .iinc i n => ab_li L i fun v => ab_gc (i < ab_ml M) (pc + len, ab_s1 L i (.int (v + Int32.ofInt n)), st, h, cs, sl)
    | .iconst n => ab_go (pc + len, L, .int (Int32.ofInt n) :: st, h, cs, sl)
    | .bipush n => ab_go (pc + len, L, .int (Int8.ofInt n).toInt32 :: st, h, cs, sl)
    | .sipush n => ab_go (pc + len, L, .int (Int16.ofInt n).toInt32 :: st, h, cs, sl)
    | .lconst n => ab_go (pc + len, L, .long (Int64.ofNat n.val) :: st, h, cs, sl)
    | .ldc _ => match ts with
      | [_] => ab_go (pc + len, L, .int (Int32.ofNat x) :: st, h, cs, sl)
      | _ => ab_go (pc + len, L, .ref x :: st, h, cs, sl)
    | .ldc_w _ => ab_go (pc + len, L, .int (Int32.ofNat x) :: st, h, cs, sl)
    | .ldc2_w _ => ab_go (pc + len, L, .long (Int64.ofNat x) :: st, h, cs, sl)
    | .getstatic _ => match ts with
      | [_] => ab_go (pc + len, L, .int 1 :: st, h, cs, sl)
      | _ => ab_go (pc + len, L, .ref 1000020 :: st, h, cs, sl)
    | .getfield _ => ab_pr st fun c r => ab_gc (ab_S h c = .inl x) (pc + len, L, ab_gv ts (.int (ab_i h c y)) (ab_rf (ab_p h c y)) :: r, h, cs, sl)
    | .putfield _ => match ts with
      | [_] => ab_pi st fun v r => ab_pr r fun c r => ab_gc (ab_S h c = .inl x ∧ c < 1000000 ∧ narrow .int (.int v) = .int v) (pc + len, L, r, ab_ui h c y v, cs, sl)
      | [_, _] => ab_pi st fun v r => ab_pr r fun c r => ab_gc (ab_S h c = .inl x ∧ c < 1000000 ∧ (v = 0 ∨ v = 1)) (pc + len, L, r, ab_ui h c y v, cs, sl)
      | _ => ab_pr st fun v r => ab_pr r fun c r => ab_gc (ab_S h c = .inl x ∧ c < 1000000 ∧ v < 1000000) (pc + len, L, r, ab_up h c y (some v), cs, sl)
    | .new _ => ab_gc (h.1 < 600000 ∧ cs + 1 ≤ ab_mc M ∧ sl + y ≤ ab_ms M) (pc + len, L, .ref h.1 :: st, ab_nw h (.inl x), cs + 1, sl + y)
    | .newarray a => ab_pi st fun v r => ab_gc (h.1 < 600000 ∧ ¬ v < 0 ∧ v.toNatClampNeg ≤ 100000 ∧ cs + 1 ≤ ab_mc M ∧ sl + v.toNatClampNeg ≤ ab_ms M) (pc + len, L, .ref h.1 :: r, ab_nw h (.inr (ab_aty a, v.toNatClampNeg)), cs + 1, sl + v.toNatClampNeg)
    | .arraylength => ab_pr st fun c r => match ab_S h c with
      | .inr (ty, n) => ab_gc (ty = .int ∨ ty = .byte ∨ ty = .boolean ∨ ty = .long) (pc + len, L, .int (Int32.ofNat n) :: r, h, cs, sl)
      | _ => ab_no
    | .iaload => ab_pi st fun j r => ab_pr r fun c r => match ab_S h c with
      | .inr (.int, n) => ab_gc (vp_in j n) (pc + len, L, .int (ab_i h c j.toNatClampNeg) :: r, h, cs, sl)
      | _ => ab_no
    | .baload => ab_pi st fun j r => ab_pr r fun c r => match ab_S h c with
      | .inr (.byte, n) => ab_gc (vp_in j n) (pc + len, L, .int (ab_i h c j.toNatClampNeg) :: r, h, cs, sl)
      | .inr (.boolean, n) => ab_gc (vp_in j n) (pc + len, L, .int (ab_i h c j.toNatClampNeg) :: r, h, cs, sl)
      | _ => ab_no
    | .laload => ab_pi st fun j r => ab_pr r fun c r => match ab_S h c with
      | .inr (.long, n) => ab_gc (vp_in j n) (pc + len, L, .long (ab_l h c j.toNatClampNeg) :: r, h, cs, sl)
      | _ => ab_no
    | .iastore => ab_pi st fun v r => ab_pi r fun j r => ab_pr r fun c r => match ab_S h c with
      | .inr (.int, n) => ab_gc (c < 1000000 ∧ vp_in j n) (pc + len, L, r, ab_ui h c j.toNatClampNeg v, cs, sl)
      | _ => ab_no
    | .bastore => ab_pi st fun v r => ab_pi r fun j r => ab_pr r fun c r => match ab_S h c with
      | .inr (.byte, n) => ab_gc (c < 1000000 ∧ vp_in j n) (pc + len, L, r, ab_ui h c j.toNatClampNeg (vp_nar .byte v), cs, sl)
      | .inr (.boolean, n) => ab_gc (c < 1000000 ∧ vp_in j n) (pc + len, L, r, ab_ui h c j.toNatClampNeg (vp_nar .boolean v), cs, sl)
      | _ => ab_no
    | .lastore => ab_pl st fun v r => ab_pi r fun j r => ab_pr r fun c r => match ab_S h c with
      | .inr (.long, n) => ab_gc (c < 1000000 ∧ vp_in j n) (pc + len, L, r, ab_ul h c j.toNatClampNeg v, cs, sl)
      | _ => ab_no
    | .iadd => ab_pi st fun b r => ab_pi r fun a r => ab_go (pc + len, L, .int (a + b) :: r, h, cs, sl)
    | .isub => ab_pi st fun b r => ab_pi r fun a r => ab_go (pc + len, L, .int (a - b) :: r, h, cs, sl)
    | .imul => ab_pi st fun b r => ab_pi r fun a r => ab_go (pc + len, L, .int (a * b) :: r, h, cs, sl)
    | .idiv => ab_pi st fun b r => ab_pi r fun a r => ab_gc (¬ b = 0) (pc + len, L, .int (a / b) :: r, h, cs, sl)
    | .irem => ab_pi st fun b r => ab_pi r fun a r => ab_gc (¬ b = 0) (pc + len, L, .int (a - a / b * b) :: r, h, cs, sl)
    | .iand => ab_pi st fun b r => ab_pi r fun a r => ab_go (pc + len, L, .int (a &&& b) :: r, h, cs, sl)
    | .ior => ab_pi st fun b r => ab_pi r fun a r => ab_go (pc + len, L, .int (a ||| b) :: r, h, cs, sl)
    | .ixor => ab_pi st fun b r => ab_pi r fun a r => ab_go (pc + len, L, .int (a ^^^ b) :: r, h, cs, sl)
    | .ishl => ab_pi st fun b r => ab_pi r fun a r => ab_go (pc + len, L, .int (a <<< (b &&& 31)) :: r, h, cs, sl)
    | .ishr => ab_pi st fun b r => ab_pi r fun a r => ab_go (pc + len, L, .int (a >>> (b &&& 31)) :: r, h, cs, sl)
    | .iushr => ab_pi st fun b r => ab_pi r fun a r => ab_go (pc + len, L, .int (a.toUInt32 >>> (b.toUInt32 &&& Int32.toUInt32 31)).toInt32 :: r, h, cs, sl)
    | .ladd => ab_pl st fun b r => ab_pl r fun a r => ab_go (pc + len, L, .long (a + b) :: r, h, cs, sl)
    | .lmul => ab_pl st fun b r => ab_pl r fun a r => ab_go (pc + len, L, .long (a * b) :: r, h, cs, sl)
    | .ldiv => ab_pl st fun b r => ab_pl r fun a r => ab_gc (¬ b = 0) (pc + len, L, .long (a / b) :: r, h, cs, sl)
    | .lrem => ab_pl st fun b r => ab_pl r fun a r => ab_gc (¬ b = 0) (pc + len, L, .long (a - a / b * b) :: r, h, cs, sl)
    | .lcmp => ab_pl st fun b r => ab_pl r fun a r => ab_go (pc + len, L, .int (lg_cmp a b) :: r, h, cs, sl)
    | .i2l => ab_pi st fun a r => ab_go (pc + len, L, .long a.toInt64 :: r, h, cs, sl)
    | .l2i => ab_pl st fun a r => ab_go (pc + len, L, .int a.toInt32 :: r, h, cs, sl)
    | .i2b => ab_pi st fun a r => ab_go (pc + len, L, .int a.toInt8.toInt32 :: r, h, cs, sl)
    | .i2c => ab_pi st fun a r => ab_go (pc + len, L, .int (a.toUInt32 % 65536).toInt32 :: r, h, cs, sl)
    | .ifCond c _ => ab_pi st fun a r => ab_br (ab_cmp c a 0) (x, L, r, h, cs, sl) (pc + len, L, r, h, cs, sl)
    | .if_icmp c _ => ab_pi st fun b r => ab_pi r fun a r => ab_br (ab_cmp c a b) (x, L, r, h, cs, sl) (pc + len, L, r, h, cs, sl)
    | .goto _ => ab_go (x, L, st, h, cs, sl)
    | .tableswitch _ lo hi _ => ab_pi st fun a r => .inl (True, (a.toInt < lo ∨ hi < a.toInt, (x, L, r, h, cs, sl)) :: ab_sw a lo L r h cs sl 0 ts)
    | .dup => match st with
      | v :: r => ab_gc (v.category = 1) (pc + len, L, v :: v :: r, h, cs, sl)
      | _ => ab_no
    | .dup2 => match st with
      | v :: w :: r => ab_gc (v.category = 1 ∧ w.category = 1) (pc + len, L, v :: w :: v :: w :: r, h, cs, sl)
      | _ => ab_no
    | .pop => match st with
      | v :: r => ab_gc (v.category = 1) (pc + len, L, r, h, cs, sl)
      | _ => ab_no
    | .invokestatic _ => match ts with
      | _ :: n :: _ => .inr (.inl ((n ≤ st.length ∧ ((st.drop n).map fun v => v.category).sum ≤ 8), x, (st.take n).reverse, fun mc ms v h => (pc + len, L, v.toList ++ st.drop n, h, cs + mc, sl + ms)))
      | _ => ab_no
    | .invokevirtual _ => match ts with
      | _ :: n :: _ => match st.drop n with
        | .ref c :: r => .inr (.inl ((n ≤ st.length ∧ ab_S h c = .inl y ∧ (r.map fun v => v.category).sum ≤ 8), x, .ref c :: (st.take n).reverse, fun mc ms v h => (pc + len, L, v.toList ++ r, h, cs + mc, sl + ms)))
        | _ => ab_no
      | _ => ab_no
    | .invokespecial _ => match ts with
      | _ :: n :: _ => match st.drop n with
        | .ref c :: r => .inr (.inl ((n ≤ st.length ∧ c < 1000000 ∧ (r.map fun v => v.category).sum ≤ 8), x, .ref c :: (st.take n).reverse, fun mc ms v h => (pc + len, L, v.toList ++ r, h, cs + mc, sl + ms)))
        | _ => ab_no
      | _ => ab_pr st fun c r => ab_gc (c < 1000000 ∧ (r.map fun v => v.category).sum ≤ 8) (pc + len, L, r, h, cs, sl)
    | .ireturn => match st with
      | [.int v] => match ab_mr M with
        | some ty => .inr (.inr (narrow ty (.int v) = .int v ∧ cs ≤ ab_mc M ∧ sl ≤ ab_ms M, some (.int v)))
        | none => ab_no
      | _ => ab_no
    | .lreturn => match st with
      | [.long v] => match ab_mr M with
        | some .long => .inr (.inr (cs ≤ ab_mc M ∧ sl ≤ ab_ms M, some (.long v)))
        | _ => ab_no
      | _ => ab_no
    | .areturn => match st with
      | [.ref v] => match ab_mr M with
        | some (.object _) => .inr (.inr (v < 1000000 ∧ cs ≤ ab_mc M ∧ sl ≤ ab_ms M, some (.ref v)))
        | _ => ab_no
      | _ => ab_no
    | .return_ => match st with
      | [] => match ab_mr M with
        | none => .inr (.inr (cs ≤ ab_mc M ∧ sl ≤ ab_ms M, none))
        | _ => ab_no
      | _ => ab_no
    | _ => ab_no
/-- the locals at a method's start -/
def ab_en : List Value → ab_Lo
  | [] => []
  | v :: t => match v.category with
    | 2 => some v :: none :: ab_en t
    | _ => some v :: ab_en t
def ab_ent (As : List Value) (n : Nat) : ab_Lo := ab_en As ++ List.replicate (n - (ab_en As).length) none
abbrev ab_Q : Type := Option Value → ab_H → Prop
abbrev ab_C : Type := Nat → List Value → ab_H → Nat → Nat → ab_Q → Prop
/-- what an instruction asks of where it goes -/
def ab_all (C : ab_C) (M : ab_M) (Q : ab_Q) (h : ab_H) (cs sl : Nat) (X : ab_T → Prop) : ab_R → Prop
  | .inl q => q.1 ∧ ∀ t ∈ q.2, t.1 → X t.2
  | .inr (.inl q) => q.1 ∧ ∃ mc ms : Nat, cs + mc ≤ ab_mc M ∧ sl + ms ≤ ab_ms M ∧ C q.2.1 q.2.2.1 h mc ms (fun v h2 => X (q.2.2.2 mc ms v h2))
  | .inr (.inr q) => q.1 ∧ Q q.2 h
def ab_lfp (C : ab_C) (M : ab_M) (Q : ab_Q) (t : ab_T) : Prop := ∀ X : ab_T → Prop, (∀ pc L st h cs sl, ab_all C M Q h cs sl X (ab_step M pc L st h cs sl) → X (pc, L, st, h, cs, sl)) → X t
/-- the calls of depth d -/
def ab_call (MT : List ab_M) : Nat → ab_C
  | 0 => fun _ _ _ _ _ _ => False
  | d + 1 => fun k As h mc ms Q => ∃ M, MT[k]? = some M ∧ ab_mc M = mc ∧ ab_ms M = ms ∧ (ab_en As).length ≤ ab_ml M ∧ ab_lfp (ab_call MT d) M Q (0, ab_ent As (ab_ml M), [], h, 0, 0)
abbrev ab_wp (MT : List ab_M) (d : Nat) (M : ab_M) (Q : ab_Q) (pc : Nat) (L : ab_Lo) (st : List Value) (h : ab_H) (cs sl : Nat) : Prop := ab_lfp (ab_call MT d) M Q (pc, L, st, h, cs, sl)
theorem ab_all_mono {C : ab_C} {M : ab_M} {Q : ab_Q} {h : ab_H} {cs sl : Nat} {X Y : ab_T → Prop} (hC : ∀ k As h mc ms (Q1 Q2 : ab_Q), (∀ v h, Q1 v h → Q2 v h) → C k As h mc ms Q1 → C k As h mc ms Q2) (hXY : ∀ t, X t → Y t) {r : ab_R} (hr : ab_all C M Q h cs sl X r) : ab_all C M Q h cs sl Y r := by
  match r, hr with
  | .inl q, hr => exact ⟨hr.1, fun t ht h1 => hXY _ (hr.2 t ht h1)⟩
  | .inr (.inl q), hr =>
    obtain ⟨h1, mc, ms, h2, h3, h4⟩ := hr
    exact ⟨h1, mc, ms, h2, h3, hC _ _ _ _ _ _ _ (fun v h q => hXY _ q) h4⟩
  | .inr (.inr q), hr => exact hr
theorem ab_all_Q {C : ab_C} {M : ab_M} {Q Q2 : ab_Q} {h : ab_H} {cs sl : Nat} {X : ab_T → Prop} (hQ : ∀ v h, Q v h → Q2 v h) {r : ab_R} (hr : ab_all C M Q h cs sl X r) : ab_all C M Q2 h cs sl X r := by
  match r, hr with
  | .inl q, hr => exact hr
  | .inr (.inl q), hr => exact hr
  | .inr (.inr q), hr => exact ⟨hr.1, hQ _ _ hr.2⟩
theorem ab_lfp_Q {C : ab_C} {M : ab_M} {Q Q2 : ab_Q} {t : ab_T} (hQ : ∀ v h, Q v h → Q2 v h) (h : ab_lfp C M Q t) : ab_lfp C M Q2 t := fun X hX => h X (fun pc L st h cs sl hr => hX pc L st h cs sl (ab_all_Q hQ hr))
theorem ab_call_mono (MT : List ab_M) (d : Nat) : ∀ k As h mc ms (Q1 Q2 : ab_Q), (∀ v h, Q1 v h → Q2 v h) → ab_call MT d k As h mc ms Q1 → ab_call MT d k As h mc ms Q2 := by
  intro k As h mc ms Q1 Q2 hQ hc
  cases d with
  | zero => exact hc
  | succ d =>
    obtain ⟨M, h1, h2, h3, h5, h4⟩ := hc
    exact ⟨M, h1, h2, h3, h5, ab_lfp_Q hQ h4⟩
theorem ab_mk_ {MT : List ab_M} {d : Nat} {M : ab_M} {Q : ab_Q} {pc : Nat} {L : ab_Lo} {st : List Value} {h : ab_H} {cs sl : Nat} (hs : ab_all (ab_call MT d) M Q h cs sl (ab_lfp (ab_call MT d) M Q) (ab_step M pc L st h cs sl)) : ab_wp MT d M Q pc L st h cs sl := by
  intro X hX
  exact hX pc L st h cs sl (ab_all_mono (ab_call_mono MT d) (fun t ht => ht X hX) hs)
theorem ab_Q_ {MT : List ab_M} {d : Nat} {M : ab_M} {Q Q2 : ab_Q} {pc : Nat} {L : ab_Lo} {st : List Value} {h : ab_H} {cs sl : Nat} (hw : ab_wp MT d M Q pc L st h cs sl) (hQ : ∀ v h, Q v h → Q2 v h) : ab_wp MT d M Q2 pc L st h cs sl := ab_lfp_Q hQ hw

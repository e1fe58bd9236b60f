/-! the model: laws as rows of steps, small methods -/
/-- steps for a stack: 0 a number, 1 what is looked at, 2 to 5 a sign; and a law: tests, what is told behind each, what is told else -/
abbrev rpn : Type := List (Nat × Int32)
def opS (k : Nat) (a b : Int32) : Int32 := if k = 2 then a + b else if k = 3 then a - b else if k = 4 then a * b else a / b
def rev_ (vs : Nat → Int32) : rpn → List Int32 → Option (List Int32)
  | [], st => some st
  | q :: p, st => if q.1 = 0 then rev_ vs p (q.2 :: st) else if q.1 = 1 then rev_ vs p (varS vs q.2 :: st) else
    match st with
    | b :: a :: st2 => if q.1 = 5 ∧ b = nI 0 then none else rev_ vs p (opS q.1 a b :: st2)
    | _ => none
def rwf : rpn → Nat → Prop
  | [], h => h = 1
  | q :: p, h => if q.1 < 2 then h < 16 ∧ (q.1 = 1 → ∃ j, j < 9 ∧ q.2 = nI j) ∧ rwf p (h + 1) else q.1 ≤ 5 ∧ 2 ≤ h ∧ rwf p (h - 1)
def rvl (vs : Nat → Int32) (p : rpn) : Option Int32 := match rev_ vs p [] with
  | some (v :: _) => some v
  | _ => none
def lwL (vs : Nat → Int32) (w : rpn) : List (rpn × rpn × rpn) → Int32
  | [] => (rvl vs w).getD (nI 0)
  | q :: ts => match rvl vs q.1, rvl vs q.2.1 with
    | some a, some b => if a < b then (rvl vs q.2.2).getD (nI 0) else lwL vs w ts
    | _, _ => nI 0
def plS (k : Nat) (vs : Nat → Int32) : Int32 := if k = 0 then vs 0 else if k = 1 then vs 8 * nI 50 else if k = 2 then vs 4 else if k = 3 then vs 5 * nI 10 else vs 6 * nI 10
/-- the model's steps from i to j are p -/
def MC (I : Nat → Nat → Int32) : Nat → Nat → rpn → Prop
  | i, j, [] => i = j
  | i, j, q :: p => i < 840 ∧ I 84 i = nI q.1 ∧ I 85 i = q.2 ∧ MC I (i + 1) j p
def MB (I : Nat → Nat → Int32) (w : rpn) : Nat → Nat → List (rpn × rpn × rpn) → Prop
  | b, l, [] => b + 1 = l ∧ l ≤ 260 ∧ I 79 b = nI 0 ∧ ∃ i j, I 82 b = nI i ∧ I 83 b = nI j ∧ i ≤ 840 ∧ MC I i j w ∧ rwf w 0
  | b, l, q :: ts => b < 260 ∧ I 79 b = nI 1 ∧ (∃ i j m n, I 80 b = nI i ∧ I 81 b = nI j ∧ I 82 b = nI m ∧ I 83 b = nI n ∧ i ≤ 840 ∧ j ≤ 840 ∧ m ≤ 840 ∧ MC I i j q.1 ∧ MC I j m q.2.1 ∧ MC I m n q.2.2 ∧ rwf q.1 0 ∧ rwf q.2.1 0 ∧ rwf q.2.2 0) ∧ MB I w (b + 1) l ts
def ML (lv : Nat) (I : Nat → Nat → Int32) (L : Nat → (Nat → Int32) → Int32) : Prop := ∀ k, k < 5 → ∃ f l, f ≤ 260 ∧ l ≤ 260 ∧ I 77 (5 * lv + k) = nI f ∧ I 78 (5 * lv + k) = nI l ∧ ((f = l ∧ ∀ vs, L k vs = plS k vs) ∨ ∃ w ts, MB I w f l ts ∧ ∀ vs, L k vs = lwL vs w ts)
def MT (lv : Nat) (I : Nat → Nat → Int32) (T : tx) : Prop := lv ≤ 1 ∧ tok T ∧ I 55 18 = nI lv ∧ I 65 lv = nI (tC T) ∧ I 69 lv = nI (tR T) ∧ I 72 lv = nI (tP T) ∧ I 76 lv = tS T ∧ (∀ e, e < tR T → I 71 (6 * lv + e) = b1 (tT T e)) ∧ (∀ a b, a < tC T → b < tC T → I 89 (6 * a + b) = tF T a b) ∧ (∀ a, a < tP T → I 73 (5 * lv + a) = nI (tH T a) ∧ I 74 (5 * lv + a) = tN T a ∧ I 75 (5 * lv + a) = tG T a) ∧ ML lv I (tL T)
theorem MC.kept {I I2 : Nat → Nat → Int32} (h4 : I2 84 = I 84) (h5 : I2 85 = I 85) : ∀ (p : rpn) (i j : Nat), MC I i j p → MC I2 i j p
  | [], _, _, h => h
  | q :: p, i, j, h => ⟨h.1, by rw [h4]; exact h.2.1, by rw [h5]; exact h.2.2.1, MC.kept h4 h5 p _ _ h.2.2.2⟩
theorem MB.kept {I I2 : Nat → Nat → Int32} {w : rpn} (hk : ∀ q, 77 ≤ q → q ≤ 85 → I2 q = I q) : ∀ (ts : List (rpn × rpn × rpn)) (b l : Nat), MB I w b l ts → MB I2 w b l ts
  | [], b, l, h => by
    obtain ⟨h1, h2, h3, i, j, h4, h5, h6, h7, h8⟩ := h
    have e9 := hk 79 (by decide) (by decide); have e2 := hk 82 (by decide) (by decide); have e3 := hk 83 (by decide) (by decide)
    exact ⟨h1, h2, by rw [e9]; exact h3, i, j, by rw [e2]; exact h4, by rw [e3]; exact h5, h6, MC.kept (hk 84 (by decide) (by decide)) (hk 85 (by decide) (by decide)) _ _ _ h7, h8⟩
  | q :: ts, b, l, h => by
    obtain ⟨h1, h2, ⟨i, j, m, n, h3, h4, h5, h6, h7, h8, h9, ha, hb, hc, hd⟩, he⟩ := h
    have e9 := hk 79 (by decide) (by decide); have e0 := hk 80 (by decide) (by decide); have e1 := hk 81 (by decide) (by decide); have e2 := hk 82 (by decide) (by decide); have e3 := hk 83 (by decide) (by decide)
    have kc := MC.kept (I := I) (I2 := I2) (hk 84 (by decide) (by decide)) (hk 85 (by decide) (by decide))
    exact ⟨h1, by rw [e9]; exact h2, ⟨i, j, m, n, by rw [e0]; exact h3, by rw [e1]; exact h4, by rw [e2]; exact h5, by rw [e3]; exact h6, h7, h8, h9, kc _ _ _ ha, kc _ _ _ hb, kc _ _ _ hc, hd⟩, MB.kept hk ts _ _ he⟩
theorem ML.kept {lv : Nat} {I I2 : Nat → Nat → Int32} {L : Nat → (Nat → Int32) → Int32} (hk : ∀ q, 77 ≤ q → q ≤ 85 → I2 q = I q) (h : ML lv I L) : ML lv I2 L := by
  intro k hk5
  obtain ⟨f, l, h1, h2, h3, h4, h5⟩ := h k hk5
  refine ⟨f, l, h1, h2, by rw [hk 77 (by decide) (by decide)]; exact h3, by rw [hk 78 (by decide) (by decide)]; exact h4, ?_⟩
  rcases h5 with h5 | ⟨w, ts, h6, h7⟩
  · exact Or.inl h5
  · exact Or.inr ⟨w, ts, MB.kept hk _ _ _ h6, h7⟩
theorem MT.kept {lv : Nat} {I I2 : Nat → Nat → Int32} {T : tx} (h : MT lv I T) (hk : ∀ q, (65 ≤ q ∧ q ≤ 85) ∨ q = 89 → I2 q = I q) (h18 : I2 55 18 = I 55 18) : MT lv I2 T := by
  obtain ⟨h1, h2, h3, h4, h5, h6, h7, h8, h9, ha, hb⟩ := h
  refine ⟨h1, h2, by rw [h18]; exact h3, ?_, ?_, ?_, ?_, ?_, ?_, ?_, hb.kept (fun q a b => hk q (by omega))⟩
  · rw [hk 65 (by omega)]; exact h4
  · rw [hk 69 (by omega)]; exact h5
  · rw [hk 72 (by omega)]; exact h6
  · rw [hk 76 (by omega)]; exact h7
  · rw [hk 71 (by omega)]; exact h8
  · rw [hk 89 (by omega)]; exact h9
  · rw [hk 73 (by omega), hk 74 (by omega), hk 75 (by omega)]; exact ha
/-- but for what the laws work with -/
def fml (I I2 : Nat → Nat → Int32) : Prop := (∀ q, q ≠ 55 → q ≠ 87 → q ≠ 88 → I2 q = I q) ∧ ∀ k, k ≠ 50 → I2 55 k = I 55 k
theorem fml.rf {I : Nat → Nat → Int32} : fml I I := ⟨fun _ _ _ _ => rfl, fun _ _ => rfl⟩
theorem fml.tr {I I2 I3 : Nat → Nat → Int32} (h1 : fml I I2) (h2 : fml I2 I3) : fml I I3 := ⟨fun q a b c => (h2.1 q a b c).trans (h1.1 q a b c), fun k a => (h2.2 k a).trans (h1.2 k a)⟩
theorem fml.T {I I2 : Nat → Nat → Int32} {lv : Nat} {T : tx} (h : fml I I2) (hT : MT lv I T) : MT lv I2 T := hT.kept (fun q hq => h.1 q (by omega) (by omega) (by omega)) (h.2 18 (by decide))
theorem fml.w7 {I : Nat → Nat → Int32} (j : Nat) (v : Int32) : fml I (wr I 87 j v) := ⟨fun q _ a _ => wr_other _ _ _ _ a, fun k _ => by rw [wr_other _ _ _ _ (by decide)]⟩
theorem fml.w8 {I : Nat → Nat → Int32} (j : Nat) (v : Int32) : fml I (wr I 88 j v) := ⟨fun q _ _ a => wr_other _ _ _ _ a, fun k _ => by rw [wr_other _ _ _ _ (by decide)]⟩
theorem fml.wb {I : Nat → Nat → Int32} (v : Int32) : fml I (wr I 55 50 v) := ⟨fun q a _ _ => wr_other _ _ _ _ a, fun k hk => by rw [wr_at, if_pos rfl, if_neg hk]⟩
/-- a row of the stack -/
def stk (f : Nat → Int32) : List Int32 → Prop
  | [] => True
  | a :: st => f st.length = a ∧ stk f st
theorem stk.up {I : Nat → Nat → Int32} {v : Int32} {k : Nat} : ∀ {st : List Int32}, st.length ≤ k → stk (I 88) st → stk (wr I 88 k v 88) st
  | [], _, _ => trivial
  | a :: st, hk, h => by
    rw [List.length_cons] at hk
    refine ⟨?_, stk.up (by omega) h.2⟩
    rw [wr_at, if_pos rfl, if_neg (by omega)]
    exact h.1
theorem nI_i5 {k j : Nat} (hk : k ≤ 5) (hj : j < 2 ^ 31) : nI k = nI j ↔ k = j := nI_eq (by omega) hj
theorem c_X11_in0 {d : Nat} {h : ab_H} {Q : ab_Q} {v lo hi : Int32} (h1 : lo ≤ v → v ≤ hi → Q (some (.int (nI 1))) h) (h0 : ¬ (lo ≤ v ∧ v ≤ hi) → Q (some (.int (nI 0))) h) : ab_call ab_MT (d + 1) 219 [.int v, .int lo, .int hi] h 0 0 Q := by
  refine wx_in (M := mX11_in) rfl rfl rfl (Nat.le_of_ble_eq_true rfl) ?_
  refine wx_iload_n rfl (e := 1) rfl rfl ?_
  refine wx_iload_n rfl (e := 2) rfl rfl ?_
  refine wx_ic_lt rfl (e := 5) rfl (fun c_2 => ?_) (fun c_2 => ?_)
  · refine wx_iconst (v := (nI 0)) rfl (e := 15) rfl (by decide) ?_
    refine wx_iret rfl rfl rfl ⟨by decide, by decide⟩ ?_
    exact h0 (fun z => absurd c_2 (Int32.not_lt.mpr z.1))
  · refine wx_iload_n rfl (e := 6) rfl rfl ?_
    refine wx_iload_n rfl (e := 7) rfl rfl ?_
    refine wx_ic_gt rfl (e := 10) rfl (fun c_7 => ?_) (fun c_7 => ?_)
    · refine wx_iconst (v := (nI 0)) rfl (e := 15) rfl (by decide) ?_
      refine wx_iret rfl rfl rfl ⟨by decide, by decide⟩ ?_
      exact h0 (fun z => absurd c_7 (Int32.not_lt.mpr z.2))
    · refine wx_iconst (v := (nI 1)) rfl (e := 11) rfl (by decide) ?_
      refine wx_goto rfl ?_
      refine wx_iret rfl rfl rfl ⟨by decide, by decide⟩ ?_
      exact h1 (Int32.not_lt.mp c_2) (Int32.not_lt.mp c_7)
theorem c_X11_in {d : Nat} {h : ab_H} {Q : ab_Q} {v : Int32} {lo hi : Nat} (hl : lo ≤ hi) (hb : hi < 2 ^ 31) (h1 : ∀ k, lo ≤ k → k ≤ hi → v = nI k → Q (some (.int (nI 1))) h) (h0 : (∀ k, lo ≤ k → k ≤ hi → v ≠ nI k) → Q (some (.int (nI 0))) h) : ab_call ab_MT (d + 1) 219 [.int v, .int (nI lo), .int (nI hi)] h 0 0 Q := by
  refine c_X11_in0 (fun z1 z2 => ?_) (fun z => ?_)
  · exact win_ok hl hb h1 (Int32.not_lt.mpr z1) (Int32.not_lt.mpr z2)
  · exact h0 (fun k a b e => z ⟨by rw [e]; exact nI_le a (by omega), by rw [e]; exact nI_le b hb⟩)
theorem c_X11_inm {d : Nat} {h : ab_H} {Q : ab_Q} {v : Int32} {n : Nat} (hb : n < 2 ^ 31) (h1 : ∀ k, k < n → v = nI k → Q (some (.int (nI 1))) h) (h0 : (∀ k, k < n → v ≠ nI k) → Q (some (.int (nI 0))) h) : ab_call ab_MT (d + 1) 219 [.int v, .int (nI 0), .int (nI n - nI 1)] h 0 0 Q := by
  by_cases z : n = 0
  · subst z
    refine c_X11_in0 (fun z1 z2 => ?_) (fun z => ?_)
    · exact absurd (Int32.le_trans z1 z2) (by decide)
    · exact h0 (fun k hk => absurd hk (Nat.not_lt_zero _))
  · rw [pk_sub (by omega)]
    exact c_X11_in (Nat.zero_le _) (by omega) (fun k _ hk e => h1 k (by omega) e) (fun hno => h0 (fun k hk => hno k (Nat.zero_le _) (by omega)))
theorem c_X11_held {d : Nat} {h : ab_H} {Q : ab_Q} {v m : Int32} (hq : Q (some (.int (heldS v m))) h) : ab_call ab_MT (d + 1) 220 [.int v, .int (nI 0), .int m] h 0 0 Q := by
  refine wx_in (M := mX11_held) rfl rfl rfl (Nat.le_of_ble_eq_true rfl) ?_
  refine wx_iload_n rfl (e := 1) rfl rfl ?_
  refine wx_iload_n rfl (e := 2) rfl rfl ?_
  refine wx_ic_ge rfl (e := 5) rfl (fun c_2 => ?_) (fun c_2 => ?_)
  · refine wx_iload_n rfl (e := 10) rfl rfl ?_
    refine wx_iload_n rfl (e := 11) rfl rfl ?_
    refine wx_ic_le rfl (e := 14) rfl (fun c_11 => ?_) (fun c_11 => ?_)
    · refine wx_iload_n rfl (e := 19) rfl rfl ?_
      refine wx_iret rfl rfl rfl ⟨by decide, by decide⟩ ?_
      unfold heldS at hq
      rw [if_neg (Int32.not_lt.mpr c_2), if_neg (Int32.not_lt.mpr c_11)] at hq
      exact hq
    · refine wx_iload_n rfl (e := 15) rfl rfl ?_
      refine wx_goto rfl ?_
      refine wx_iret rfl rfl rfl ⟨by decide, by decide⟩ ?_
      unfold heldS at hq
      rw [if_neg (Int32.not_lt.mpr c_2), if_pos (Int32.not_le.mp c_11)] at hq
      exact hq
  · refine wx_iload_n rfl (e := 6) rfl rfl ?_
    refine wx_goto rfl ?_
    refine wx_iret rfl rfl rfl ⟨by decide, by decide⟩ ?_
    unfold heldS at hq
    rw [if_pos (Int32.not_le.mp c_2)] at hq
    exact hq
theorem c_X11_mixed {d : Nat} {h : ab_H} {Q : ab_Q} {a b : Int32} (hq : Q (some (.int (mixS a b))) h) : ab_call ab_MT (d + 1) 227 [.int a, .int b] h 0 0 Q := by
  refine wx_in (M := mX11_mixed) rfl rfl rfl (Nat.le_of_ble_eq_true rfl) ?_
  refine wx_iload_n rfl (e := 1) rfl rfl ?_
  refine wx_iload_n rfl (e := 2) rfl rfl ?_
  refine wx_ixor rfl (e := 3) rfl ?_
  refine wx_ldcw (v := (nI 1103515245)) rfl (e := 6) rfl (by decide) ?_
  refine wx_imul rfl (e := 7) rfl ?_
  refine wx_sipush (v := (nI 12345)) rfl (e := 10) rfl (by decide) ?_
  refine wx_iadd rfl (e := 11) rfl ?_
  refine wx_istore_n (L2 := [_, _, _]) rfl (e := 12) rfl (by decide) rfl ?_
  refine wx_iload_n rfl (e := 13) rfl rfl ?_
  refine wx_iload_n rfl (e := 14) rfl rfl ?_
  refine wx_bipush (v := (nI 15)) rfl (e := 16) rfl (by decide) ?_
  refine wx_iushr rfl (e := 17) rfl ?_
  refine wx_ixor rfl (e := 18) rfl ?_
  refine wx_iret rfl rfl rfl ⟨by decide, by decide⟩ ?_
  exact hq
theorem c_X11_lotOf {d Lx t rt u : Nat} {I : Nat → Nat → Int32} {G : Nat → Nat → Int64} {Q : ab_Q} {w : Int32} (hq : Q (some (.int (lotH (I 55 54) w))) (hp Lx t rt u I G)) : ab_call ab_MT (d + 2) 228 [.ref 55, .int w] (hp Lx t rt u I G) 0 0 Q := by
  refine wx_in (M := mX11_lotOf) rfl rfl rfl (Nat.le_of_ble_eq_true rfl) ?_
  refine wx_aload_n rfl (e := 1) rfl rfl ?_
  refine wx_geti rfl (e := 4) rfl rfl ?_
  refine wx_bipush (v := (nI 111)) rfl (e := 6) rfl (by decide) ?_
  refine wx_cs2 (mc := 0) (ms := 0) rfl (e := 9) rfl (Nat.le_of_ble_eq_true rfl) ⟨by decide, by decide⟩ ?_
  refine c_X11_mixed ?_
  refine wx_iload_n rfl (e := 10) rfl rfl ?_
  refine wx_cs2 (mc := 0) (ms := 0) rfl (e := 13) rfl (Nat.le_of_ble_eq_true rfl) ⟨by decide, by decide⟩ ?_
  refine c_X11_mixed ?_
  refine wx_iconst (v := (nI 1)) rfl (e := 14) rfl (by decide) ?_
  refine wx_iushr rfl (e := 15) rfl ?_
  refine wx_bipush (v := (nI 100)) rfl (e := 17) rfl (by decide) ?_
  refine wx_irem rfl (e := 18) rfl (by decide) ?_
  refine wx_iret rfl rfl rfl ⟨by decide, by decide⟩ ?_
  exact hq
theorem c_X11_isChurch {d Lx t rt u : Nat} {I : Nat → Nat → Int32} {G : Nat → Nat → Int64} {Q : ab_Q} {lv : Nat} {T : tx} (hM : MT lv I T) {v : Int32} (h1 : ∀ k, k < tC T → v = nI k → Q (some (.int (nI 1))) (hp Lx t rt u I G)) (h0 : (∀ k, k < tC T → v ≠ nI k) → Q (some (.int (nI 0))) (hp Lx t rt u I G)) : ab_call ab_MT (d + 2) 221 [.ref 55, .int v] (hp Lx t rt u I G) 0 0 Q := by
  obtain ⟨hlv, ⟨hC6, hR6, hP5, hH, hTf, hFn, hLx⟩, m18, m65, m69, m72, m76, m71, m89, m73, mL⟩ := id hM
  refine wx_in (M := mX11_isChurch) rfl rfl rfl (Nat.le_of_ble_eq_true rfl) ?_
  refine wx_iload_n rfl (e := 1) rfl rfl ?_
  refine wx_iconst (v := (nI 0)) rfl (e := 2) rfl (by decide) ?_
  refine wx_aload_n rfl (e := 3) rfl rfl ?_
  refine wx_getr rfl (e := 6) rfl rfl rfl ?_
  refine wx_aload_n rfl (e := 7) rfl rfl ?_
  refine wx_geti rfl (e := 10) rfl rfl ?_
  rw [m18]
  refine wn_iald rfl (e := 11) rfl rfl (by omega) (by decide) ?_
  rw [m65]
  refine wx_iconst (v := (nI 1)) rfl (e := 12) rfl (by decide) ?_
  refine wx_isub rfl (e := 13) rfl ?_
  refine wx_cs3 (mc := 0) (ms := 0) rfl (e := 16) rfl (Nat.le_of_ble_eq_true rfl) ⟨by decide, by decide⟩ ?_
  refine c_X11_inm (n := tC T) (by omega) (fun k hk e => ?_) (fun hno => ?_)
  · refine wx_iret rfl rfl rfl ⟨by decide, by decide⟩ ?_
    exact h1 k hk e
  · refine wx_iret rfl rfl rfl ⟨by decide, by decide⟩ ?_
    exact h0 hno
theorem c_X11_isRelic {d Lx t rt u : Nat} {I : Nat → Nat → Int32} {G : Nat → Nat → Int64} {Q : ab_Q} {lv : Nat} {T : tx} (hM : MT lv I T) {v : Int32} (h1 : ∀ k, k < tR T → v = nI k → Q (some (.int (nI 1))) (hp Lx t rt u I G)) (h0 : (∀ k, k < tR T → v ≠ nI k) → Q (some (.int (nI 0))) (hp Lx t rt u I G)) : ab_call ab_MT (d + 2) 222 [.ref 55, .int v] (hp Lx t rt u I G) 0 0 Q := by
  obtain ⟨hlv, ⟨hC6, hR6, hP5, hH, hTf, hFn, hLx⟩, m18, m65, m69, m72, m76, m71, m89, m73, mL⟩ := id hM
  refine wx_in (M := mX11_isRelic) rfl rfl rfl (Nat.le_of_ble_eq_true rfl) ?_
  refine wx_iload_n rfl (e := 1) rfl rfl ?_
  refine wx_iconst (v := (nI 0)) rfl (e := 2) rfl (by decide) ?_
  refine wx_aload_n rfl (e := 3) rfl rfl ?_
  refine wx_getr rfl (e := 6) rfl rfl rfl ?_
  refine wx_aload_n rfl (e := 7) rfl rfl ?_
  refine wx_geti rfl (e := 10) rfl rfl ?_
  rw [m18]
  refine wn_iald rfl (e := 11) rfl rfl (by omega) (by decide) ?_
  rw [m69]
  refine wx_iconst (v := (nI 1)) rfl (e := 12) rfl (by decide) ?_
  refine wx_isub rfl (e := 13) rfl ?_
  refine wx_cs3 (mc := 0) (ms := 0) rfl (e := 16) rfl (Nat.le_of_ble_eq_true rfl) ⟨by decide, by decide⟩ ?_
  refine c_X11_inm (n := tR T) (by omega) (fun k hk e => ?_) (fun hno => ?_)
  · refine wx_iret rfl rfl rfl ⟨by decide, by decide⟩ ?_
    exact h1 k hk e
  · refine wx_iret rfl rfl rfl ⟨by decide, by decide⟩ ?_
    exact h0 hno
theorem c_X11_isPilgrim {d Lx t rt u : Nat} {I : Nat → Nat → Int32} {G : Nat → Nat → Int64} {Q : ab_Q} {lv : Nat} {T : tx} (hM : MT lv I T) {v : Int32} (h1 : ∀ k, k < tP T → v = nI k → Q (some (.int (nI 1))) (hp Lx t rt u I G)) (h0 : (∀ k, k < tP T → v ≠ nI k) → Q (some (.int (nI 0))) (hp Lx t rt u I G)) : ab_call ab_MT (d + 2) 223 [.ref 55, .int v] (hp Lx t rt u I G) 0 0 Q := by
  obtain ⟨hlv, ⟨hC6, hR6, hP5, hH, hTf, hFn, hLx⟩, m18, m65, m69, m72, m76, m71, m89, m73, mL⟩ := id hM
  refine wx_in (M := mX11_isPilgrim) rfl rfl rfl (Nat.le_of_ble_eq_true rfl) ?_
  refine wx_iload_n rfl (e := 1) rfl rfl ?_
  refine wx_iconst (v := (nI 0)) rfl (e := 2) rfl (by decide) ?_
  refine wx_aload_n rfl (e := 3) rfl rfl ?_
  refine wx_getr rfl (e := 6) rfl rfl rfl ?_
  refine wx_aload_n rfl (e := 7) rfl rfl ?_
  refine wx_geti rfl (e := 10) rfl rfl ?_
  rw [m18]
  refine wn_iald rfl (e := 11) rfl rfl (by omega) (by decide) ?_
  rw [m72]
  refine wx_iconst (v := (nI 1)) rfl (e := 12) rfl (by decide) ?_
  refine wx_isub rfl (e := 13) rfl ?_
  refine wx_cs3 (mc := 0) (ms := 0) rfl (e := 16) rfl (Nat.le_of_ble_eq_true rfl) ⟨by decide, by decide⟩ ?_
  refine c_X11_inm (n := tP T) (by omega) (fun k hk e => ?_) (fun hno => ?_)
  · refine wx_iret rfl rfl rfl ⟨by decide, by decide⟩ ?_
    exact h1 k hk e
  · refine wx_iret rfl rfl rfl ⟨by decide, by decide⟩ ?_
    exact h0 hno
theorem c_X11_keepsRow {d Lx t rt u : Nat} {I : Nat → Nat → Int32} {G : Nat → Nat → Int64} {Q : ab_Q} (hq : ∀ I2, (∀ q, q ≠ 90 → I2 q = I q) → (∀ k, k < 49 → I2 90 k = I 91 k) → Q none (hp Lx t rt u I2 G)) : ab_call ab_MT (d + 1) 225 [.ref 55] (hp Lx t rt u I G) 0 0 Q := by
  have loop : ∀ (n : Nat) (i : Nat) (I2 : Nat → Nat → Int32), i ≤ 49 → 49 - i < n → (∀ q, q ≠ 90 → I2 q = I q) → (∀ k, k < i → I2 90 k = I 91 k) → WP d mX11_keepsRow Q 2 [some (.ref 55), some (.int (nI i))] [] (hp Lx t rt u I2 G) 0 0 := by
    intro n
    induction n with
    | zero => intro i I2 hi hn f2 g2; omega
    | succ n ih =>
      intro i I2 hi hn f2 g2
      refine wx_iload_n rfl (e := 3) rfl rfl ?_
      refine wx_bipush (v := (nI 49)) rfl (e := 5) rfl (by decide) ?_
      refine wn_ic_ge rfl (e := 8) rfl (by omega) (by omega) (fun c_5 => ?_) (fun c_5 => ?_)
      · refine wx_ret rfl rfl ⟨by decide, by decide⟩ ?_
        exact hq I2 f2 (fun k hk => g2 k (by omega))
      · refine wx_aload_n rfl (e := 9) rfl rfl ?_
        refine wx_getr rfl (e := 12) rfl rfl rfl ?_
        refine wx_iload_n rfl (e := 13) rfl rfl ?_
        refine wx_aload_n rfl (e := 14) rfl rfl ?_
        refine wx_getr rfl (e := 17) rfl rfl rfl ?_
        refine wx_iload_n rfl (e := 18) rfl rfl ?_
        refine wn_iald rfl (e := 19) rfl rfl (by omega) (by decide) ?_
        rw [f2 91 (by decide)]
        refine wn_iast rfl (e := 20) rfl rfl (by decide) (by omega) (by decide) ?_
        refine wn_iinc (m := 1) (L2 := [_, _]) rfl (e := 23) rfl rfl (by decide) rfl ?_
        refine wx_goto rfl ?_
        refine ih (i + 1) _ (by omega) (by omega) (fun q h => (wr_other _ _ _ _ h).trans (f2 q h)) (wr_ext rfl (fun k hk hne => g2 k (by omega)))
  refine wx_in (M := mX11_keepsRow) rfl rfl rfl (Nat.le_of_ble_eq_true rfl) ?_
  refine wx_iconst (v := (nI 0)) rfl (e := 1) rfl (by decide) ?_
  refine wx_istore_n (L2 := [_, _]) rfl (e := 2) rfl (by decide) rfl ?_
  exact loop 50 0 I (by omega) (by omega) (fun _ _ => rfl) (fun k hk => absurd hk (Nat.not_lt_zero _))
theorem c_X11_copies {d Lx t rt u : Nat} {I : Nat → Nat → Int32} {G : Nat → Nat → Int64} {Q : ab_Q} {lv : Nat} {T : tx} (hM : MT lv I T) (hq : ∀ I2, (∀ q, q ≠ 55 → q ≠ 91 → I2 q = I q) → (∀ k, k ≠ 54 → I2 55 k = I 55 k) → I2 55 54 = tS T → (∀ k, k < 49 → I2 91 k = I 90 k) → Q none (hp Lx t rt u I2 G)) : ab_call ab_MT (d + 1) 226 [.ref 55] (hp Lx t rt u I G) 0 0 Q := by
  obtain ⟨hlv, ⟨hC6, hR6, hP5, hH, hTf, hFn, hLx⟩, m18, m65, m69, m72, m76, m71, m89, m73, mL⟩ := id hM
  have loop : ∀ (n : Nat) (i : Nat) (I2 : Nat → Nat → Int32), i ≤ 49 → 49 - i < n → (∀ q, q ≠ 91 → I2 q = I q) → (∀ k, k < i → I2 91 k = I 90 k) → WP d mX11_copies Q 2 [some (.ref 55), some (.int (nI i))] [] (hp Lx t rt u I2 G) 0 0 := by
    intro n
    induction n with
    | zero => intro i I2 hi hn f2 g2; omega
    | succ n ih =>
      intro i I2 hi hn f2 g2
      refine wx_iload_n rfl (e := 3) rfl rfl ?_
      refine wx_bipush (v := (nI 49)) rfl (e := 5) rfl (by decide) ?_
      refine wn_ic_ge rfl (e := 8) rfl (by omega) (by omega) (fun c_5 => ?_) (fun c_5 => ?_)
      · refine wx_aload_n rfl (e := 27) rfl rfl ?_
        refine wx_aload_n rfl (e := 28) rfl rfl ?_
        refine wx_getr rfl (e := 31) rfl rfl rfl ?_
        refine wx_aload_n rfl (e := 32) rfl rfl ?_
        refine wx_geti rfl (e := 35) rfl rfl ?_
        rw [f2 55 (by decide), m18]
        refine wn_iald rfl (e := 36) rfl rfl (by omega) (by decide) ?_
        rw [f2 76 (by decide), m76]
        refine wx_puti rfl (e := 39) rfl rfl (by decide) ?_
        refine wx_ret rfl rfl ⟨by decide, by decide⟩ ?_
        exact hq _ (fun q a b => by rw [wr_other _ _ _ _ a]; exact f2 q b) (fun k hk => by rw [wr_at, if_pos rfl, if_neg hk, f2 55 (by decide)]) (by rw [wr_at, if_pos rfl, if_pos rfl]) (fun k hk => by rw [wr_other _ _ _ _ (by decide)]; exact g2 k (by omega))
      · refine wx_aload_n rfl (e := 9) rfl rfl ?_
        refine wx_getr rfl (e := 12) rfl rfl rfl ?_
        refine wx_iload_n rfl (e := 13) rfl rfl ?_
        refine wx_aload_n rfl (e := 14) rfl rfl ?_
        refine wx_getr rfl (e := 17) rfl rfl rfl ?_
        refine wx_iload_n rfl (e := 18) rfl rfl ?_
        refine wn_iald rfl (e := 19) rfl rfl (by omega) (by decide) ?_
        rw [f2 90 (by decide)]
        refine wn_iast rfl (e := 20) rfl rfl (by decide) (by omega) (by decide) ?_
        refine wn_iinc (m := 1) (L2 := [_, _]) rfl (e := 23) rfl rfl (by decide) rfl ?_
        refine wx_goto rfl ?_
        refine ih (i + 1) _ (by omega) (by omega) (fun q h => (wr_other _ _ _ _ h).trans (f2 q h)) (wr_ext rfl (fun k hk hne => g2 k (by omega)))
  refine wx_in (M := mX11_copies) rfl rfl rfl (Nat.le_of_ble_eq_true rfl) ?_
  refine wx_iconst (v := (nI 0)) rfl (e := 1) rfl (by decide) ?_
  refine wx_istore_n (L2 := [_, _]) rfl (e := 2) rfl (by decide) rfl ?_
  exact loop 50 0 I (by omega) (by omega) (fun _ _ => rfl) (fun k hk => absurd hk (Nat.not_lt_zero _))
def MR (I : Nat → Nat → Int32) (r : rw_) : Prop := ∀ k, k < 49 → I 91 k = r k
theorem MR.kept {I I2 : Nat → Nat → Int32} {r : rw_} (h : MR I r) (hk : I2 91 = I 91) : MR I2 r := fun k h2 => by rw [hk]; exact h k h2
theorem fml.R {I I2 : Nat → Nat → Int32} {r : rw_} (h : fml I I2) (hR : MR I r) : MR I2 r := hR.kept (h.1 91 (by decide) (by decide) (by decide))
/-- how many of the first n -/
def ctN (f : Nat → Bool) : Nat → Nat
  | 0 => 0
  | e + 1 => ctN f e + (if f e = true then 1 else 0)
def btN (f : Nat → Bool) : Nat → Nat
  | 0 => 0
  | e + 1 => btN f e + (if f e = true then 2 ^ e else 0)
theorem ctN_6 (f : Nat → Bool) : ctN f 6 = cnF f := by
  unfold cnF cn6; simp only [ctN]; omega
theorem btN_6 (f : Nat → Bool) : btN f 6 = bsF f := by
  unfold bsF bs6; simp only [btN]; simp
theorem ctN_no {f : Nat → Bool} {R : Nat} (hf : ∀ e, R ≤ e → e < 6 → f e = false) : ∀ n, R + n ≤ 6 → ctN f (R + n) = ctN f R
  | 0, _ => rfl
  | n + 1, h => by
    rw [show R + (n + 1) = R + n + 1 by omega, ctN, ctN_no hf n (by omega), if_neg (by rw [hf (R + n) (by omega) (by omega)]; decide)]; rfl
theorem btN_no {f : Nat → Bool} {R : Nat} (hf : ∀ e, R ≤ e → e < 6 → f e = false) : ∀ n, R + n ≤ 6 → btN f (R + n) = btN f R
  | 0, _ => rfl
  | n + 1, h => by
    rw [show R + (n + 1) = R + n + 1 by omega, btN, btN_no hf n (by omega), if_neg (by rw [hf (R + n) (by omega) (by omega)]; decide)]; rfl
theorem ctN_R {f : Nat → Bool} {R : Nat} (hR : R ≤ 6) (hf : ∀ e, R ≤ e → e < 6 → f e = false) : ctN f R = cnF f := by
  rw [← ctN_6, ← ctN_no hf (6 - R) (by omega), show R + (6 - R) = 6 by omega]
theorem btN_R {f : Nat → Bool} {R : Nat} (hR : R ≤ 6) (hf : ∀ e, R ≤ e → e < 6 → f e = false) : btN f R = bsF f := by
  rw [← btN_6, ← btN_no hf (6 - R) (by omega), show R + (6 - R) = 6 by omega]
theorem btN_lt (f : Nat → Bool) : ∀ n, btN f n < 2 ^ n
  | 0 => Nat.zero_lt_one
  | n + 1 => by
    have := btN_lt f n
    rw [btN, Nat.pow_succ]
    split <;> omega
theorem ctN_le (f : Nat → Bool) : ∀ n, ctN f n ≤ n
  | 0 => Nat.le_refl _
  | n + 1 => by
    have := ctN_le f n
    rw [ctN]
    split <;> omega
theorem at_no {T : tx} {r : rw_} (hr : ∀ e, tR T ≤ e → e < 6 → r (6 + e) = -1) {c : Nat} (hc : c < 6) : ∀ e, tR T ≤ e → e < 6 → atC r c e = false := fun e h1 h2 => by
  unfold atC; rw [hr e h1 h2, decide_eq_false_iff_not]; exact nI_m1 hc
theorem at_iff {r : rw_} {c e : Nat} : atC r c e = true ↔ r (6 + e) = nI c := by unfold atC; rw [decide_eq_true_iff]
theorem c_X11_relicsAt {d Lx t rt u : Nat} {I : Nat → Nat → Int32} {G : Nat → Nat → Int64} {Q : ab_Q} {lv : Nat} {T : tx} (hM : MT lv I T) {r : rw_} (hR : MR I r) (hr : ∀ e, tR T ≤ e → e < 6 → r (6 + e) = -1) {c : Nat} (hc : c < 6) (hq : Q (some (.int (nI (cnF (atC r c))))) (hp Lx t rt u I G)) : ab_call ab_MT (d + 1) 229 [.ref 55, .int (nI c)] (hp Lx t rt u I G) 0 0 Q := by
  obtain ⟨hlv, ⟨hC6, hR6, hP5, hH, hTf, hFn, hLx⟩, m18, m65, m69, m72, m76, m71, m89, m73, mL⟩ := id hM
  have loop : ∀ (n : Nat) (e : Nat), e ≤ tR T → tR T - e < n → WP d mX11_relicsAt Q 4 [some (.ref 55), some (.int (nI c)), some (.int (nI (ctN (atC r c) e))), some (.int (nI e))] [] (hp Lx t rt u I G) 0 0 := by
    intro n
    induction n with
    | zero => intro e hi hn; omega
    | succ n ih =>
      intro e hi hn
      refine wx_iload_n rfl (e := 5) rfl rfl ?_
      refine wx_aload_n rfl (e := 6) rfl rfl ?_
      refine wx_getr rfl (e := 9) rfl rfl rfl ?_
      refine wx_aload_n rfl (e := 10) rfl rfl ?_
      refine wx_geti rfl (e := 13) rfl rfl ?_
      rw [m18]
      refine wn_iald rfl (e := 14) rfl rfl (by omega) (by decide) ?_
      rw [m69]
      refine wn_ic_ge rfl (e := 17) rfl (by omega) (by omega) (fun c_14 => ?_) (fun c_14 => ?_)
      · refine wx_iload_n rfl (e := 40) rfl rfl ?_
        refine wx_iret rfl rfl rfl ⟨by decide, by decide⟩ ?_
        have ee : e = tR T := by omega
        subst ee
        rw [ctN_R hR6 (at_no hr hc)]
        exact hq
      · refine wx_aload_n rfl (e := 18) rfl rfl ?_
        refine wx_getr rfl (e := 21) rfl rfl rfl ?_
        refine wx_bipush (v := (nI 6)) rfl (e := 23) rfl (by decide) ?_
        refine wx_iload_n rfl (e := 24) rfl rfl ?_
        refine wn_iadd rfl (e := 25) rfl ?_
        refine wn_iald rfl (e := 26) rfl rfl (by omega) (by decide) ?_
        rw [hR _ (by omega)]
        refine wx_iload_n rfl (e := 27) rfl rfl ?_
        refine wx_ic_ne rfl (e := 30) rfl (fun c_27 => ?_) (fun c_27 => ?_)
        · have hG : ctN (atC r c) (e + 1) = ctN (atC r c) e := by rw [ctN, if_neg (fun z => c_27 (at_iff.mp z))]; rfl
          refine wn_iinc (m := 1) (L2 := [_, _, _, _]) rfl (e := 36) rfl rfl (by decide) rfl ?_
          refine wx_goto rfl ?_
          have hh := ih (e + 1) (by omega) (by omega)
          rw [hG] at hh
          exact hh
        · have hG : ctN (atC r c) (e + 1) = ctN (atC r c) e + 1 := by rw [ctN, if_pos (at_iff.mpr c_27)]
          refine wn_iinc (m := 1) (L2 := [_, _, _, _]) rfl (e := 33) rfl rfl (by decide) rfl ?_
          refine wn_iinc (m := 1) (L2 := [_, _, _, _]) rfl (e := 36) rfl rfl (by decide) rfl ?_
          refine wx_goto rfl ?_
          have hh := ih (e + 1) (by omega) (by omega)
          rw [hG] at hh
          exact hh
  refine wx_in (M := mX11_relicsAt) rfl rfl rfl (Nat.le_of_ble_eq_true rfl) ?_
  refine wx_iconst (v := (nI 0)) rfl (e := 1) rfl (by decide) ?_
  refine wx_istore_n (L2 := [_, _, _, _]) rfl (e := 2) rfl (by decide) rfl ?_
  refine wx_iconst (v := (nI 0)) rfl (e := 3) rfl (by decide) ?_
  refine wx_istore_n (L2 := [_, _, _, _]) rfl (e := 4) rfl (by decide) rfl ?_
  exact loop (tR T + 1) 0 (by omega) (by omega)
theorem c_X11_trueAt {d Lx t rt u : Nat} {I : Nat → Nat → Int32} {G : Nat → Nat → Int64} {Q : ab_Q} {lv : Nat} {T : tx} (hM : MT lv I T) {r : rw_} (hR : MR I r) (hr : ∀ e, tR T ≤ e → e < 6 → r (6 + e) = -1) {c : Nat} (hc : c < 6) (hq : Q (some (.int (nI (cnF (fun e => atC r c e && tT T e))))) (hp Lx t rt u I G)) : ab_call ab_MT (d + 1) 230 [.ref 55, .int (nI c)] (hp Lx t rt u I G) 0 0 Q := by
  obtain ⟨hlv, ⟨hC6, hR6, hP5, hH, hTf, hFn, hLx⟩, m18, m65, m69, m72, m76, m71, m89, m73, mL⟩ := id hM
  have loop : ∀ (n : Nat) (e : Nat), e ≤ tR T → tR T - e < n → WP d mX11_trueAt Q 4 [some (.ref 55), some (.int (nI c)), some (.int (nI (ctN (fun e => atC r c e && tT T e) e))), some (.int (nI e))] [] (hp Lx t rt u I G) 0 0 := by
    intro n
    induction n with
    | zero => intro e hi hn; omega
    | succ n ih =>
      intro e hi hn
      refine wx_iload_n rfl (e := 5) rfl rfl ?_
      refine wx_aload_n rfl (e := 6) rfl rfl ?_
      refine wx_getr rfl (e := 9) rfl rfl rfl ?_
      refine wx_aload_n rfl (e := 10) rfl rfl ?_
      refine wx_geti rfl (e := 13) rfl rfl ?_
      rw [m18]
      refine wn_iald rfl (e := 14) rfl rfl (by omega) (by decide) ?_
      rw [m69]
      refine wn_ic_ge rfl (e := 17) rfl (by omega) (by omega) (fun c_14 => ?_) (fun c_14 => ?_)
      · refine wx_iload_n rfl (e := 54) rfl rfl ?_
        refine wx_iret rfl rfl rfl ⟨by decide, by decide⟩ ?_
        have ee : e = tR T := by omega
        subst ee
        rw [ctN_R hR6 (fun e h1 h2 => by rw [at_no hr hc e h1 h2, Bool.false_and])]
        exact hq
      · refine wx_aload_n rfl (e := 18) rfl rfl ?_
        refine wx_getr rfl (e := 21) rfl rfl rfl ?_
        refine wx_bipush (v := (nI 6)) rfl (e := 23) rfl (by decide) ?_
        refine wx_iload_n rfl (e := 24) rfl rfl ?_
        refine wn_iadd rfl (e := 25) rfl ?_
        refine wn_iald rfl (e := 26) rfl rfl (by omega) (by decide) ?_
        rw [hR _ (by omega)]
        refine wx_iload_n rfl (e := 27) rfl rfl ?_
        refine wx_ic_ne rfl (e := 30) rfl (fun c_27 => ?_) (fun c_27 => ?_)
        · have hG : ctN (fun e => atC r c e && tT T e) (e + 1) = ctN (fun e => atC r c e && tT T e) e := by rw [ctN, if_neg (fun z => c_27 (at_iff.mp (Bool.and_eq_true_iff.mp z).1))]; rfl
          refine wn_iinc (m := 1) (L2 := [_, _, _, _]) rfl (e := 50) rfl rfl (by decide) rfl ?_
          refine wx_goto rfl ?_
          have hh := ih (e + 1) (by omega) (by omega)
          rw [hG] at hh
          exact hh
        · have hG : nI (ctN (fun e => atC r c e && tT T e) (e + 1)) = nI (ctN (fun e => atC r c e && tT T e) e) + b1 (tT T e) := by
            rw [ctN, show atC r c e = true from at_iff.mpr c_27, Bool.true_and]
            cases tT T e
            · exact (nI_add _ 0).symm
            · exact (nI_add _ 1).symm
          refine wx_iload_n rfl (e := 31) rfl rfl ?_
          refine wx_aload_n rfl (e := 32) rfl rfl ?_
          refine wx_getr rfl (e := 35) rfl rfl rfl ?_
          refine wx_bipush (v := (nI 6)) rfl (e := 37) rfl (by decide) ?_
          refine wx_aload_n rfl (e := 38) rfl rfl ?_
          refine wx_geti rfl (e := 41) rfl rfl ?_
          rw [m18]
          refine wn_imul rfl (e := 42) rfl ?_
          refine wx_iload_n rfl (e := 43) rfl rfl ?_
          refine wn_iadd rfl (e := 44) rfl ?_
          refine wn_iald rfl (e := 45) rfl rfl (by omega) (by decide) ?_
          rw [m71 e (by omega)]
          refine wx_iadd rfl (e := 46) rfl ?_
          refine wx_istore_n (L2 := [_, _, _, _]) rfl (e := 47) rfl (by decide) rfl ?_
          refine wn_iinc (m := 1) (L2 := [_, _, _, _]) rfl (e := 50) rfl rfl (by decide) rfl ?_
          refine wx_goto rfl ?_
          have hh := ih (e + 1) (by omega) (by omega)
          rw [hG] at hh
          exact hh
  refine wx_in (M := mX11_trueAt) rfl rfl rfl (Nat.le_of_ble_eq_true rfl) ?_
  refine wx_iconst (v := (nI 0)) rfl (e := 1) rfl (by decide) ?_
  refine wx_istore_n (L2 := [_, _, _, _]) rfl (e := 2) rfl (by decide) rfl ?_
  refine wx_iconst (v := (nI 0)) rfl (e := 3) rfl (by decide) ?_
  refine wx_istore_n (L2 := [_, _, _, _]) rfl (e := 4) rfl (by decide) rfl ?_
  exact loop (tR T + 1) 0 (by omega) (by omega)
theorem c_X11_relicBits {d Lx t rt u : Nat} {I : Nat → Nat → Int32} {G : Nat → Nat → Int64} {Q : ab_Q} {lv : Nat} {T : tx} (hM : MT lv I T) {r : rw_} (hR : MR I r) (hr : ∀ e, tR T ≤ e → e < 6 → r (6 + e) = -1) {c : Nat} (hc : c < 6) (hq : Q (some (.int (nI (bsF (atC r c))))) (hp Lx t rt u I G)) : ab_call ab_MT (d + 1) 245 [.ref 55, .int (nI c)] (hp Lx t rt u I G) 0 0 Q := by
  obtain ⟨hlv, ⟨hC6, hR6, hP5, hH, hTf, hFn, hLx⟩, m18, m65, m69, m72, m76, m71, m89, m73, mL⟩ := id hM
  have loop : ∀ (n : Nat) (e : Nat), e ≤ tR T → tR T - e < n → WP d mX11_relicBits Q 4 [some (.ref 55), some (.int (nI c)), some (.int (nI (btN (atC r c) e))), some (.int (nI e))] [] (hp Lx t rt u I G) 0 0 := by
    intro n
    induction n with
    | zero => intro e hi hn; omega
    | succ n ih =>
      intro e hi hn
      refine wx_iload_n rfl (e := 5) rfl rfl ?_
      refine wx_aload_n rfl (e := 6) rfl rfl ?_
      refine wx_getr rfl (e := 9) rfl rfl rfl ?_
      refine wx_aload_n rfl (e := 10) rfl rfl ?_
      refine wx_geti rfl (e := 13) rfl rfl ?_
      rw [m18]
      refine wn_iald rfl (e := 14) rfl rfl (by omega) (by decide) ?_
      rw [m69]
      refine wn_ic_ge rfl (e := 17) rfl (by omega) (by omega) (fun c_14 => ?_) (fun c_14 => ?_)
      · refine wx_iload_n rfl (e := 43) rfl rfl ?_
        refine wx_iret rfl rfl rfl ⟨by decide, by decide⟩ ?_
        have ee : e = tR T := by omega
        subst ee
        rw [btN_R hR6 (at_no hr hc)]
        exact hq
      · refine wx_aload_n rfl (e := 18) rfl rfl ?_
        refine wx_getr rfl (e := 21) rfl rfl rfl ?_
        refine wx_bipush (v := (nI 6)) rfl (e := 23) rfl (by decide) ?_
        refine wx_iload_n rfl (e := 24) rfl rfl ?_
        refine wn_iadd rfl (e := 25) rfl ?_
        refine wn_iald rfl (e := 26) rfl rfl (by omega) (by decide) ?_
        rw [hR _ (by omega)]
        refine wx_iload_n rfl (e := 27) rfl rfl ?_
        refine wx_ic_ne rfl (e := 30) rfl (fun c_27 => ?_) (fun c_27 => ?_)
        · have hG : btN (atC r c) (e + 1) = btN (atC r c) e := by rw [btN, if_neg (fun z => c_27 (at_iff.mp z))]; rfl
          refine wn_iinc (m := 1) (L2 := [_, _, _, _]) rfl (e := 39) rfl rfl (by decide) rfl ?_
          refine wx_goto rfl ?_
          have hh := ih (e + 1) (by omega) (by omega)
          rw [hG] at hh
          exact hh
        · have hG : btN (atC r c) (e + 1) = btN (atC r c) e + 2 ^ e := by rw [btN, if_pos (at_iff.mpr c_27)]
          refine wx_iload_n rfl (e := 31) rfl rfl ?_
          refine wx_iconst (v := (nI 1)) rfl (e := 32) rfl (by decide) ?_
          refine wx_iload_n rfl (e := 33) rfl rfl ?_
          refine wx_ishl rfl (e := 34) rfl ?_
          refine wx_ior rfl (e := 35) rfl ?_
          rw [or6 e (by omega) _ (btN_lt _ e)]
          refine wx_istore_n (L2 := [_, _, _, _]) rfl (e := 36) rfl (by decide) rfl ?_
          refine wn_iinc (m := 1) (L2 := [_, _, _, _]) rfl (e := 39) rfl rfl (by decide) rfl ?_
          refine wx_goto rfl ?_
          have hh := ih (e + 1) (by omega) (by omega)
          rw [hG] at hh
          exact hh
  refine wx_in (M := mX11_relicBits) rfl rfl rfl (Nat.le_of_ble_eq_true rfl) ?_
  refine wx_iconst (v := (nI 0)) rfl (e := 1) rfl (by decide) ?_
  refine wx_istore_n (L2 := [_, _, _, _]) rfl (e := 2) rfl (by decide) rfl ?_
  refine wx_iconst (v := (nI 0)) rfl (e := 3) rfl (by decide) ?_
  refine wx_istore_n (L2 := [_, _, _, _]) rfl (e := 4) rfl (by decide) rfl ?_
  exact loop (tR T + 1) 0 (by omega) (by omega)
theorem c_X11_farFor {d Lx t rt u : Nat} {I : Nat → Nat → Int32} {G : Nat → Nat → Int64} {Q : ab_Q} {lv : Nat} {T : tx} (hM : MT lv I T) {a c : Nat} (ha : a < tP T) (hc : c < tC T) (hq : Q (some (.int (tF T (tH T a) c))) (hp Lx t rt u I G)) : ab_call ab_MT (d + 1) 231 [.ref 55, .int (nI a), .int (nI c)] (hp Lx t rt u I G) 0 0 Q := by
  obtain ⟨hlv, ⟨hC6, hR6, hP5, hH, hTf, hFn, hLx⟩, m18, m65, m69, m72, m76, m71, m89, m73, mL⟩ := id hM
  have hha := hH a ha
  refine wx_in (M := mX11_farFor) rfl rfl rfl (Nat.le_of_ble_eq_true rfl) ?_
  refine wx_aload_n rfl (e := 1) rfl rfl ?_
  refine wx_getr rfl (e := 4) rfl rfl rfl ?_
  refine wx_bipush (v := (nI 6)) rfl (e := 6) rfl (by decide) ?_
  refine wx_aload_n rfl (e := 7) rfl rfl ?_
  refine wx_getr rfl (e := 10) rfl rfl rfl ?_
  refine wx_iconst (v := (nI 5)) rfl (e := 11) rfl (by decide) ?_
  refine wx_aload_n rfl (e := 12) rfl rfl ?_
  refine wx_geti rfl (e := 15) rfl rfl ?_
  rw [m18]
  refine wn_imul rfl (e := 16) rfl ?_
  refine wx_iload_n rfl (e := 17) rfl rfl ?_
  refine wn_iadd rfl (e := 18) rfl ?_
  refine wn_iald rfl (e := 19) rfl rfl (by omega) (by decide) ?_
  rw [(m73 a ha).1]
  refine wn_imul rfl (e := 20) rfl ?_
  refine wx_iload_n rfl (e := 21) rfl rfl ?_
  refine wn_iadd rfl (e := 22) rfl ?_
  refine wn_iald rfl (e := 23) rfl rfl (by omega) (by decide) ?_
  rw [m89 _ _ hha hc]
  refine wx_iret rfl rfl rfl ⟨by decide, by decide⟩ ?_
  exact hq
theorem c_X11_looks {d Lx t rt u : Nat} {I : Nat → Nat → Int32} {G : Nat → Nat → Int64} {Q : ab_Q} {r : rw_} (hR : MR I r) (hq : ∀ I2, (∀ q, q ≠ 87 → I2 q = I q) → (∀ k, k < 9 → I2 87 k = if k = 7 then r 46 else nI 0) → Q none (hp Lx t rt u I2 G)) : ab_call ab_MT (d + 1) 232 [.ref 55] (hp Lx t rt u I G) 0 0 Q := by
  have loop : ∀ (n : Nat) (i : Nat) (I2 : Nat → Nat → Int32), i ≤ 9 → 9 - i < n → (∀ q, q ≠ 87 → I2 q = I q) → (∀ k, k < i → I2 87 k = (fun _ => nI 0) k) → WP d mX11_looks Q 2 [some (.ref 55), some (.int (nI i))] [] (hp Lx t rt u I2 G) 0 0 := by
    intro n
    induction n with
    | zero => intro i I2 hi hn f2 g2; omega
    | succ n ih =>
      intro i I2 hi hn f2 g2
      refine wx_iload_n rfl (e := 3) rfl rfl ?_
      refine wx_bipush (v := (nI 9)) rfl (e := 5) rfl (by decide) ?_
      refine wn_ic_ge rfl (e := 8) rfl (by omega) (by omega) (fun c_5 => ?_) (fun c_5 => ?_)
      · refine wx_aload_n rfl (e := 22) rfl rfl ?_
        refine wx_getr rfl (e := 25) rfl rfl rfl ?_
        refine wx_bipush (v := (nI 7)) rfl (e := 27) rfl (by decide) ?_
        refine wx_aload_n rfl (e := 28) rfl rfl ?_
        refine wx_getr rfl (e := 31) rfl rfl rfl ?_
        refine wx_bipush (v := (nI 46)) rfl (e := 33) rfl (by decide) ?_
        refine wn_iald rfl (e := 34) rfl rfl (by omega) (by decide) ?_
        rw [f2 91 (by decide), hR 46 (by omega)]
        refine wn_iast rfl (e := 35) rfl rfl (by decide) (by omega) (by decide) ?_
        refine wx_ret rfl rfl ⟨by decide, by decide⟩ ?_
        refine hq _ (fun q h => (wr_other _ _ _ _ h).trans (f2 q h)) (fun k hk => ?_)
        rw [wr_at, if_pos rfl]
        by_cases z : k = 7
        · rw [if_pos z, if_pos z]
        · rw [if_neg z, if_neg z]; exact g2 k (by omega)
      · refine wx_aload_n rfl (e := 9) rfl rfl ?_
        refine wx_getr rfl (e := 12) rfl rfl rfl ?_
        refine wx_iload_n rfl (e := 13) rfl rfl ?_
        refine wx_iconst (v := (nI 0)) rfl (e := 14) rfl (by decide) ?_
        refine wn_iast rfl (e := 15) rfl rfl (by decide) (by omega) (by decide) ?_
        refine wn_iinc (m := 1) (L2 := [_, _]) rfl (e := 18) rfl rfl (by decide) rfl ?_
        refine wx_goto rfl ?_
        refine ih (i + 1) _ (by omega) (by omega) (fun q h => (wr_other _ _ _ _ h).trans (f2 q h)) (wr_ext rfl (fun k hk hne => g2 k (by omega)))
  refine wx_in (M := mX11_looks) rfl rfl rfl (Nat.le_of_ble_eq_true rfl) ?_
  refine wx_iconst (v := (nI 0)) rfl (e := 1) rfl (by decide) ?_
  refine wx_istore_n (L2 := [_, _]) rfl (e := 2) rfl (by decide) rfl ?_
  exact loop 10 0 I (by omega) (by omega) (fun _ _ => rfl) (fun k hk => absurd hk (Nat.not_lt_zero _))
theorem rev_0 {vs : Nat → Int32} {q : Nat × Int32} {p : rpn} {st : List Int32} (h : q.1 = 0) : rev_ vs (q :: p) st = rev_ vs p (q.2 :: st) := by
  conv => lhs; unfold rev_
  exact if_pos h
theorem rev_1 {vs : Nat → Int32} {q : Nat × Int32} {p : rpn} {st : List Int32} (h : q.1 = 1) : rev_ vs (q :: p) st = rev_ vs p (varS vs q.2 :: st) := by
  conv => lhs; unfold rev_
  exact (if_neg (by omega)).trans (if_pos h)
theorem rev_b {vs : Nat → Int32} {q : Nat × Int32} {p : rpn} {a b : Int32} {st : List Int32} (h0 : ¬ q.1 < 2) (h : q.1 = 5 ∧ b = nI 0) : rev_ vs (q :: p) (b :: a :: st) = none := by
  rw [rev_, if_neg (by omega), if_neg (by omega)]; exact if_pos h
theorem rev_o {vs : Nat → Int32} {q : Nat × Int32} {p : rpn} {a b : Int32} {st : List Int32} (h0 : ¬ q.1 < 2) (h : ¬ (q.1 = 5 ∧ b = nI 0)) : rev_ vs (q :: p) (b :: a :: st) = rev_ vs p (opS q.1 a b :: st) := by
  rw [rev_, if_neg (by omega), if_neg (by omega)]; exact if_neg h
theorem MC.le {I : Nat → Nat → Int32} : ∀ (p : rpn) (i j : Nat), MC I i j p → i ≤ j ∧ (i ≤ 840 → j ≤ 840)
  | [], i, j, h => by have h : i = j := h; omega
  | q :: p, i, j, h => by have := MC.le p _ _ h.2.2.2; have := h.1; omega
set_option maxHeartbeats 2000000 in
theorem c_X11_termOf {d Lx t rt u : Nat} {I : Nat → Nat → Int32} {G : Nat → Nat → Int64} {Q : ab_Q} {vs : Nat → Int32} {p : rpn} {i0 j : Nat} (hm : MC I i0 j p) (hi : i0 ≤ 840) (hw : rwf p 0) (hvs : ∀ k, k < 9 → I 87 k = vs k) (hb : rvl vs p = none → ∀ I2, fml I I2 → I2 55 50 = nI 1 → I2 87 = I 87 → Q (some (.int (nI 0))) (hp Lx t rt u I2 G)) (hv : ∀ v, rvl vs p = some v → ∀ I2, fml I I2 → I2 55 50 = I 55 50 → I2 87 = I 87 → Q (some (.int v)) (hp Lx t rt u I2 G)) : ab_call ab_MT (d + 1) 217 [.ref 55, .int (nI i0), .int (nI j)] (hp Lx t rt u I G) 0 0 Q := by
  have hj := (MC.le p _ _ hm).2 hi
  have loop : ∀ (p : rpn) (i : Nat) (st : List Int32) (I2 : Nat → Nat → Int32), MC I i j p → rwf p st.length → fml I I2 → I2 87 = I 87 → I2 55 50 = I 55 50 → stk (I2 88) st → st.length ≤ 16 → (rev_ vs p st = none → ∀ I3, fml I I3 → I3 55 50 = nI 1 → I3 87 = I 87 → Q (some (.int (nI 0))) (hp Lx t rt u I3 G)) → (∀ v w, rev_ vs p st = some (v :: w) → ∀ I3, fml I I3 → I3 55 50 = I 55 50 → I3 87 = I 87 → Q (some (.int v)) (hp Lx t rt u I3 G)) → ∀ z5 z6 z7, WP d mX11_termOf Q 5 [some (.ref 55), some (.int (nI i0)), some (.int (nI j)), some (.int (nI st.length)), some (.int (nI i)), z5, z6, z7] [] (hp Lx t rt u I2 G) 0 0 := by
    intro p
    induction p with
    | nil =>
      intro i st I2 hm hw f2 e7 e5 hs hl16 hb hv z5 z6 z7
      have hij : i = j := hm
      have hl : st.length = 1 := hw
      obtain ⟨v, rfl⟩ : ∃ v, st = [v] := by
        rcases st with _ | ⟨v, _ | ⟨w, st⟩⟩
        · exact absurd hl (by decide)
        · exact ⟨v, rfl⟩
        · simp at hl
      refine wx_iload rfl (e := 7) rfl rfl ?_
      refine wx_iload_n rfl (e := 8) rfl rfl ?_
      refine wn_ic_ge rfl (e := 11) rfl (by omega) (by omega) (fun c_8 => ?_) (fun c_8 => absurd c_8 (by omega))
      refine wx_aload_n rfl (e := 166) rfl rfl ?_
      refine wx_getr rfl (e := 169) rfl rfl rfl ?_
      refine wx_iconst (v := (nI 0)) rfl (e := 170) rfl (by decide) ?_
      refine wn_iald rfl (e := 171) rfl rfl (by omega) (by decide) ?_
      refine wx_iret rfl rfl rfl ⟨by decide, by decide⟩ ?_
      rw [show I2 88 0 = v from hs.1]
      exact hv v [] rfl _ f2 e5 e7
    | cons q p ih =>
      intro i st I2 hm hw f2 e7 e5 hs hl16 hb hv z5 z6 z7
      have hmle := MC.le p _ _ hm.2.2.2
      have hq5 : q.1 ≤ 5 := by
        rw [rwf] at hw
        split at hw
        · omega
        · exact hw.1
      rw [rwf] at hw
      refine wx_iload rfl (e := 7) rfl rfl ?_
      refine wx_iload_n rfl (e := 8) rfl rfl ?_
      refine wn_ic_ge rfl (e := 11) rfl (by omega) (by omega) (fun c_8 => absurd c_8 (by omega)) (fun c_8 => ?_)
      refine wx_aload_n rfl (e := 12) rfl rfl ?_
      refine wx_getr rfl (e := 15) rfl rfl rfl ?_
      refine wx_iload rfl (e := 17) rfl rfl ?_
      refine wn_iald rfl (e := 18) rfl rfl (by omega) (by decide) ?_
      rw [f2.1 84 (by decide) (by decide) (by decide), hm.2.1]
      refine wx_istore (L2 := [_, _, _, _, _, _, _, _]) rfl (e := 20) rfl (by decide) rfl ?_
      refine wx_iload rfl (e := 22) rfl rfl ?_
      refine wx_iconst (v := (nI 2)) rfl (e := 23) rfl (by decide) ?_
      refine wn_ic_ge rfl (e := 26) rfl (by omega) (by omega) (fun c_23 => ?_) (fun c_23 => ?_)
      · rw [if_neg (show ¬ q.1 < 2 by omega)] at hw
        obtain ⟨b, a, st, rfl⟩ : ∃ b a s2, st = b :: a :: s2 := by
          rcases st with _ | ⟨b, _ | ⟨a, s2⟩⟩
          · exact absurd hw.2.1 (by simp)
          · exact absurd hw.2.1 (by simp)
          · exact ⟨b, a, s2, rfl⟩
        obtain ⟨hs1, hs2, hs3⟩ := hs
        simp only [List.length_cons] at hs1 hs2 hw hl16 ⊢
        refine wn_idec (m := 0) (L2 := [_, _, _, _, _, _, _, _]) rfl (e := 68) rfl rfl (by omega) (by decide) rfl ?_
        refine wx_aload_n rfl (e := 69) rfl rfl ?_
        refine wx_getr rfl (e := 72) rfl rfl rfl ?_
        refine wx_iload_n rfl (e := 73) rfl rfl ?_
        refine wx_iconst (v := (nI 1)) rfl (e := 74) rfl (by decide) ?_
        refine wn_isub rfl (e := 75) rfl (by omega) ?_
        refine wn_iald rfl (e := 76) rfl rfl (by omega) (by decide) ?_
        rw [show st.length + 1 + 1 - 1 = st.length + 1 by omega, show st.length + 1 - 1 = st.length by omega, hs2]
        refine wx_istore (L2 := [_, _, _, _, _, _, _, _]) rfl (e := 78) rfl (by decide) rfl ?_
        refine wx_aload_n rfl (e := 79) rfl rfl ?_
        refine wx_getr rfl (e := 82) rfl rfl rfl ?_
        refine wx_iload_n rfl (e := 83) rfl rfl ?_
        refine wn_iald rfl (e := 84) rfl rfl (by omega) (by decide) ?_
        rw [hs1]
        refine wx_istore (L2 := [_, _, _, _, _, _, _, _]) rfl (e := 86) rfl (by decide) rfl ?_
        refine wx_iload rfl (e := 88) rfl rfl ?_
        refine wx_iconst (v := (nI 5)) rfl (e := 89) rfl (by decide) ?_
        refine wn_ic_ne rfl (e := 92) rfl (by omega) (by omega) (fun c_89 => ?_) (fun c_89 => ?_)
        · have hnz : ¬ (q.1 = 5 ∧ b = nI 0) := fun z => c_89 z.1
          refine wx_aload_n rfl (e := 105) rfl rfl ?_
          refine wx_getr rfl (e := 108) rfl rfl rfl ?_
          refine wx_iload_n rfl (e := 109) rfl rfl ?_
          refine wx_iconst (v := (nI 1)) rfl (e := 110) rfl (by decide) ?_
          refine wn_isub rfl (e := 111) rfl (by omega) ?_
          refine wx_iload rfl (e := 113) rfl rfl ?_
          refine wx_iconst (v := (nI 2)) rfl (e := 114) rfl (by decide) ?_
          refine wn_ic_ne rfl (e := 117) rfl (by omega) (by omega) (fun c_114 => ?_) (fun c_114 => ?_)
          · refine wx_iload rfl (e := 127) rfl rfl ?_
            refine wx_iconst (v := (nI 3)) rfl (e := 128) rfl (by decide) ?_
            refine wn_ic_ne rfl (e := 131) rfl (by omega) (by omega) (fun c_128 => ?_) (fun c_128 => ?_)
            · refine wx_iload rfl (e := 141) rfl rfl ?_
              refine wx_iconst (v := (nI 4)) rfl (e := 142) rfl (by decide) ?_
              refine wn_ic_ne rfl (e := 145) rfl (by omega) (by omega) (fun c_142 => ?_) (fun c_142 => ?_)
              · refine wx_iload rfl (e := 155) rfl rfl ?_
                refine wx_iload rfl (e := 157) rfl rfl ?_
                refine wx_idiv rfl (e := 158) rfl (fun z => hnz ⟨by omega, z⟩) ?_
                refine wn_iast rfl (e := 159) rfl rfl (by decide) (by omega) (by decide) ?_
                refine wn_iinc (m := 1) (L2 := [_, _, _, _, _, _, _, _]) rfl (e := 162) rfl rfl (by decide) rfl ?_
                refine wx_goto rfl ?_
                have ho : opS q.1 a b = (a / b) := by unfold opS; rw [if_neg (by omega), if_neg (by omega), if_neg (by omega)]
                have hz : rev_ vs (q :: p) (b :: a :: st) = rev_ vs p ((a / b) :: st) := by rw [rev_o (by omega) hnz, ho]
                rw [show st.length + 1 - 1 = st.length by omega]
                refine ih (i + 1) ((a / b) :: st) _ hm.2.2.2 (by rw [List.length_cons]; exact hw.2.2) (f2.tr (fml.w8 _ _)) ((wr_other _ _ _ _ (by decide)).trans e7) ((congrFun (wr_other _ _ _ _ (by decide)) 50).trans e5) ⟨by rw [wr_at, if_pos rfl, if_pos rfl], stk.up (Nat.le_refl _) hs3⟩ (by rw [List.length_cons]; omega) (fun z => hb (hz.trans z)) (fun v w z => hv v w (hz.trans z)) _ _ _
              · refine wx_iload rfl (e := 147) rfl rfl ?_
                refine wx_iload rfl (e := 149) rfl rfl ?_
                refine wx_imul rfl (e := 150) rfl ?_
                refine wx_goto rfl ?_
                refine wn_iast rfl (e := 159) rfl rfl (by decide) (by omega) (by decide) ?_
                refine wn_iinc (m := 1) (L2 := [_, _, _, _, _, _, _, _]) rfl (e := 162) rfl rfl (by decide) rfl ?_
                refine wx_goto rfl ?_
                have ho : opS q.1 a b = (a * b) := by unfold opS; rw [if_neg (by omega), if_neg (by omega), if_pos (by omega)]
                have hz : rev_ vs (q :: p) (b :: a :: st) = rev_ vs p ((a * b) :: st) := by rw [rev_o (by omega) hnz, ho]
                rw [show st.length + 1 - 1 = st.length by omega]
                refine ih (i + 1) ((a * b) :: st) _ hm.2.2.2 (by rw [List.length_cons]; exact hw.2.2) (f2.tr (fml.w8 _ _)) ((wr_other _ _ _ _ (by decide)).trans e7) ((congrFun (wr_other _ _ _ _ (by decide)) 50).trans e5) ⟨by rw [wr_at, if_pos rfl, if_pos rfl], stk.up (Nat.le_refl _) hs3⟩ (by rw [List.length_cons]; omega) (fun z => hb (hz.trans z)) (fun v w z => hv v w (hz.trans z)) _ _ _
            · refine wx_iload rfl (e := 133) rfl rfl ?_
              refine wx_iload rfl (e := 135) rfl rfl ?_
              refine wx_isub rfl (e := 136) rfl ?_
              refine wx_goto rfl ?_
              refine wn_iast rfl (e := 159) rfl rfl (by decide) (by omega) (by decide) ?_
              refine wn_iinc (m := 1) (L2 := [_, _, _, _, _, _, _, _]) rfl (e := 162) rfl rfl (by decide) rfl ?_
              refine wx_goto rfl ?_
              have ho : opS q.1 a b = (a - b) := by unfold opS; rw [if_neg (by omega), if_pos (by omega)]
              have hz : rev_ vs (q :: p) (b :: a :: st) = rev_ vs p ((a - b) :: st) := by rw [rev_o (by omega) hnz, ho]
              rw [show st.length + 1 - 1 = st.length by omega]
              refine ih (i + 1) ((a - b) :: st) _ hm.2.2.2 (by rw [List.length_cons]; exact hw.2.2) (f2.tr (fml.w8 _ _)) ((wr_other _ _ _ _ (by decide)).trans e7) ((congrFun (wr_other _ _ _ _ (by decide)) 50).trans e5) ⟨by rw [wr_at, if_pos rfl, if_pos rfl], stk.up (Nat.le_refl _) hs3⟩ (by rw [List.length_cons]; omega) (fun z => hb (hz.trans z)) (fun v w z => hv v w (hz.trans z)) _ _ _
          · refine wx_iload rfl (e := 119) rfl rfl ?_
            refine wx_iload rfl (e := 121) rfl rfl ?_
            refine wx_iadd rfl (e := 122) rfl ?_
            refine wx_goto rfl ?_
            refine wn_iast rfl (e := 159) rfl rfl (by decide) (by omega) (by decide) ?_
            refine wn_iinc (m := 1) (L2 := [_, _, _, _, _, _, _, _]) rfl (e := 162) rfl rfl (by decide) rfl ?_
            refine wx_goto rfl ?_
            have ho : opS q.1 a b = (a + b) := by unfold opS; rw [if_pos (by omega)]
            have hz : rev_ vs (q :: p) (b :: a :: st) = rev_ vs p ((a + b) :: st) := by rw [rev_o (by omega) hnz, ho]
            rw [show st.length + 1 - 1 = st.length by omega]
            refine ih (i + 1) ((a + b) :: st) _ hm.2.2.2 (by rw [List.length_cons]; exact hw.2.2) (f2.tr (fml.w8 _ _)) ((wr_other _ _ _ _ (by decide)).trans e7) ((congrFun (wr_other _ _ _ _ (by decide)) 50).trans e5) ⟨by rw [wr_at, if_pos rfl, if_pos rfl], stk.up (Nat.le_refl _) hs3⟩ (by rw [List.length_cons]; omega) (fun z => hb (hz.trans z)) (fun v w z => hv v w (hz.trans z)) _ _ _
        · refine wx_iload rfl (e := 94) rfl rfl ?_
          refine wx_if_ne rfl (e := 97) rfl (fun c_94 => ?_) (fun c_94 => ?_)
          · have hnz : ¬ (q.1 = 5 ∧ b = nI 0) := fun z => c_94 z.2
            refine wx_aload_n rfl (e := 105) rfl rfl ?_
            refine wx_getr rfl (e := 108) rfl rfl rfl ?_
            refine wx_iload_n rfl (e := 109) rfl rfl ?_
            refine wx_iconst (v := (nI 1)) rfl (e := 110) rfl (by decide) ?_
            refine wn_isub rfl (e := 111) rfl (by omega) ?_
            refine wx_iload rfl (e := 113) rfl rfl ?_
            refine wx_iconst (v := (nI 2)) rfl (e := 114) rfl (by decide) ?_
            refine wn_ic_ne rfl (e := 117) rfl (by omega) (by omega) (fun c_114 => ?_) (fun c_114 => ?_)
            · refine wx_iload rfl (e := 127) rfl rfl ?_
              refine wx_iconst (v := (nI 3)) rfl (e := 128) rfl (by decide) ?_
              refine wn_ic_ne rfl (e := 131) rfl (by omega) (by omega) (fun c_128 => ?_) (fun c_128 => ?_)
              · refine wx_iload rfl (e := 141) rfl rfl ?_
                refine wx_iconst (v := (nI 4)) rfl (e := 142) rfl (by decide) ?_
                refine wn_ic_ne rfl (e := 145) rfl (by omega) (by omega) (fun c_142 => ?_) (fun c_142 => ?_)
                · refine wx_iload rfl (e := 155) rfl rfl ?_
                  refine wx_iload rfl (e := 157) rfl rfl ?_
                  refine wx_idiv rfl (e := 158) rfl (fun z => hnz ⟨by omega, z⟩) ?_
                  refine wn_iast rfl (e := 159) rfl rfl (by decide) (by omega) (by decide) ?_
                  refine wn_iinc (m := 1) (L2 := [_, _, _, _, _, _, _, _]) rfl (e := 162) rfl rfl (by decide) rfl ?_
                  refine wx_goto rfl ?_
                  have ho : opS q.1 a b = (a / b) := by unfold opS; rw [if_neg (by omega), if_neg (by omega), if_neg (by omega)]
                  have hz : rev_ vs (q :: p) (b :: a :: st) = rev_ vs p ((a / b) :: st) := by rw [rev_o (by omega) hnz, ho]
                  rw [show st.length + 1 - 1 = st.length by omega]
                  refine ih (i + 1) ((a / b) :: st) _ hm.2.2.2 (by rw [List.length_cons]; exact hw.2.2) (f2.tr (fml.w8 _ _)) ((wr_other _ _ _ _ (by decide)).trans e7) ((congrFun (wr_other _ _ _ _ (by decide)) 50).trans e5) ⟨by rw [wr_at, if_pos rfl, if_pos rfl], stk.up (Nat.le_refl _) hs3⟩ (by rw [List.length_cons]; omega) (fun z => hb (hz.trans z)) (fun v w z => hv v w (hz.trans z)) _ _ _
                · refine wx_iload rfl (e := 147) rfl rfl ?_
                  refine wx_iload rfl (e := 149) rfl rfl ?_
                  refine wx_imul rfl (e := 150) rfl ?_
                  refine wx_goto rfl ?_
                  refine wn_iast rfl (e := 159) rfl rfl (by decide) (by omega) (by decide) ?_
                  refine wn_iinc (m := 1) (L2 := [_, _, _, _, _, _, _, _]) rfl (e := 162) rfl rfl (by decide) rfl ?_
                  refine wx_goto rfl ?_
                  have ho : opS q.1 a b = (a * b) := by unfold opS; rw [if_neg (by omega), if_neg (by omega), if_pos (by omega)]
                  have hz : rev_ vs (q :: p) (b :: a :: st) = rev_ vs p ((a * b) :: st) := by rw [rev_o (by omega) hnz, ho]
                  rw [show st.length + 1 - 1 = st.length by omega]
                  refine ih (i + 1) ((a * b) :: st) _ hm.2.2.2 (by rw [List.length_cons]; exact hw.2.2) (f2.tr (fml.w8 _ _)) ((wr_other _ _ _ _ (by decide)).trans e7) ((congrFun (wr_other _ _ _ _ (by decide)) 50).trans e5) ⟨by rw [wr_at, if_pos rfl, if_pos rfl], stk.up (Nat.le_refl _) hs3⟩ (by rw [List.length_cons]; omega) (fun z => hb (hz.trans z)) (fun v w z => hv v w (hz.trans z)) _ _ _
              · refine wx_iload rfl (e := 133) rfl rfl ?_
                refine wx_iload rfl (e := 135) rfl rfl ?_
                refine wx_isub rfl (e := 136) rfl ?_
                refine wx_goto rfl ?_
                refine wn_iast rfl (e := 159) rfl rfl (by decide) (by omega) (by decide) ?_
                refine wn_iinc (m := 1) (L2 := [_, _, _, _, _, _, _, _]) rfl (e := 162) rfl rfl (by decide) rfl ?_
                refine wx_goto rfl ?_
                have ho : opS q.1 a b = (a - b) := by unfold opS; rw [if_neg (by omega), if_pos (by omega)]
                have hz : rev_ vs (q :: p) (b :: a :: st) = rev_ vs p ((a - b) :: st) := by rw [rev_o (by omega) hnz, ho]
                rw [show st.length + 1 - 1 = st.length by omega]
                refine ih (i + 1) ((a - b) :: st) _ hm.2.2.2 (by rw [List.length_cons]; exact hw.2.2) (f2.tr (fml.w8 _ _)) ((wr_other _ _ _ _ (by decide)).trans e7) ((congrFun (wr_other _ _ _ _ (by decide)) 50).trans e5) ⟨by rw [wr_at, if_pos rfl, if_pos rfl], stk.up (Nat.le_refl _) hs3⟩ (by rw [List.length_cons]; omega) (fun z => hb (hz.trans z)) (fun v w z => hv v w (hz.trans z)) _ _ _
            · refine wx_iload rfl (e := 119) rfl rfl ?_
              refine wx_iload rfl (e := 121) rfl rfl ?_
              refine wx_iadd rfl (e := 122) rfl ?_
              refine wx_goto rfl ?_
              refine wn_iast rfl (e := 159) rfl rfl (by decide) (by omega) (by decide) ?_
              refine wn_iinc (m := 1) (L2 := [_, _, _, _, _, _, _, _]) rfl (e := 162) rfl rfl (by decide) rfl ?_
              refine wx_goto rfl ?_
              have ho : opS q.1 a b = (a + b) := by unfold opS; rw [if_pos (by omega)]
              have hz : rev_ vs (q :: p) (b :: a :: st) = rev_ vs p ((a + b) :: st) := by rw [rev_o (by omega) hnz, ho]
              rw [show st.length + 1 - 1 = st.length by omega]
              refine ih (i + 1) ((a + b) :: st) _ hm.2.2.2 (by rw [List.length_cons]; exact hw.2.2) (f2.tr (fml.w8 _ _)) ((wr_other _ _ _ _ (by decide)).trans e7) ((congrFun (wr_other _ _ _ _ (by decide)) 50).trans e5) ⟨by rw [wr_at, if_pos rfl, if_pos rfl], stk.up (Nat.le_refl _) hs3⟩ (by rw [List.length_cons]; omega) (fun z => hb (hz.trans z)) (fun v w z => hv v w (hz.trans z)) _ _ _
          · have hz : rev_ vs (q :: p) (b :: a :: st) = none := rev_b (by omega) ⟨by omega, c_94⟩
            refine wx_aload_n rfl (e := 98) rfl rfl ?_
            refine wx_iconst (v := (nI 1)) rfl (e := 99) rfl (by decide) ?_
            refine wx_putz rfl (e := 102) rfl rfl (by decide) (by decide) ?_
            refine wx_iconst (v := (nI 0)) rfl (e := 103) rfl (by decide) ?_
            refine wx_iret rfl rfl rfl ⟨by decide, by decide⟩ ?_
            exact hb hz _ (f2.tr (fml.wb _)) (by rw [wr_at, if_pos rfl, if_pos rfl]) ((wr_other _ _ _ _ (by decide)).trans e7)
      · rw [if_pos (show q.1 < 2 by omega)] at hw
        refine wx_aload_n rfl (e := 27) rfl rfl ?_
        refine wx_getr rfl (e := 30) rfl rfl rfl ?_
        refine wx_iload_n rfl (e := 31) rfl rfl ?_
        refine wx_iload rfl (e := 33) rfl rfl ?_
        refine wn_if_ne rfl (e := 36) rfl (by omega) (fun c_33 => ?_) (fun c_33 => ?_)
        · refine wx_aload_n rfl (e := 47) rfl rfl ?_
          refine wx_getr rfl (e := 50) rfl rfl rfl ?_
          refine wx_aload_n rfl (e := 51) rfl rfl ?_
          refine wx_getr rfl (e := 54) rfl rfl rfl ?_
          refine wx_iload rfl (e := 56) rfl rfl ?_
          refine wn_iald rfl (e := 57) rfl rfl (by omega) (by decide) ?_
          rw [f2.1 85 (by decide) (by decide) (by decide), hm.2.2.1]
          obtain ⟨jv, hjv, ejv⟩ := hw.2.1 (by omega)
          rw [ejv]
          refine wn_iald rfl (e := 58) rfl rfl (by omega) (by decide) ?_
          rw [e7]
          refine wn_iast rfl (e := 59) rfl rfl (by decide) (by omega) (by decide) ?_
          refine wn_iinc (m := 1) (L2 := [_, _, _, _, _, _, _, _]) rfl (e := 62) rfl rfl (by decide) rfl ?_
          refine wx_goto rfl ?_
          refine wn_iinc (m := 1) (L2 := [_, _, _, _, _, _, _, _]) rfl (e := 162) rfl rfl (by decide) rfl ?_
          refine wx_goto rfl ?_
          have hz : rev_ vs (q :: p) st = rev_ vs p (vs jv :: st) := by rw [rev_1 (by omega), ejv, varS_in vs hjv]
          rw [hvs jv hjv]
          refine ih (i + 1) (vs jv :: st) _ hm.2.2.2 hw.2.2 (f2.tr (fml.w8 _ _)) ((wr_other _ _ _ _ (by decide)).trans e7) ((congrFun (wr_other _ _ _ _ (by decide)) 50).trans e5) ⟨by rw [wr_at, if_pos rfl, if_pos rfl], stk.up (Nat.le_refl _) hs⟩ (by rw [List.length_cons]; omega) (fun z => hb (hz.trans z)) (fun v w z => hv v w (hz.trans z)) _ _ _
        · refine wx_aload_n rfl (e := 37) rfl rfl ?_
          refine wx_getr rfl (e := 40) rfl rfl rfl ?_
          refine wx_iload rfl (e := 42) rfl rfl ?_
          refine wn_iald rfl (e := 43) rfl rfl (by omega) (by decide) ?_
          rw [f2.1 85 (by decide) (by decide) (by decide), hm.2.2.1]
          refine wx_goto rfl ?_
          refine wn_iast rfl (e := 59) rfl rfl (by decide) (by omega) (by decide) ?_
          refine wn_iinc (m := 1) (L2 := [_, _, _, _, _, _, _, _]) rfl (e := 62) rfl rfl (by decide) rfl ?_
          refine wx_goto rfl ?_
          refine wn_iinc (m := 1) (L2 := [_, _, _, _, _, _, _, _]) rfl (e := 162) rfl rfl (by decide) rfl ?_
          refine wx_goto rfl ?_
          have hz : rev_ vs (q :: p) st = rev_ vs p (q.2 :: st) := by rw [rev_0 (by omega)]
          refine ih (i + 1) (q.2 :: st) _ hm.2.2.2 hw.2.2 (f2.tr (fml.w8 _ _)) ((wr_other _ _ _ _ (by decide)).trans e7) ((congrFun (wr_other _ _ _ _ (by decide)) 50).trans e5) ⟨by rw [wr_at, if_pos rfl, if_pos rfl], stk.up (Nat.le_refl _) hs⟩ (by rw [List.length_cons]; omega) (fun z => hb (hz.trans z)) (fun v w z => hv v w (hz.trans z)) _ _ _
  refine wx_in (M := mX11_termOf) rfl rfl rfl (Nat.le_of_ble_eq_true rfl) ?_
  refine wx_iconst (v := (nI 0)) rfl (e := 1) rfl (by decide) ?_
  refine wx_istore_n (L2 := [_, _, _, _, _, _, _, _]) rfl (e := 2) rfl (by decide) rfl ?_
  refine wx_iload_n rfl (e := 3) rfl rfl ?_
  refine wx_istore (L2 := [_, _, _, _, _, _, _, _]) rfl (e := 5) rfl (by decide) rfl ?_
  refine loop p i0 [] I hm hw fml.rf rfl rfl trivial (Nat.zero_le _) (fun z => hb ?_) (fun v w z => hv v ?_) _ _ _
  · unfold rvl; rw [z]
  · unfold rvl; rw [z]

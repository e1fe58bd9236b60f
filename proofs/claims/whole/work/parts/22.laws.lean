/-! the laws: looking at what is set, and what a law tells -/
def varS (vs : Nat → Int32) (v : Int32) : Int32 := if ¬ v < nI 0 ∧ v < nI 9 then vs v.toNatClampNeg else nI 0
def wrkS (s l r : Int32) : Int32 := if s = nI 43 then l + r else if s = nI 45 then l - r else if s = nI 42 then l * r else if r = nI 0 then nI 0 else l / r
/-- the steps of a law, one by one: where it is, how many wait, what waits -/
def cev (us : Nat) (st ar vs : Nat → Int32) : Nat → Nat → Nat → (Nat → Int32) → Int32
  | 0, _, _, _ => nI 0
  | f + 1, at_, top, sk =>
    if us ≤ at_ ∨ 420 ≤ at_ then nI 0
    else if st at_ = nI 3 then (if top = 0 ∨ 20 < top then nI 0 else sk (top - 1))
    else if st at_ = nI 0 ∨ st at_ = nI 1 then (if 20 ≤ top then nI 0 else cev us st ar vs f (at_ + 1) (top + 1) (upd sk top (if st at_ = nI 0 then ar at_ else varS vs (ar at_))))
    else if top < 2 ∨ 20 < top then nI 0
    else if st at_ = nI 2 then (if sk (top - 1) ≤ sk (top - 2) then cev us st ar vs f (max at_ ((ar at_).toNatClampNeg - 1) + 1) (top - 2) sk else cev us st ar vs f (at_ + 1) (top - 2) sk)
    else if st at_ = nI 47 ∧ sk (top - 1) = nI 0 then nI 0
    else cev us st ar vs f (at_ + 1) (top - 1) (upd sk (top - 2) (wrkS (st at_) (sk (top - 2)) (sk (top - 1))))
/-- the rows of the laws, as they must be for a law to be told -/
def lwok (I : Nat → Nat → Int32) (w us : Nat) (ss : Nat → Nat) : Prop := us ≤ 420 ∧ I w 5 = nI us ∧ (∀ k, k < 5 → ss k ≤ 420 ∧ I (w + 3) k = nI (ss k)) ∧ ∀ j, j < us → I (w + 1) j = nI 2 → ∃ m, m ≤ 420 ∧ I (w + 2) j = nI m
theorem c_X2_clearVars_2 {d Lx t rt u : Nat} {I : Nat → Nat → Int32} {G : Nat → Nat → Int64} {Q : ab_Q} (hq : ∀ I2, (∀ c k, I2 c k = if c = 6 ∧ k < 9 then nI 0 else I c k) → Q none (hp Lx t rt u I2 G)) : ab_call ab_MT (d + 1) 40 [.ref 2] (hp Lx t rt u I G) 0 0 Q := by
  have loop : ∀ (n i : Nat) (I2 : Nat → Nat → Int32), i ≤ 9 → 9 - i < n → (∀ c k, I2 c k = if c = 6 ∧ k < i then nI 0 else I c k) → WP d mX2_clearVars Q 2 [some (.ref 2), some (.int (nI i))] [] (hp Lx t rt u I2 G) 0 0 := by
    intro n
    induction n with
    | zero => intro i I2 hi hn; omega
    | succ n ih =>
      intro i I2 hi hn hI
      refine wx_iload_n rfl (e := 3) rfl rfl ?_
      refine wx_bipush (v := (nI 9)) rfl (e := 5) rfl (by decide) ?_
      first | refine wn_ic_ge rfl (e := 8) rfl (by omega) (by omega) (fun c_5 => ?_) (fun c_5 => ?_) | refine wx_ic_ge rfl (e := 8) rfl (fun c_5 => ?_) (fun c_5 => ?_)
      · refine wx_ret rfl rfl ⟨by decide, by decide⟩ ?_
        exact hq I2 (fun c k => by rw [hI]; rw [show i = 9 by omega])
      · refine wx_aload_n rfl (e := 9) rfl rfl ?_
        refine wx_getr rfl (e := 12) rfl rfl rfl ?_
        refine wx_iload_n rfl (e := 13) rfl rfl ?_
        refine wx_iconst (v := (nI 0)) rfl (e := 14) rfl (by decide) ?_
        first | refine wn_iast rfl (e := 15) rfl rfl (by decide) (by omega) (by decide) ?_ | refine wx_iast rfl (e := 15) rfl rfl (by decide) (by assumption) ?_
        first | refine wn_iinc (m := 1) (L2 := [_, _]) rfl (e := 18) rfl rfl (by decide) rfl ?_ | refine wx_iinc (L2 := [_, _]) rfl (e := 18) rfl rfl (by decide) rfl ?_
        refine wx_goto rfl ?_
        refine ih (i + 1) _ (by omega) (by omega) ?_
        intro c k
        rw [wr_at, hI, hI]
        by_cases h1 : c = 6
        · subst h1
          by_cases h2 : k = i
          · subst h2; simp
          · by_cases h3 : k < i
            · simp [h2, h3, Nat.lt_succ_of_lt h3]
            · simp [h2, h3, show ¬ k < i + 1 by omega]
        · simp [h1]
  refine wx_in (M := mX2_clearVars) rfl rfl rfl (Nat.le_of_ble_eq_true rfl) ?_
  refine wx_iconst (v := (nI 0)) rfl (e := 1) rfl (by decide) ?_
  refine wx_istore_n (L2 := [_, _]) rfl (e := 2) rfl (by decide) rfl ?_
  exact loop 10 0 I (by omega) (by omega) (fun c k => by simp)
theorem c_X2_clearVars_17 {d Lx t rt u : Nat} {I : Nat → Nat → Int32} {G : Nat → Nat → Int64} {Q : ab_Q} (hq : ∀ I2, (∀ c k, I2 c k = if c = 21 ∧ k < 9 then nI 0 else I c k) → Q none (hp Lx t rt u I2 G)) : ab_call ab_MT (d + 1) 40 [.ref 17] (hp Lx t rt u I G) 0 0 Q := by
  have loop : ∀ (n i : Nat) (I2 : Nat → Nat → Int32), i ≤ 9 → 9 - i < n → (∀ c k, I2 c k = if c = 21 ∧ k < i then nI 0 else I c k) → WP d mX2_clearVars Q 2 [some (.ref 17), some (.int (nI i))] [] (hp Lx t rt u I2 G) 0 0 := by
    intro n
    induction n with
    | zero => intro i I2 hi hn; omega
    | succ n ih =>
      intro i I2 hi hn hI
      refine wx_iload_n rfl (e := 3) rfl rfl ?_
      refine wx_bipush (v := (nI 9)) rfl (e := 5) rfl (by decide) ?_
      first | refine wn_ic_ge rfl (e := 8) rfl (by omega) (by omega) (fun c_5 => ?_) (fun c_5 => ?_) | refine wx_ic_ge rfl (e := 8) rfl (fun c_5 => ?_) (fun c_5 => ?_)
      · refine wx_ret rfl rfl ⟨by decide, by decide⟩ ?_
        exact hq I2 (fun c k => by rw [hI]; rw [show i = 9 by omega])
      · refine wx_aload_n rfl (e := 9) rfl rfl ?_
        refine wx_getr rfl (e := 12) rfl rfl rfl ?_
        refine wx_iload_n rfl (e := 13) rfl rfl ?_
        refine wx_iconst (v := (nI 0)) rfl (e := 14) rfl (by decide) ?_
        first | refine wn_iast rfl (e := 15) rfl rfl (by decide) (by omega) (by decide) ?_ | refine wx_iast rfl (e := 15) rfl rfl (by decide) (by assumption) ?_
        first | refine wn_iinc (m := 1) (L2 := [_, _]) rfl (e := 18) rfl rfl (by decide) rfl ?_ | refine wx_iinc (L2 := [_, _]) rfl (e := 18) rfl rfl (by decide) rfl ?_
        refine wx_goto rfl ?_
        refine ih (i + 1) _ (by omega) (by omega) ?_
        intro c k
        rw [wr_at, hI, hI]
        by_cases h1 : c = 21
        · subst h1
          by_cases h2 : k = i
          · subst h2; simp
          · by_cases h3 : k < i
            · simp [h2, h3, Nat.lt_succ_of_lt h3]
            · simp [h2, h3, show ¬ k < i + 1 by omega]
        · simp [h1]
  refine wx_in (M := mX2_clearVars) rfl rfl rfl (Nat.le_of_ble_eq_true rfl) ?_
  refine wx_iconst (v := (nI 0)) rfl (e := 1) rfl (by decide) ?_
  refine wx_istore_n (L2 := [_, _]) rfl (e := 2) rfl (by decide) rfl ?_
  exact loop 10 0 I (by omega) (by omega) (fun c k => by simp)
theorem c_X2_clearVars {d Lx t rt u : Nat} {I : Nat → Nat → Int32} {G : Nat → Nat → Int64} {Q : ab_Q} {w : Nat} (hw : w = 2 ∨ w = 17) (hq : ∀ I2, (∀ c k, I2 c k = if c = w + 4 ∧ k < 9 then nI 0 else I c k) → Q none (hp Lx t rt u I2 G)) : ab_call ab_MT (d + 1) 40 [.ref w] (hp Lx t rt u I G) 0 0 Q := by
  rcases hw with rfl | rfl
  · exact c_X2_clearVars_2 hq
  · exact c_X2_clearVars_17 hq
theorem wrk_toInt {s : Int32} {n : Nat} (hn : n < 2 ^ 31) (h : s.toInt = (n : Int)) : s = nI n := Int32.toInt_inj.mp (by rw [h, nI_toInt hn])
theorem c_X2_worked {d : Nat} {h : ab_H} {Q : ab_Q} {s a b : Int32} (hq : Q (some (.int (wrkS s a b))) h) : ab_call ab_MT (d + 1) 44 [.int s, .int a, .int b] h 0 0 Q := by
  refine wx_in (M := mX2_worked) rfl rfl rfl (Nat.le_of_ble_eq_true rfl) ?_
  refine wx_iload_n rfl (e := 1) rfl rfl ?_
  refine wx_sw rfl (fun c_1 => ?_) (List.forall_mem_cons.mpr ⟨fun c_1 => ?_, (List.forall_mem_cons.mpr ⟨fun c_1 => ?_, (List.forall_mem_cons.mpr ⟨fun c_1 => ?_, (List.forall_mem_cons.mpr ⟨fun c_1 => ?_, (fun _ h => absurd h List.not_mem_nil)⟩)⟩)⟩)⟩)
  · refine wx_iload_n rfl (e := 45) rfl rfl ?_
    refine wx_if_ne rfl (e := 48) rfl (fun c_45 => ?_) (fun c_45 => ?_)
    · rw [← nI_0] at c_45
      refine wx_iload_n rfl (e := 53) rfl rfl ?_
      refine wx_iload_n rfl (e := 54) rfl rfl ?_
      refine wx_idiv rfl (e := 55) rfl (by rw [← nI_0]; exact c_45) ?_
      refine wx_iret rfl rfl rfl ⟨by decide, by decide⟩ ?_
      have n1 : ¬ s = nI 43 := fun z => by rw [z] at c_1; revert c_1; decide
      have n2 : ¬ s = nI 45 := fun z => by rw [z] at c_1; revert c_1; decide
      have n3 : ¬ s = nI 42 := fun z => by rw [z] at c_1; revert c_1; decide
      rw [wrkS, if_neg n1, if_neg n2, if_neg n3] at hq
      first | (rw [if_pos c_45] at hq; exact hq) | (rw [if_neg c_45] at hq; exact hq)
    · rw [← nI_0] at c_45
      refine wx_iconst (v := (nI 0)) rfl (e := 49) rfl (by decide) ?_
      refine wx_goto rfl ?_
      refine wx_iret rfl rfl rfl ⟨by decide, by decide⟩ ?_
      have n1 : ¬ s = nI 43 := fun z => by rw [z] at c_1; revert c_1; decide
      have n2 : ¬ s = nI 45 := fun z => by rw [z] at c_1; revert c_1; decide
      have n3 : ¬ s = nI 42 := fun z => by rw [z] at c_1; revert c_1; decide
      rw [wrkS, if_neg n1, if_neg n2, if_neg n3] at hq
      first | (rw [if_pos c_45] at hq; exact hq) | (rw [if_neg c_45] at hq; exact hq)
  · have c_1 : Int32.toInt _ = 42 := c_1
    show WP _ _ _ _ _ _ _ _ _
    refine wx_iload_n rfl (e := 41) rfl rfl ?_
    refine wx_iload_n rfl (e := 42) rfl rfl ?_
    refine wx_imul rfl (e := 43) rfl ?_
    refine wx_iret rfl rfl rfl ⟨by decide, by decide⟩ ?_
    have e1 := wrk_toInt (n := 42) (by decide) c_1
    subst e1
    exact hq
  · have c_1 : Int32.toInt _ = 43 := c_1
    show WP _ _ _ _ _ _ _ _ _
    refine wx_iload_n rfl (e := 33) rfl rfl ?_
    refine wx_iload_n rfl (e := 34) rfl rfl ?_
    refine wx_iadd rfl (e := 35) rfl ?_
    refine wx_iret rfl rfl rfl ⟨by decide, by decide⟩ ?_
    have e1 := wrk_toInt (n := 43) (by decide) c_1
    subst e1
    exact hq
  · have c_1 : Int32.toInt _ = 44 := c_1
    show WP _ _ _ _ _ _ _ _ _
    refine wx_iload_n rfl (e := 45) rfl rfl ?_
    refine wx_if_ne rfl (e := 48) rfl (fun c_45 => ?_) (fun c_45 => ?_)
    · rw [← nI_0] at c_45
      refine wx_iload_n rfl (e := 53) rfl rfl ?_
      refine wx_iload_n rfl (e := 54) rfl rfl ?_
      refine wx_idiv rfl (e := 55) rfl (by rw [← nI_0]; exact c_45) ?_
      refine wx_iret rfl rfl rfl ⟨by decide, by decide⟩ ?_
      have n1 : ¬ s = nI 43 := fun z => by rw [z] at c_1; revert c_1; decide
      have n2 : ¬ s = nI 45 := fun z => by rw [z] at c_1; revert c_1; decide
      have n3 : ¬ s = nI 42 := fun z => by rw [z] at c_1; revert c_1; decide
      rw [wrkS, if_neg n1, if_neg n2, if_neg n3] at hq
      first | (rw [if_pos c_45] at hq; exact hq) | (rw [if_neg c_45] at hq; exact hq)
    · rw [← nI_0] at c_45
      refine wx_iconst (v := (nI 0)) rfl (e := 49) rfl (by decide) ?_
      refine wx_goto rfl ?_
      refine wx_iret rfl rfl rfl ⟨by decide, by decide⟩ ?_
      have n1 : ¬ s = nI 43 := fun z => by rw [z] at c_1; revert c_1; decide
      have n2 : ¬ s = nI 45 := fun z => by rw [z] at c_1; revert c_1; decide
      have n3 : ¬ s = nI 42 := fun z => by rw [z] at c_1; revert c_1; decide
      rw [wrkS, if_neg n1, if_neg n2, if_neg n3] at hq
      first | (rw [if_pos c_45] at hq; exact hq) | (rw [if_neg c_45] at hq; exact hq)
  · have c_1 : Int32.toInt _ = 45 := c_1
    show WP _ _ _ _ _ _ _ _ _
    refine wx_iload_n rfl (e := 37) rfl rfl ?_
    refine wx_iload_n rfl (e := 38) rfl rfl ?_
    refine wx_isub rfl (e := 39) rfl ?_
    refine wx_iret rfl rfl rfl ⟨by decide, by decide⟩ ?_
    have e1 := wrk_toInt (n := 45) (by decide) c_1
    subst e1
    exact hq
theorem wr_self (I : Nat → Nat → Int32) (c k : Nat) (v : Int32) : wr I c k v c = upd (I c) k v := by
  unfold wr va_up
  rw [if_pos rfl]
theorem wr_other (I : Nat → Nat → Int32) (c k : Nat) (v : Int32) {q : Nat} (h : q ≠ c) : wr I c k v q = I q := by
  unfold wr va_up
  rw [if_neg h]
theorem cev_sk {us : Nat} {st ar vs : Nat → Int32} : ∀ (f at_ top : Nat) (sk sk2 : Nat → Int32), (∀ i, i < top → sk i = sk2 i) → cev us st ar vs f at_ top sk = cev us st ar vs f at_ top sk2
  | 0, _, _, _, _, _ => rfl
  | f + 1, at_, top, sk, sk2, h => by
    unfold cev
    have hu : ∀ (v : Int32) (p : Nat), p ≤ top → ∀ i, i < p + 1 → upd sk p v i = upd sk2 p v i := by
      intro v p hp i hi
      unfold upd
      by_cases e : i = p
      · rw [if_pos e, if_pos e]
      · rw [if_neg e, if_neg e]; exact h i (by omega)
    split
    · rfl
    · split
      · split
        · rfl
        · rename_i hn
          exact h _ (by omega)
      · split
        · split
          · rfl
          · exact cev_sk f _ _ _ _ (hu _ top (Nat.le_refl _))
        · split
          · rfl
          · rename_i ht
            have e1 : sk (top - 1) = sk2 (top - 1) := h _ (by omega)
            have e2 : sk (top - 2) = sk2 (top - 2) := h _ (by omega)
            rw [e1, e2]
            split
            · split
              · exact cev_sk f _ _ _ _ (fun i hi => h i (by omega))
              · exact cev_sk f _ _ _ _ (fun i hi => h i (by omega))
            · split
              · rfl
              · refine cev_sk f _ _ _ _ (fun i hi => ?_)
                exact hu _ (top - 2) (by omega) i (by omega)
theorem varS_in (vs : Nat → Int32) {j : Nat} (h : j < 9) : varS vs (nI j) = vs j := by
  unfold varS
  rw [if_pos ⟨by rw [nI_0]; exact nI_pos (by omega), nI_lt h (by decide)⟩, nI_clamp (by omega)]
theorem varS_out (vs : Nat → Int32) {v : Int32} (h : ∀ j, j < 9 → v ≠ nI j) : varS vs v = nI 0 := by
  unfold varS
  rw [if_neg]
  rintro ⟨h1, h2⟩
  rw [nI_0] at h1
  obtain ⟨k, hk, e⟩ := nI_of h1
  subst e
  exact h k ((nI_ltI hk (by decide)).mp h2) rfl
theorem max_nI (a : Nat) {v : Int32} {m : Nat} (ha : a < 2 ^ 31) (hm : m ≤ 420) (e : v = nI m) : (if nI a < v - nI 1 then v - nI 1 else nI a) = nI (max a (v.toNatClampNeg - 1)) := by
  subst e
  rw [nI_clamp (by omega)]
  cases m with
  | zero =>
    rw [if_neg]
    · congr 1; omega
    · rw [Int32.lt_iff_toInt_lt, nI_toInt ha, show (nI 0 - nI 1).toInt = -1 by decide]
      omega
  | succ m =>
    rw [pk_sub (by omega), Nat.add_sub_cancel]
    by_cases h : a < m
    · rw [if_pos (nI_lt h (by omega)), Nat.max_eq_right (by omega)]
    · rw [if_neg (nI_nlt (by omega) (by omega)), Nat.max_eq_left (by omega)]
theorem max_nI0 {a : Nat} (ha : a < 2 ^ 31) : (if nI 0 < nI a then nI a else nI 0) = nI a := by
  by_cases z : 0 < a
  · rw [if_pos (nI_lt z ha)]
  · rw [if_neg (nI_nlt (by omega) (by omega)), show a = 0 by omega]
set_option maxHeartbeats 1000000 in
theorem c_X2_value_2 {d Lx t rt u : Nat} {I : Nat → Nat → Int32} {G : Nat → Nat → Int64} {Q : ab_Q} {us k : Nat} {ss : Nat → Nat} (hok : lwok I 2 us ss) (hk : k < 5) (hq : ∀ I2, (∀ c, c ≠ 7 → I2 c = I c) → Q (some (.int (cev us (I 3) (I 4) (I 6) 421 (ss k) 0 (fun _ => nI 0)))) (hp Lx t rt u I2 G)) : ab_call ab_MT (d + 2) 43 [.ref 2, .int (nI k)] (hp Lx t rt u I G) 0 0 Q := by
  obtain ⟨hu6, hu, hs, hj⟩ := hok
  generalize hV : cev us (I 3) (I 4) (I 6) 421 (ss k) 0 (fun _ => nI 0) = V at hq
  have loop : ∀ (f at_ top : Nat) (I2 : Nat → Nat → Int32) (x4 x5 x6 : Option Value), at_ ≤ 420 → 420 - at_ < f → top ≤ 20 → (∀ c, c ≠ 7 → I2 c = I c) → cev us (I 3) (I 4) (I 6) f at_ top (I2 7) = V → WP (d + 1) mX2_value Q 24 [some (.ref 2), some (.int (nI k)), some (.int (nI top)), some (.int (nI at_)), x4, x5, x6] [] (hp Lx t rt u I2 G) 0 0 := by
    intro f
    induction f with
    | zero => intro at_ top I2 x4 x5 x6 h1 h2; omega
    | succ f ih =>
      intro at_ top I2 x4 x5 x6 h1 h2 h3 hI hv
      unfold cev at hv
      refine wx_iload_n rfl (e := 25) rfl rfl ?_
      refine wx_aload_n rfl (e := 26) rfl rfl ?_
      refine wx_geti rfl (e := 29) rfl rfl ?_
      rw [hI 2 (by decide), hu]
      first | refine wn_ic_ge rfl (e := 32) rfl (by omega) (by omega) (fun c_29 => ?_) (fun c_29 => ?_) | refine wx_ic_ge rfl (e := 32) rfl (fun c_29 => ?_) (fun c_29 => ?_)
      · rw [if_pos (Or.inl c_29)] at hv
        refine wx_iconst (v := (nI 0)) rfl (e := 241) rfl (by decide) ?_
        refine wx_iret rfl rfl rfl ⟨by decide, by decide⟩ ?_
        rw [← hv] at hq
        exact hq I2 hI
      · refine wx_iload_n rfl (e := 33) rfl rfl ?_
        refine wx_sipush (v := (nI 420)) rfl (e := 36) rfl (by decide) ?_
        first | refine wn_ic_ge rfl (e := 39) rfl (by omega) (by omega) (fun c_36 => ?_) (fun c_36 => ?_) | refine wx_ic_ge rfl (e := 39) rfl (fun c_36 => ?_) (fun c_36 => ?_)
        · rw [if_pos (Or.inr c_36)] at hv
          refine wx_iconst (v := (nI 0)) rfl (e := 241) rfl (by decide) ?_
          refine wx_iret rfl rfl rfl ⟨by decide, by decide⟩ ?_
          rw [← hv] at hq
          exact hq I2 hI
        · rw [if_neg (by omega)] at hv
          refine wx_aload_n rfl (e := 40) rfl rfl ?_
          refine wx_getr rfl (e := 43) rfl rfl rfl ?_
          refine wx_iload_n rfl (e := 44) rfl rfl ?_
          first | refine wn_iald rfl (e := 45) rfl rfl (by omega) (by decide) ?_ | refine wx_iald rfl (e := 45) rfl rfl (by assumption) ?_
          rw [hI 3 (by decide)]
          refine wx_istore (L2 := [_, _, _, _, _, _, _]) rfl (e := 47) rfl (by decide) rfl ?_
          refine wx_iload rfl (e := 49) rfl rfl ?_
          refine wx_iconst (v := (nI 3)) rfl (e := 50) rfl (by decide) ?_
          first | refine wn_ic_ne rfl (e := 53) rfl (by omega) (by omega) (fun c_50 => ?_) (fun c_50 => ?_) | refine wx_ic_ne rfl (e := 53) rfl (fun c_50 => ?_) (fun c_50 => ?_)
          · rw [if_neg c_50] at hv
            refine wx_iload rfl (e := 78) rfl rfl ?_
            first | refine wn_if_eq rfl (e := 81) rfl (by omega) (fun c_78 => ?_) (fun c_78 => ?_) | refine wx_if_eq rfl (e := 81) rfl (fun c_78 => ?_) (fun c_78 => ?_)
            · rw [← nI_0] at c_78
              rw [if_pos (Or.inl c_78)] at hv
              refine wx_iload_n rfl (e := 88) rfl rfl ?_
              refine wn_if_lt rfl (e := 91) rfl (by omega) ?_
              refine wx_iload_n rfl (e := 92) rfl rfl ?_
              refine wx_bipush (v := (nI 20)) rfl (e := 94) rfl (by decide) ?_
              first | refine wn_ic_lt rfl (e := 97) rfl (by omega) (by omega) (fun c_94 => ?_) (fun c_94 => ?_) | refine wx_ic_lt rfl (e := 97) rfl (fun c_94 => ?_) (fun c_94 => ?_)
              · rw [if_neg (by omega)] at hv
                refine wx_aload_n rfl (e := 100) rfl rfl ?_
                refine wx_getr rfl (e := 103) rfl rfl rfl ?_
                refine wx_iload_n rfl (e := 104) rfl rfl ?_
                refine wx_iload rfl (e := 106) rfl rfl ?_
                first | refine wn_if_ne rfl (e := 109) rfl (by omega) (fun c_106 => ?_) (fun c_106 => ?_) | refine wx_if_ne rfl (e := 109) rfl (fun c_106 => ?_) (fun c_106 => ?_)
                · rw [← nI_0] at c_106
                  rw [if_neg c_106] at hv
                  refine wx_aload_n rfl (e := 119) rfl rfl ?_
                  refine wx_aload_n rfl (e := 120) rfl rfl ?_
                  refine wx_getr rfl (e := 123) rfl rfl rfl ?_
                  refine wx_iload_n rfl (e := 124) rfl rfl ?_
                  first | refine wn_iald rfl (e := 125) rfl rfl (by omega) (by decide) ?_ | refine wx_iald rfl (e := 125) rfl rfl (by assumption) ?_
                  rw [hI 4 (by decide)]
                  refine wx_cv1 (mc := 0) (ms := 0) rfl (e := 128) rfl rfl (Nat.le_of_ble_eq_true rfl) ⟨by decide, by decide⟩ ?_
                  refine c_X2_varOf (Or.inl rfl) (fun j hj9 e9 => ?_) (fun e9 => ?_)
                  · rw [e9, varS_in _ hj9, ← show I2 (2 + 4) j = I 6 j from by rw [hI (2 + 4) (by decide)]] at hv
                    first | refine wn_iast rfl (e := 129) rfl rfl (by decide) (by omega) (by decide) ?_ | refine wx_iast rfl (e := 129) rfl rfl (by decide) (by assumption) ?_
                    first | refine wn_iinc (m := 1) (L2 := [_, _, _, _, _, _, _]) rfl (e := 132) rfl rfl (by decide) rfl ?_ | refine wx_iinc (L2 := [_, _, _, _, _, _, _]) rfl (e := 132) rfl rfl (by decide) rfl ?_
                    refine wx_goto rfl ?_
                    first | refine wn_iinc (m := 1) (L2 := [_, _, _, _, _, _, _]) rfl (e := 237) rfl rfl (by decide) rfl ?_ | refine wx_iinc (L2 := [_, _, _, _, _, _, _]) rfl (e := 237) rfl rfl (by decide) rfl ?_
                    refine wx_goto rfl ?_
                    refine ih _ _ _ _ _ _ ?_ ?_ ?_ ?_ ?_
                    · omega
                    · omega
                    · omega
                    · intro c hc; first | exact hI c hc | (rw [wr_other _ _ _ _ hc]; exact hI c hc)
                    · first | exact hv | (rw [wr_self]; exact hv) | (rw [wr_self, show top - (1 + 1) + 1 = top - 1 by omega]; exact hv)
                  · rw [varS_out _ e9] at hv
                    first | refine wn_iast rfl (e := 129) rfl rfl (by decide) (by omega) (by decide) ?_ | refine wx_iast rfl (e := 129) rfl rfl (by decide) (by assumption) ?_
                    first | refine wn_iinc (m := 1) (L2 := [_, _, _, _, _, _, _]) rfl (e := 132) rfl rfl (by decide) rfl ?_ | refine wx_iinc (L2 := [_, _, _, _, _, _, _]) rfl (e := 132) rfl rfl (by decide) rfl ?_
                    refine wx_goto rfl ?_
                    first | refine wn_iinc (m := 1) (L2 := [_, _, _, _, _, _, _]) rfl (e := 237) rfl rfl (by decide) rfl ?_ | refine wx_iinc (L2 := [_, _, _, _, _, _, _]) rfl (e := 237) rfl rfl (by decide) rfl ?_
                    refine wx_goto rfl ?_
                    refine ih _ _ _ _ _ _ ?_ ?_ ?_ ?_ ?_
                    · omega
                    · omega
                    · omega
                    · intro c hc; first | exact hI c hc | (rw [wr_other _ _ _ _ hc]; exact hI c hc)
                    · first | exact hv | (rw [wr_self]; exact hv) | (rw [wr_self, show top - (1 + 1) + 1 = top - 1 by omega]; exact hv)
                · rw [← nI_0] at c_106
                  rw [if_pos c_106] at hv
                  refine wx_aload_n rfl (e := 110) rfl rfl ?_
                  refine wx_getr rfl (e := 113) rfl rfl rfl ?_
                  refine wx_iload_n rfl (e := 114) rfl rfl ?_
                  first | refine wn_iald rfl (e := 115) rfl rfl (by omega) (by decide) ?_ | refine wx_iald rfl (e := 115) rfl rfl (by assumption) ?_
                  rw [hI 4 (by decide)]
                  refine wx_goto rfl ?_
                  first | refine wn_iast rfl (e := 129) rfl rfl (by decide) (by omega) (by decide) ?_ | refine wx_iast rfl (e := 129) rfl rfl (by decide) (by assumption) ?_
                  first | refine wn_iinc (m := 1) (L2 := [_, _, _, _, _, _, _]) rfl (e := 132) rfl rfl (by decide) rfl ?_ | refine wx_iinc (L2 := [_, _, _, _, _, _, _]) rfl (e := 132) rfl rfl (by decide) rfl ?_
                  refine wx_goto rfl ?_
                  first | refine wn_iinc (m := 1) (L2 := [_, _, _, _, _, _, _]) rfl (e := 237) rfl rfl (by decide) rfl ?_ | refine wx_iinc (L2 := [_, _, _, _, _, _, _]) rfl (e := 237) rfl rfl (by decide) rfl ?_
                  refine wx_goto rfl ?_
                  refine ih _ _ _ _ _ _ ?_ ?_ ?_ ?_ ?_
                  · omega
                  · omega
                  · omega
                  · intro c hc; first | exact hI c hc | (rw [wr_other _ _ _ _ hc]; exact hI c hc)
                  · first | exact hv | (rw [wr_self]; exact hv) | (rw [wr_self, show top - (1 + 1) + 1 = top - 1 by omega]; exact hv)
              · rw [if_pos (by omega)] at hv
                refine wx_iconst (v := (nI 0)) rfl (e := 98) rfl (by decide) ?_
                refine wx_iret rfl rfl rfl ⟨by decide, by decide⟩ ?_
                rw [← hv] at hq
                exact hq I2 hI
            · rw [← nI_0] at c_78
              refine wx_iload rfl (e := 83) rfl rfl ?_
              refine wx_iconst (v := (nI 1)) rfl (e := 84) rfl (by decide) ?_
              first | refine wn_ic_ne rfl (e := 87) rfl (by omega) (by omega) (fun c_84 => ?_) (fun c_84 => ?_) | refine wx_ic_ne rfl (e := 87) rfl (fun c_84 => ?_) (fun c_84 => ?_)
              · rw [if_neg (by rintro (z | z) <;> contradiction)] at hv
                refine wx_iload_n rfl (e := 136) rfl rfl ?_
                refine wx_iconst (v := (nI 2)) rfl (e := 137) rfl (by decide) ?_
                first | refine wn_ic_lt rfl (e := 140) rfl (by omega) (by omega) (fun c_137 => ?_) (fun c_137 => ?_) | refine wx_ic_lt rfl (e := 140) rfl (fun c_137 => ?_) (fun c_137 => ?_)
                · rw [if_pos (by omega)] at hv
                  refine wx_iconst (v := (nI 0)) rfl (e := 147) rfl (by decide) ?_
                  refine wx_iret rfl rfl rfl ⟨by decide, by decide⟩ ?_
                  rw [← hv] at hq
                  exact hq I2 hI
                · refine wx_iload_n rfl (e := 141) rfl rfl ?_
                  refine wx_bipush (v := (nI 20)) rfl (e := 143) rfl (by decide) ?_
                  first | refine wn_ic_le rfl (e := 146) rfl (by omega) (by omega) (fun c_143 => ?_) (fun c_143 => ?_) | refine wx_ic_le rfl (e := 146) rfl (fun c_143 => ?_) (fun c_143 => ?_)
                  · rw [if_neg (by omega)] at hv
                    first | refine wn_idec (m := 1) (L2 := [_, _, _, _, _, _, _]) rfl (e := 151) rfl rfl (by omega) (by decide) rfl ?_ | refine wx_iinc (L2 := [_, _, _, _, _, _, _]) rfl (e := 151) rfl rfl (by decide) rfl ?_
                    refine wx_aload_n rfl (e := 152) rfl rfl ?_
                    refine wx_getr rfl (e := 155) rfl rfl rfl ?_
                    refine wx_iload_n rfl (e := 156) rfl rfl ?_
                    first | refine wn_iald rfl (e := 157) rfl rfl (by omega) (by decide) ?_ | refine wx_iald rfl (e := 157) rfl rfl (by assumption) ?_
                    refine wx_istore (L2 := [_, _, _, _, _, _, _]) rfl (e := 159) rfl (by decide) rfl ?_
                    refine wx_aload_n rfl (e := 160) rfl rfl ?_
                    refine wx_getr rfl (e := 163) rfl rfl rfl ?_
                    refine wx_iload_n rfl (e := 164) rfl rfl ?_
                    refine wx_iconst (v := (nI 1)) rfl (e := 165) rfl (by decide) ?_
                    first | refine wn_iadd rfl (e := 166) rfl ?_ | refine wx_iadd rfl (e := 166) rfl ?_
                    first | refine wn_iald rfl (e := 167) rfl rfl (by omega) (by decide) ?_ | refine wx_iald rfl (e := 167) rfl rfl (by assumption) ?_
                    rw [show top - 2 + 1 = top - 1 by omega]
                    refine wx_istore (L2 := [_, _, _, _, _, _, _]) rfl (e := 169) rfl (by decide) rfl ?_
                    refine wx_iload rfl (e := 171) rfl rfl ?_
                    refine wx_iconst (v := (nI 2)) rfl (e := 172) rfl (by decide) ?_
                    first | refine wn_ic_ne rfl (e := 175) rfl (by omega) (by omega) (fun c_172 => ?_) (fun c_172 => ?_) | refine wx_ic_ne rfl (e := 175) rfl (fun c_172 => ?_) (fun c_172 => ?_)
                    · rw [if_neg c_172] at hv
                      refine wx_iload rfl (e := 204) rfl rfl ?_
                      refine wx_bipush (v := (nI 47)) rfl (e := 206) rfl (by decide) ?_
                      first | refine wn_ic_ne rfl (e := 209) rfl (by omega) (by omega) (fun c_206 => ?_) (fun c_206 => ?_) | refine wx_ic_ne rfl (e := 209) rfl (fun c_206 => ?_) (fun c_206 => ?_)
                      · rw [if_neg (fun z => c_206 z.1)] at hv
                        refine wx_aload_n rfl (e := 217) rfl rfl ?_
                        refine wx_getr rfl (e := 220) rfl rfl rfl ?_
                        refine wx_iload_n rfl (e := 221) rfl rfl ?_
                        refine wx_iload rfl (e := 223) rfl rfl ?_
                        refine wx_iload rfl (e := 225) rfl rfl ?_
                        refine wx_iload rfl (e := 227) rfl rfl ?_
                        refine wx_cs3 (mc := 0) (ms := 0) rfl (e := 230) rfl (Nat.le_of_ble_eq_true rfl) ⟨by decide, by decide⟩ ?_
                        refine c_X2_worked ?_
                        first | refine wn_iast rfl (e := 231) rfl rfl (by decide) (by omega) (by decide) ?_ | refine wx_iast rfl (e := 231) rfl rfl (by decide) (by assumption) ?_
                        first | refine wn_iinc (m := 1) (L2 := [_, _, _, _, _, _, _]) rfl (e := 234) rfl rfl (by decide) rfl ?_ | refine wx_iinc (L2 := [_, _, _, _, _, _, _]) rfl (e := 234) rfl rfl (by decide) rfl ?_
                        first | refine wn_iinc (m := 1) (L2 := [_, _, _, _, _, _, _]) rfl (e := 237) rfl rfl (by decide) rfl ?_ | refine wx_iinc (L2 := [_, _, _, _, _, _, _]) rfl (e := 237) rfl rfl (by decide) rfl ?_
                        refine wx_goto rfl ?_
                        refine ih _ _ _ _ _ _ ?_ ?_ ?_ ?_ ?_
                        · omega
                        · omega
                        · omega
                        · intro c hc; first | exact hI c hc | (rw [wr_other _ _ _ _ hc]; exact hI c hc)
                        · first | exact hv | (rw [wr_self]; exact hv) | (rw [wr_self, show top - (1 + 1) + 1 = top - 1 by omega]; exact hv)
                      · refine wx_iload rfl (e := 211) rfl rfl ?_
                        first | refine wn_if_ne rfl (e := 214) rfl (by omega) (fun c_211 => ?_) (fun c_211 => ?_) | refine wx_if_ne rfl (e := 214) rfl (fun c_211 => ?_) (fun c_211 => ?_)
                        · rw [← nI_0] at c_211
                          rw [if_neg (fun z => c_211 z.2)] at hv
                          refine wx_aload_n rfl (e := 217) rfl rfl ?_
                          refine wx_getr rfl (e := 220) rfl rfl rfl ?_
                          refine wx_iload_n rfl (e := 221) rfl rfl ?_
                          refine wx_iload rfl (e := 223) rfl rfl ?_
                          refine wx_iload rfl (e := 225) rfl rfl ?_
                          refine wx_iload rfl (e := 227) rfl rfl ?_
                          refine wx_cs3 (mc := 0) (ms := 0) rfl (e := 230) rfl (Nat.le_of_ble_eq_true rfl) ⟨by decide, by decide⟩ ?_
                          refine c_X2_worked ?_
                          first | refine wn_iast rfl (e := 231) rfl rfl (by decide) (by omega) (by decide) ?_ | refine wx_iast rfl (e := 231) rfl rfl (by decide) (by assumption) ?_
                          first | refine wn_iinc (m := 1) (L2 := [_, _, _, _, _, _, _]) rfl (e := 234) rfl rfl (by decide) rfl ?_ | refine wx_iinc (L2 := [_, _, _, _, _, _, _]) rfl (e := 234) rfl rfl (by decide) rfl ?_
                          first | refine wn_iinc (m := 1) (L2 := [_, _, _, _, _, _, _]) rfl (e := 237) rfl rfl (by decide) rfl ?_ | refine wx_iinc (L2 := [_, _, _, _, _, _, _]) rfl (e := 237) rfl rfl (by decide) rfl ?_
                          refine wx_goto rfl ?_
                          refine ih _ _ _ _ _ _ ?_ ?_ ?_ ?_ ?_
                          · omega
                          · omega
                          · omega
                          · intro c hc; first | exact hI c hc | (rw [wr_other _ _ _ _ hc]; exact hI c hc)
                          · first | exact hv | (rw [wr_self]; exact hv) | (rw [wr_self, show top - (1 + 1) + 1 = top - 1 by omega]; exact hv)
                        · rw [← nI_0] at c_211
                          rw [if_pos ⟨c_206, c_211⟩] at hv
                          refine wx_iconst (v := (nI 0)) rfl (e := 215) rfl (by decide) ?_
                          refine wx_iret rfl rfl rfl ⟨by decide, by decide⟩ ?_
                          rw [← hv] at hq
                          exact hq I2 hI
                    · rw [if_pos c_172] at hv
                      refine wx_iload rfl (e := 177) rfl rfl ?_
                      refine wx_iload rfl (e := 179) rfl rfl ?_
                      first | refine wn_ic_ge rfl (e := 182) rfl (by omega) (by omega) (fun c_179 => ?_) (fun c_179 => ?_) | refine wx_ic_ge rfl (e := 182) rfl (fun c_179 => ?_) (fun c_179 => ?_)
                      · rw [if_pos c_179] at hv
                        refine wx_iload_n rfl (e := 187) rfl rfl ?_
                        refine wx_aload_n rfl (e := 188) rfl rfl ?_
                        refine wx_getr rfl (e := 191) rfl rfl rfl ?_
                        refine wx_iload_n rfl (e := 192) rfl rfl ?_
                        first | refine wn_iald rfl (e := 193) rfl rfl (by omega) (by decide) ?_ | refine wx_iald rfl (e := 193) rfl rfl (by assumption) ?_
                        rw [hI 4 (by decide)]
                        refine wx_iconst (v := (nI 1)) rfl (e := 194) rfl (by decide) ?_
                        first | refine wn_isub rfl (e := 195) rfl (by omega) ?_ | refine wx_isub rfl (e := 195) rfl ?_
                        refine wx_cs2 (mc := 0) (ms := 0) rfl (e := 198) rfl (Nat.le_of_ble_eq_true rfl) ⟨by decide, by decide⟩ ?_
                        refine c_J9_max_7cf53 ?_
                        obtain ⟨m, hm, em⟩ := hj at_ (by omega) c_172
                        show WP _ _ _ _ _ (Value.int (if nI at_ < I 4 at_ - nI 1 then I 4 at_ - nI 1 else nI at_) :: _) _ _ _
                        rw [max_nI at_ (by omega) hm em]
                        have hmx : max at_ ((I 4 at_).toNatClampNeg - 1) ≤ 419 := by rw [em, nI_clamp (by omega)]; omega
                        have hmy : at_ ≤ max at_ ((I 4 at_).toNatClampNeg - 1) := Nat.le_max_left _ _
                        generalize max at_ ((I 4 at_).toNatClampNeg - 1) = at2 at hv hmx hmy ⊢
                        refine wx_istore_n (L2 := [_, _, _, _, _, _, _]) rfl (e := 199) rfl (by decide) rfl ?_
                        refine wx_goto rfl ?_
                        first | refine wn_iinc (m := 1) (L2 := [_, _, _, _, _, _, _]) rfl (e := 237) rfl rfl (by decide) rfl ?_ | refine wx_iinc (L2 := [_, _, _, _, _, _, _]) rfl (e := 237) rfl rfl (by decide) rfl ?_
                        refine wx_goto rfl ?_
                        refine ih _ _ _ _ _ _ ?_ ?_ ?_ ?_ ?_
                        · omega
                        · omega
                        · omega
                        · intro c hc; first | exact hI c hc | (rw [wr_other _ _ _ _ hc]; exact hI c hc)
                        · first | exact hv | (rw [wr_self]; exact hv) | (rw [wr_self, show top - (1 + 1) + 1 = top - 1 by omega]; exact hv)
                      · rw [if_neg c_179] at hv
                        refine wx_iload_n rfl (e := 183) rfl rfl ?_
                        refine wx_goto rfl ?_
                        refine wx_istore_n (L2 := [_, _, _, _, _, _, _]) rfl (e := 199) rfl (by decide) rfl ?_
                        refine wx_goto rfl ?_
                        first | refine wn_iinc (m := 1) (L2 := [_, _, _, _, _, _, _]) rfl (e := 237) rfl rfl (by decide) rfl ?_ | refine wx_iinc (L2 := [_, _, _, _, _, _, _]) rfl (e := 237) rfl rfl (by decide) rfl ?_
                        refine wx_goto rfl ?_
                        refine ih _ _ _ _ _ _ ?_ ?_ ?_ ?_ ?_
                        · omega
                        · omega
                        · omega
                        · intro c hc; first | exact hI c hc | (rw [wr_other _ _ _ _ hc]; exact hI c hc)
                        · first | exact hv | (rw [wr_self]; exact hv) | (rw [wr_self, show top - (1 + 1) + 1 = top - 1 by omega]; exact hv)
                  · rw [if_pos (by omega)] at hv
                    refine wx_iconst (v := (nI 0)) rfl (e := 147) rfl (by decide) ?_
                    refine wx_iret rfl rfl rfl ⟨by decide, by decide⟩ ?_
                    rw [← hv] at hq
                    exact hq I2 hI
              · rw [if_pos (Or.inr c_84)] at hv
                refine wx_iload_n rfl (e := 88) rfl rfl ?_
                refine wn_if_lt rfl (e := 91) rfl (by omega) ?_
                refine wx_iload_n rfl (e := 92) rfl rfl ?_
                refine wx_bipush (v := (nI 20)) rfl (e := 94) rfl (by decide) ?_
                first | refine wn_ic_lt rfl (e := 97) rfl (by omega) (by omega) (fun c_94 => ?_) (fun c_94 => ?_) | refine wx_ic_lt rfl (e := 97) rfl (fun c_94 => ?_) (fun c_94 => ?_)
                · rw [if_neg (by omega)] at hv
                  refine wx_aload_n rfl (e := 100) rfl rfl ?_
                  refine wx_getr rfl (e := 103) rfl rfl rfl ?_
                  refine wx_iload_n rfl (e := 104) rfl rfl ?_
                  refine wx_iload rfl (e := 106) rfl rfl ?_
                  first | refine wn_if_ne rfl (e := 109) rfl (by omega) (fun c_106 => ?_) (fun c_106 => ?_) | refine wx_if_ne rfl (e := 109) rfl (fun c_106 => ?_) (fun c_106 => ?_)
                  · rw [← nI_0] at c_106
                    rw [if_neg c_106] at hv
                    refine wx_aload_n rfl (e := 119) rfl rfl ?_
                    refine wx_aload_n rfl (e := 120) rfl rfl ?_
                    refine wx_getr rfl (e := 123) rfl rfl rfl ?_
                    refine wx_iload_n rfl (e := 124) rfl rfl ?_
                    first | refine wn_iald rfl (e := 125) rfl rfl (by omega) (by decide) ?_ | refine wx_iald rfl (e := 125) rfl rfl (by assumption) ?_
                    rw [hI 4 (by decide)]
                    refine wx_cv1 (mc := 0) (ms := 0) rfl (e := 128) rfl rfl (Nat.le_of_ble_eq_true rfl) ⟨by decide, by decide⟩ ?_
                    refine c_X2_varOf (Or.inl rfl) (fun j hj9 e9 => ?_) (fun e9 => ?_)
                    · rw [e9, varS_in _ hj9, ← show I2 (2 + 4) j = I 6 j from by rw [hI (2 + 4) (by decide)]] at hv
                      first | refine wn_iast rfl (e := 129) rfl rfl (by decide) (by omega) (by decide) ?_ | refine wx_iast rfl (e := 129) rfl rfl (by decide) (by assumption) ?_
                      first | refine wn_iinc (m := 1) (L2 := [_, _, _, _, _, _, _]) rfl (e := 132) rfl rfl (by decide) rfl ?_ | refine wx_iinc (L2 := [_, _, _, _, _, _, _]) rfl (e := 132) rfl rfl (by decide) rfl ?_
                      refine wx_goto rfl ?_
                      first | refine wn_iinc (m := 1) (L2 := [_, _, _, _, _, _, _]) rfl (e := 237) rfl rfl (by decide) rfl ?_ | refine wx_iinc (L2 := [_, _, _, _, _, _, _]) rfl (e := 237) rfl rfl (by decide) rfl ?_
                      refine wx_goto rfl ?_
                      refine ih _ _ _ _ _ _ ?_ ?_ ?_ ?_ ?_
                      · omega
                      · omega
                      · omega
                      · intro c hc; first | exact hI c hc | (rw [wr_other _ _ _ _ hc]; exact hI c hc)
                      · first | exact hv | (rw [wr_self]; exact hv) | (rw [wr_self, show top - (1 + 1) + 1 = top - 1 by omega]; exact hv)
                    · rw [varS_out _ e9] at hv
                      first | refine wn_iast rfl (e := 129) rfl rfl (by decide) (by omega) (by decide) ?_ | refine wx_iast rfl (e := 129) rfl rfl (by decide) (by assumption) ?_
                      first | refine wn_iinc (m := 1) (L2 := [_, _, _, _, _, _, _]) rfl (e := 132) rfl rfl (by decide) rfl ?_ | refine wx_iinc (L2 := [_, _, _, _, _, _, _]) rfl (e := 132) rfl rfl (by decide) rfl ?_
                      refine wx_goto rfl ?_
                      first | refine wn_iinc (m := 1) (L2 := [_, _, _, _, _, _, _]) rfl (e := 237) rfl rfl (by decide) rfl ?_ | refine wx_iinc (L2 := [_, _, _, _, _, _, _]) rfl (e := 237) rfl rfl (by decide) rfl ?_
                      refine wx_goto rfl ?_
                      refine ih _ _ _ _ _ _ ?_ ?_ ?_ ?_ ?_
                      · omega
                      · omega
                      · omega
                      · intro c hc; first | exact hI c hc | (rw [wr_other _ _ _ _ hc]; exact hI c hc)
                      · first | exact hv | (rw [wr_self]; exact hv) | (rw [wr_self, show top - (1 + 1) + 1 = top - 1 by omega]; exact hv)
                  · rw [← nI_0] at c_106
                    rw [if_pos c_106] at hv
                    refine wx_aload_n rfl (e := 110) rfl rfl ?_
                    refine wx_getr rfl (e := 113) rfl rfl rfl ?_
                    refine wx_iload_n rfl (e := 114) rfl rfl ?_
                    first | refine wn_iald rfl (e := 115) rfl rfl (by omega) (by decide) ?_ | refine wx_iald rfl (e := 115) rfl rfl (by assumption) ?_
                    rw [hI 4 (by decide)]
                    refine wx_goto rfl ?_
                    first | refine wn_iast rfl (e := 129) rfl rfl (by decide) (by omega) (by decide) ?_ | refine wx_iast rfl (e := 129) rfl rfl (by decide) (by assumption) ?_
                    first | refine wn_iinc (m := 1) (L2 := [_, _, _, _, _, _, _]) rfl (e := 132) rfl rfl (by decide) rfl ?_ | refine wx_iinc (L2 := [_, _, _, _, _, _, _]) rfl (e := 132) rfl rfl (by decide) rfl ?_
                    refine wx_goto rfl ?_
                    first | refine wn_iinc (m := 1) (L2 := [_, _, _, _, _, _, _]) rfl (e := 237) rfl rfl (by decide) rfl ?_ | refine wx_iinc (L2 := [_, _, _, _, _, _, _]) rfl (e := 237) rfl rfl (by decide) rfl ?_
                    refine wx_goto rfl ?_
                    refine ih _ _ _ _ _ _ ?_ ?_ ?_ ?_ ?_
                    · omega
                    · omega
                    · omega
                    · intro c hc; first | exact hI c hc | (rw [wr_other _ _ _ _ hc]; exact hI c hc)
                    · first | exact hv | (rw [wr_self]; exact hv) | (rw [wr_self, show top - (1 + 1) + 1 = top - 1 by omega]; exact hv)
                · rw [if_pos (by omega)] at hv
                  refine wx_iconst (v := (nI 0)) rfl (e := 98) rfl (by decide) ?_
                  refine wx_iret rfl rfl rfl ⟨by decide, by decide⟩ ?_
                  rw [← hv] at hq
                  exact hq I2 hI
          · rw [if_pos c_50] at hv
            refine wx_iload_n rfl (e := 54) rfl rfl ?_
            first | refine wn_if_le rfl (e := 57) rfl (by omega) (fun c_54 => ?_) (fun c_54 => ?_) | refine wx_if_le rfl (e := 57) rfl (fun c_54 => ?_) (fun c_54 => ?_)
            · rw [if_pos (by omega)] at hv
              refine wx_iconst (v := (nI 0)) rfl (e := 75) rfl (by decide) ?_
              refine wx_iret rfl rfl rfl ⟨by decide, by decide⟩ ?_
              rw [← hv] at hq
              exact hq I2 hI
            · refine wx_iload_n rfl (e := 58) rfl rfl ?_
              refine wx_bipush (v := (nI 20)) rfl (e := 60) rfl (by decide) ?_
              first | refine wn_ic_gt rfl (e := 63) rfl (by omega) (by omega) (fun c_60 => ?_) (fun c_60 => ?_) | refine wx_ic_gt rfl (e := 63) rfl (fun c_60 => ?_) (fun c_60 => ?_)
              · rw [if_pos (by omega)] at hv
                refine wx_iconst (v := (nI 0)) rfl (e := 75) rfl (by decide) ?_
                refine wx_iret rfl rfl rfl ⟨by decide, by decide⟩ ?_
                rw [← hv] at hq
                exact hq I2 hI
              · rw [if_neg (by omega)] at hv
                refine wx_aload_n rfl (e := 64) rfl rfl ?_
                refine wx_getr rfl (e := 67) rfl rfl rfl ?_
                refine wx_iload_n rfl (e := 68) rfl rfl ?_
                refine wx_iconst (v := (nI 1)) rfl (e := 69) rfl (by decide) ?_
                first | refine wn_isub rfl (e := 70) rfl (by omega) ?_ | refine wx_isub rfl (e := 70) rfl ?_
                first | refine wn_iald rfl (e := 71) rfl rfl (by omega) (by decide) ?_ | refine wx_iald rfl (e := 71) rfl rfl (by assumption) ?_
                refine wx_goto rfl ?_
                refine wx_iret rfl rfl rfl ⟨by decide, by decide⟩ ?_
                rw [← hv] at hq
                exact hq I2 hI
  refine wx_in (M := mX2_value) rfl rfl rfl (Nat.le_of_ble_eq_true rfl) ?_
  refine wx_iload_n rfl (e := 1) rfl rfl ?_
  refine wn_if_lt rfl (e := 4) rfl (by omega) ?_
  refine wx_iload_n rfl (e := 5) rfl rfl ?_
  refine wx_iconst (v := (nI 5)) rfl (e := 6) rfl (by decide) ?_
  first | refine wn_ic_lt rfl (e := 9) rfl (by omega) (by omega) (fun c_6 => ?_) (fun c_6 => absurd c_6 (by omega)) | refine wx_ic_lt rfl (e := 9) rfl (fun c_6 => ?_) (fun c_6 => absurd c_6 (by omega))
  refine wx_iconst (v := (nI 0)) rfl (e := 12) rfl (by decide) ?_
  refine wx_istore_n (L2 := [_, _, _, _, _, _, _]) rfl (e := 13) rfl (by decide) rfl ?_
  refine wx_iconst (v := (nI 0)) rfl (e := 14) rfl (by decide) ?_
  refine wx_aload_n rfl (e := 15) rfl rfl ?_
  refine wx_getr rfl (e := 18) rfl rfl rfl ?_
  refine wx_iload_n rfl (e := 19) rfl rfl ?_
  first | refine wn_iald rfl (e := 20) rfl rfl (by omega) (by decide) ?_ | refine wx_iald rfl (e := 20) rfl rfl (by assumption) ?_
  rw [(hs k hk).2]
  refine wx_cs2 (mc := 0) (ms := 0) rfl (e := 23) rfl (Nat.le_of_ble_eq_true rfl) ⟨by decide, by decide⟩ ?_
  refine c_J9_max_7cf53 ?_
  show WP _ _ _ _ _ (Value.int (if nI 0 < nI (ss k) then nI (ss k) else nI 0) :: _) _ _ _
  rw [max_nI0 (by have := (hs k hk).1; omega)]
  refine wx_istore_n (L2 := [_, _, _, _, _, _, _]) rfl (e := 24) rfl (by decide) rfl ?_
  refine loop 421 (ss k) 0 I none none none (by have := (hs k hk).1; omega) (by omega) (by omega) (fun c _ => rfl) ?_
  rw [← hV]
  exact cev_sk _ _ _ _ _ (fun i hi => absurd hi (Nat.not_lt_zero _))
set_option maxHeartbeats 1000000 in
theorem c_X2_value_17 {d Lx t rt u : Nat} {I : Nat → Nat → Int32} {G : Nat → Nat → Int64} {Q : ab_Q} {us k : Nat} {ss : Nat → Nat} (hok : lwok I 17 us ss) (hk : k < 5) (hq : ∀ I2, (∀ c, c ≠ 22 → I2 c = I c) → Q (some (.int (cev us (I 18) (I 19) (I 21) 421 (ss k) 0 (fun _ => nI 0)))) (hp Lx t rt u I2 G)) : ab_call ab_MT (d + 2) 43 [.ref 17, .int (nI k)] (hp Lx t rt u I G) 0 0 Q := by
  obtain ⟨hu6, hu, hs, hj⟩ := hok
  generalize hV : cev us (I 18) (I 19) (I 21) 421 (ss k) 0 (fun _ => nI 0) = V at hq
  have loop : ∀ (f at_ top : Nat) (I2 : Nat → Nat → Int32) (x4 x5 x6 : Option Value), at_ ≤ 420 → 420 - at_ < f → top ≤ 20 → (∀ c, c ≠ 22 → I2 c = I c) → cev us (I 18) (I 19) (I 21) f at_ top (I2 22) = V → WP (d + 1) mX2_value Q 24 [some (.ref 17), some (.int (nI k)), some (.int (nI top)), some (.int (nI at_)), x4, x5, x6] [] (hp Lx t rt u I2 G) 0 0 := by
    intro f
    induction f with
    | zero => intro at_ top I2 x4 x5 x6 h1 h2; omega
    | succ f ih =>
      intro at_ top I2 x4 x5 x6 h1 h2 h3 hI hv
      unfold cev at hv
      refine wx_iload_n rfl (e := 25) rfl rfl ?_
      refine wx_aload_n rfl (e := 26) rfl rfl ?_
      refine wx_geti rfl (e := 29) rfl rfl ?_
      rw [hI 17 (by decide), hu]
      first | refine wn_ic_ge rfl (e := 32) rfl (by omega) (by omega) (fun c_29 => ?_) (fun c_29 => ?_) | refine wx_ic_ge rfl (e := 32) rfl (fun c_29 => ?_) (fun c_29 => ?_)
      · rw [if_pos (Or.inl c_29)] at hv
        refine wx_iconst (v := (nI 0)) rfl (e := 241) rfl (by decide) ?_
        refine wx_iret rfl rfl rfl ⟨by decide, by decide⟩ ?_
        rw [← hv] at hq
        exact hq I2 hI
      · refine wx_iload_n rfl (e := 33) rfl rfl ?_
        refine wx_sipush (v := (nI 420)) rfl (e := 36) rfl (by decide) ?_
        first | refine wn_ic_ge rfl (e := 39) rfl (by omega) (by omega) (fun c_36 => ?_) (fun c_36 => ?_) | refine wx_ic_ge rfl (e := 39) rfl (fun c_36 => ?_) (fun c_36 => ?_)
        · rw [if_pos (Or.inr c_36)] at hv
          refine wx_iconst (v := (nI 0)) rfl (e := 241) rfl (by decide) ?_
          refine wx_iret rfl rfl rfl ⟨by decide, by decide⟩ ?_
          rw [← hv] at hq
          exact hq I2 hI
        · rw [if_neg (by omega)] at hv
          refine wx_aload_n rfl (e := 40) rfl rfl ?_
          refine wx_getr rfl (e := 43) rfl rfl rfl ?_
          refine wx_iload_n rfl (e := 44) rfl rfl ?_
          first | refine wn_iald rfl (e := 45) rfl rfl (by omega) (by decide) ?_ | refine wx_iald rfl (e := 45) rfl rfl (by assumption) ?_
          rw [hI 18 (by decide)]
          refine wx_istore (L2 := [_, _, _, _, _, _, _]) rfl (e := 47) rfl (by decide) rfl ?_
          refine wx_iload rfl (e := 49) rfl rfl ?_
          refine wx_iconst (v := (nI 3)) rfl (e := 50) rfl (by decide) ?_
          first | refine wn_ic_ne rfl (e := 53) rfl (by omega) (by omega) (fun c_50 => ?_) (fun c_50 => ?_) | refine wx_ic_ne rfl (e := 53) rfl (fun c_50 => ?_) (fun c_50 => ?_)
          · rw [if_neg c_50] at hv
            refine wx_iload rfl (e := 78) rfl rfl ?_
            first | refine wn_if_eq rfl (e := 81) rfl (by omega) (fun c_78 => ?_) (fun c_78 => ?_) | refine wx_if_eq rfl (e := 81) rfl (fun c_78 => ?_) (fun c_78 => ?_)
            · rw [← nI_0] at c_78
              rw [if_pos (Or.inl c_78)] at hv
              refine wx_iload_n rfl (e := 88) rfl rfl ?_
              refine wn_if_lt rfl (e := 91) rfl (by omega) ?_
              refine wx_iload_n rfl (e := 92) rfl rfl ?_
              refine wx_bipush (v := (nI 20)) rfl (e := 94) rfl (by decide) ?_
              first | refine wn_ic_lt rfl (e := 97) rfl (by omega) (by omega) (fun c_94 => ?_) (fun c_94 => ?_) | refine wx_ic_lt rfl (e := 97) rfl (fun c_94 => ?_) (fun c_94 => ?_)
              · rw [if_neg (by omega)] at hv
                refine wx_aload_n rfl (e := 100) rfl rfl ?_
                refine wx_getr rfl (e := 103) rfl rfl rfl ?_
                refine wx_iload_n rfl (e := 104) rfl rfl ?_
                refine wx_iload rfl (e := 106) rfl rfl ?_
                first | refine wn_if_ne rfl (e := 109) rfl (by omega) (fun c_106 => ?_) (fun c_106 => ?_) | refine wx_if_ne rfl (e := 109) rfl (fun c_106 => ?_) (fun c_106 => ?_)
                · rw [← nI_0] at c_106
                  rw [if_neg c_106] at hv
                  refine wx_aload_n rfl (e := 119) rfl rfl ?_
                  refine wx_aload_n rfl (e := 120) rfl rfl ?_
                  refine wx_getr rfl (e := 123) rfl rfl rfl ?_
                  refine wx_iload_n rfl (e := 124) rfl rfl ?_
                  first | refine wn_iald rfl (e := 125) rfl rfl (by omega) (by decide) ?_ | refine wx_iald rfl (e := 125) rfl rfl (by assumption) ?_
                  rw [hI 19 (by decide)]
                  refine wx_cv1 (mc := 0) (ms := 0) rfl (e := 128) rfl rfl (Nat.le_of_ble_eq_true rfl) ⟨by decide, by decide⟩ ?_
                  refine c_X2_varOf (Or.inr rfl) (fun j hj9 e9 => ?_) (fun e9 => ?_)
                  · rw [e9, varS_in _ hj9, ← show I2 (17 + 4) j = I 21 j from by rw [hI (17 + 4) (by decide)]] at hv
                    first | refine wn_iast rfl (e := 129) rfl rfl (by decide) (by omega) (by decide) ?_ | refine wx_iast rfl (e := 129) rfl rfl (by decide) (by assumption) ?_
                    first | refine wn_iinc (m := 1) (L2 := [_, _, _, _, _, _, _]) rfl (e := 132) rfl rfl (by decide) rfl ?_ | refine wx_iinc (L2 := [_, _, _, _, _, _, _]) rfl (e := 132) rfl rfl (by decide) rfl ?_
                    refine wx_goto rfl ?_
                    first | refine wn_iinc (m := 1) (L2 := [_, _, _, _, _, _, _]) rfl (e := 237) rfl rfl (by decide) rfl ?_ | refine wx_iinc (L2 := [_, _, _, _, _, _, _]) rfl (e := 237) rfl rfl (by decide) rfl ?_
                    refine wx_goto rfl ?_
                    refine ih _ _ _ _ _ _ ?_ ?_ ?_ ?_ ?_
                    · omega
                    · omega
                    · omega
                    · intro c hc; first | exact hI c hc | (rw [wr_other _ _ _ _ hc]; exact hI c hc)
                    · first | exact hv | (rw [wr_self]; exact hv) | (rw [wr_self, show top - (1 + 1) + 1 = top - 1 by omega]; exact hv)
                  · rw [varS_out _ e9] at hv
                    first | refine wn_iast rfl (e := 129) rfl rfl (by decide) (by omega) (by decide) ?_ | refine wx_iast rfl (e := 129) rfl rfl (by decide) (by assumption) ?_
                    first | refine wn_iinc (m := 1) (L2 := [_, _, _, _, _, _, _]) rfl (e := 132) rfl rfl (by decide) rfl ?_ | refine wx_iinc (L2 := [_, _, _, _, _, _, _]) rfl (e := 132) rfl rfl (by decide) rfl ?_
                    refine wx_goto rfl ?_
                    first | refine wn_iinc (m := 1) (L2 := [_, _, _, _, _, _, _]) rfl (e := 237) rfl rfl (by decide) rfl ?_ | refine wx_iinc (L2 := [_, _, _, _, _, _, _]) rfl (e := 237) rfl rfl (by decide) rfl ?_
                    refine wx_goto rfl ?_
                    refine ih _ _ _ _ _ _ ?_ ?_ ?_ ?_ ?_
                    · omega
                    · omega
                    · omega
                    · intro c hc; first | exact hI c hc | (rw [wr_other _ _ _ _ hc]; exact hI c hc)
                    · first | exact hv | (rw [wr_self]; exact hv) | (rw [wr_self, show top - (1 + 1) + 1 = top - 1 by omega]; exact hv)
                · rw [← nI_0] at c_106
                  rw [if_pos c_106] at hv
                  refine wx_aload_n rfl (e := 110) rfl rfl ?_
                  refine wx_getr rfl (e := 113) rfl rfl rfl ?_
                  refine wx_iload_n rfl (e := 114) rfl rfl ?_
                  first | refine wn_iald rfl (e := 115) rfl rfl (by omega) (by decide) ?_ | refine wx_iald rfl (e := 115) rfl rfl (by assumption) ?_
                  rw [hI 19 (by decide)]
                  refine wx_goto rfl ?_
                  first | refine wn_iast rfl (e := 129) rfl rfl (by decide) (by omega) (by decide) ?_ | refine wx_iast rfl (e := 129) rfl rfl (by decide) (by assumption) ?_
                  first | refine wn_iinc (m := 1) (L2 := [_, _, _, _, _, _, _]) rfl (e := 132) rfl rfl (by decide) rfl ?_ | refine wx_iinc (L2 := [_, _, _, _, _, _, _]) rfl (e := 132) rfl rfl (by decide) rfl ?_
                  refine wx_goto rfl ?_
                  first | refine wn_iinc (m := 1) (L2 := [_, _, _, _, _, _, _]) rfl (e := 237) rfl rfl (by decide) rfl ?_ | refine wx_iinc (L2 := [_, _, _, _, _, _, _]) rfl (e := 237) rfl rfl (by decide) rfl ?_
                  refine wx_goto rfl ?_
                  refine ih _ _ _ _ _ _ ?_ ?_ ?_ ?_ ?_
                  · omega
                  · omega
                  · omega
                  · intro c hc; first | exact hI c hc | (rw [wr_other _ _ _ _ hc]; exact hI c hc)
                  · first | exact hv | (rw [wr_self]; exact hv) | (rw [wr_self, show top - (1 + 1) + 1 = top - 1 by omega]; exact hv)
              · rw [if_pos (by omega)] at hv
                refine wx_iconst (v := (nI 0)) rfl (e := 98) rfl (by decide) ?_
                refine wx_iret rfl rfl rfl ⟨by decide, by decide⟩ ?_
                rw [← hv] at hq
                exact hq I2 hI
            · rw [← nI_0] at c_78
              refine wx_iload rfl (e := 83) rfl rfl ?_
              refine wx_iconst (v := (nI 1)) rfl (e := 84) rfl (by decide) ?_
              first | refine wn_ic_ne rfl (e := 87) rfl (by omega) (by omega) (fun c_84 => ?_) (fun c_84 => ?_) | refine wx_ic_ne rfl (e := 87) rfl (fun c_84 => ?_) (fun c_84 => ?_)
              · rw [if_neg (by rintro (z | z) <;> contradiction)] at hv
                refine wx_iload_n rfl (e := 136) rfl rfl ?_
                refine wx_iconst (v := (nI 2)) rfl (e := 137) rfl (by decide) ?_
                first | refine wn_ic_lt rfl (e := 140) rfl (by omega) (by omega) (fun c_137 => ?_) (fun c_137 => ?_) | refine wx_ic_lt rfl (e := 140) rfl (fun c_137 => ?_) (fun c_137 => ?_)
                · rw [if_pos (by omega)] at hv
                  refine wx_iconst (v := (nI 0)) rfl (e := 147) rfl (by decide) ?_
                  refine wx_iret rfl rfl rfl ⟨by decide, by decide⟩ ?_
                  rw [← hv] at hq
                  exact hq I2 hI
                · refine wx_iload_n rfl (e := 141) rfl rfl ?_
                  refine wx_bipush (v := (nI 20)) rfl (e := 143) rfl (by decide) ?_
                  first | refine wn_ic_le rfl (e := 146) rfl (by omega) (by omega) (fun c_143 => ?_) (fun c_143 => ?_) | refine wx_ic_le rfl (e := 146) rfl (fun c_143 => ?_) (fun c_143 => ?_)
                  · rw [if_neg (by omega)] at hv
                    first | refine wn_idec (m := 1) (L2 := [_, _, _, _, _, _, _]) rfl (e := 151) rfl rfl (by omega) (by decide) rfl ?_ | refine wx_iinc (L2 := [_, _, _, _, _, _, _]) rfl (e := 151) rfl rfl (by decide) rfl ?_
                    refine wx_aload_n rfl (e := 152) rfl rfl ?_
                    refine wx_getr rfl (e := 155) rfl rfl rfl ?_
                    refine wx_iload_n rfl (e := 156) rfl rfl ?_
                    first | refine wn_iald rfl (e := 157) rfl rfl (by omega) (by decide) ?_ | refine wx_iald rfl (e := 157) rfl rfl (by assumption) ?_
                    refine wx_istore (L2 := [_, _, _, _, _, _, _]) rfl (e := 159) rfl (by decide) rfl ?_
                    refine wx_aload_n rfl (e := 160) rfl rfl ?_
                    refine wx_getr rfl (e := 163) rfl rfl rfl ?_
                    refine wx_iload_n rfl (e := 164) rfl rfl ?_
                    refine wx_iconst (v := (nI 1)) rfl (e := 165) rfl (by decide) ?_
                    first | refine wn_iadd rfl (e := 166) rfl ?_ | refine wx_iadd rfl (e := 166) rfl ?_
                    first | refine wn_iald rfl (e := 167) rfl rfl (by omega) (by decide) ?_ | refine wx_iald rfl (e := 167) rfl rfl (by assumption) ?_
                    rw [show top - 2 + 1 = top - 1 by omega]
                    refine wx_istore (L2 := [_, _, _, _, _, _, _]) rfl (e := 169) rfl (by decide) rfl ?_
                    refine wx_iload rfl (e := 171) rfl rfl ?_
                    refine wx_iconst (v := (nI 2)) rfl (e := 172) rfl (by decide) ?_
                    first | refine wn_ic_ne rfl (e := 175) rfl (by omega) (by omega) (fun c_172 => ?_) (fun c_172 => ?_) | refine wx_ic_ne rfl (e := 175) rfl (fun c_172 => ?_) (fun c_172 => ?_)
                    · rw [if_neg c_172] at hv
                      refine wx_iload rfl (e := 204) rfl rfl ?_
                      refine wx_bipush (v := (nI 47)) rfl (e := 206) rfl (by decide) ?_
                      first | refine wn_ic_ne rfl (e := 209) rfl (by omega) (by omega) (fun c_206 => ?_) (fun c_206 => ?_) | refine wx_ic_ne rfl (e := 209) rfl (fun c_206 => ?_) (fun c_206 => ?_)
                      · rw [if_neg (fun z => c_206 z.1)] at hv
                        refine wx_aload_n rfl (e := 217) rfl rfl ?_
                        refine wx_getr rfl (e := 220) rfl rfl rfl ?_
                        refine wx_iload_n rfl (e := 221) rfl rfl ?_
                        refine wx_iload rfl (e := 223) rfl rfl ?_
                        refine wx_iload rfl (e := 225) rfl rfl ?_
                        refine wx_iload rfl (e := 227) rfl rfl ?_
                        refine wx_cs3 (mc := 0) (ms := 0) rfl (e := 230) rfl (Nat.le_of_ble_eq_true rfl) ⟨by decide, by decide⟩ ?_
                        refine c_X2_worked ?_
                        first | refine wn_iast rfl (e := 231) rfl rfl (by decide) (by omega) (by decide) ?_ | refine wx_iast rfl (e := 231) rfl rfl (by decide) (by assumption) ?_
                        first | refine wn_iinc (m := 1) (L2 := [_, _, _, _, _, _, _]) rfl (e := 234) rfl rfl (by decide) rfl ?_ | refine wx_iinc (L2 := [_, _, _, _, _, _, _]) rfl (e := 234) rfl rfl (by decide) rfl ?_
                        first | refine wn_iinc (m := 1) (L2 := [_, _, _, _, _, _, _]) rfl (e := 237) rfl rfl (by decide) rfl ?_ | refine wx_iinc (L2 := [_, _, _, _, _, _, _]) rfl (e := 237) rfl rfl (by decide) rfl ?_
                        refine wx_goto rfl ?_
                        refine ih _ _ _ _ _ _ ?_ ?_ ?_ ?_ ?_
                        · omega
                        · omega
                        · omega
                        · intro c hc; first | exact hI c hc | (rw [wr_other _ _ _ _ hc]; exact hI c hc)
                        · first | exact hv | (rw [wr_self]; exact hv) | (rw [wr_self, show top - (1 + 1) + 1 = top - 1 by omega]; exact hv)
                      · refine wx_iload rfl (e := 211) rfl rfl ?_
                        first | refine wn_if_ne rfl (e := 214) rfl (by omega) (fun c_211 => ?_) (fun c_211 => ?_) | refine wx_if_ne rfl (e := 214) rfl (fun c_211 => ?_) (fun c_211 => ?_)
                        · rw [← nI_0] at c_211
                          rw [if_neg (fun z => c_211 z.2)] at hv
                          refine wx_aload_n rfl (e := 217) rfl rfl ?_
                          refine wx_getr rfl (e := 220) rfl rfl rfl ?_
                          refine wx_iload_n rfl (e := 221) rfl rfl ?_
                          refine wx_iload rfl (e := 223) rfl rfl ?_
                          refine wx_iload rfl (e := 225) rfl rfl ?_
                          refine wx_iload rfl (e := 227) rfl rfl ?_
                          refine wx_cs3 (mc := 0) (ms := 0) rfl (e := 230) rfl (Nat.le_of_ble_eq_true rfl) ⟨by decide, by decide⟩ ?_
                          refine c_X2_worked ?_
                          first | refine wn_iast rfl (e := 231) rfl rfl (by decide) (by omega) (by decide) ?_ | refine wx_iast rfl (e := 231) rfl rfl (by decide) (by assumption) ?_
                          first | refine wn_iinc (m := 1) (L2 := [_, _, _, _, _, _, _]) rfl (e := 234) rfl rfl (by decide) rfl ?_ | refine wx_iinc (L2 := [_, _, _, _, _, _, _]) rfl (e := 234) rfl rfl (by decide) rfl ?_
                          first | refine wn_iinc (m := 1) (L2 := [_, _, _, _, _, _, _]) rfl (e := 237) rfl rfl (by decide) rfl ?_ | refine wx_iinc (L2 := [_, _, _, _, _, _, _]) rfl (e := 237) rfl rfl (by decide) rfl ?_
                          refine wx_goto rfl ?_
                          refine ih _ _ _ _ _ _ ?_ ?_ ?_ ?_ ?_
                          · omega
                          · omega
                          · omega
                          · intro c hc; first | exact hI c hc | (rw [wr_other _ _ _ _ hc]; exact hI c hc)
                          · first | exact hv | (rw [wr_self]; exact hv) | (rw [wr_self, show top - (1 + 1) + 1 = top - 1 by omega]; exact hv)
                        · rw [← nI_0] at c_211
                          rw [if_pos ⟨c_206, c_211⟩] at hv
                          refine wx_iconst (v := (nI 0)) rfl (e := 215) rfl (by decide) ?_
                          refine wx_iret rfl rfl rfl ⟨by decide, by decide⟩ ?_
                          rw [← hv] at hq
                          exact hq I2 hI
                    · rw [if_pos c_172] at hv
                      refine wx_iload rfl (e := 177) rfl rfl ?_
                      refine wx_iload rfl (e := 179) rfl rfl ?_
                      first | refine wn_ic_ge rfl (e := 182) rfl (by omega) (by omega) (fun c_179 => ?_) (fun c_179 => ?_) | refine wx_ic_ge rfl (e := 182) rfl (fun c_179 => ?_) (fun c_179 => ?_)
                      · rw [if_pos c_179] at hv
                        refine wx_iload_n rfl (e := 187) rfl rfl ?_
                        refine wx_aload_n rfl (e := 188) rfl rfl ?_
                        refine wx_getr rfl (e := 191) rfl rfl rfl ?_
                        refine wx_iload_n rfl (e := 192) rfl rfl ?_
                        first | refine wn_iald rfl (e := 193) rfl rfl (by omega) (by decide) ?_ | refine wx_iald rfl (e := 193) rfl rfl (by assumption) ?_
                        rw [hI 19 (by decide)]
                        refine wx_iconst (v := (nI 1)) rfl (e := 194) rfl (by decide) ?_
                        first | refine wn_isub rfl (e := 195) rfl (by omega) ?_ | refine wx_isub rfl (e := 195) rfl ?_
                        refine wx_cs2 (mc := 0) (ms := 0) rfl (e := 198) rfl (Nat.le_of_ble_eq_true rfl) ⟨by decide, by decide⟩ ?_
                        refine c_J9_max_7cf53 ?_
                        obtain ⟨m, hm, em⟩ := hj at_ (by omega) c_172
                        show WP _ _ _ _ _ (Value.int (if nI at_ < I 19 at_ - nI 1 then I 19 at_ - nI 1 else nI at_) :: _) _ _ _
                        rw [max_nI at_ (by omega) hm em]
                        have hmx : max at_ ((I 19 at_).toNatClampNeg - 1) ≤ 419 := by rw [em, nI_clamp (by omega)]; omega
                        have hmy : at_ ≤ max at_ ((I 19 at_).toNatClampNeg - 1) := Nat.le_max_left _ _
                        generalize max at_ ((I 19 at_).toNatClampNeg - 1) = at2 at hv hmx hmy ⊢
                        refine wx_istore_n (L2 := [_, _, _, _, _, _, _]) rfl (e := 199) rfl (by decide) rfl ?_
                        refine wx_goto rfl ?_
                        first | refine wn_iinc (m := 1) (L2 := [_, _, _, _, _, _, _]) rfl (e := 237) rfl rfl (by decide) rfl ?_ | refine wx_iinc (L2 := [_, _, _, _, _, _, _]) rfl (e := 237) rfl rfl (by decide) rfl ?_
                        refine wx_goto rfl ?_
                        refine ih _ _ _ _ _ _ ?_ ?_ ?_ ?_ ?_
                        · omega
                        · omega
                        · omega
                        · intro c hc; first | exact hI c hc | (rw [wr_other _ _ _ _ hc]; exact hI c hc)
                        · first | exact hv | (rw [wr_self]; exact hv) | (rw [wr_self, show top - (1 + 1) + 1 = top - 1 by omega]; exact hv)
                      · rw [if_neg c_179] at hv
                        refine wx_iload_n rfl (e := 183) rfl rfl ?_
                        refine wx_goto rfl ?_
                        refine wx_istore_n (L2 := [_, _, _, _, _, _, _]) rfl (e := 199) rfl (by decide) rfl ?_
                        refine wx_goto rfl ?_
                        first | refine wn_iinc (m := 1) (L2 := [_, _, _, _, _, _, _]) rfl (e := 237) rfl rfl (by decide) rfl ?_ | refine wx_iinc (L2 := [_, _, _, _, _, _, _]) rfl (e := 237) rfl rfl (by decide) rfl ?_
                        refine wx_goto rfl ?_
                        refine ih _ _ _ _ _ _ ?_ ?_ ?_ ?_ ?_
                        · omega
                        · omega
                        · omega
                        · intro c hc; first | exact hI c hc | (rw [wr_other _ _ _ _ hc]; exact hI c hc)
                        · first | exact hv | (rw [wr_self]; exact hv) | (rw [wr_self, show top - (1 + 1) + 1 = top - 1 by omega]; exact hv)
                  · rw [if_pos (by omega)] at hv
                    refine wx_iconst (v := (nI 0)) rfl (e := 147) rfl (by decide) ?_
                    refine wx_iret rfl rfl rfl ⟨by decide, by decide⟩ ?_
                    rw [← hv] at hq
                    exact hq I2 hI
              · rw [if_pos (Or.inr c_84)] at hv
                refine wx_iload_n rfl (e := 88) rfl rfl ?_
                refine wn_if_lt rfl (e := 91) rfl (by omega) ?_
                refine wx_iload_n rfl (e := 92) rfl rfl ?_
                refine wx_bipush (v := (nI 20)) rfl (e := 94) rfl (by decide) ?_
                first | refine wn_ic_lt rfl (e := 97) rfl (by omega) (by omega) (fun c_94 => ?_) (fun c_94 => ?_) | refine wx_ic_lt rfl (e := 97) rfl (fun c_94 => ?_) (fun c_94 => ?_)
                · rw [if_neg (by omega)] at hv
                  refine wx_aload_n rfl (e := 100) rfl rfl ?_
                  refine wx_getr rfl (e := 103) rfl rfl rfl ?_
                  refine wx_iload_n rfl (e := 104) rfl rfl ?_
                  refine wx_iload rfl (e := 106) rfl rfl ?_
                  first | refine wn_if_ne rfl (e := 109) rfl (by omega) (fun c_106 => ?_) (fun c_106 => ?_) | refine wx_if_ne rfl (e := 109) rfl (fun c_106 => ?_) (fun c_106 => ?_)
                  · rw [← nI_0] at c_106
                    rw [if_neg c_106] at hv
                    refine wx_aload_n rfl (e := 119) rfl rfl ?_
                    refine wx_aload_n rfl (e := 120) rfl rfl ?_
                    refine wx_getr rfl (e := 123) rfl rfl rfl ?_
                    refine wx_iload_n rfl (e := 124) rfl rfl ?_
                    first | refine wn_iald rfl (e := 125) rfl rfl (by omega) (by decide) ?_ | refine wx_iald rfl (e := 125) rfl rfl (by assumption) ?_
                    rw [hI 19 (by decide)]
                    refine wx_cv1 (mc := 0) (ms := 0) rfl (e := 128) rfl rfl (Nat.le_of_ble_eq_true rfl) ⟨by decide, by decide⟩ ?_
                    refine c_X2_varOf (Or.inr rfl) (fun j hj9 e9 => ?_) (fun e9 => ?_)
                    · rw [e9, varS_in _ hj9, ← show I2 (17 + 4) j = I 21 j from by rw [hI (17 + 4) (by decide)]] at hv
                      first | refine wn_iast rfl (e := 129) rfl rfl (by decide) (by omega) (by decide) ?_ | refine wx_iast rfl (e := 129) rfl rfl (by decide) (by assumption) ?_
                      first | refine wn_iinc (m := 1) (L2 := [_, _, _, _, _, _, _]) rfl (e := 132) rfl rfl (by decide) rfl ?_ | refine wx_iinc (L2 := [_, _, _, _, _, _, _]) rfl (e := 132) rfl rfl (by decide) rfl ?_
                      refine wx_goto rfl ?_
                      first | refine wn_iinc (m := 1) (L2 := [_, _, _, _, _, _, _]) rfl (e := 237) rfl rfl (by decide) rfl ?_ | refine wx_iinc (L2 := [_, _, _, _, _, _, _]) rfl (e := 237) rfl rfl (by decide) rfl ?_
                      refine wx_goto rfl ?_
                      refine ih _ _ _ _ _ _ ?_ ?_ ?_ ?_ ?_
                      · omega
                      · omega
                      · omega
                      · intro c hc; first | exact hI c hc | (rw [wr_other _ _ _ _ hc]; exact hI c hc)
                      · first | exact hv | (rw [wr_self]; exact hv) | (rw [wr_self, show top - (1 + 1) + 1 = top - 1 by omega]; exact hv)
                    · rw [varS_out _ e9] at hv
                      first | refine wn_iast rfl (e := 129) rfl rfl (by decide) (by omega) (by decide) ?_ | refine wx_iast rfl (e := 129) rfl rfl (by decide) (by assumption) ?_
                      first | refine wn_iinc (m := 1) (L2 := [_, _, _, _, _, _, _]) rfl (e := 132) rfl rfl (by decide) rfl ?_ | refine wx_iinc (L2 := [_, _, _, _, _, _, _]) rfl (e := 132) rfl rfl (by decide) rfl ?_
                      refine wx_goto rfl ?_
                      first | refine wn_iinc (m := 1) (L2 := [_, _, _, _, _, _, _]) rfl (e := 237) rfl rfl (by decide) rfl ?_ | refine wx_iinc (L2 := [_, _, _, _, _, _, _]) rfl (e := 237) rfl rfl (by decide) rfl ?_
                      refine wx_goto rfl ?_
                      refine ih _ _ _ _ _ _ ?_ ?_ ?_ ?_ ?_
                      · omega
                      · omega
                      · omega
                      · intro c hc; first | exact hI c hc | (rw [wr_other _ _ _ _ hc]; exact hI c hc)
                      · first | exact hv | (rw [wr_self]; exact hv) | (rw [wr_self, show top - (1 + 1) + 1 = top - 1 by omega]; exact hv)
                  · rw [← nI_0] at c_106
                    rw [if_pos c_106] at hv
                    refine wx_aload_n rfl (e := 110) rfl rfl ?_
                    refine wx_getr rfl (e := 113) rfl rfl rfl ?_
                    refine wx_iload_n rfl (e := 114) rfl rfl ?_
                    first | refine wn_iald rfl (e := 115) rfl rfl (by omega) (by decide) ?_ | refine wx_iald rfl (e := 115) rfl rfl (by assumption) ?_
                    rw [hI 19 (by decide)]
                    refine wx_goto rfl ?_
                    first | refine wn_iast rfl (e := 129) rfl rfl (by decide) (by omega) (by decide) ?_ | refine wx_iast rfl (e := 129) rfl rfl (by decide) (by assumption) ?_
                    first | refine wn_iinc (m := 1) (L2 := [_, _, _, _, _, _, _]) rfl (e := 132) rfl rfl (by decide) rfl ?_ | refine wx_iinc (L2 := [_, _, _, _, _, _, _]) rfl (e := 132) rfl rfl (by decide) rfl ?_
                    refine wx_goto rfl ?_
                    first | refine wn_iinc (m := 1) (L2 := [_, _, _, _, _, _, _]) rfl (e := 237) rfl rfl (by decide) rfl ?_ | refine wx_iinc (L2 := [_, _, _, _, _, _, _]) rfl (e := 237) rfl rfl (by decide) rfl ?_
                    refine wx_goto rfl ?_
                    refine ih _ _ _ _ _ _ ?_ ?_ ?_ ?_ ?_
                    · omega
                    · omega
                    · omega
                    · intro c hc; first | exact hI c hc | (rw [wr_other _ _ _ _ hc]; exact hI c hc)
                    · first | exact hv | (rw [wr_self]; exact hv) | (rw [wr_self, show top - (1 + 1) + 1 = top - 1 by omega]; exact hv)
                · rw [if_pos (by omega)] at hv
                  refine wx_iconst (v := (nI 0)) rfl (e := 98) rfl (by decide) ?_
                  refine wx_iret rfl rfl rfl ⟨by decide, by decide⟩ ?_
                  rw [← hv] at hq
                  exact hq I2 hI
          · rw [if_pos c_50] at hv
            refine wx_iload_n rfl (e := 54) rfl rfl ?_
            first | refine wn_if_le rfl (e := 57) rfl (by omega) (fun c_54 => ?_) (fun c_54 => ?_) | refine wx_if_le rfl (e := 57) rfl (fun c_54 => ?_) (fun c_54 => ?_)
            · rw [if_pos (by omega)] at hv
              refine wx_iconst (v := (nI 0)) rfl (e := 75) rfl (by decide) ?_
              refine wx_iret rfl rfl rfl ⟨by decide, by decide⟩ ?_
              rw [← hv] at hq
              exact hq I2 hI
            · refine wx_iload_n rfl (e := 58) rfl rfl ?_
              refine wx_bipush (v := (nI 20)) rfl (e := 60) rfl (by decide) ?_
              first | refine wn_ic_gt rfl (e := 63) rfl (by omega) (by omega) (fun c_60 => ?_) (fun c_60 => ?_) | refine wx_ic_gt rfl (e := 63) rfl (fun c_60 => ?_) (fun c_60 => ?_)
              · rw [if_pos (by omega)] at hv
                refine wx_iconst (v := (nI 0)) rfl (e := 75) rfl (by decide) ?_
                refine wx_iret rfl rfl rfl ⟨by decide, by decide⟩ ?_
                rw [← hv] at hq
                exact hq I2 hI
              · rw [if_neg (by omega)] at hv
                refine wx_aload_n rfl (e := 64) rfl rfl ?_
                refine wx_getr rfl (e := 67) rfl rfl rfl ?_
                refine wx_iload_n rfl (e := 68) rfl rfl ?_
                refine wx_iconst (v := (nI 1)) rfl (e := 69) rfl (by decide) ?_
                first | refine wn_isub rfl (e := 70) rfl (by omega) ?_ | refine wx_isub rfl (e := 70) rfl ?_
                first | refine wn_iald rfl (e := 71) rfl rfl (by omega) (by decide) ?_ | refine wx_iald rfl (e := 71) rfl rfl (by assumption) ?_
                refine wx_goto rfl ?_
                refine wx_iret rfl rfl rfl ⟨by decide, by decide⟩ ?_
                rw [← hv] at hq
                exact hq I2 hI
  refine wx_in (M := mX2_value) rfl rfl rfl (Nat.le_of_ble_eq_true rfl) ?_
  refine wx_iload_n rfl (e := 1) rfl rfl ?_
  refine wn_if_lt rfl (e := 4) rfl (by omega) ?_
  refine wx_iload_n rfl (e := 5) rfl rfl ?_
  refine wx_iconst (v := (nI 5)) rfl (e := 6) rfl (by decide) ?_
  first | refine wn_ic_lt rfl (e := 9) rfl (by omega) (by omega) (fun c_6 => ?_) (fun c_6 => absurd c_6 (by omega)) | refine wx_ic_lt rfl (e := 9) rfl (fun c_6 => ?_) (fun c_6 => absurd c_6 (by omega))
  refine wx_iconst (v := (nI 0)) rfl (e := 12) rfl (by decide) ?_
  refine wx_istore_n (L2 := [_, _, _, _, _, _, _]) rfl (e := 13) rfl (by decide) rfl ?_
  refine wx_iconst (v := (nI 0)) rfl (e := 14) rfl (by decide) ?_
  refine wx_aload_n rfl (e := 15) rfl rfl ?_
  refine wx_getr rfl (e := 18) rfl rfl rfl ?_
  refine wx_iload_n rfl (e := 19) rfl rfl ?_
  first | refine wn_iald rfl (e := 20) rfl rfl (by omega) (by decide) ?_ | refine wx_iald rfl (e := 20) rfl rfl (by assumption) ?_
  rw [(hs k hk).2]
  refine wx_cs2 (mc := 0) (ms := 0) rfl (e := 23) rfl (Nat.le_of_ble_eq_true rfl) ⟨by decide, by decide⟩ ?_
  refine c_J9_max_7cf53 ?_
  show WP _ _ _ _ _ (Value.int (if nI 0 < nI (ss k) then nI (ss k) else nI 0) :: _) _ _ _
  rw [max_nI0 (by have := (hs k hk).1; omega)]
  refine wx_istore_n (L2 := [_, _, _, _, _, _, _]) rfl (e := 24) rfl (by decide) rfl ?_
  refine loop 421 (ss k) 0 I none none none (by have := (hs k hk).1; omega) (by omega) (by omega) (fun c _ => rfl) ?_
  rw [← hV]
  exact cev_sk _ _ _ _ _ (fun i hi => absurd hi (Nat.not_lt_zero _))
theorem c_X2_value {d Lx t rt u : Nat} {I : Nat → Nat → Int32} {G : Nat → Nat → Int64} {Q : ab_Q} {w us k : Nat} {ss : Nat → Nat} (hw : w = 2 ∨ w = 17) (hok : lwok I w us ss) (hk : k < 5) (hq : ∀ I2, (∀ c, c ≠ w + 5 → I2 c = I c) → Q (some (.int (cev us (I (w + 1)) (I (w + 2)) (I (w + 4)) 421 (ss k) 0 (fun _ => nI 0)))) (hp Lx t rt u I2 G)) : ab_call ab_MT (d + 2) 43 [.ref w, .int (nI k)] (hp Lx t rt u I G) 0 0 Q := by
  rcases hw with rfl | rfl
  · exact c_X2_value_2 hok hk hq
  · exact c_X2_value_17 hok hk hq

/-! the course: years -/
theorem goalL_in (T : tx) (r : rw_) (a : Nat) : ∀ c, (goalL T r a c).1 = -2 ∨ ∃ b, b < c ∧ (goalL T r a c).1 = nI b
  | 0 => Or.inl rfl
  | c + 1 => by
    have ih := goalL_in T r a c
    have key : ∀ q : Int32 × Int32, q = goalL T r a c ∨ q.1 = nI c → q.1 = -2 ∨ ∃ b, b < c + 1 ∧ q.1 = nI b := by
      rintro q (rfl | h)
      · rcases ih with h | ⟨b, h1, h2⟩
        · exact Or.inl h
        · exact Or.inr ⟨b, by omega, h2⟩
      · exact Or.inr ⟨c, by omega, h⟩
    rw [goalL]
    split
    · exact key _ (Or.inl rfl)
    · split
      · exact key _ (Or.inr rfl)
      · exact key _ (Or.inl rfl)
theorem glS_in (T : tx) (r : rw_) (a : Nat) : glS T r a = -2 ∨ ∃ b, b < tC T ∧ a < tP T ∧ glS T r a = nI b := by
  unfold glS
  split
  · rcases goalL_in T r a (tC T) with h | ⟨b, h1, h2⟩
    · exact Or.inl h
    · exact Or.inr ⟨b, h1, by assumption, h2⟩
  · exact Or.inl rfl
theorem wr_ext {I : Nat → Nat → Int32} {c k n : Nat} {v : Int32} {f : Nat → Int32} (h1 : v = f k) (h2 : ∀ j, j < n → j ≠ k → I c j = f j) : ∀ j, j < n → wr I c k v c j = f j := by
  intro j hj
  rw [wr_at, if_pos rfl]
  by_cases z : j = k
  · rw [if_pos z, z]; exact h1
  · rw [if_neg z]; exact h2 j hj z
theorem visL_pos12 (T : tx) (sd : Int32) (a c : Nat) (r : rw_) {k : Nat} (hk : k < 12) : ∀ e : Nat, (visL T sd a c r e).1 k = r k
  | 0 => rfl
  | e + 1 => by
    have ih := visL_pos12 T sd a c r hk e
    rw [visL]
    split
    · show up1 (up1 (up1 _ _ _) _ _) _ _ k = _
      unfold up1
      rw [if_neg (by omega), if_neg (by omega), if_neg (by omega)]
      exact ih
    · exact ih
theorem visR_pos (T : tx) (sd : Int32) (a c : Nat) (r : rw_) {k : Nat} (hk : k < 12) : visR T sd a c r k = r k := by
  unfold visR
  show up1 (up1 _ _ _) _ _ k = _
  unfold up1
  rw [if_neg (by omega), if_neg (by omega)]
  exact visL_pos12 T sd a c r hk 6
theorem yrL_pos (T : tx) (sd : Int32) (r : rw_) {k : Nat} (hk : k < 12) : ∀ a : Nat, (yrL T sd r a).1 k = r k
  | 0 => rfl
  | a + 1 => by
    have ih := yrL_pos T sd r hk a
    rw [yrL]
    split
    · exact ih
    · exact (visR_pos T sd _ _ _ hk).trans ih
theorem yrsS_pos (T : tx) (sd : Int32) (r : rw_) {k : Nat} (hk : k < 12) : ∀ n : Nat, yrsS T sd r n k = r k
  | 0 => rfl
  | n + 1 => by
    have ih := yrsS_pos T sd r hk n
    show up1 _ _ _ k = _
    unfold up1
    rw [if_neg (by omega), yrL_pos T sd _ hk]
    exact ih
/-- but for the rows that a course works with, and a state's -/
def frp (u s : Nat) (I I2 : Nat → Nat → Int32) : Prop := ∀ q, q ≠ u + 5 → q ≠ u + 6 → q ≠ s + 1 → q ≠ 42 → q ≠ 43 → I2 q = I q
theorem frp.rf {u s : Nat} {I : Nat → Nat → Int32} : frp u s I I := fun _ _ _ _ _ _ => rfl
theorem frp.tr {u s : Nat} {I I2 I3 : Nat → Nat → Int32} (h1 : frp u s I I2) (h2 : frp u s I2 I3) : frp u s I I3 := fun q a b c d e => (h2 q a b c d e).trans (h1 q a b c d e)
theorem frp.T {u s : Nat} {I I2 : Nat → Nat → Int32} {T : tx} (hs : s = 39 ∨ s = 45) (h : frp u s I I2) (hT : CT u I T) : CT u I2 T := by
  have hu := hT.1
  exact hT.kept (fun c _ _ c5 c6 => h c c5 c6 (by omega) (by omega) (by omega))
theorem fr5.p {u s : Nat} {I I2 : Nat → Nat → Int32} (h : fr5 u I I2) : frp u s I I2 := fun q a b _ _ _ => h q a b
theorem frs.p {u s : Nat} {I I2 : Nat → Nat → Int32} (h : frs u s I I2) : frp u s I I2 := fun q a b c _ _ => h q a b c
theorem frp.w42 {u s : Nat} {I : Nat → Nat → Int32} (k : Nat) (v : Int32) : frp u s I (wr I 42 k v) := fun _ _ _ _ a _ => wr_other _ _ _ _ a
theorem frp.w43 {u s : Nat} {I : Nat → Nat → Int32} (k : Nat) (v : Int32) : frp u s I (wr I 43 k v) := fun _ _ _ _ _ a => wr_other _ _ _ _ a
set_option maxHeartbeats 1000000 in
theorem pass_year {d Lx t rt u : Nat} {I : Nat → Nat → Int32} {G : Nat → Nat → Int64} {Q : ab_Q} {T : tx} {r : rw_} {s : Nat} (hT : CT u I T) (hs : s = 39 ∨ s = 45) (hS : CS s I r) {n i : Nat} {sd : Int32} (hn : n ≤ 60) (hi : i < n) (hr : ∀ e, tR T ≤ e → e < 6 → r (6 + e) = -1) (x5 : Option Value)
    (hq : ∀ I2, frp u s I I2 → CS s I2 (yrS T sd r) → (∀ a, a < 5 → I2 43 a = nI (yrW T sd r a)) → ∀ x5, WP (d + 5) mX0_pass Q 3 [some (.ref 41), some (.ref s), some (.int sd), some (.int (nI n)), some (.int (nI (i + 1))), x5] [] (hp Lx t rt u I2 G) 0 0) : WP (d + 5) mX0_pass Q 9 [some (.ref 41), some (.ref s), some (.int sd), some (.int (nI n)), some (.int (nI i)), x5] [] (hp Lx t rt u I G) 0 0 := by
  have hu := hT.1
  obtain ⟨hC6, hR6, hP5, hH, hTf, hFn, hLx⟩ := hT.2.1
  obtain ⟨-, -, t1, t2, t3, t4, t5, t6, t7, -⟩ := id hT
  have loopB : ∀ (m a : Nat) (I2 : Nat → Nat → Int32), a ≤ 5 → 5 - a < m → frp u s I I2 → CS s I2 (yrL T sd r a).1 → (∀ j, j < 5 → I2 42 j = glS T r j) → (∀ j, j < a → I2 43 j = nI ((yrL T sd r a).2 j)) → WP (d + 5) mX0_pass Q 58 [some (.ref 41), some (.ref s), some (.int sd), some (.int (nI n)), some (.int (nI i)), some (.int (nI a))] [] (hp Lx t rt u I2 G) 0 0 := by
    intro m
    induction m with
    | zero => intro a I2 h1 h2; omega
    | succ m ihB =>
      intro a I2 h1 h2 f2 S2 g2 w2
      have T2 := f2.T hs hT
      refine wx_iload rfl (e := 60) rfl rfl ?_
      refine wx_iconst (v := (nI 5)) rfl (e := 61) rfl (by decide) ?_
      refine wn_ic_ge rfl (e := 64) rfl (by omega) (by omega) (fun c_61 => ?_) (fun c_61 => ?_)
      · refine wx_aload_n rfl (e := 107) rfl rfl ?_
        refine wx_bipush (v := (nI 52)) rfl (e := 109) rfl (by decide) ?_
        refine wx_iconst (v := (nI 1)) rfl (e := 110) rfl (by decide) ?_
        refine wx_cv2 (mc := 0) (ms := 0) rfl (e := 113) rfl (sh_s hs) (Nat.le_of_ble_eq_true rfl) ⟨by decide, by decide⟩ ?_
        refine c_X5_add hs (by omega) ?_
        refine wn_iinc (m := 1) (L2 := [_, _, _, _, _, _]) rfl (e := 116) rfl rfl (by decide) rfl ?_
        refine wx_goto rfl ?_
        have e5 : a = 5 := by omega
        subst e5
        have S4 := S2.addh (k := 52) (v := nI 1) (by omega) (by omega)
        exact hq _ (f2.tr (frs.w (u := u) 52 _).p) S4 (fun j hj => by rw [wr_other _ _ _ _ (by omega)]; exact w2 j hj) _
      · refine wx_aload_n rfl (e := 65) rfl rfl ?_
        refine wx_getr rfl (e := 68) rfl rfl rfl ?_
        refine wx_iload rfl (e := 70) rfl rfl ?_
        refine wx_aload_n rfl (e := 71) rfl rfl ?_
        refine wx_getr rfl (e := 74) rfl rfl rfl ?_
        refine wx_iload rfl (e := 76) rfl rfl ?_
        refine wn_iald rfl (e := 77) rfl rfl (by omega) (by decide) ?_
        rw [g2 a (by omega)]
        refine wx_if_ge rfl (e := 80) rfl (fun c_77 => ?_) (fun c_77 => ?_)
        · rw [← nI_0] at c_77
          obtain ⟨cc, hcc, haP, ecc⟩ : ∃ b, b < tC T ∧ a < tP T ∧ glS T r a = nI b := (glS_in T r a).resolve_left (fun z => by rw [z] at c_77; exact absurd c_77 (by decide))
          have hG : yrL T sd r (a + 1) = (visR T sd a cc (yrL T sd r a).1, fun j => if j = a then visW T sd a cc (yrL T sd r a).1 else (yrL T sd r a).2 j) := by rw [yrL, if_neg (Int32.not_lt.mpr c_77), ecc, nI_clamp (by omega)]
          refine wx_aload_n rfl (e := 85) rfl rfl ?_
          refine wx_aload_n rfl (e := 86) rfl rfl ?_
          refine wx_iload_n rfl (e := 87) rfl rfl ?_
          refine wx_iload rfl (e := 89) rfl rfl ?_
          refine wx_aload_n rfl (e := 90) rfl rfl ?_
          refine wx_getr rfl (e := 93) rfl rfl rfl ?_
          refine wx_iload rfl (e := 95) rfl rfl ?_
          refine wn_iald rfl (e := 96) rfl rfl (by omega) (by decide) ?_
          rw [g2 a (by omega), ecc]
          refine wx_cv4 (mc := 0) (ms := 0) rfl (e := 99) rfl rfl (Nat.le_of_ble_eq_true rfl) ⟨by decide, by decide⟩ ?_
          refine c_X0_visit T2 hs S2 haP hcc (fun e h1 h2 => by rw [yrL_pos T sd r (by omega)]; exact hr e h1 h2) (fun I3 f3 S3 => ?_)
          refine wn_iast rfl (e := 100) rfl rfl (by decide) (by omega) (by decide) ?_
          refine wn_iinc (m := 1) (L2 := [_, _, _, _, _, _]) rfl (e := 103) rfl rfl (by decide) rfl ?_
          refine wx_goto rfl ?_
          refine ihB (a + 1) _ (by omega) (by omega) (f2.tr (f3.p.tr (frp.w43 _ _))) (by rw [hG]; exact S3.kept (wr_other _ _ _ _ (by omega))) (fun j hj => by rw [wr_other _ _ _ _ (by decide), f3 42 (by omega) (by omega) (by omega)]; exact g2 j hj) ?_
          rw [hG]
          refine wr_ext (by simp) (fun j hj hne => ?_)
          simp only [if_neg hne]
          rw [f3 43 (by omega) (by omega) (by omega)]
          exact w2 j (by omega)
        · rw [← nI_0] at c_77
          have hG : yrL T sd r (a + 1) = ((yrL T sd r a).1, fun j => if j = a then 0 else (yrL T sd r a).2 j) := by rw [yrL, if_pos (Int32.not_le.mp c_77)]
          refine wx_iconst (v := (nI 0)) rfl (e := 81) rfl (by decide) ?_
          refine wx_goto rfl ?_
          refine wn_iast rfl (e := 100) rfl rfl (by decide) (by omega) (by decide) ?_
          refine wn_iinc (m := 1) (L2 := [_, _, _, _, _, _]) rfl (e := 103) rfl rfl (by decide) rfl ?_
          refine wx_goto rfl ?_
          refine ihB (a + 1) _ (by omega) (by omega) (f2.tr (frp.w43 _ _)) (by rw [hG]; exact S2.kept (wr_other _ _ _ _ (by omega))) (fun j hj => by rw [wr_other _ _ _ _ (by decide)]; exact g2 j hj) ?_
          rw [hG]
          refine wr_ext (by simp) (fun j hj hne => ?_)
          simp only [if_neg hne]
          exact w2 j (by omega)
  have loopB0 : ∀ (I2 : Nat → Nat → Int32), frp u s I I2 → CS s I2 r → (∀ j, j < 5 → I2 42 j = glS T r j) → ∀ {a : Nat}, WP (d + 5) mX0_pass Q 55 [some (.ref 41), some (.ref s), some (.int sd), some (.int (nI n)), some (.int (nI i)), some (.int (nI a))] [] (hp Lx t rt u I2 G) 0 0 := by
    intro I2 f2 S2 g2 a
    refine wx_iconst (v := (nI 0)) rfl (e := 56) rfl (by decide) ?_
    refine wx_istore (L2 := [_, _, _, _, _, _]) rfl (e := 58) rfl (by decide) rfl ?_
    exact loopB 6 0 _ (by omega) (by omega) f2 S2 g2 (fun j hj => absurd hj (Nat.not_lt_zero _))
  have loopA : ∀ (m a : Nat) (I2 : Nat → Nat → Int32), a ≤ 5 → 5 - a < m → frp u s I I2 → CS s I2 r → (∀ j, j < a → I2 42 j = glS T r j) → WP (d + 5) mX0_pass Q 12 [some (.ref 41), some (.ref s), some (.int sd), some (.int (nI n)), some (.int (nI i)), some (.int (nI a))] [] (hp Lx t rt u I2 G) 0 0 := by
    intro m
    induction m with
    | zero => intro a I2 h1 h2; omega
    | succ m ihA =>
      intro a I2 h1 h2 f2 S2 g2
      have T2 := f2.T hs hT
      refine wx_iload rfl (e := 14) rfl rfl ?_
      refine wx_iconst (v := (nI 5)) rfl (e := 15) rfl (by decide) ?_
      refine wn_ic_ge rfl (e := 18) rfl (by omega) (by omega) (fun c_15 => ?_) (fun c_15 => ?_)
      · exact loopB0 _ f2 S2 (fun j hj => g2 j (by omega))
      · refine wx_aload_n rfl (e := 19) rfl rfl ?_
        refine wx_getr rfl (e := 22) rfl rfl rfl ?_
        refine wx_iload rfl (e := 24) rfl rfl ?_
        refine wx_aload_n rfl (e := 25) rfl rfl ?_
        refine wx_getr rfl (e := 28) rfl rfl rfl ?_
        refine wx_iload rfl (e := 30) rfl rfl ?_
        refine wx_cv1 (mc := 0) (ms := 0) rfl (e := 33) rfl (sh_t hu) (Nat.le_of_ble_eq_true rfl) ⟨by decide, by decide⟩ ?_
        refine c_X7_hasPilgrim hu (n := tP T) T2.2.2.2.2.1 (by omega) (fun k hk ek => ?_) (fun hno => ?_)
        · have haP : a < tP T := by have := (nI_eq (by omega) (by omega)).mp ek; omega
          refine wn_if_eq rfl (e := 36) rfl (by omega) (fun c_33 => absurd c_33 (by omega)) (fun c_33 => ?_)
          refine wx_aload_n rfl (e := 37) rfl rfl ?_
          refine wx_aload_n rfl (e := 38) rfl rfl ?_
          refine wx_iload rfl (e := 40) rfl rfl ?_
          refine wx_cv2 (mc := 0) (ms := 0) rfl (e := 43) rfl rfl (Nat.le_of_ble_eq_true rfl) ⟨by decide, by decide⟩ ?_
          refine c_X0_goal T2 hs S2 haP (fun I3 f3 => ?_)
          have eg : goalS T r a = glS T r a := by unfold glS; rw [if_pos haP]
          rw [eg]
          refine wx_goto rfl ?_
          refine wn_iast rfl (e := 49) rfl rfl (by decide) (by omega) (by decide) ?_
          refine wn_iinc (m := 1) (L2 := [_, _, _, _, _, _]) rfl (e := 52) rfl rfl (by decide) rfl ?_
          refine wx_goto rfl ?_
          refine ihA (a + 1) _ (by omega) (by omega) (f2.tr (f3.p.tr (frp.w42 _ _))) ((f3.S hu hs S2).kept (wr_other _ _ _ _ (by omega))) (wr_ext rfl (fun j hj hne => ?_))
          rw [f3 42 (by omega) (by omega)]
          exact g2 j (by omega)
        · have haP : ¬ a < tP T := fun z => hno a z rfl
          refine wn_if_eq rfl (e := 36) rfl (by omega) (fun c_33 => ?_) (fun c_33 => absurd c_33 (by omega))
          refine wx_bipush (v := (-2)) rfl (e := 48) rfl (by decide) ?_
          refine wn_iast rfl (e := 49) rfl rfl (by decide) (by omega) (by decide) ?_
          refine wn_iinc (m := 1) (L2 := [_, _, _, _, _, _]) rfl (e := 52) rfl rfl (by decide) rfl ?_
          refine wx_goto rfl ?_
          refine ihA (a + 1) _ (by omega) (by omega) (f2.tr (frp.w42 _ _)) (S2.kept (wr_other _ _ _ _ (by omega))) (wr_ext (by unfold glS; rw [if_neg haP]) (fun j hj hne => ?_))
          exact g2 j (by omega)
  refine wx_iconst (v := (nI 0)) rfl (e := 10) rfl (by decide) ?_
  refine wx_istore (L2 := [_, _, _, _, _, _]) rfl (e := 12) rfl (by decide) rfl ?_
  exact loopA 6 0 I (by omega) (by omega) frp.rf hS (fun j hj => absurd hj (Nat.not_lt_zero _))
set_option maxHeartbeats 1000000 in
theorem c_X0_pass {d Lx t rt u : Nat} {I : Nat → Nat → Int32} {G : Nat → Nat → Int64} {Q : ab_Q} {T : tx} {r : rw_} {s : Nat} (hT : CT u I T) (hs : s = 39 ∨ s = 45) (hS : CS s I r) {n : Nat} {sd : Int32} (hn : n ≤ 60) (hr : ∀ e, tR T ≤ e → e < 6 → r (6 + e) = -1) (hq : ∀ I2, frp u s I I2 → CS s I2 (yrsS T sd r n) → (∀ m, n = m + 1 → ∀ a, a < 5 → I2 43 a = nI (yrW T sd (yrsS T sd r m) a)) → Q none (hp Lx t rt u I2 G)) : ab_call ab_MT (d + 6) 14 [.ref 41, .ref s, .int sd, .int (nI n)] (hp Lx t rt u I G) 0 0 Q := by
  have hu := hT.1
  obtain ⟨hC6, hR6, hP5, hH, hTf, hFn, hLx⟩ := hT.2.1
  obtain ⟨-, -, t1, t2, t3, t4, t5, t6, t7, -⟩ := id hT
  have loop : ∀ (m i : Nat) (I2 : Nat → Nat → Int32), i ≤ n → n - i < m → frp u s I I2 → CS s I2 (yrsS T sd r i) → (∀ m, i = m + 1 → ∀ a, a < 5 → I2 43 a = nI (yrW T sd (yrsS T sd r m) a)) → ∀ x5, WP (d + 5) mX0_pass Q 3 [some (.ref 41), some (.ref s), some (.int sd), some (.int (nI n)), some (.int (nI i)), x5] [] (hp Lx t rt u I2 G) 0 0 := by
    intro m
    induction m with
    | zero => intro i I2 h1 h2; omega
    | succ m ih =>
      intro i I2 h1 h2 f2 S2 w2 x5
      refine wx_iload rfl (e := 5) rfl rfl ?_
      refine wx_iload_n rfl (e := 6) rfl rfl ?_
      refine wn_ic_ge rfl (e := 9) rfl (by omega) (by omega) (fun c_6 => ?_) (fun c_6 => ?_)
      · refine wx_ret rfl rfl ⟨by decide, by decide⟩ ?_
        have e : i = n := by omega
        subst e
        exact hq I2 f2 S2 w2
      · exact pass_year (f2.T hs hT) hs S2 hn (by omega) (fun e h1 h2 => by rw [yrsS_pos T sd r (by omega)]; exact hr e h1 h2) _ (fun I3 f3 S3 w3 x5 => ih (i + 1) I3 (by omega) (by omega) (f2.tr f3) S3 (fun m hm a ha => by cases hm; exact w3 a ha) x5)
  refine wx_in (M := mX0_pass) rfl rfl rfl (Nat.le_of_ble_eq_true rfl) ?_
  refine wx_iconst (v := (nI 0)) rfl (e := 1) rfl (by decide) ?_
  refine wx_istore (L2 := [_, _, _, _, _, _]) rfl (e := 3) rfl (by decide) rfl ?_
  exact loop (n + 1) 0 I (by omega) (by omega) frp.rf hS (fun m hm => by cases hm) _

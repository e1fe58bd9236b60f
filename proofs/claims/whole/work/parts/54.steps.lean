/-! the class's steps of a law, and what they tell -/
def stK (k : Nat) : Nat := if k = 0 then 0 else if k = 1 then 1 else if k = 2 then 43 else if k = 3 then 45 else if k = 4 then 42 else 47
theorem rev_ap (vs : Nat → Int32) (M : List Int32) : ∀ (p : rpn) (L : List Int32) (e : Nat), rwg p L.length e → rev_ vs p (L ++ M) = (rev_ vs p L).map (fun x => x ++ M)
  | [], L, e, _ => rfl
  | q :: p, L, e, h => by
    rw [rwg] at h
    by_cases z : q.1 < 2
    · rw [if_pos z] at h
      by_cases z0 : q.1 = 0
      · rw [rev_0 z0, rev_0 z0, ← List.cons_append]; exact rev_ap vs M p (q.2 :: L) e h.2.2
      · have z1 : q.1 = 1 := by omega
        rw [rev_1 z1, rev_1 z1, ← List.cons_append]; exact rev_ap vs M p (varS vs q.2 :: L) e h.2.2
    · rw [if_neg z] at h
      match L, h with
      | [], h => exact absurd h.2.1 (by show ¬ 2 ≤ 0; omega)
      | [_], h => exact absurd h.2.1 (by show ¬ 2 ≤ 1; omega)
      | b :: a :: L2, h =>
        by_cases zb : q.1 = 5 ∧ b = nI 0
        · rw [List.cons_append, List.cons_append, rev_b z zb, rev_b z zb]; rfl
        · rw [List.cons_append, List.cons_append, rev_o z zb, rev_o z zb, ← List.cons_append]; exact rev_ap vs M p (opS q.1 a b :: L2) e h.2.2
theorem rev_len (vs : Nat → Int32) : ∀ (p : rpn) (L L2 : List Int32) (e : Nat), rwg p L.length e → rev_ vs p L = some L2 → L2.length = e
  | [], L, L2, e, h, h2 => by
    have e2 : L = L2 := Option.some.inj h2
    rw [← e2]; exact h
  | q :: p, L, L2, e, h, h2 => by
    rw [rwg] at h
    by_cases z : q.1 < 2
    · rw [if_pos z] at h
      by_cases z0 : q.1 = 0
      · rw [rev_0 z0] at h2; exact rev_len vs p (q.2 :: L) L2 e h.2.2 h2
      · have z1 : q.1 = 1 := by omega
        rw [rev_1 z1] at h2; exact rev_len vs p (varS vs q.2 :: L) L2 e h.2.2 h2
    · rw [if_neg z] at h
      match L, h, h2 with
      | [], h, _ => exact absurd h.2.1 (by show ¬ 2 ≤ 0; omega)
      | [_], h, _ => exact absurd h.2.1 (by show ¬ 2 ≤ 1; omega)
      | b :: a :: L3, h, h2 =>
        by_cases zb : q.1 = 5 ∧ b = nI 0
        · rw [rev_b z zb] at h2; exact absurd h2 (by simp)
        · rw [rev_o z zb] at h2; exact rev_len vs p (opS q.1 a b :: L3) L2 e h.2.2 h2
/-- steps as the class keeps them, from a on -/
def KC (st ar : Nat → Int32) : Nat → rpn → Prop
  | _, [] => True
  | a, q :: p => st a = nI (stK q.1) ∧ (q.1 < 2 → ar a = q.2) ∧ KC st ar (a + 1) p
theorem KC.ap {st ar : Nat → Int32} : ∀ (p : rpn) {q : rpn} {a : Nat}, KC st ar a p → KC st ar (a + p.length) q → KC st ar a (p ++ q)
  | [], q, a, _, h => h
  | x :: p, q, a, h1, h2 => ⟨h1.1, h1.2.1, KC.ap p h1.2.2 (by rw [List.length_cons] at h2; rwa [show a + 1 + p.length = a + (p.length + 1) by omega])⟩
theorem KC.kept {st ar st2 ar2 : Nat → Int32} : ∀ (p : rpn) {a : Nat}, (∀ i, i < a + p.length → st2 i = st i ∧ ar2 i = ar i) → KC st ar a p → KC st2 ar2 a p
  | [], a, _, _ => True.intro
  | x :: p, a, hk, h => by
    have h0 := hk a (by rw [List.length_cons]; omega)
    exact ⟨h0.1.trans h.1, fun z => h0.2.trans (h.2.1 z), KC.kept p (fun i hi => hk i (by rw [List.length_cons]; omega)) h.2.2⟩
theorem stk_upd {sk : Nat → Int32} {k : Nat} {v : Int32} : ∀ {L : List Int32}, L.length ≤ k → stk sk L → stk (upd sk k v) L
  | [], _, _ => True.intro
  | x :: L, hl, h => by
    rw [List.length_cons] at hl
    refine ⟨?_, stk_upd (by omega) h.2⟩
    unfold upd
    rw [if_neg (by omega)]
    exact h.1
theorem upd_eq (sk : Nat → Int32) (k : Nat) (v : Int32) : upd sk k v k = v := by unfold upd; rw [if_pos rfl]
theorem stK_s {q : Nat} (hz : ¬ q < 2) (hq : q ≤ 5) : nI (stK q) ≠ nI 0 ∧ nI (stK q) ≠ nI 1 ∧ nI (stK q) ≠ nI 2 ∧ nI (stK q) ≠ nI 3 ∧ (nI (stK q) = nI 47 ↔ q = 5) ∧ ∀ a b, ¬ (q = 5 ∧ b = nI 0) → wrkS (nI (stK q)) a b = opS q a b := by
  have h : q = 2 ∨ q = 3 ∨ q = 4 ∨ q = 5 := by omega
  rcases h with h | h | h | h <;> subst h
  · exact ⟨by decide, by decide, by decide, by decide, by decide, fun a b _ => rfl⟩
  · exact ⟨by decide, by decide, by decide, by decide, by decide, fun a b _ => rfl⟩
  · exact ⟨by decide, by decide, by decide, by decide, by decide, fun a b _ => rfl⟩
  · refine ⟨by decide, by decide, by decide, by decide, by decide, fun a b hb => ?_⟩
    show (if nI 47 = nI 43 then a + b else if nI 47 = nI 45 then a - b else if nI 47 = nI 42 then a * b else if b = nI 0 then nI 0 else a / b) = a / b
    rw [if_neg (by decide), if_neg (by decide), if_neg (by decide), if_neg (fun z => hb ⟨rfl, z⟩)]
theorem cev_p {us : Nat} {st ar vs : Nat → Int32} (hu : us ≤ 420) : ∀ (p : rpn) (L : List Int32) (e a f : Nat) (sk : Nat → Int32), KC st ar a p → rwg p L.length e → stk sk L → a + p.length ≤ us → L.length ≤ 16 →
    (rev_ vs p L = none → cev us st ar vs (f + p.length) a L.length sk = nI 0) ∧ ∀ L2, rev_ vs p L = some L2 → ∃ sk2, stk sk2 L2 ∧ cev us st ar vs (f + p.length) a L.length sk = cev us st ar vs f (a + p.length) L2.length sk2
  | [], L, e, a, f, sk, _, _, hs, _, _ => ⟨fun h => absurd h (by simp [rev_]), fun L2 h => by
      have e2 : L = L2 := Option.some.inj h
      subst e2; exact ⟨sk, hs, rfl⟩⟩
  | q :: p, L, e, a, f, sk, hK, hw, hs, ha, hl => by
    rw [List.length_cons] at ha
    rw [rwg] at hw
    have hcut : ¬ (us ≤ a ∨ 420 ≤ a) := by omega
    have hun : ∀ X, cev us st ar vs (f + (q :: p).length) a L.length sk = X ↔ cev us st ar vs (f + p.length + 1) a L.length sk = X := fun X => by rw [List.length_cons, Nat.add_assoc]
    by_cases z : q.1 < 2
    · rw [if_pos z] at hw
      have hst : st a = nI 0 ∨ st a = nI 1 := by
        rw [hK.1]
        rcases (show q.1 = 0 ∨ q.1 = 1 by omega) with h | h <;> rw [h] <;> decide
      have hst3 : ¬ st a = nI 3 := by
        rw [hK.1]
        rcases (show q.1 = 0 ∨ q.1 = 1 by omega) with h | h <;> rw [h] <;> decide
      have key : ∀ v, (if st a = nI 0 then ar a else varS vs (ar a)) = v → rev_ vs (q :: p) L = rev_ vs p (v :: L) → (rev_ vs (q :: p) L = none → cev us st ar vs (f + (q :: p).length) a L.length sk = nI 0) ∧ ∀ L2, rev_ vs (q :: p) L = some L2 → ∃ sk2, stk sk2 L2 ∧ cev us st ar vs (f + (q :: p).length) a L.length sk = cev us st ar vs f (a + (q :: p).length) L2.length sk2 := by
        intro v hv hr
        have ih := cev_p (vs := vs) hu p (v :: L) e (a + 1) f (upd sk L.length v) hK.2.2 hw.2.2 ⟨upd_eq _ _ _, stk_upd (Nat.le_refl _) hs⟩ (by omega) (by rw [List.length_cons]; omega)
        have hstep : cev us st ar vs (f + (q :: p).length) a L.length sk = cev us st ar vs (f + p.length) (a + 1) (v :: L).length (upd sk L.length v) := by
          rw [hun, cev, if_neg hcut, if_neg hst3, if_pos hst, if_neg (by omega), hv]; rfl
        rw [hr, hstep, show a + (q :: p).length = a + 1 + p.length by rw [List.length_cons]; omega]
        exact ih
      by_cases z0 : q.1 = 0
      · exact key q.2 (by rw [if_pos (by rw [hK.1, z0]; rfl), hK.2.1 z]) (rev_0 z0)
      · have z1 : q.1 = 1 := by omega
        exact key (varS vs q.2) (by rw [if_neg (by rw [hK.1, z1]; decide), hK.2.1 z]) (rev_1 z1)
    · rw [if_neg z] at hw
      obtain ⟨s0, s1, s2, s3, s47, sw⟩ := stK_s z hw.1
      match L, hw, hs, hun, hl with
      | [], hw, _, _, _ => exact absurd hw.2.1 (by show ¬ 2 ≤ 0; omega)
      | [_], hw, _, _, _ => exact absurd hw.2.1 (by show ¬ 2 ≤ 1; omega)
      | bb :: aa :: L3, hw, hs, hun, hl =>
        have hlen : (bb :: aa :: L3).length = L3.length + 2 := rfl
        have h20 : ¬ ((bb :: aa :: L3).length < 2 ∨ 20 < (bb :: aa :: L3).length) := by
          rw [hlen] at hl ⊢; omega
        have e1 : sk ((bb :: aa :: L3).length - 1) = bb := hs.1
        have e2 : sk ((bb :: aa :: L3).length - 2) = aa := hs.2.1
        by_cases zb : q.1 = 5 ∧ bb = nI 0
        · rw [rev_b z zb]
          refine ⟨fun _ => ?_, fun L2 h => absurd h (by simp)⟩
          rw [hun, cev, if_neg hcut, hK.1, if_neg s3, if_neg (fun h => h.elim s0 s1), if_neg h20, if_neg s2, if_pos ⟨s47.mpr zb.1, by rw [e1]; exact zb.2⟩]
        · rw [rev_o z zb]
          have ih := cev_p (vs := vs) hu p (opS q.1 aa bb :: L3) e (a + 1) f (upd sk L3.length (opS q.1 aa bb)) hK.2.2 hw.2.2 ⟨upd_eq _ _ _, stk_upd (Nat.le_refl _) hs.2.2⟩ (by omega) (by rw [List.length_cons]; rw [hlen] at hl; omega)
          have hstep : cev us st ar vs (f + (q :: p).length) a (bb :: aa :: L3).length sk = cev us st ar vs (f + p.length) (a + 1) (opS q.1 aa bb :: L3).length (upd sk L3.length (opS q.1 aa bb)) := by
            rw [hun, cev, if_neg hcut, hK.1, if_neg s3, if_neg (fun h => h.elim s0 s1), if_neg h20, if_neg s2, if_neg (fun w => zb ⟨s47.mp w.1, by rw [← e1]; exact w.2⟩), e1, e2, sw _ _ zb]
            rfl
          rw [hstep, show a + (q :: p).length = a + 1 + p.length by rw [List.length_cons]; omega]
          exact ih
/-- a law as the class keeps it, from a to z -/
def KLw (st ar : Nat → Int32) (w : rpn) (z : Nat) : Nat → List (rpn × rpn × rpn) → Prop
  | a, [] => KC st ar a w ∧ st (a + w.length) = nI 3 ∧ z = a + w.length + 1 ∧ rwg w 0 1
  | a, q :: ts => KC st ar a q.1 ∧ KC st ar (a + q.1.length) q.2.1 ∧ st (a + q.1.length + q.2.1.length) = nI 2 ∧ ar (a + q.1.length + q.2.1.length) = nI (a + q.1.length + q.2.1.length + 1 + q.2.2.length + 1) ∧ KC st ar (a + q.1.length + q.2.1.length + 1) q.2.2 ∧ st (a + q.1.length + q.2.1.length + 1 + q.2.2.length) = nI 3 ∧ rwg q.1 0 1 ∧ rwg q.2.1 0 1 ∧ rwg q.2.1 1 2 ∧ rwg q.2.2 0 1 ∧ KLw st ar w z (a + q.1.length + q.2.1.length + 1 + q.2.2.length + 1) ts
theorem rvl_o {vs : Nat → Int32} {p : rpn} (hw : rwg p 0 1) : (rev_ vs p [] = none ∧ rvl vs p = none) ∨ ∃ v, rev_ vs p [] = some [v] ∧ rvl vs p = some v := by
  cases h : rev_ vs p [] with
  | none => exact Or.inl ⟨rfl, by unfold rvl; rw [h]⟩
  | some L2 =>
    have hl := rev_len vs p [] L2 1 hw h
    match L2, hl, h with
    | [v], _, h => exact Or.inr ⟨v, rfl, by unfold rvl; rw [h]⟩
theorem KLw.lt {st ar : Nat → Int32} {w : rpn} {z : Nat} : ∀ (ts : List (rpn × rpn × rpn)) {a : Nat}, KLw st ar w z a ts → a < z
  | [], a, h => by have := h.2.2.1; omega
  | q :: ts, a, h => by have := KLw.lt ts h.2.2.2.2.2.2.2.2.2.2; omega
theorem cev_a {us : Nat} {st ar vs : Nat → Int32} (hu : us ≤ 420) {f a v0 : Nat} {v : Int32} {sk : Nat → Int32} (ha : a < us) (h3 : st a = nI 3) (hs : stk sk [v]) (hf : 0 < f) (hv : v0 = 1) : cev us st ar vs f a v0 sk = v := by
  subst hv
  obtain ⟨g, rfl⟩ : ∃ g, f = g + 1 := ⟨f - 1, by omega⟩
  rw [cev, if_neg (by omega), if_pos h3, if_neg (by omega)]
  exact hs.1
theorem cev_law {us : Nat} {st ar vs : Nat → Int32} {w : rpn} {z : Nat} (hu : us ≤ 420) (hz : z ≤ us) : ∀ (ts : List (rpn × rpn × rpn)) (a f : Nat) (sk : Nat → Int32), KLw st ar w z a ts → z - a ≤ f → cev us st ar vs f a 0 sk = lwL vs w ts
  | [], a, f, sk, h, hf => by
    obtain ⟨h1, h2, h3, h4⟩ := h
    obtain ⟨g, rfl⟩ : ∃ g, f = g + w.length := ⟨f - w.length, by omega⟩
    obtain ⟨c1, c2⟩ := cev_p (vs := vs) hu w [] 1 a g sk h1 h4 True.intro (by omega) (by decide)
    rw [lwL]
    rcases rvl_o (vs := vs) h4 with ⟨r1, r2⟩ | ⟨v, r1, r2⟩
    · rw [r2]; exact c1 r1
    · rw [r2]
      obtain ⟨sk2, s1, s2⟩ := c2 [v] r1
      refine s2.trans ?_
      exact cev_a hu (by omega) h2 s1 (by omega) rfl
  | q :: ts, a, f, sk, h, hf => by
    obtain ⟨h1, h2, h3, h4, h5, h6, g1, g2, g2b, g3, hr⟩ := h
    have hlt := hr.lt
    obtain ⟨f1, rfl⟩ : ∃ g, f = g + q.1.length := ⟨f - q.1.length, by omega⟩
    obtain ⟨c1, c2⟩ := cev_p (vs := vs) hu q.1 [] 1 a f1 sk h1 g1 True.intro (by omega) (by decide)
    rcases rvl_o (vs := vs) g1 with ⟨r1, r2⟩ | ⟨x, r1, r2⟩
    · rw [lwL_u r2]; exact c1 r1
    · obtain ⟨sk1, s1, e1⟩ := c2 [x] r1
      refine e1.trans ?_
      obtain ⟨f2, rfl⟩ : ∃ g, f1 = g + q.2.1.length := ⟨f1 - q.2.1.length, by omega⟩
      obtain ⟨d1, d2⟩ := cev_p (vs := vs) hu q.2.1 [x] 2 (a + q.1.length) f2 sk1 h2 g2b s1 (by omega) (show 1 ≤ 16 by decide)
      have hap := rev_ap vs [x] q.2.1 [] 1 g2
      rw [List.nil_append] at hap
      rcases rvl_o (vs := vs) g2 with ⟨t1, t2⟩ | ⟨y, t1, t2⟩
      · rw [lwL_v t2]; exact d1 (by rw [hap, t1]; rfl)
      · obtain ⟨sk2, s2, e2⟩ := d2 [y, x] (by rw [hap, t1]; rfl)
        refine e2.trans ?_
        have ey : sk2 1 = y := s2.1
        have exx : sk2 0 = x := s2.2.1
        obtain ⟨f3, rfl⟩ : ∃ g, f2 = g + 1 := ⟨f2 - 1, by omega⟩
        have hcut : ¬ (us ≤ a + q.1.length + q.2.1.length ∨ 420 ≤ a + q.1.length + q.2.1.length) := by omega
        show cev us st ar vs (f3 + 1) (a + q.1.length + q.2.1.length) 2 sk2 = _
        rw [cev, if_neg hcut, h3, if_neg (by decide), if_neg (by decide), if_neg (by decide), if_pos rfl]
        show (if sk2 1 ≤ sk2 0 then _ else _) = _
        rw [ey, exx]
        by_cases hc : x < y
        · rw [if_neg (Int32.not_le.mpr hc), lwL_t r2 t2 hc]
          obtain ⟨f4, rfl⟩ : ∃ g, f3 = g + q.2.2.length := ⟨f3 - q.2.2.length, by omega⟩
          obtain ⟨u1, u2⟩ := cev_p (vs := vs) hu q.2.2 [] 1 (a + q.1.length + q.2.1.length + 1) f4 sk2 h5 g3 True.intro (by omega) (by decide)
          rcases rvl_o (vs := vs) g3 with ⟨w1, w2⟩ | ⟨v, w1, w2⟩
          · rw [w2]; exact u1 w1
          · rw [w2]
            obtain ⟨sk3, s3, e3⟩ := u2 [v] w1
            refine e3.trans ?_
            exact cev_a hu (by omega) h6 s3 (by omega) rfl
        · rw [if_pos (Int32.not_lt.mp hc), lwL_f r2 t2 hc, h4, nI_clamp (by omega)]
          rw [show max (a + q.1.length + q.2.1.length) (a + q.1.length + q.2.1.length + 1 + q.2.2.length + 1 - 1) + 1 = a + q.1.length + q.2.1.length + 1 + q.2.2.length + 1 by omega]
          exact cev_law hu hz ts _ f3 sk2 hr (by omega)
theorem KLw.kept {st ar st2 ar2 : Nat → Int32} {w : rpn} {z : Nat} : ∀ (ts : List (rpn × rpn × rpn)) {a : Nat}, (∀ i, i < z → st2 i = st i ∧ ar2 i = ar i) → KLw st ar w z a ts → KLw st2 ar2 w z a ts
  | [], a, hk, h => by
    obtain ⟨h1, h2, h3, h4⟩ := h
    exact ⟨h1.kept _ (fun i hi => hk i (by omega)), by rw [(hk _ (by omega)).1]; exact h2, h3, h4⟩
  | q :: ts, a, hk, h => by
    obtain ⟨h1, h2, h3, h4, h5, h6, g1, g2, g2b, g3, hr⟩ := h
    have hlt := hr.lt
    exact ⟨h1.kept _ (fun i hi => hk i (by omega)), h2.kept _ (fun i hi => hk i (by omega)), by rw [(hk _ (by omega)).1]; exact h3, by rw [(hk _ (by omega)).2]; exact h4, h5.kept _ (fun i hi => hk i (by omega)), by rw [(hk _ (by omega)).1]; exact h6, g1, g2, g2b, g3, KLw.kept ts hk hr⟩

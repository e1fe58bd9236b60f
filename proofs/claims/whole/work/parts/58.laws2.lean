/-! the class: laws read -/
theorem KC.kept2 {st ar st2 ar2 : Nat → Int32} : ∀ (p : rpn) {a : Nat}, (∀ i, a ≤ i → i < a + p.length → st2 i = st i ∧ ar2 i = ar i) → KC st ar a p → KC st2 ar2 a p
  | [], a, _, _ => True.intro
  | x :: p, a, hk, h => by
    have h0 := hk a (Nat.le_refl _) (by rw [List.length_cons]; omega)
    exact ⟨h0.1.trans h.1, fun z => h0.2.trans (h.2.1 z), KC.kept2 p (fun i h1 hi => hk i (by omega) (by rw [List.length_cons]; omega)) h.2.2⟩
theorem stK_2 (k : Nat) : nI (stK k) ≠ nI 2 := by
  unfold stK
  split
  · decide
  · split
    · decide
    · split
      · decide
      · split
        · decide
        · split <;> decide
theorem KC.no2 {st ar : Nat → Int32} : ∀ (p : rpn) {a : Nat}, KC st ar a p → ∀ j, a ≤ j → j < a + p.length → st j ≠ nI 2
  | [], a, _, j, h1, h2 => absurd h2 (by show ¬ j < a + 0; omega)
  | x :: p, a, h, j, h1, h2 => by
    rw [List.length_cons] at h2
    by_cases z : j = a
    · rw [z, h.1]; exact stK_2 _
    · exact KC.no2 p h.2.2 j (by omega) (by omega)
/-- a test laid from a to a2 -/
def KT (st ar : Nat → Int32) (q : rpn × rpn × rpn) (a a2 : Nat) : Prop := KC st ar a q.1 ∧ KC st ar (a + q.1.length) q.2.1 ∧ st (a + q.1.length + q.2.1.length) = nI 2 ∧ ar (a + q.1.length + q.2.1.length) = nI (a + q.1.length + q.2.1.length + 1 + q.2.2.length + 1) ∧ KC st ar (a + q.1.length + q.2.1.length + 1) q.2.2 ∧ st (a + q.1.length + q.2.1.length + 1 + q.2.2.length) = nI 3 ∧ rwg q.1 0 1 ∧ rwg q.2.1 0 1 ∧ rwg q.2.1 1 2 ∧ rwg q.2.2 0 1 ∧ a2 = a + q.1.length + q.2.1.length + 1 + q.2.2.length + 1
def KLp (st ar : Nat → Int32) (z : Nat) : Nat → List (rpn × rpn × rpn) → Prop
  | a, [] => z = a
  | a, q :: ts => ∃ a2, KT st ar q a a2 ∧ KLp st ar z a2 ts
theorem KT.kept {st ar st2 ar2 : Nat → Int32} {q : rpn × rpn × rpn} {a a2 : Nat} (hk : ∀ i, i < a2 → st2 i = st i ∧ ar2 i = ar i) (h : KT st ar q a a2) : KT st2 ar2 q a a2 := by
  obtain ⟨h1, h2, h3, h4, h5, h6, g1, g2, g3, g4, g5⟩ := h
  exact ⟨h1.kept _ (fun i hi => hk i (by omega)), h2.kept _ (fun i hi => hk i (by omega)), by rw [(hk _ (by omega)).1]; exact h3, by rw [(hk _ (by omega)).2]; exact h4, h5.kept _ (fun i hi => hk i (by omega)), by rw [(hk _ (by omega)).1]; exact h6, g1, g2, g3, g4, g5⟩
theorem KT.j {st ar : Nat → Int32} {q : rpn × rpn × rpn} {a a2 : Nat} (h : KT st ar q a a2) (ha : a2 ≤ 420) : ∀ j, a ≤ j → j < a2 → st j = nI 2 → ∃ m, m ≤ 420 ∧ ar j = nI m := by
  obtain ⟨h1, h2, h3, h4, h5, h6, g1, g2, g3, g4, g5⟩ := h
  intro j ha1 ha2 hj
  by_cases c1 : j < a + q.1.length
  · exact absurd hj (h1.no2 _ j ha1 c1)
  · by_cases c2 : j < a + q.1.length + q.2.1.length
    · exact absurd hj (h2.no2 _ j (by omega) c2)
    · by_cases c3 : j = a + q.1.length + q.2.1.length
      · exact ⟨a + q.1.length + q.2.1.length + 1 + q.2.2.length + 1, by omega, by rw [c3]; exact h4⟩
      · by_cases c4 : j < a + q.1.length + q.2.1.length + 1 + q.2.2.length
        · exact absurd hj (h5.no2 _ j (by omega) c4)
        · rw [show j = a + q.1.length + q.2.1.length + 1 + q.2.2.length by omega, h6] at hj; exact absurd hj (by decide)
theorem KLp.le {st ar : Nat → Int32} {z : Nat} : ∀ {ts : List (rpn × rpn × rpn)} {a : Nat}, KLp st ar z a ts → a ≤ z
  | [], a, h => by rw [KLp] at h; omega
  | q :: ts, a, ⟨a2, h1, h2⟩ => by have := h2.le; have := h1.2.2.2.2.2.2.2.2.2.2; omega
theorem KLp.j {st ar : Nat → Int32} {z : Nat} (hz : z ≤ 420) : ∀ {ts : List (rpn × rpn × rpn)} {a : Nat}, KLp st ar z a ts → ∀ j, a ≤ j → j < z → st j = nI 2 → ∃ m, m ≤ 420 ∧ ar j = nI m
  | [], a, h, j, h1, h2, _ => by rw [KLp] at h; omega
  | q :: ts, a, ⟨a2, h1, h2⟩, j, g1, g2, g3 => by
    by_cases c : j < a2
    · exact h1.j (Nat.le_trans (h2.le) hz) j g1 c g3
    · exact h2.j hz j (by omega) g2 g3
theorem KLp.kept {st ar st2 ar2 : Nat → Int32} {z : Nat} : ∀ {ts : List (rpn × rpn × rpn)} {a : Nat}, (∀ i, i < z → st2 i = st i ∧ ar2 i = ar i) → KLp st ar z a ts → KLp st2 ar2 z a ts
  | [], a, _, h => h
  | q :: ts, a, hk, ⟨a2, h1, h2⟩ => ⟨a2, h1.kept (fun i hi => hk i (by have := h2.le; omega)), h2.kept hk⟩
theorem KLp.ap {st ar : Nat → Int32} {z z2 : Nat} {q : rpn × rpn × rpn} : ∀ {ts : List (rpn × rpn × rpn)} {a : Nat}, KLp st ar z a ts → KT st ar q z z2 → KLp st ar z2 a (ts ++ [q])
  | [], a, h, hq => by rw [KLp] at h; subst h; exact ⟨z2, hq, rfl⟩
  | q2 :: ts, a, ⟨a2, h1, h2⟩, hq => ⟨a2, h1, h2.ap hq⟩
theorem KLp.end {st ar : Nat → Int32} {z : Nat} {w : rpn} : ∀ {ts : List (rpn × rpn × rpn)} {a : Nat}, KLp st ar z a ts → KC st ar z w → st (z + w.length) = nI 3 → rwg w 0 1 → KLw st ar w (z + w.length + 1) a ts
  | [], a, h, h1, h2, h3 => by rw [KLp] at h; subst h; exact ⟨h1, h2, rfl, h3⟩
  | q :: ts, a, ⟨a2, g, hr⟩, h1, h2, h3 => by
    obtain ⟨k1, k2, k3, k4, k5, k6, k7, k8, k9, k10, k11⟩ := g
    subst k11
    exact ⟨k1, k2, k3, k4, k5, k6, k7, k8, k9, k10, hr.end h1 h2 h3⟩
theorem fre.low {o a a2 : Nat} {I I2 : Nat → Nat → Int32} (h : fre o a2 I I2) (ha : a ≤ a2) : fre o a I I2 := ⟨h.1, h.2.1, fun i hi => h.2.2 i (by omega)⟩
theorem lsK.fin {o a : Nat} {c : rpn} {I : Nat → Nat → Int32} (h : lsK o a c I) : lsK o (a + c.length) [] I := ⟨h.1, True.intro⟩
theorem RS.kept {b : Nat → Nat} {n t o : Nat} (ho : o = 1 ∨ o = 16) {I I2 : Nat → Nat → Int32} {G : Nat → Nat → Int64} (h : RS b n t I G) (f : ∀ q, q ≠ o + 1 → q ≠ o + 2 → q ≠ o + 3 → I2 q = I q) : RS b n t I2 G := by
  obtain ⟨h1, h2, h3, h4, h5, h6⟩ := h
  exact ⟨RK.kept h1 (f 34 (by omega) (by omega) (by omega)) (f 36 (by omega) (by omega) (by omega)) (f 37 (by omega) (by omega) (by omega)) rfl, h2, h3, by rw [f 33 (by omega) (by omega) (by omega)]; exact h4, by rw [f 33 (by omega) (by omega) (by omega)]; exact h5, by rw [f 33 (by omega) (by omega) (by omega)]; exact h6⟩
set_option maxHeartbeats 4000000 in
theorem c_X4_readIf {d Lx tt u : Nat} {I : Nat → Nat → Int32} {G : Nat → Nat → Int64} {Q : ab_Q} {b : Nat → Nat} {n t o a : Nat} (ho : o = 1 ∨ o = 16) (hR : RS b n t I G) (hL : lsK o a [] I) (hx : a ≤ 14 + t) (hy : ∀ q t2 a2, (∀ acc k, lwI b n t acc k = k t2 (acc ++ [q])) → t < t2 → a2 ≤ 14 + t2 → ∀ I2, fre o a I I2 → RS b n t2 I2 G → I2 (o + 1) 5 = nI a2 → KT (I2 (o + 2)) (I2 (o + 3)) q a a2 → Q (some (.int (nI 1))) (hp Lx tt o u I2 G)) (hn : ∀ e tok, ¬ e = 0 → (∀ acc k, lwI b n t acc k = (e, tok, [], [])) → ∀ I2, fre o a I I2 → I2 33 3 = nI tok → I2 33 5 = nI e → Q (some (.int (nI 0))) (hp Lx tt o u I2 G)) : ab_call ab_MT (d + 18) 70 [.ref 33] (hp Lx tt o u I G) 0 0 Q := by
  have ht := hR.2.1
  refine wx_in (M := mX4_readIf) rfl rfl rfl (Nat.le_of_ble_eq_true rfl) ?_
  refine wx_aload_n rfl (e := 1) rfl rfl ?_
  refine wx_bipush (v := (nI 12)) rfl (e := 3) rfl (by decide) ?_
  refine wx_cv1 (mc := 0) (ms := 0) rfl (e := 6) rfl rfl (Nat.le_of_ble_eq_true rfl) ⟨by decide, by decide⟩ ?_
  refine c_X4_take hR (k := 12) (by omega) (by omega) (fun hk1 h41 I1 f1 R1 => ?_) (fun e1 he1 I1 f1 g3 g5 => ?_)
  · refine wn_if_eq rfl (e := 9) rfl (by omega) (fun c_6 => absurd c_6 (by omega)) (fun c_6 => ?_)
    refine wx_aload_n rfl (e := 10) rfl rfl ?_
    refine wx_iconst (v := (nI 0)) rfl (e := 11) rfl (by decide) ?_
    refine wx_cv1 (mc := 0) (ms := 0) rfl (e := 14) rfl rfl (Nat.le_of_ble_eq_true rfl) ⟨by decide, by decide⟩ ?_
    refine c_X4_readSum (b := b) (n := n) (o := o) ho R1 (hL.t ho f1) (by omega) ⟨fun z2 I2 f2 R2 L2 => ?_, fun z2 I2 f2 g3 g5 => ?_⟩
    · obtain ⟨q21, q22, q23, q24, q25⟩ := sum_far (b := b) (n := n) (t := t + 1) (by omega) R1.2.2.1
      have q24 := q24 z2
      have w2 := sum_wf z2
      refine wn_if_eq rfl (e := 17) rfl (by omega) (fun c_14 => absurd c_14 (by omega)) (fun c_14 => ?_)
      refine wx_aload_n rfl (e := 18) rfl rfl ?_
      refine wx_bipush (v := (nI 60)) rfl (e := 20) rfl (by decide) ?_
      refine wx_cv1 (mc := 0) (ms := 0) rfl (e := 23) rfl rfl (Nat.le_of_ble_eq_true rfl) ⟨by decide, by decide⟩ ?_
      refine c_X4_take R2 (k := 60) (by omega) (by omega) (fun hk3 h43 I3 f3 R3 => ?_) (fun e3 he3 I3 f3 g3 g5 => ?_)
      · refine wn_if_eq rfl (e := 26) rfl (by omega) (fun c_23 => absurd c_23 (by omega)) (fun c_23 => ?_)
        refine wx_aload_n rfl (e := 27) rfl rfl ?_
        refine wx_iconst (v := (nI 0)) rfl (e := 28) rfl (by decide) ?_
        refine wx_cv1 (mc := 0) (ms := 0) rfl (e := 31) rfl rfl (Nat.le_of_ble_eq_true rfl) ⟨by decide, by decide⟩ ?_
        refine c_X4_readSum (b := b) (n := n) (o := o) ho R3 (L2.fin.t ho f3) (by omega) ⟨fun z4 I4 f4 R4 L4 => ?_, fun z4 I4 f4 g3 g5 => ?_⟩
        · obtain ⟨q41, q42, q43, q44, q45⟩ := sum_far (b := b) (n := n) (t := (sumS b n (t + 1)).2.1 + 1) (by omega) R3.2.2.1
          have q44 := q44 z4
          have w4 := sum_wf z4
          refine wn_if_eq rfl (e := 34) rfl (by omega) (fun c_31 => absurd c_31 (by omega)) (fun c_31 => ?_)
          refine wx_aload_n rfl (e := 35) rfl rfl ?_
          refine wx_bipush (v := (nI 13)) rfl (e := 37) rfl (by decide) ?_
          refine wx_cv1 (mc := 0) (ms := 0) rfl (e := 40) rfl rfl (Nat.le_of_ble_eq_true rfl) ⟨by decide, by decide⟩ ?_
          refine c_X4_take R4 (k := 13) (by omega) (by omega) (fun hk5 h45 I5 f5 R5 => ?_) (fun e5 he5 I5 f5 g3 g5 => ?_)
          · refine wn_if_ne rfl (e := 43) rfl (by omega) (fun c_40 => ?_) (fun c_40 => absurd c_40 (by omega))
            refine wx_aload_n rfl (e := 46) rfl rfl ?_
            refine wx_getr rfl (e := 49) rfl rfl rfl ?_
            refine wx_iconst (v := (nI 2)) rfl (e := 50) rfl (by decide) ?_
            refine wx_iconst (v := (nI 0)) rfl (e := 51) rfl (by decide) ?_
            refine wx_cv2 (mc := 0) (ms := 0) rfl (e := 54) rfl (sh_l ho) (Nat.le_of_ble_eq_true rfl) ⟨by decide, by decide⟩ ?_
            refine c_X2_emit (w := o + 1) (by omega) (x := (a + (sumS b n (t + 1)).2.2.length + (sumS b n ((sumS b n (t + 1)).2.1 + 1)).2.2.length)) (by rw [f5.1 (o + 1) (by omega)]; exact L4.1) (by omega) ?_
            show WP _ _ _ _ _ _ (hp Lx tt o u (emW o I5 (a + (sumS b n (t + 1)).2.2.length + (sumS b n ((sumS b n (t + 1)).2.1 + 1)).2.2.length) (nI 2) (nI 0)) G) _ _
            have L5 : lsK o ((a + (sumS b n (t + 1)).2.2.length + (sumS b n ((sumS b n (t + 1)).2.1 + 1)).2.2.length) + 1) [] (emW o I5 (a + (sumS b n (t + 1)).2.2.length + (sumS b n ((sumS b n (t + 1)).2.1 + 1)).2.2.length) (nI 2) (nI 0)) := ⟨by unfold emW; rw [wr_eq]; rfl, True.intro⟩
            refine wx_istore_n (L2 := [_, _]) rfl (e := 55) rfl (by decide) rfl ?_
            refine wx_aload_n rfl (e := 56) rfl rfl ?_
            refine wx_iconst (v := (nI 0)) rfl (e := 57) rfl (by decide) ?_
            refine wx_cv1 (mc := 0) (ms := 0) rfl (e := 60) rfl rfl (Nat.le_of_ble_eq_true rfl) ⟨by decide, by decide⟩ ?_
            refine c_X4_readSum (b := b) (n := n) (o := o) ho (R5.e ho) L5 (by omega) ⟨fun z6 I6 f6 R6 L6 => ?_, fun z6 I6 f6 g3 g5 => ?_⟩
            · obtain ⟨q61, q62, q63, q64, q65⟩ := sum_far (b := b) (n := n) (t := (sumS b n ((sumS b n (t + 1)).2.1 + 1)).2.1 + 1) (by omega) R5.2.2.1
              have q64 := q64 z6
              have w6 := sum_wf z6
              refine wn_if_ne rfl (e := 63) rfl (by omega) (fun c_60 => ?_) (fun c_60 => absurd c_60 (by omega))
              refine wx_aload_n rfl (e := 66) rfl rfl ?_
              refine wx_getr rfl (e := 69) rfl rfl rfl ?_
              refine wx_iconst (v := (nI 3)) rfl (e := 70) rfl (by decide) ?_
              refine wx_iconst (v := (nI 0)) rfl (e := 71) rfl (by decide) ?_
              refine wx_cv2 (mc := 0) (ms := 0) rfl (e := 74) rfl (sh_l ho) (Nat.le_of_ble_eq_true rfl) ⟨by decide, by decide⟩ ?_
              refine c_X2_emit (w := o + 1) (by omega) (x := (a + (sumS b n (t + 1)).2.2.length + (sumS b n ((sumS b n (t + 1)).2.1 + 1)).2.2.length + 1 + (sumS b n ((sumS b n ((sumS b n (t + 1)).2.1 + 1)).2.1 + 1)).2.2.length)) L6.1 (by omega) ?_
              show WP _ _ _ _ _ _ (hp Lx tt o u (emW o I6 (a + (sumS b n (t + 1)).2.2.length + (sumS b n ((sumS b n (t + 1)).2.1 + 1)).2.2.length + 1 + (sumS b n ((sumS b n ((sumS b n (t + 1)).2.1 + 1)).2.1 + 1)).2.2.length) (nI 3) (nI 0)) G) _ _
              refine wx_pop rfl (e := 75) rfl rfl ?_
              refine wx_aload_n rfl (e := 76) rfl rfl ?_
              refine wx_getr rfl (e := 79) rfl rfl rfl ?_
              refine wx_iload_n rfl (e := 80) rfl rfl ?_
              refine wx_cv1 (mc := 0) (ms := 0) rfl (e := 83) rfl (sh_l ho) (Nat.le_of_ble_eq_true rfl) ⟨by decide, by decide⟩ ?_
              refine c_X2_aimHere (w := o + 1) (by omega) (x := (a + (sumS b n (t + 1)).2.2.length + (sumS b n ((sumS b n (t + 1)).2.1 + 1)).2.2.length + 1 + (sumS b n ((sumS b n ((sumS b n (t + 1)).2.1 + 1)).2.1 + 1)).2.2.length) + 1) (j := (a + (sumS b n (t + 1)).2.2.length + (sumS b n ((sumS b n (t + 1)).2.1 + 1)).2.2.length)) (by unfold emW; rw [wr_eq]) (by omega) (by omega) ?_
              have e2 : ∀ i, (wr (emW o I6 (a + (sumS b n (t + 1)).2.2.length + (sumS b n ((sumS b n (t + 1)).2.1 + 1)).2.2.length + 1 + (sumS b n ((sumS b n ((sumS b n (t + 1)).2.1 + 1)).2.1 + 1)).2.2.length) (nI 3) (nI 0)) (o + 1 + 2) (a + (sumS b n (t + 1)).2.2.length + (sumS b n ((sumS b n (t + 1)).2.1 + 1)).2.2.length) (nI ((a + (sumS b n (t + 1)).2.2.length + (sumS b n ((sumS b n (t + 1)).2.1 + 1)).2.2.length + 1 + (sumS b n ((sumS b n ((sumS b n (t + 1)).2.1 + 1)).2.1 + 1)).2.2.length) + 1))) (o + 2) i = if i = (a + (sumS b n (t + 1)).2.2.length + (sumS b n ((sumS b n (t + 1)).2.1 + 1)).2.2.length + 1 + (sumS b n ((sumS b n ((sumS b n (t + 1)).2.1 + 1)).2.1 + 1)).2.2.length) then nI 3 else I6 (o + 2) i := fun i => by rw [wr_other _ _ _ _ (by omega)]; unfold emW; rw [wr_other _ _ _ _ (by omega), wr_other _ _ _ _ (by omega), wr_at, if_pos rfl]
              have e3 : ∀ i, i < (a + (sumS b n (t + 1)).2.2.length + (sumS b n ((sumS b n (t + 1)).2.1 + 1)).2.2.length + 1 + (sumS b n ((sumS b n ((sumS b n (t + 1)).2.1 + 1)).2.1 + 1)).2.2.length) → (wr (emW o I6 (a + (sumS b n (t + 1)).2.2.length + (sumS b n ((sumS b n (t + 1)).2.1 + 1)).2.2.length + 1 + (sumS b n ((sumS b n ((sumS b n (t + 1)).2.1 + 1)).2.1 + 1)).2.2.length) (nI 3) (nI 0)) (o + 1 + 2) (a + (sumS b n (t + 1)).2.2.length + (sumS b n ((sumS b n (t + 1)).2.1 + 1)).2.2.length) (nI ((a + (sumS b n (t + 1)).2.2.length + (sumS b n ((sumS b n (t + 1)).2.1 + 1)).2.2.length + 1 + (sumS b n ((sumS b n ((sumS b n (t + 1)).2.1 + 1)).2.1 + 1)).2.2.length) + 1))) (o + 3) i = if i = (a + (sumS b n (t + 1)).2.2.length + (sumS b n ((sumS b n (t + 1)).2.1 + 1)).2.2.length) then nI ((a + (sumS b n (t + 1)).2.2.length + (sumS b n ((sumS b n (t + 1)).2.1 + 1)).2.2.length + 1 + (sumS b n ((sumS b n ((sumS b n (t + 1)).2.1 + 1)).2.1 + 1)).2.2.length) + 1) else I6 (o + 3) i := fun i hi => by
                rw [wr_at, if_pos rfl]
                by_cases zi : i = (a + (sumS b n (t + 1)).2.2.length + (sumS b n ((sumS b n (t + 1)).2.1 + 1)).2.2.length)
                · rw [if_pos zi, if_pos zi]
                · rw [if_neg zi, if_neg zi]; unfold emW; rw [wr_other _ _ _ _ (by omega), wr_at, if_pos rfl, if_neg (by omega), wr_other _ _ _ _ (by omega)]
              have u7 : (wr (emW o I6 (a + (sumS b n (t + 1)).2.2.length + (sumS b n ((sumS b n (t + 1)).2.1 + 1)).2.2.length + 1 + (sumS b n ((sumS b n ((sumS b n (t + 1)).2.1 + 1)).2.1 + 1)).2.2.length) (nI 3) (nI 0)) (o + 1 + 2) (a + (sumS b n (t + 1)).2.2.length + (sumS b n ((sumS b n (t + 1)).2.1 + 1)).2.2.length) (nI ((a + (sumS b n (t + 1)).2.2.length + (sumS b n ((sumS b n (t + 1)).2.1 + 1)).2.2.length + 1 + (sumS b n ((sumS b n ((sumS b n (t + 1)).2.1 + 1)).2.1 + 1)).2.2.length) + 1))) (o + 1) 5 = nI ((a + (sumS b n (t + 1)).2.2.length + (sumS b n ((sumS b n (t + 1)).2.1 + 1)).2.2.length + 1 + (sumS b n ((sumS b n ((sumS b n (t + 1)).2.1 + 1)).2.1 + 1)).2.2.length) + 1) := by rw [wr_other _ _ _ _ (by omega)]; unfold emW; rw [wr_eq]
              have F67 : fre o (a + (sumS b n (t + 1)).2.2.length + (sumS b n ((sumS b n (t + 1)).2.1 + 1)).2.2.length) I6 (wr (emW o I6 (a + (sumS b n (t + 1)).2.2.length + (sumS b n ((sumS b n (t + 1)).2.1 + 1)).2.2.length + 1 + (sumS b n ((sumS b n ((sumS b n (t + 1)).2.1 + 1)).2.1 + 1)).2.2.length) (nI 3) (nI 0)) (o + 1 + 2) (a + (sumS b n (t + 1)).2.2.length + (sumS b n ((sumS b n (t + 1)).2.1 + 1)).2.2.length) (nI ((a + (sumS b n (t + 1)).2.2.length + (sumS b n ((sumS b n (t + 1)).2.1 + 1)).2.2.length + 1 + (sumS b n ((sumS b n ((sumS b n (t + 1)).2.1 + 1)).2.1 + 1)).2.2.length) + 1))) := by
                refine ⟨fun q h1 h2 h3 h4 => ?_, fun j _ _ _ => ?_, fun i hi => ⟨?_, ?_⟩⟩
                · rw [wr_other _ _ _ _ (by omega)]; unfold emW; rw [wr_other _ _ _ _ h2, wr_other _ _ _ _ (by omega), wr_other _ _ _ _ (by omega)]
                · rw [wr_other _ _ _ _ (by omega)]; unfold emW; rw [wr_other _ _ _ _ (by omega), wr_other _ _ _ _ (by omega), wr_other _ _ _ _ (by omega)]
                · rw [e2, if_neg (by omega)]
                · rw [e3 i (by omega), if_neg (by omega)]
              have F7 : fre o a I (wr (emW o I6 (a + (sumS b n (t + 1)).2.2.length + (sumS b n ((sumS b n (t + 1)).2.1 + 1)).2.2.length + 1 + (sumS b n ((sumS b n ((sumS b n (t + 1)).2.1 + 1)).2.1 + 1)).2.2.length) (nI 3) (nI 0)) (o + 1 + 2) (a + (sumS b n (t + 1)).2.2.length + (sumS b n ((sumS b n (t + 1)).2.1 + 1)).2.2.length) (nI ((a + (sumS b n (t + 1)).2.2.length + (sumS b n ((sumS b n (t + 1)).2.1 + 1)).2.2.length + 1 + (sumS b n ((sumS b n ((sumS b n (t + 1)).2.1 + 1)).2.1 + 1)).2.2.length) + 1))) := ((((((frt.e ho f1).tr f2).tr (frt.e ho f3)).tr (f4.low (by omega))).tr (frt.e ho f5)).tr ((emW.f (a0 := a) (x := (a + (sumS b n (t + 1)).2.2.length + (sumS b n ((sumS b n (t + 1)).2.1 + 1)).2.2.length)) (k := nI 2) (v := nI 0) ho (by omega)).tr (f6.low (by omega)))).tr (F67.low (by omega))
              have R7 : RS b n (sumS b n ((sumS b n ((sumS b n (t + 1)).2.1 + 1)).2.1 + 1)).2.1 (wr (emW o I6 (a + (sumS b n (t + 1)).2.2.length + (sumS b n ((sumS b n (t + 1)).2.1 + 1)).2.2.length + 1 + (sumS b n ((sumS b n ((sumS b n (t + 1)).2.1 + 1)).2.1 + 1)).2.2.length) (nI 3) (nI 0)) (o + 1 + 2) (a + (sumS b n (t + 1)).2.2.length + (sumS b n ((sumS b n (t + 1)).2.1 + 1)).2.2.length) (nI ((a + (sumS b n (t + 1)).2.2.length + (sumS b n ((sumS b n (t + 1)).2.1 + 1)).2.2.length + 1 + (sumS b n ((sumS b n ((sumS b n (t + 1)).2.1 + 1)).2.1 + 1)).2.2.length) + 1))) G := R6.kept ho (fun q h2 h3 h4 => by rw [wr_other _ _ _ _ (by omega)]; unfold emW; rw [wr_other _ _ _ _ h2, wr_other _ _ _ _ (by omega), wr_other _ _ _ _ (by omega)])
              have m4 : ∀ i, i < (a + (sumS b n (t + 1)).2.2.length + (sumS b n ((sumS b n (t + 1)).2.1 + 1)).2.2.length) → (wr (emW o I6 (a + (sumS b n (t + 1)).2.2.length + (sumS b n ((sumS b n (t + 1)).2.1 + 1)).2.2.length + 1 + (sumS b n ((sumS b n ((sumS b n (t + 1)).2.1 + 1)).2.1 + 1)).2.2.length) (nI 3) (nI 0)) (o + 1 + 2) (a + (sumS b n (t + 1)).2.2.length + (sumS b n ((sumS b n (t + 1)).2.1 + 1)).2.2.length) (nI ((a + (sumS b n (t + 1)).2.2.length + (sumS b n ((sumS b n (t + 1)).2.1 + 1)).2.2.length + 1 + (sumS b n ((sumS b n ((sumS b n (t + 1)).2.1 + 1)).2.1 + 1)).2.2.length) + 1))) (o + 2) i = I4 (o + 2) i ∧ (wr (emW o I6 (a + (sumS b n (t + 1)).2.2.length + (sumS b n ((sumS b n (t + 1)).2.1 + 1)).2.2.length + 1 + (sumS b n ((sumS b n ((sumS b n (t + 1)).2.1 + 1)).2.1 + 1)).2.2.length) (nI 3) (nI 0)) (o + 1 + 2) (a + (sumS b n (t + 1)).2.2.length + (sumS b n ((sumS b n (t + 1)).2.1 + 1)).2.2.length) (nI ((a + (sumS b n (t + 1)).2.2.length + (sumS b n ((sumS b n (t + 1)).2.1 + 1)).2.2.length + 1 + (sumS b n ((sumS b n ((sumS b n (t + 1)).2.1 + 1)).2.1 + 1)).2.2.length) + 1))) (o + 3) i = I4 (o + 3) i := fun i hi => by
                have x1 := F67.2.2 i (by omega)
                have x2 := (f6.low (a := (a + (sumS b n (t + 1)).2.2.length + (sumS b n ((sumS b n (t + 1)).2.1 + 1)).2.2.length)) (by omega)).2.2 i hi
                have x3 := (emW.f (a0 := (a + (sumS b n (t + 1)).2.2.length + (sumS b n ((sumS b n (t + 1)).2.1 + 1)).2.2.length)) (x := (a + (sumS b n (t + 1)).2.2.length + (sumS b n ((sumS b n (t + 1)).2.1 + 1)).2.2.length)) (k := nI 2) (v := nI 0) (I := I5) ho (by omega)).2.2 i hi
                exact ⟨x1.1.trans (x2.1.trans (x3.1.trans (by rw [f5.1 (o + 2) (by omega)]))), x1.2.trans (x2.2.trans (x3.2.trans (by rw [f5.1 (o + 3) (by omega)])))⟩
              have m2 : ∀ i, i < (a + (sumS b n (t + 1)).2.2.length) → I4 (o + 2) i = I2 (o + 2) i ∧ I4 (o + 3) i = I2 (o + 3) i := fun i hi => by
                have x1 := f4.2.2 i hi
                exact ⟨x1.1.trans (by rw [f3.1 (o + 2) (by omega)]), x1.2.trans (by rw [f3.1 (o + 3) (by omega)])⟩
              have m6 : I6 (o + 2) (a + (sumS b n (t + 1)).2.2.length + (sumS b n ((sumS b n (t + 1)).2.1 + 1)).2.2.length) = nI 2 := by rw [(f6.2.2 _ (by omega)).1]; unfold emW; rw [wr_other _ _ _ _ (by omega), wr_other _ _ _ _ (by omega)]; exact wr_eq _ _ _ _
              have K7 : KT ((wr (emW o I6 (a + (sumS b n (t + 1)).2.2.length + (sumS b n ((sumS b n (t + 1)).2.1 + 1)).2.2.length + 1 + (sumS b n ((sumS b n ((sumS b n (t + 1)).2.1 + 1)).2.1 + 1)).2.2.length) (nI 3) (nI 0)) (o + 1 + 2) (a + (sumS b n (t + 1)).2.2.length + (sumS b n ((sumS b n (t + 1)).2.1 + 1)).2.2.length) (nI ((a + (sumS b n (t + 1)).2.2.length + (sumS b n ((sumS b n (t + 1)).2.1 + 1)).2.2.length + 1 + (sumS b n ((sumS b n ((sumS b n (t + 1)).2.1 + 1)).2.1 + 1)).2.2.length) + 1))) (o + 2)) ((wr (emW o I6 (a + (sumS b n (t + 1)).2.2.length + (sumS b n ((sumS b n (t + 1)).2.1 + 1)).2.2.length + 1 + (sumS b n ((sumS b n ((sumS b n (t + 1)).2.1 + 1)).2.1 + 1)).2.2.length) (nI 3) (nI 0)) (o + 1 + 2) (a + (sumS b n (t + 1)).2.2.length + (sumS b n ((sumS b n (t + 1)).2.1 + 1)).2.2.length) (nI ((a + (sumS b n (t + 1)).2.2.length + (sumS b n ((sumS b n (t + 1)).2.1 + 1)).2.2.length + 1 + (sumS b n ((sumS b n ((sumS b n (t + 1)).2.1 + 1)).2.1 + 1)).2.2.length) + 1))) (o + 3)) ((sumS b n (t + 1)).2.2, (sumS b n ((sumS b n (t + 1)).2.1 + 1)).2.2, (sumS b n ((sumS b n ((sumS b n (t + 1)).2.1 + 1)).2.1 + 1)).2.2) a ((a + (sumS b n (t + 1)).2.2.length + (sumS b n ((sumS b n (t + 1)).2.1 + 1)).2.2.length + 1 + (sumS b n ((sumS b n ((sumS b n (t + 1)).2.1 + 1)).2.1 + 1)).2.2.length) + 1) := by
                show KC _ _ a (sumS b n (t + 1)).2.2 ∧ KC _ _ (a + (sumS b n (t + 1)).2.2.length) (sumS b n ((sumS b n (t + 1)).2.1 + 1)).2.2 ∧ _ ∧ _ ∧ KC _ _ ((a + (sumS b n (t + 1)).2.2.length + (sumS b n ((sumS b n (t + 1)).2.1 + 1)).2.2.length) + 1) (sumS b n ((sumS b n ((sumS b n (t + 1)).2.1 + 1)).2.1 + 1)).2.2 ∧ _
                refine ⟨L2.2.kept _ (fun i hi => ⟨(m4 i (by omega)).1.trans (m2 i hi).1, (m4 i (by omega)).2.trans (m2 i hi).2⟩), L4.2.kept _ (fun i hi => m4 i hi), ?_, ?_, L6.2.kept2 _ (fun i hi1 hi => ⟨by rw [e2, if_neg (by omega)], by rw [e3 i (by omega), if_neg (by omega)]⟩), ?_, w2 0 (by omega), w4 0 (by omega), w4 1 (by omega), w6 0 (by omega), rfl⟩
                · show (wr (emW o I6 (a + (sumS b n (t + 1)).2.2.length + (sumS b n ((sumS b n (t + 1)).2.1 + 1)).2.2.length + 1 + (sumS b n ((sumS b n ((sumS b n (t + 1)).2.1 + 1)).2.1 + 1)).2.2.length) (nI 3) (nI 0)) (o + 1 + 2) (a + (sumS b n (t + 1)).2.2.length + (sumS b n ((sumS b n (t + 1)).2.1 + 1)).2.2.length) (nI ((a + (sumS b n (t + 1)).2.2.length + (sumS b n ((sumS b n (t + 1)).2.1 + 1)).2.2.length + 1 + (sumS b n ((sumS b n ((sumS b n (t + 1)).2.1 + 1)).2.1 + 1)).2.2.length) + 1))) (o + 2) (a + (sumS b n (t + 1)).2.2.length + (sumS b n ((sumS b n (t + 1)).2.1 + 1)).2.2.length) = nI 2; rw [e2, if_neg (by omega)]; exact m6
                · show (wr (emW o I6 (a + (sumS b n (t + 1)).2.2.length + (sumS b n ((sumS b n (t + 1)).2.1 + 1)).2.2.length + 1 + (sumS b n ((sumS b n ((sumS b n (t + 1)).2.1 + 1)).2.1 + 1)).2.2.length) (nI 3) (nI 0)) (o + 1 + 2) (a + (sumS b n (t + 1)).2.2.length + (sumS b n ((sumS b n (t + 1)).2.1 + 1)).2.2.length) (nI ((a + (sumS b n (t + 1)).2.2.length + (sumS b n ((sumS b n (t + 1)).2.1 + 1)).2.2.length + 1 + (sumS b n ((sumS b n ((sumS b n (t + 1)).2.1 + 1)).2.1 + 1)).2.2.length) + 1))) (o + 3) (a + (sumS b n (t + 1)).2.2.length + (sumS b n ((sumS b n (t + 1)).2.1 + 1)).2.2.length) = nI ((a + (sumS b n (t + 1)).2.2.length + (sumS b n ((sumS b n (t + 1)).2.1 + 1)).2.2.length + 1 + (sumS b n ((sumS b n ((sumS b n (t + 1)).2.1 + 1)).2.1 + 1)).2.2.length) + 1); rw [e3 _ (by omega), if_pos rfl]
                · show (wr (emW o I6 (a + (sumS b n (t + 1)).2.2.length + (sumS b n ((sumS b n (t + 1)).2.1 + 1)).2.2.length + 1 + (sumS b n ((sumS b n ((sumS b n (t + 1)).2.1 + 1)).2.1 + 1)).2.2.length) (nI 3) (nI 0)) (o + 1 + 2) (a + (sumS b n (t + 1)).2.2.length + (sumS b n ((sumS b n (t + 1)).2.1 + 1)).2.2.length) (nI ((a + (sumS b n (t + 1)).2.2.length + (sumS b n ((sumS b n (t + 1)).2.1 + 1)).2.2.length + 1 + (sumS b n ((sumS b n ((sumS b n (t + 1)).2.1 + 1)).2.1 + 1)).2.2.length) + 1))) (o + 2) (a + (sumS b n (t + 1)).2.2.length + (sumS b n ((sumS b n (t + 1)).2.1 + 1)).2.2.length + 1 + (sumS b n ((sumS b n ((sumS b n (t + 1)).2.1 + 1)).2.1 + 1)).2.2.length) = nI 3; rw [e2, if_pos rfl]
              refine wx_aload_n rfl (e := 84) rfl rfl ?_
              refine wx_bipush (v := (nI 14)) rfl (e := 86) rfl (by decide) ?_
              refine wx_cv1 (mc := 0) (ms := 0) rfl (e := 89) rfl rfl (Nat.le_of_ble_eq_true rfl) ⟨by decide, by decide⟩ ?_
              refine c_X4_take R7 (k := 14) (by omega) (by omega) (fun hk8 h48 I8 f8 R8 => ?_) (fun e8 he8 I8 f8 g3 g5 => ?_)
              · refine wx_iret rfl rfl rfl ⟨by decide, by decide⟩ ?_
                refine hy ((sumS b n (t + 1)).2.2, (sumS b n ((sumS b n (t + 1)).2.1 + 1)).2.2, (sumS b n ((sumS b n ((sumS b n (t + 1)).2.1 + 1)).2.1 + 1)).2.2) ((sumS b n ((sumS b n ((sumS b n (t + 1)).2.1 + 1)).2.1 + 1)).2.1 + 1) ((a + (sumS b n (t + 1)).2.2.length + (sumS b n ((sumS b n (t + 1)).2.1 + 1)).2.2.length + 1 + (sumS b n ((sumS b n ((sumS b n (t + 1)).2.1 + 1)).2.1 + 1)).2.2.length) + 1) (fun acc k => ?_) (by omega) (by omega) _ (F7.tr (frt.e ho f8)) R8 (by rw [f8.1 (o + 1) (by omega), u7]) (by rw [f8.1 (o + 2) (by omega), f8.1 (o + 3) (by omega)]; exact K7)
                · unfold lwI; rw [ltk, if_pos hk1, if_neg (by omega)]; rw [lbd_0 z2]; rw [ltk, if_pos hk3, if_neg (by omega)]; rw [lbd_0 z4]; rw [ltk, if_pos hk5, if_neg (by omega)]; rw [lbd_0 z6]; rw [ltk, if_pos hk8, if_neg (by omega)]
              · refine wx_iret rfl rfl rfl ⟨by decide, by decide⟩ ?_
                rcases he8 with ⟨w1, w⟩ | ⟨w1, w, w2⟩
                · subst w1
                  refine hn 1 ((sumS b n ((sumS b n ((sumS b n (t + 1)).2.1 + 1)).2.1 + 1)).2.1) (by decide) (fun acc k => ?_) _ ((F7.tr (frt.e ho f8))) g3 g5
                  unfold lwI; rw [ltk, if_pos hk1, if_neg (by omega)]; rw [lbd_0 z2]; rw [ltk, if_pos hk3, if_neg (by omega)]; rw [lbd_0 z4]; rw [ltk, if_pos hk5, if_neg (by omega)]; rw [lbd_0 z6]; rw [ltk, if_neg w]
                · subst w1
                  refine hn 2 ((sumS b n ((sumS b n ((sumS b n (t + 1)).2.1 + 1)).2.1 + 1)).2.1) (by decide) (fun acc k => ?_) _ ((F7.tr (frt.e ho f8))) g3 g5
                  unfold lwI; rw [ltk, if_pos hk1, if_neg (by omega)]; rw [lbd_0 z2]; rw [ltk, if_pos hk3, if_neg (by omega)]; rw [lbd_0 z4]; rw [ltk, if_pos hk5, if_neg (by omega)]; rw [lbd_0 z6]; rw [ltk, if_pos w, if_pos w2]
            · refine wn_if_ne rfl (e := 63) rfl (by omega) (fun c_60 => absurd c_60 (by omega)) (fun c_60 => ?_)
              refine wx_iconst (v := (nI 0)) rfl (e := 64) rfl (by decide) ?_
              refine wx_iret rfl rfl rfl ⟨by decide, by decide⟩ ?_
              refine hn _ _ z6 (fun acc k => ?_) _ ((((((frt.e ho f1).tr f2).tr (frt.e ho f3)).tr (f4.low (by omega))).tr (frt.e ho f5)).tr ((emW.f (a0 := a) (x := (a + (sumS b n (t + 1)).2.2.length + (sumS b n ((sumS b n (t + 1)).2.1 + 1)).2.2.length)) (k := nI 2) (v := nI 0) ho (by omega)).tr (f6.low (by omega)))) g3 g5
              unfold lwI; rw [ltk, if_pos hk1, if_neg (by omega)]; rw [lbd_0 z2]; rw [ltk, if_pos hk3, if_neg (by omega)]; rw [lbd_0 z4]; rw [ltk, if_pos hk5, if_neg (by omega)]; rw [lbd_1 z6]
          · refine wn_if_ne rfl (e := 43) rfl (by omega) (fun c_40 => absurd c_40 (by omega)) (fun c_40 => ?_)
            refine wx_iconst (v := (nI 0)) rfl (e := 44) rfl (by decide) ?_
            refine wx_iret rfl rfl rfl ⟨by decide, by decide⟩ ?_
            rcases he5 with ⟨w1, w⟩ | ⟨w1, w, w2⟩
            · subst w1
              refine hn 1 ((sumS b n ((sumS b n (t + 1)).2.1 + 1)).2.1) (by decide) (fun acc k => ?_) _ ((((((frt.e ho f1).tr f2).tr (frt.e ho f3)).tr (f4.low (by omega))).tr (frt.e ho f5))) g3 g5
              unfold lwI; rw [ltk, if_pos hk1, if_neg (by omega)]; rw [lbd_0 z2]; rw [ltk, if_pos hk3, if_neg (by omega)]; rw [lbd_0 z4]; rw [ltk, if_neg w]
            · subst w1
              refine hn 2 ((sumS b n ((sumS b n (t + 1)).2.1 + 1)).2.1) (by decide) (fun acc k => ?_) _ ((((((frt.e ho f1).tr f2).tr (frt.e ho f3)).tr (f4.low (by omega))).tr (frt.e ho f5))) g3 g5
              unfold lwI; rw [ltk, if_pos hk1, if_neg (by omega)]; rw [lbd_0 z2]; rw [ltk, if_pos hk3, if_neg (by omega)]; rw [lbd_0 z4]; rw [ltk, if_pos w, if_pos w2]
        · refine wn_if_eq rfl (e := 34) rfl (by omega) (fun c_31 => ?_) (fun c_31 => absurd c_31 (by omega))
          refine wx_iconst (v := (nI 0)) rfl (e := 44) rfl (by decide) ?_
          refine wx_iret rfl rfl rfl ⟨by decide, by decide⟩ ?_
          refine hn _ _ z4 (fun acc k => ?_) _ ((((frt.e ho f1).tr f2).tr (frt.e ho f3)).tr (f4.low (by omega))) g3 g5
          unfold lwI; rw [ltk, if_pos hk1, if_neg (by omega)]; rw [lbd_0 z2]; rw [ltk, if_pos hk3, if_neg (by omega)]; rw [lbd_1 z4]
      · refine wn_if_eq rfl (e := 26) rfl (by omega) (fun c_23 => ?_) (fun c_23 => absurd c_23 (by omega))
        refine wx_iconst (v := (nI 0)) rfl (e := 44) rfl (by decide) ?_
        refine wx_iret rfl rfl rfl ⟨by decide, by decide⟩ ?_
        rcases he3 with ⟨w1, w⟩ | ⟨w1, w, w2⟩
        · subst w1
          refine hn 1 ((sumS b n (t + 1)).2.1) (by decide) (fun acc k => ?_) _ ((((frt.e ho f1).tr f2).tr (frt.e ho f3))) g3 g5
          unfold lwI; rw [ltk, if_pos hk1, if_neg (by omega)]; rw [lbd_0 z2]; rw [ltk, if_neg w]
        · subst w1
          refine hn 2 ((sumS b n (t + 1)).2.1) (by decide) (fun acc k => ?_) _ ((((frt.e ho f1).tr f2).tr (frt.e ho f3))) g3 g5
          unfold lwI; rw [ltk, if_pos hk1, if_neg (by omega)]; rw [lbd_0 z2]; rw [ltk, if_pos w, if_pos w2]
    · refine wn_if_eq rfl (e := 17) rfl (by omega) (fun c_14 => ?_) (fun c_14 => absurd c_14 (by omega))
      refine wx_iconst (v := (nI 0)) rfl (e := 44) rfl (by decide) ?_
      refine wx_iret rfl rfl rfl ⟨by decide, by decide⟩ ?_
      refine hn _ _ z2 (fun acc k => ?_) _ ((frt.e ho f1).tr f2) g3 g5
      unfold lwI; rw [ltk, if_pos hk1, if_neg (by omega)]; rw [lbd_1 z2]
  · refine wn_if_eq rfl (e := 9) rfl (by omega) (fun c_6 => ?_) (fun c_6 => absurd c_6 (by omega))
    refine wx_iconst (v := (nI 0)) rfl (e := 44) rfl (by decide) ?_
    refine wx_iret rfl rfl rfl ⟨by decide, by decide⟩ ?_
    rcases he1 with ⟨w1, w⟩ | ⟨w1, w, w2⟩
    · subst w1
      refine hn 1 (t) (by decide) (fun acc k => ?_) _ ((frt.e ho f1)) g3 g5
      unfold lwI; rw [ltk, if_neg w]
    · subst w1
      refine hn 2 (t) (by decide) (fun acc k => ?_) _ ((frt.e ho f1)) g3 g5
      unfold lwI; rw [ltk, if_pos w, if_pos w2]

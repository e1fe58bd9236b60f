/-! reading: how far statements go, what stays bounded -/
def lfr (b : Nat → Nat) (n t0 : Nat) (r : lres) : Prop := r.2.1 ≤ 400 ∧ gdT b n r.2.1 ∧ r.1 ≤ 2 ∧ (r.1 = 0 → t0 < r.2.1)
theorem ltk_far {b : Nat → Nat} {n t0 k t : Nat} {r : lres} (hk : k ≠ 26 ∧ k ≠ 27) (ht : t ≤ 400) (hg : gdT b n t) (h : t < 400 → gdT b n (t + 1) → lfr b n t0 r) : lfr b n t0 (ltk b n k t r) := by
  unfold ltk
  by_cases z : kd b n t = k
  · rw [if_pos z]
    by_cases z4 : 400 ≤ t
    · rw [if_pos z4]; exact ⟨ht, hg, Nat.le_refl _, fun w => absurd w (show ¬ 2 = 0 by decide)⟩
    · rw [if_neg z4]; exact h (by omega) (hg.s (by omega) (by omega))
  · rw [if_neg z]; exact ⟨ht, hg, (by decide : 1 ≤ 2), fun w => absurd w (show ¬ 1 = 0 by decide)⟩
theorem lbd_far {b : Nat → Nat} {n t0 t : Nat} {k : Nat → rpn → lres} (ht : t ≤ 400) (hg : gdT b n t) (h : ∀ t1 c1, t < t1 → t1 ≤ 400 → gdT b n t1 → lfr b n t0 (k t1 c1)) : lfr b n t0 (lbd (sumS b n t) k) := by
  obtain ⟨a1, a2, a3, a4, a5⟩ := sum_far ht hg
  by_cases z : (sumS b n t).1 = 0
  · rw [lbd_0 z]; exact h _ _ (a4 z).1 a2 a3
  · rw [lbd_1 z]; exact ⟨a2, a3, a5, fun w => absurd w z⟩
theorem lwF_far {b : Nat → Nat} {n t0 t : Nat} {acc : List (rpn × rpn × rpn)} (h0 : t0 ≤ t) (ht : t ≤ 400) (hg : gdT b n t) : lfr b n t0 (lwF b n t acc) := by
  unfold lwF
  refine lbd_far ht hg (fun t1 c1 h1 h2 h3 => ltk_far (by decide) h2 h3 (fun h4 h5 => ⟨h4, h5, Nat.zero_le _, fun _ => ?_⟩))
  show t0 < t1 + 1; omega
theorem lwI_far {b : Nat → Nat} {n t0 t : Nat} {acc : List (rpn × rpn × rpn)} {k : Nat → List (rpn × rpn × rpn) → lres} (h0 : t0 ≤ t) (ht : t ≤ 400) (hg : gdT b n t) (h : ∀ t1 a, t < t1 → t1 ≤ 400 → gdT b n t1 → lfr b n t0 (k t1 a)) : lfr b n t0 (lwI b n t acc k) := by
  unfold lwI
  exact ltk_far (by decide) ht hg (fun h1 h2 => lbd_far (by omega) h2 (fun t1 c1 p1 p2 p3 => ltk_far (by decide) p2 p3 (fun h3 h4 => lbd_far (by omega) h4 (fun t2 c2 q1 q2 q3 => ltk_far (by decide) q2 q3 (fun h5 h6 => lbd_far (by omega) h6 (fun t3 c3 r1 r2 r3 => ltk_far (by decide) r2 r3 (fun h7 h8 => h _ _ (by omega) (by omega) h8)))))))
theorem lwP_far {b : Nat → Nat} {n t0 : Nat} : ∀ (r t : Nat) (acc : List (rpn × rpn × rpn)), t0 ≤ t → t ≤ 400 → gdT b n t → lfr b n t0 (lwP b n r t acc)
  | 0, t, acc, h0, ht, hg => by
    rw [lwP]
    split
    · exact ⟨ht, hg, Nat.le_refl _, fun w => absurd w (show ¬ 2 = 0 by decide)⟩
    · exact lwF_far h0 ht hg
  | r + 1, t, acc, h0, ht, hg => by
    rw [lwP]
    split
    · exact lwI_far h0 ht hg (fun t1 a h1 h2 h3 => lwP_far r t1 a (by omega) h2 h3)
    · exact lwF_far h0 ht hg
theorem lwQ_far {b : Nat → Nat} {n t : Nat} (ht : t ≤ 400) (hg : gdT b n t) : lfr b n t (lwQ b n t) := by
  unfold lwQ
  by_cases z : 4 ≤ kd b n t ∧ kd b n t ≤ 8
  · rw [if_pos z]
    by_cases z4 : 400 ≤ t
    · rw [if_pos z4]; exact ⟨ht, hg, Nat.le_refl _, fun w => absurd w (show ¬ 2 = 0 by decide)⟩
    · rw [if_neg z4]
      exact ltk_far (by decide) (by omega) (hg.s (by omega) (by omega)) (fun h1 h2 => lwP_far 4 (t + 2) [] (by omega) (by omega) h2)
  · rw [if_neg z]; exact ⟨ht, hg, (by decide : 1 ≤ 2), fun w => absurd w (show ¬ 1 = 0 by decide)⟩
/-- and what it tells, when no late fault was -/
def PW (S : ps) : Prop := (¬ (sE S).1 = 0 → (sE S).2 < sT S) ∧ ((sE S).1 = 0 → (∀ c, c < sC S → ∃ w, w ≤ 9 ∧ sW S c = nI w) ∧ (∀ a c, a < 6 → c < 6 → (a = c → sF S a c = nI 0) ∧ (¬ a = c → ∃ v, 1 ≤ v ∧ v ≤ 999 ∧ sF S a c = nI v ∧ ((¬ a < sC S ∨ ¬ c < sC S) → v = 999))) ∧ (∀ e, e < sR S → ∃ c, c < sC S ∧ sQ S e = nI c) ∧ ∀ a, a < sP S → ∃ c, c < sC S ∧ (sH S).1 a = nI c) ∧ ∀ k f g, (∀ j, j < 9 → f j = g j) → sL S k f = sL S k g
theorem lte_2 {e : Nat × Nat} {c : Bool} {k tok t : Nat} (h : ¬ e.1 = 0 → e.2 < t) (ht : tok < t) : ¬ (lte e c k tok).1 = 0 → (lte e c k tok).2 < t := by
  unfold lte
  split
  · exact fun _ => ht
  · exact h
theorem lte_c {e : Nat × Nat} {c : Bool} {k tok : Nat} (hk : ¬ k = 0) (h : (lte e c k tok).1 = 0) : c = false := by
  cases c with
  | false => rfl
  | true =>
    have h0 := lte_0 hk h
    rw [lte_t h0] at h
    exact absurd h hk
theorem ch_in {b : Nat → Nat} {n : Nat} {S : ps} (hV : PV S) (k : Nat) : chN_ b n S k = -1 ∨ ∃ c, c < sC S ∧ chN_ b n S k = nI c := chS_in _ hV.2.2.2.2.2
theorem ch_ok {b : Nat → Nat} {n : Nat} {S : ps} (hV : PV S) (k : Nat) (h : decide (chN_ b n S k < nI 0) = false) : ∃ c, c < sC S ∧ chN_ b n S k = nI c := by
  rcases ch_in (b := b) (n := n) hV k with h1 | h1
  · rw [h1] at h; exact absurd h (by decide)
  · exact h1
theorem rev_cg {f g : Nat → Int32} (hf : ∀ j, j < 9 → f j = g j) : ∀ (p : rpn) (L : List Int32), rev_ f p L = rev_ g p L
  | [], _ => rfl
  | q :: p, L => by
    have hv : varS f q.2 = varS g q.2 := by
      unfold varS
      by_cases z : ¬ q.2 < nI 0 ∧ q.2 < nI 9
      · rw [if_pos z, if_pos z]
        obtain ⟨j, hj, e⟩ := nI_of (by rw [← nI_0]; exact z.1)
        have hz := z.2
        rw [e] at hz ⊢
        rw [nI_clamp hj]
        exact hf j ((nI_ltI hj (by decide)).mp hz)
      · rw [if_neg z, if_neg z]
    by_cases z0 : q.1 = 0
    · rw [rev_0 z0, rev_0 z0]; exact rev_cg hf p _
    · by_cases z1 : q.1 = 1
      · rw [rev_1 z1, rev_1 z1, hv]; exact rev_cg hf p _
      · have z2 : ¬ q.1 < 2 := by omega
        match L with
        | [] => unfold rev_; rw [if_neg z0, if_neg z1, if_neg z0, if_neg z1]
        | [_] => unfold rev_; rw [if_neg z0, if_neg z1, if_neg z0, if_neg z1]
        | b :: a :: L2 =>
          by_cases zb : q.1 = 5 ∧ b = nI 0
          · rw [rev_b z2 zb, rev_b z2 zb]
          · rw [rev_o z2 zb, rev_o z2 zb]; exact rev_cg hf p _
theorem rvl_cg {f g : Nat → Int32} (hf : ∀ j, j < 9 → f j = g j) (p : rpn) : rvl f p = rvl g p := by unfold rvl; rw [rev_cg hf p]
theorem lwL_cg {f g : Nat → Int32} (hf : ∀ j, j < 9 → f j = g j) (w : rpn) : ∀ ts : List (rpn × rpn × rpn), lwL f w ts = lwL g w ts
  | [] => by rw [lwL, lwL, rvl_cg hf]
  | q :: ts => by rw [lwL, lwL, rvl_cg hf, rvl_cg hf, rvl_cg hf, lwL_cg hf w ts]
theorem pl_cg {f g : Nat → Int32} (hf : ∀ j, j < 9 → f j = g j) (k : Nat) : plS k f = plS k g := by
  unfold plS
  rw [hf 0 (by decide), hf 8 (by decide), hf 4 (by decide), hf 5 (by decide), hf 6 (by decide)]
theorem psN_in {N : (Nat → List Nat) × (Nat → Int32) × Nat} {C C2 : Nat} {w : List Nat} {a : Int32} (h : ∀ i, i < N.2.2 → N.2.1 i = -1 ∨ ∃ c, c < C ∧ N.2.1 i = nI c) (hC : C ≤ C2) (ha : a = -1 ∨ ∃ c, c < C2 ∧ a = nI c) : ∀ i, i < (psN N w a).2.2 → (psN N w a).2.1 i = -1 ∨ ∃ c, c < C2 ∧ (psN N w a).2.1 i = nI c := by
  intro i hi
  have hi : i < N.2.2 + 1 := hi
  show (if i = N.2.2 then a else N.2.1 i) = -1 ∨ ∃ c, c < C2 ∧ (if i = N.2.2 then a else N.2.1 i) = nI c
  by_cases z : i = N.2.2
  · rw [if_pos z]; exact ha
  · rw [if_neg z]
    rcases h i (by omega) with h1 | ⟨c, h1, h2⟩
    · exact Or.inl h1
    · exact Or.inr ⟨c, by omega, h2⟩
theorem V_C {b : Nat → Nat} {n : Nat} {S : ps} (hV : PV S) (hW : PW S) (hf : ¬ sC S = 6) : PV (nwC b n S) ∧ PW (nwC b n S) := by
  obtain ⟨v1, v2, v3, v4, v5, v6⟩ := id hV
  obtain ⟨w1, w2, w3⟩ := hW
  refine ⟨⟨by show sC S + 1 ≤ 6; omega, v2, v3, v4, by show (sM S).2.2 + 1 = sC S + 1 + sR S + sP S; omega, psN_in v6 (Nat.le_succ _) (Or.inr ⟨sC S, Nat.lt_succ_self _, rfl⟩)⟩, lte_2 (lte_2 (fun h => Nat.lt_of_lt_of_le (w1 h) (by show sT S ≤ sT S + 4; omega)) (by show sT S + 1 < sT S + 4; omega)) (by show sT S + 2 < sT S + 4; omega), fun h => ?_, w3⟩
  have h5 := lte_c (by decide) h
  obtain ⟨q1, q2, q3, q4⟩ := w2 (lte_0 (by decide) (lte_0 (by decide) h))
  refine ⟨fun c hc => ?_, fun a c ha hc => ?_, fun e he => ?_, fun a ha => ?_⟩
  · have hc : c < sC S + 1 := hc
    show ∃ w, w ≤ 9 ∧ set1 (sW S) (sC S) _ c = nI w
    unfold set1
    by_cases z : c = sC S
    · rw [if_pos z]; exact ⟨_, Nat.le_of_not_lt (of_decide_eq_false h5), rfl⟩
    · rw [if_neg z]; exact q1 c (by omega)
  · obtain ⟨g1, g2⟩ := q2 a c ha hc
    refine ⟨g1, fun h => ?_⟩
    obtain ⟨v, y1, y2, y3, y4⟩ := g2 h
    exact ⟨v, y1, y2, y3, fun w => y4 (by have w : ¬ a < sC S + 1 ∨ ¬ c < sC S + 1 := w; omega)⟩
  · obtain ⟨c, y1, y2⟩ := q3 e he; exact ⟨c, Nat.lt_succ_of_lt y1, y2⟩
  · obtain ⟨c, y1, y2⟩ := q4 a ha; exact ⟨c, Nat.lt_succ_of_lt y1, y2⟩
theorem V_R {b : Nat → Nat} {n : Nat} {S : ps} (hV : PV S) (hW : PW S) (hf : ¬ sR S = 6) : PV (nwR b n S) ∧ PW (nwR b n S) := by
  obtain ⟨v1, v2, v3, v4, v5, v6⟩ := id hV
  obtain ⟨w1, w2, w3⟩ := hW
  refine ⟨⟨v1, v2, by show sR S + 1 ≤ 6; omega, v4, by show (sM S).2.2 + 1 = sC S + (sR S + 1) + sP S; omega, psN_in v6 (Nat.le_refl _) (Or.inl rfl)⟩, lte_2 (lte_2 (fun h => Nat.lt_of_lt_of_le (w1 h) (by show sT S ≤ sT S + 5; omega)) (by show sT S + 1 < sT S + 5; omega)) (by show sT S + 2 < sT S + 5; omega), fun h => ?_, w3⟩
  have h5 := lte_c (by decide) h
  obtain ⟨q1, q2, q3, q4⟩ := w2 (lte_0 (by decide) (lte_0 (by decide) h))
  refine ⟨q1, q2, fun e he => ?_, q4⟩
  have he : e < sR S + 1 := he
  show ∃ c, c < sC S ∧ set1 (sQ S) (sR S) _ e = nI c
  unfold set1
  by_cases z : e = sR S
  · rw [if_pos z]; exact ch_ok hV _ h5
  · rw [if_neg z]; exact q3 e (by omega)
theorem V_P {b : Nat → Nat} {n : Nat} {S : ps} (hV : PV S) (hW : PW S) (hf : ¬ sP S = 5) : PV (nwP b n S) ∧ PW (nwP b n S) := by
  obtain ⟨v1, v2, v3, v4, v5, v6⟩ := id hV
  obtain ⟨w1, w2, w3⟩ := hW
  refine ⟨⟨v1, v2, v3, by show sP S + 1 ≤ 5; omega, by show (sM S).2.2 + 1 = sC S + sR S + (sP S + 1); omega, psN_in v6 (Nat.le_refl _) (Or.inl rfl)⟩, lte_2 (lte_2 (lte_2 (lte_2 (fun h => Nat.lt_of_lt_of_le (w1 h) (by show sT S ≤ sT S + 6; omega)) (by show sT S + 1 < sT S + 6; omega)) (by show sT S + 2 < sT S + 6; omega)) (by show sT S + 3 < sT S + 6; omega)) (by show sT S + 4 < sT S + 6; omega), fun h => ?_, w3⟩
  have h2 := lte_0 (by decide) (lte_0 (by decide) h)
  have h5 := lte_c (by decide) h2
  obtain ⟨q1, q2, q3, q4⟩ := w2 (lte_0 (by decide) (lte_0 (by decide) h2))
  refine ⟨q1, q2, q3, fun a ha => ?_⟩
  have ha : a < sP S + 1 := ha
  show ∃ c, c < sC S ∧ set1 (sH S).1 (sP S) _ a = nI c
  unfold set1
  by_cases z : a = sP S
  · rw [if_pos z]; exact ch_ok hV _ h5
  · rw [if_neg z]; exact q4 a (by omega)
theorem V_S {b : Nat → Nat} {n : Nat} {S : ps} (hV : PV S) (hW : PW S) : PV (nwS b n S) ∧ PW (nwS b n S) := ⟨hV, fun h => Nat.lt_of_lt_of_le (hW.1 h) (by show sT S ≤ sT S + 3; omega), hW.2.1, hW.2.2⟩
theorem V_L {S : ps} {k : Nat} {r : lres} (hV : PV S) (hW : PW S) (ht : sT S < r.2.1) : PV (nwL S k r) ∧ PW (nwL S k r) := by
  refine ⟨hV, fun h => Nat.lt_trans (hW.1 h) ht, hW.2.1, fun j f g hf => ?_⟩
  show set1 (sL S) k (fun vs => lwL vs r.2.2.2 r.2.2.1) j f = set1 (sL S) k (fun vs => lwL vs r.2.2.2 r.2.2.1) j g
  unfold set1
  by_cases z : j = k
  · rw [if_pos z]; exact lwL_cg hf _ _
  · rw [if_neg z]; exact hW.2.2 j f g hf
theorem V_D {b : Nat → Nat} {n : Nat} {S : ps} (hV : PV S) (hW : PW S) (hf : ¬ sD S = 9) : PV (nwD b n S) ∧ PW (nwD b n S) := by
  obtain ⟨v1, v2, v3, v4, v5, v6⟩ := id hV
  obtain ⟨w1, w2, w3⟩ := hW
  refine ⟨⟨v1, by show sD S + 1 ≤ 9; omega, v3, v4, v5, v6⟩, lte_2 (lte_2 (lte_2 (lte_2 (fun h => Nat.lt_of_lt_of_le (w1 h) (by show sT S ≤ sT S + 5; omega)) (by show sT S + 1 < sT S + 5; omega)) (by show sT S + 2 < sT S + 5; omega)) (by show sT S + 2 < sT S + 5; omega)) (by show sT S + 3 < sT S + 5; omega), fun h => ?_, w3⟩
  have h5 := of_decide_eq_false (lte_c (by decide) h)
  have h3 := lte_0 (by decide) h
  have h3c := of_decide_eq_false (lte_c (by decide) h3)
  have h2 := lte_0 (by decide) h3
  obtain ⟨j, hj, ej⟩ := ch_ok hV _ (lte_c (by decide) h2)
  have h1 := lte_0 (by decide) h2
  obtain ⟨i, hi, ei⟩ := ch_ok hV _ (lte_c (by decide) h1)
  obtain ⟨q1, q2, q3, q4⟩ := w2 (lte_0 (by decide) h1)
  have ei : rdA b n S = nI i := ei
  have ej : rdB b n S = nI j := ej
  have ki : kS (rdA b n S) = i := by rw [ei]; exact kS_n (by omega)
  have kj : kS (rdB b n S) = j := by rw [ej]; exact kS_n (by omega)
  have ni : ¬ rdA b n S < nI 0 := by rw [ei]; exact nI_nn (by omega)
  have nj : ¬ rdB b n S < nI 0 := by rw [ej]; exact nI_nn (by omega)
  have hij : ¬ i = j := fun e => h3c ⟨ni, nj, by rw [ki, kj, (q2 i j (by omega) (by omega)).1 e]; decide⟩
  refine ⟨q1, fun a c ha hc => ?_, q3, q4⟩
  show (a = c → (if ¬ rdA b n S < nI 0 ∧ ¬ rdB b n S < nI 0 then set2 (set2 (sF S) (kS (rdA b n S)) (kS (rdB b n S)) _) (kS (rdB b n S)) (kS (rdA b n S)) _ else sF S) a c = nI 0) ∧ (¬ a = c → ∃ v, 1 ≤ v ∧ v ≤ 999 ∧ (if ¬ rdA b n S < nI 0 ∧ ¬ rdB b n S < nI 0 then set2 (set2 (sF S) (kS (rdA b n S)) (kS (rdB b n S)) _) (kS (rdB b n S)) (kS (rdA b n S)) _ else sF S) a c = nI v ∧ ((¬ a < sC S ∨ ¬ c < sC S) → v = 999))
  rw [if_pos ⟨ni, nj⟩, ki, kj]
  unfold set2
  obtain ⟨g1, g2⟩ := q2 a c ha hc
  by_cases z1 : a = j ∧ c = i
  · rw [if_pos z1]; exact ⟨fun e => absurd e (by omega), fun _ => ⟨_, by omega, by omega, rfl, fun w => by omega⟩⟩
  · rw [if_neg z1]
    by_cases z2 : a = i ∧ c = j
    · rw [if_pos z2]; exact ⟨fun e => absurd e (by omega), fun _ => ⟨_, by omega, by omega, rfl, fun w => by omega⟩⟩
    · rw [if_neg z2]; exact ⟨g1, g2⟩
theorem st_ok2 {b : Nat → Nat} {n : Nat} {S : ps} (hV : PV S) (hW : PW S) (ht : sT S ≤ 400) (hg : gdT b n (sT S)) : (stX b n S).1 ≤ 2 ∧ (¬ (stX b n S).1 = 0 → (stX b n S).2.1 ≤ 400 ∧ gdT b n (stX b n S).2.1) ∧ ((stX b n S).1 = 0 → PV (stX b n S).2.2 ∧ PW (stX b n S).2.2 ∧ sT S < sT (stX b n S).2.2) := by
  have key : ∀ (ks : List Nat) (S2 : ps), (∀ k, k ∈ ks → k ≠ 26 ∧ k ≠ 27) → PV S2 ∧ PW S2 → sT S < sT S2 → (stQ b n ks S S2).1 ≤ 2 ∧ (¬ (stQ b n ks S S2).1 = 0 → (stQ b n ks S S2).2.1 ≤ 400 ∧ gdT b n (stQ b n ks S S2).2.1) ∧ ((stQ b n ks S S2).1 = 0 → PV (stQ b n ks S S2).2.2 ∧ PW (stQ b n ks S S2).2.2 ∧ sT S < sT (stQ b n ks S S2).2.2) := by
    intro ks S2 hks h2 h3
    obtain ⟨a1, a2, a3, a4⟩ := sq_far ks (sT S) hks ht hg
    unfold stQ
    by_cases z : (sqT b n ks (sT S)).1 = 0
    · rw [if_pos z]; exact ⟨Nat.zero_le _, fun w => absurd rfl w, fun _ => ⟨h2.1, h2.2, h3⟩⟩
    · rw [if_neg z]; exact ⟨a4, fun _ => ⟨a1, a2⟩, fun w => absurd w z⟩
  have ful : ∀ {P : Prop}, ((2, sT S, S) : sres).1 ≤ 2 ∧ (¬ ((2, sT S, S) : sres).1 = 0 → ((2, sT S, S) : sres).2.1 ≤ 400 ∧ gdT b n ((2, sT S, S) : sres).2.1) ∧ (((2, sT S, S) : sres).1 = 0 → P) := fun {P} => ⟨Nat.le_refl _, fun _ => ⟨ht, hg⟩, fun w => absurd w (show ¬ 2 = 0 by decide)⟩
  unfold stX
  by_cases k0 : kd b n (sT S) = 0
  · rw [if_pos k0]
    by_cases z : sC S = 6
    · rw [if_pos z]; exact ful
    · rw [if_neg z]; exact key _ _ (by decide) (V_C hV hW z) (by show sT S < sT S + 4; omega)
  · rw [if_neg k0]
    by_cases k1 : kd b n (sT S) = 1
    · rw [if_pos k1]
      by_cases z : sD S = 9
      · rw [if_pos z]; exact ful
      · rw [if_neg z]; exact key _ _ (by decide) (V_D hV hW z) (by show sT S < sT S + 5; omega)
    · rw [if_neg k1]
      by_cases k2 : kd b n (sT S) = 2
      · rw [if_pos k2]
        by_cases z : sR S = 6
        · rw [if_pos z]; exact ful
        · rw [if_neg z]
          refine key _ _ ?_ (V_R hV hW z) (by show sT S < sT S + 5; omega)
          by_cases y : kd b n (sT S + 3) = 11
          · rw [if_pos y]; decide
          · rw [if_neg y]; decide
      · rw [if_neg k2]
        by_cases k3 : kd b n (sT S) = 3
        · rw [if_pos k3]
          by_cases z : sP S = 5
          · rw [if_pos z]; exact ful
          · rw [if_neg z]; exact key _ _ (by decide) (V_P hV hW z) (by show sT S < sT S + 6; omega)
        · rw [if_neg k3]
          by_cases k9 : kd b n (sT S) = 9
          · rw [if_pos k9]; exact key _ _ (by decide) (V_S hV hW) (by show sT S < sT S + 3; omega)
          · rw [if_neg k9]
            obtain ⟨a1, a2, a3, a4⟩ := lwQ_far (b := b) (n := n) ht hg
            by_cases z : (lwQ b n (sT S)).1 = 0
            · rw [if_pos z]
              have hv := V_L (k := kd b n (sT S) - 4) hV hW (a4 z)
              exact ⟨Nat.zero_le _, fun w => absurd rfl w, fun _ => ⟨hv.1, hv.2, a4 z⟩⟩
            · rw [if_neg z]; exact ⟨a3, fun _ => ⟨a1, a2⟩, fun w => absurd w z⟩
theorem V_0 : PV ps0 ∧ PW ps0 := by
  refine ⟨⟨Nat.zero_le _, Nat.zero_le _, Nat.zero_le _, Nat.zero_le _, rfl, fun i hi => absurd hi (Nat.not_lt_zero _)⟩, fun h => absurd rfl h, fun _ => ⟨fun c hc => absurd hc (Nat.not_lt_zero _), fun a c ha hc => ⟨fun e => if_pos e, fun e => ⟨999, by omega, by omega, if_neg e, fun _ => rfl⟩⟩, fun e he => absurd he (Nat.not_lt_zero _), fun a ha => absurd ha (Nat.not_lt_zero _)⟩, fun k f g hf => pl_cg hf k⟩

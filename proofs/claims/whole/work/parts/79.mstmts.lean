/-! the model: statements -/
def mQs (sd : Nat) (N : Nat × Nat × Nat × Nat) (se : Int32) (W : Nat → Int32) (e : Nat) (F : Nat → Nat → Int32) (R : Nat → Int32) (U : Nat → Bool) (H : (Nat → Int32) × (Nat → Int32) × (Nat → Int32)) (I : Nat → Nat → Int32) : Prop := (I 65 sd = nI N.1 ∧ I 67 sd = nI N.2.1 ∧ I 69 sd = nI N.2.2.1 ∧ I 72 sd = nI N.2.2.2 ∧ I 76 sd = se) ∧ (∀ c, c < N.1 → I 66 (6 * sd + c) = W c) ∧ (e = 0 → ∀ a c, a < 6 → c < 6 → I 68 (36 * sd + 6 * a + c) = F a c) ∧ (∀ i, i < N.2.2.1 → I 70 (6 * sd + i) = R i ∧ I 71 (6 * sd + i) = b1 (U i)) ∧ ∀ a, a < N.2.2.2 → I 73 (5 * sd + a) = H.1 a ∧ I 74 (5 * sd + a) = H.2.1 a ∧ I 75 (5 * sd + a) = H.2.2 a
def MLw (sd : Nat) (I : Nat → Nat → Int32) (L : Nat → (Nat → Int32) → Int32) (x br : Nat) : Prop := ∀ k, k < 5 → ∃ f l, f ≤ br ∧ l ≤ br ∧ I 77 (5 * sd + k) = nI f ∧ I 78 (5 * sd + k) = nI l ∧ ((f = l ∧ ∀ vs, L k vs = plS k vs) ∨ ∃ w ts, (∀ vs, L k vs = lwL vs w ts) ∧ 130 * sd ≤ f ∧ STB I (420 * sd) x l w f ts)
def MX (sd t : Nat) (L : Nat → (Nat → Int32) → Int32) (I : Nat → Nat → Int32) : Prop := I 55 12 = nI 0 ∧ I 55 19 = nI sd ∧ sd ≤ 1 ∧ ∃ x br, I 55 43 = nI x ∧ 420 * sd ≤ x ∧ x ≤ 420 * sd + t ∧ I 55 37 = nI br ∧ 130 * sd ≤ br ∧ 4 * br ≤ 4 * (130 * sd) + t ∧ MLw sd I L x br
def MP (b : Nat → Nat) (n sd : Nat) (S : ps) (t : Nat) (I : Nat → Nat → Int32) (G : Nat → Nat → Int64) : Prop := MS b n t I G ∧ LTm b n (sE S) I ∧ NMm I G (sM S) ∧ mQs sd (sN S) (sS S) (sW S) (sE S).1 (sF S) (sQ S) (sU S) (sH S) I ∧ MX sd t (sL S) I
theorem MLw.kept {sd x br : Nat} {I I2 : Nat → Nat → Int32} {L : Nat → (Nat → Int32) → Int32} (h : MLw sd I L x br) (hk : ∀ q, 77 ≤ q → q ≤ 85 → I2 q = I q) : MLw sd I2 L x br := by
  intro k hk5
  obtain ⟨f, l, h1, h2, h3, h4, h5⟩ := h k hk5
  refine ⟨f, l, h1, h2, by rw [hk 77 (by decide) (by decide)]; exact h3, by rw [hk 78 (by decide) (by decide)]; exact h4, ?_⟩
  rcases h5 with h5 | ⟨w, ts, h6, h8, h7⟩
  · exact Or.inl h5
  · exact Or.inr ⟨w, ts, h6, h8, fun I3 y1 y2 => h7 I3 (fun i h0 hi q z1 z2 => (y1 i h0 hi q z1 z2).trans (by rw [hk q (by omega) (by omega)])) (fun i h0 hi => ⟨(y2 i h0 hi).1.trans (by rw [hk 84 (by decide) (by decide)]), (y2 i h0 hi).2.trans (by rw [hk 85 (by decide) (by decide)])⟩)⟩
theorem MX.kept {sd t t2 : Nat} {L : Nat → (Nat → Int32) → Int32} {I I2 : Nat → Nat → Int32} (h : MX sd t L I) (ht : t ≤ t2) (hk : ∀ q, 77 ≤ q → q ≤ 85 → I2 q = I q) (h12 : I2 55 12 = I 55 12) (h19 : I2 55 19 = I 55 19) (h43 : I2 55 43 = I 55 43) (h37 : I2 55 37 = I 55 37) : MX sd t2 L I2 := by
  obtain ⟨q1, q2, q3, x, br, q4, q5, q6, q7, q8, q9, q10⟩ := h
  exact ⟨h12.trans q1, h19.trans q2, q3, x, br, h43.trans q4, q5, by omega, h37.trans q7, q8, by omega, q10.kept hk⟩
theorem fm6 {sd : Nat} {I I2 : Nat → Nat → Int32} (a1 : ∀ q, q ≠ 55 → q ≠ 64 → I2 q = I q) (a2 : ∀ k, k ≠ 11 → k ≠ 20 → I2 55 k = I 55 k) : fmp sd I I2 := fun q k hh => by
  by_cases cq : q = 55
  · subst cq; exact a2 k (by unfold own at hh; omega) (by unfold own at hh; omega)
  · rw [a1 q cq (by unfold own at hh; omega)]
set_option maxHeartbeats 8000000 in
theorem c_tellPilgrim {d Lx tt rt u : Nat} {I : Nat → Nat → Int32} {G : Nat → Nat → Int64} {Q : ab_Q} {b : Nat → Nat} {n sd : Nat} {S : ps} (hn2 : n ≤ 2000) (hV : PV S) (hW : PW S) (hP : MP b n sd S (sT S + 1) I G) (hf : sP S < 5) (hy : (sqT b n [24, 24, 25, 25, 59] (sT S + 1)).1 = 0 → ∀ I2 G2, fmp sd I I2 → (∀ q, q ≠ 63 → G2 q = G q) → MP b n sd (nwP b n S) (sT S + 6) I2 G2 → Q none (hp Lx tt rt u I2 G2)) (hn : ∀ k tok, ¬ k = 0 → sqT b n [24, 24, 25, 25, 59] (sT S + 1) = (k, tok) → ∀ I2, fmp sd I I2 → FM b n k tok I2 → Q none (hp Lx tt rt u I2 G)) : ab_call ab_MT (d + 5) 210 [.ref 55] (hp Lx tt rt u I G) 0 0 Q := by
  obtain ⟨hM, hE, hN, hQ, hX⟩ := id hP
  obtain ⟨v1, v2, v3, v4, v5, v6⟩ := id hV
  obtain ⟨-, ht, hgd, r11, r13⟩ := id hM
  obtain ⟨⟨c1, c2, c3, c4, c5⟩, c6, c7, c8, c9⟩ := id hQ
  have c1 : I 65 sd = nI (sC S) := c1
  have c2 : I 67 sd = nI (sD S) := c2
  have c3 : I 69 sd = nI (sR S) := c3
  have c4 : I 72 sd = nI (sP S) := c4
  have c6 : ∀ c, c < sC S → I 66 (6 * sd + c) = sW S c := c6
  have c8 : ∀ i, i < sR S → I 70 (6 * sd + i) = sQ S i ∧ I 71 (6 * sd + i) = b1 (sU S i) := c8
  have c9 : ∀ a, a < sP S → I 73 (5 * sd + a) = (sH S).1 a ∧ I 74 (5 * sd + a) = (sH S).2.1 a ∧ I 75 (5 * sd + a) = (sH S).2.2 a := c9
  have hsd := hX.2.1
  have hsd1 := hX.2.2.1
  have hs9 := v5
  refine wx_in (M := mX11_tellPilgrim) rfl rfl rfl (Nat.le_of_ble_eq_true rfl) ?_
  refine wx_iconst (v := (nI 5)) rfl (e := 1) rfl (by decide) ?_
  refine wx_aload_n rfl (e := 2) rfl rfl ?_
  refine wx_geti rfl (e := 5) rfl rfl ?_
  rw [hsd]
  refine wn_imul rfl (e := 6) rfl ?_
  refine wx_aload_n rfl (e := 7) rfl rfl ?_
  refine wx_getr rfl (e := 10) rfl rfl rfl ?_
  refine wx_aload_n rfl (e := 11) rfl rfl ?_
  refine wx_geti rfl (e := 14) rfl rfl ?_
  rw [hsd]
  refine wn_iald rfl (e := 15) rfl rfl (by omega) (by decide) ?_
  rw [c4]
  refine wn_iadd rfl (e := 16) rfl ?_
  refine wx_istore_n (L2 := [_, _, _]) rfl (e := 17) rfl (by decide) rfl ?_
  refine wx_aload_n rfl (e := 18) rfl rfl ?_
  refine wx_cv0 (mc := 0) (ms := 0) rfl (e := 21) rfl rfl (Nat.le_of_ble_eq_true rfl) ⟨by decide, by decide⟩ ?_
  refine c_named hn2 hM hE (fun w => Nat.lt_of_lt_of_le (hW.1 w) (by omega)) hN (fun hk1 h41 I2 f2 M2 E2 => ?_) (fun k1 hc1 FF => ?_)
  · have hk1_ := hk1
    refine wx_istore_n (L2 := [_, _, _]) rfl (e := 22) rfl (by decide) rfl ?_
    refine wx_aload_n rfl (e := 23) rfl rfl ?_
    refine wx_getr rfl (e := 26) rfl rfl rfl ?_
    refine wx_iload_n rfl (e := 27) rfl rfl ?_
    refine wx_aload_n rfl (e := 28) rfl rfl ?_
    refine wx_cv0 (mc := 0) (ms := 0) rfl (e := 31) rfl rfl (Nat.le_of_ble_eq_true rfl) ⟨by decide, by decide⟩ ?_
    refine c_known hn2 M2 E2 (lte_2 (fun w => Nat.lt_of_lt_of_le (hW.1 w) (by omega)) (by omega)) (N := sM S) (hN.kept (f2.2 20 (by omega)) (f2.1 64 (by decide)) rfl) (fun hk2 h42 I3 f3 M3 E3 => ?_) (fun k2 hc2 FF => ?_)
    · have E3 := E3
      refine wn_iast rfl (e := 32) rfl rfl (by decide) (by omega) (by decide) ?_
      refine wx_aload_n rfl (e := 33) rfl rfl ?_
      refine wx_getr rfl (e := 36) rfl rfl rfl ?_
      refine wx_iload_n rfl (e := 37) rfl rfl ?_
      refine wx_aload_n rfl (e := 38) rfl rfl ?_
      refine wx_iconst (v := (nI 0)) rfl (e := 39) rfl (by decide) ?_
      refine wx_bipush (v := (nI 9)) rfl (e := 41) rfl (by decide) ?_
      refine wx_cv2 (mc := 0) (ms := 0) rfl (e := 44) rfl rfl (Nat.le_of_ble_eq_true rfl) ⟨by decide, by decide⟩ ?_
      have M3b : MS b n (sT S + 1 + 1 + 1) (wr I3 73 (5 * sd + sP S) (chN_ b n S (sT S + 2))) G := M3.q (fun q h => wr_other _ _ _ _ (by omega)) (fun k h => by rw [wr_other _ _ _ _ (by omega)])
      refine c_bounded hn2 M3b (E3.t (by rw [wr_other _ _ _ _ (by decide)]) (by rw [wr_other _ _ _ _ (by decide)])) (lte_2 (lte_2 (fun w => Nat.lt_of_lt_of_le (hW.1 w) (by omega)) (by omega)) (by omega)) (lo := 0) (hi := 9) (by decide) (by decide) (c := decide (9 < nuT b n (sT S + 3))) (fun _ => by rw [decide_eq_true_iff]; show 9 < nuT b n (sT S + 3) ↔ ¬ (0 ≤ nuT b n (sT S + 3) ∧ nuT b n (sT S + 3) ≤ 9); omega) (fun hk3 h43 I4 f4 M4 E4 => ?_) (fun k3 hc3 I4 v4_ f4 FF => ?_)
      · refine wn_iast rfl (e := 45) rfl rfl (by decide) (by omega) (by decide) ?_
        refine wx_aload_n rfl (e := 46) rfl rfl ?_
        refine wx_getr rfl (e := 49) rfl rfl rfl ?_
        refine wx_iload_n rfl (e := 50) rfl rfl ?_
        refine wx_aload_n rfl (e := 51) rfl rfl ?_
        refine wx_iconst (v := (nI 0)) rfl (e := 52) rfl (by decide) ?_
        refine wx_bipush (v := (nI 9)) rfl (e := 54) rfl (by decide) ?_
        refine wx_cv2 (mc := 0) (ms := 0) rfl (e := 57) rfl rfl (Nat.le_of_ble_eq_true rfl) ⟨by decide, by decide⟩ ?_
        have M4b : MS b n (sT S + 1 + 1 + 1 + 1) (wr I4 74 (5 * sd + sP S) (nI (nuT b n (sT S + 3)))) G := M4.q (fun q h => wr_other _ _ _ _ (by omega)) (fun k h => by rw [wr_other _ _ _ _ (by omega)])
        refine c_bounded hn2 M4b (E4.t (by rw [wr_other _ _ _ _ (by decide)]) (by rw [wr_other _ _ _ _ (by decide)])) (lte_2 (lte_2 (lte_2 (fun w => Nat.lt_of_lt_of_le (hW.1 w) (by omega)) (by omega)) (by omega)) (by omega)) (lo := 0) (hi := 9) (by decide) (by decide) (c := decide (9 < nuT b n (sT S + 4))) (fun _ => by rw [decide_eq_true_iff]; show 9 < nuT b n (sT S + 4) ↔ ¬ (0 ≤ nuT b n (sT S + 4) ∧ nuT b n (sT S + 4) ≤ 9); omega) (fun hk4 h44 I5 f5 M5 E5 => ?_) (fun k4 hc4 I5 v5_ f5 FF => ?_)
        · refine wn_iast rfl (e := 58) rfl rfl (by decide) (by omega) (by decide) ?_
          refine wx_aload_n rfl (e := 59) rfl rfl ?_
          refine wx_iload_n rfl (e := 60) rfl rfl ?_
          refine wx_iconst (v := (-1)) rfl (e := 61) rfl (by decide) ?_
          refine wx_cv2 (mc := 0) (ms := 0) rfl (e := 64) rfl rfl (Nat.le_of_ble_eq_true rfl) ⟨by decide, by decide⟩ ?_
          have P5 : fmp sd I (wr I5 75 (5 * sd + sP S) (nI (nuT b n (sT S + 4)))) := f2.p.tr (f3.p.tr ((fmp.w (by unfold own; omega)).tr (f4.p.tr ((fmp.w (by unfold own; omega)).tr (f5.p.tr (fmp.w (by unfold own; omega)))))))
          have M5b : MS b n (sT S + 1 + 1 + 1 + 1 + 1) (wr I5 75 (5 * sd + sP S) (nI (nuT b n (sT S + 4)))) G := M5.q (fun q h => wr_other _ _ _ _ (by omega)) (fun k h => by rw [wr_other _ _ _ _ (by omega)])
          have q20 : (wr I5 75 (5 * sd + sP S) (nI (nuT b n (sT S + 4)))) 55 20 = I 55 20 := by rw [wr_other _ _ _ _ (by decide), f5.2 20 (by omega), wr_other _ _ _ _ (by decide), f4.2 20 (by omega), wr_other _ _ _ _ (by decide), f3.2 20 (by omega), f2.2 20 (by omega)]
          have q64 : (wr I5 75 (5 * sd + sP S) (nI (nuT b n (sT S + 4)))) 64 = I 64 := by rw [wr_other _ _ _ _ (by decide), f5.1 64 (by decide), wr_other _ _ _ _ (by decide), f4.1 64 (by decide), wr_other _ _ _ _ (by decide), f3.1 64 (by decide), f2.1 64 (by decide)]
          refine c_ends M5b (N := sM S) (hN.kept q20 q64 rfl) (by omega) (tok := sT S + 1) (by omega) hk1 (fun hk5 h45 I6 G6 a1 a2 a3 M6 N6 => ?_) (fun k5 hc5 FF => ?_)
          · have r65 := M6.2.2.2.2
            have row : ∀ q, q ≠ 55 → q ≠ 64 → q ≠ 73 → q ≠ 74 → q ≠ 75 → I6 q = I q := fun q y1 y2 y3 y4 y5 => by rw [a1 q y1 y2, wr_other _ _ _ _ y5, f5.1 q y1, wr_other _ _ _ _ y4, f4.1 q y1, wr_other _ _ _ _ y3, f3.1 q y1, f2.1 q y1]
            have fld : ∀ k, ¬ (k = 11 ∨ (13 ≤ k ∧ k ≤ 16) ∨ k = 20) → I6 55 k = I 55 k := fun k hk => by rw [a2 k (by omega) (by omega), wr_other _ _ _ _ (by decide), f5.2 k (by omega), wr_other _ _ _ _ (by decide), f4.2 k (by omega), wr_other _ _ _ _ (by decide), f3.2 k (by omega), f2.2 k (by omega)]
            have SD6 : I6 55 19 = nI sd := (fld 19 (by decide)).trans hsd
            have PP6 : I6 72 sd = nI (sP S) := by rw [row 72 (by decide) (by decide) (by decide) (by decide) (by decide)]; exact c4
            have e73 : ∀ a, I6 73 (5 * sd + a) = if 5 * sd + a = (5 * sd + sP S) then chN_ b n S (sT S + 2) else I 73 (5 * sd + a) := fun a => by rw [a1 73 (by decide) (by decide), wr_other _ _ _ _ (by decide), f5.1 73 (by decide), wr_other _ _ _ _ (by decide), f4.1 73 (by decide), wr_at, if_pos rfl, f3.1 73 (by decide), f2.1 73 (by decide)]
            have e74 : ∀ a, I6 74 (5 * sd + a) = if 5 * sd + a = (5 * sd + sP S) then nI (nuT b n (sT S + 3)) else I 74 (5 * sd + a) := fun a => by rw [a1 74 (by decide) (by decide), wr_other _ _ _ _ (by decide), f5.1 74 (by decide), wr_at, if_pos rfl, f4.1 74 (by decide), wr_other _ _ _ _ (by decide), f3.1 74 (by decide), f2.1 74 (by decide)]
            have e75 : ∀ a, I6 75 (5 * sd + a) = if 5 * sd + a = (5 * sd + sP S) then nI (nuT b n (sT S + 4)) else I 75 (5 * sd + a) := fun a => by rw [a1 75 (by decide) (by decide), wr_at, if_pos rfl, f5.1 75 (by decide), wr_other _ _ _ _ (by decide), f4.1 75 (by decide), wr_other _ _ _ _ (by decide), f3.1 75 (by decide), f2.1 75 (by decide)]
            refine wx_aload_n rfl (e := 65) rfl rfl ?_
            refine wx_geti rfl (e := 68) rfl rfl ?_
            first | rw [r65] | rw [FF.2.2.1] | rw [wr_other _ _ _ _ (by decide), FF.2.2.1] | rw [wr_other _ _ _ _ (by decide), wr_other _ _ _ _ (by decide), FF.2.2.1] | rw [wr_other _ _ _ _ (by decide), wr_other _ _ _ _ (by decide), wr_other _ _ _ _ (by decide), FF.2.2.1]
            refine wn_if_ne rfl (e := 71) rfl (by omega) (fun c_68 => absurd c_68 (by omega)) (fun c_68 => ?_)
            refine wx_aload_n rfl (e := 72) rfl rfl ?_
            refine wx_getr rfl (e := 75) rfl rfl rfl ?_
            refine wx_aload_n rfl (e := 76) rfl rfl ?_
            refine wx_geti rfl (e := 79) rfl rfl ?_
            rw [SD6]
            refine wx_dup2 rfl (e := 80) rfl ⟨rfl, rfl⟩ ?_
            refine wn_iald rfl (e := 81) rfl rfl (by omega) (by decide) ?_
            rw [PP6]
            refine wx_iconst (v := (nI 1)) rfl (e := 82) rfl (by decide) ?_
            refine wn_iadd rfl (e := 83) rfl ?_
            refine wn_iast rfl (e := 84) rfl rfl (by decide) (by omega) (by decide) ?_
            refine wx_ret rfl rfl ⟨by decide, by decide⟩ ?_
            have P6 : fmp sd I I6 := P5.tr (fm6 a1 a2)
            refine hy (by rw [sqT_y hk1 h41, sqT_y hk2 h42, sqT_y hk3 h43, sqT_y hk4 h44, sqT_y hk5 h45]; rfl) (wr I6 72 sd (nI (sP S + 1))) G6 (P6.tr (fmp.w (by unfold own; omega))) a3 ⟨M6.q (fun q h => wr_other _ _ _ _ (by omega)) (fun k h => by rw [wr_other _ _ _ _ (by omega)]), ?_, N6.kept (by rw [wr_other _ _ _ _ (by decide)]) (wr_other _ _ _ _ (by decide)) rfl, ?_, hX.kept (by show sT S + 1 ≤ sT S + 6; omega) (fun q y1 y2 => ?_) ?_ ?_ ?_ ?_⟩
            · exact E5.t (by rw [wr_other _ _ _ _ (by decide), a2 15 (by decide) (by decide), wr_other _ _ _ _ (by decide)]) (by rw [wr_other _ _ _ _ (by decide), a2 16 (by decide) (by decide), wr_other _ _ _ _ (by decide)])
            · refine ⟨⟨by rw [wr_other _ _ _ _ (by decide), row 65 (by decide) (by decide) (by decide) (by decide) (by decide)]; exact c1, by rw [wr_other _ _ _ _ (by decide), row 67 (by decide) (by decide) (by decide) (by decide) (by decide)]; exact c2, by rw [wr_other _ _ _ _ (by decide), row 69 (by decide) (by decide) (by decide) (by decide) (by decide)]; exact c3, by rw [wr_eq]; rfl, by rw [wr_other _ _ _ _ (by decide), row 76 (by decide) (by decide) (by decide) (by decide) (by decide)]; exact c5⟩, by rw [wr_other _ _ _ _ (by decide), row 66 (by decide) (by decide) (by decide) (by decide) (by decide)]; exact c6, fun y => by rw [wr_other _ _ _ _ (by decide), row 68 (by decide) (by decide) (by decide) (by decide) (by decide)]; exact c7 (lte_0 (by decide) (lte_0 (by decide) (lte_0 (by decide) (lte_0 (by decide) y)))), by rw [wr_other _ _ _ _ (by decide), wr_other _ _ _ _ (by decide), row 70 (by decide) (by decide) (by decide) (by decide) (by decide), row 71 (by decide) (by decide) (by decide) (by decide) (by decide)]; exact c8, fun a ha => ?_⟩
              have ha : a < sP S + 1 := ha
              rw [wr_other _ _ _ _ (by decide), wr_other _ _ _ _ (by decide), wr_other _ _ _ _ (by decide), e73, e74, e75]
              show _ = set1 (sH S).1 (sP S) _ a ∧ _ = set1 (sH S).2.1 (sP S) _ a ∧ _ = set1 (sH S).2.2 (sP S) _ a
              unfold set1
              by_cases za : a = sP S
              · rw [if_pos za, if_pos za, if_pos za, if_pos (by omega), if_pos (by omega), if_pos (by omega)]; exact ⟨rfl, rfl, rfl⟩
              · rw [if_neg za, if_neg za, if_neg za, if_neg (by omega), if_neg (by omega), if_neg (by omega)]; exact c9 a (by omega)
            · rw [wr_other _ _ _ _ (by omega), row q (by omega) (by omega) (by omega) (by omega) (by omega)]
            · rw [wr_other _ _ _ _ (by decide)]; exact fld 12 (by decide)
            · rw [wr_other _ _ _ _ (by decide)]; exact fld 19 (by decide)
            · rw [wr_other _ _ _ _ (by decide)]; exact fld 43 (by decide)
            · rw [wr_other _ _ _ _ (by decide)]; exact fld 37 (by decide)
          · have k1_ := FF.1
            have k2_ := FF.2.1
            refine wx_aload_n rfl (e := 65) rfl rfl ?_
            refine wx_geti rfl (e := 68) rfl rfl ?_
            first | rw [r65] | rw [FF.2.2.1] | rw [wr_other _ _ _ _ (by decide), FF.2.2.1] | rw [wr_other _ _ _ _ (by decide), wr_other _ _ _ _ (by decide), FF.2.2.1] | rw [wr_other _ _ _ _ (by decide), wr_other _ _ _ _ (by decide), wr_other _ _ _ _ (by decide), FF.2.2.1]
            refine wn_if_ne rfl (e := 71) rfl (by omega) (fun c_68 => ?_) (fun c_68 => absurd c_68 (by omega))
            refine wx_ret rfl rfl ⟨by decide, by decide⟩ ?_
            rcases hc5 with ⟨w1, w2⟩ | ⟨w1, w2, w3⟩
            · subst w1; exact hn 1 _ (by decide) (by rw [sqT_y hk1 h41, sqT_y hk2 h42, sqT_y hk3 h43, sqT_y hk4 h44, sqT_1 w2]) _ (P5.tr ft.p) FF
            · subst w1; exact hn 2 _ (by decide) (by rw [sqT_y hk1 h41, sqT_y hk2 h42, sqT_y hk3 h43, sqT_y hk4 h44, sqT_2 w2 w3]) _ (P5.tr ft.p) FF
        · have k1_ := FF.1
          have k2_ := FF.2.1
          refine wn_iast rfl (e := 58) rfl rfl (by decide) (by omega) (by decide) ?_
          refine wx_aload_n rfl (e := 59) rfl rfl ?_
          refine wx_iload_n rfl (e := 60) rfl rfl ?_
          refine wx_iconst (v := (-1)) rfl (e := 61) rfl (by decide) ?_
          refine wx_cv2 (mc := 0) (ms := 0) rfl (e := 64) rfl rfl (Nat.le_of_ble_eq_true rfl) ⟨by decide, by decide⟩ ?_
          refine c_ends0 FF.1 (by have := FF.2.1; omega) (by rw [wr_other _ _ _ _ (by decide)]; exact FF.2.2.1) ?_
          refine wx_aload_n rfl (e := 65) rfl rfl ?_
          refine wx_geti rfl (e := 68) rfl rfl ?_
          first | rw [r65] | rw [FF.2.2.1] | rw [wr_other _ _ _ _ (by decide), FF.2.2.1] | rw [wr_other _ _ _ _ (by decide), wr_other _ _ _ _ (by decide), FF.2.2.1] | rw [wr_other _ _ _ _ (by decide), wr_other _ _ _ _ (by decide), wr_other _ _ _ _ (by decide), FF.2.2.1]
          refine wn_if_ne rfl (e := 71) rfl (by omega) (fun c_68 => ?_) (fun c_68 => absurd c_68 (by omega))
          refine wx_ret rfl rfl ⟨by decide, by decide⟩ ?_
          rcases hc4 with ⟨w1, w2⟩ | ⟨w1, w2, w3⟩
          · subst w1; exact hn 1 _ (by decide) (by rw [sqT_y hk1 h41, sqT_y hk2 h42, sqT_y hk3 h43, sqT_1 w2]) _ ((f2.p.tr (f3.p.tr ((fmp.w (by unfold own; omega)).tr (f4.p.tr ((fmp.w (by unfold own; omega)).tr f5.p))))).tr (fmp.w (by unfold own; omega))) (FF.co (by rw [wr_other _ _ _ _ (by decide)]) (by rw [wr_other _ _ _ _ (by decide)]))
          · subst w1; exact hn 2 _ (by decide) (by rw [sqT_y hk1 h41, sqT_y hk2 h42, sqT_y hk3 h43, sqT_2 w2 w3]) _ ((f2.p.tr (f3.p.tr ((fmp.w (by unfold own; omega)).tr (f4.p.tr ((fmp.w (by unfold own; omega)).tr f5.p))))).tr (fmp.w (by unfold own; omega))) (FF.co (by rw [wr_other _ _ _ _ (by decide)]) (by rw [wr_other _ _ _ _ (by decide)]))
      · have k1_ := FF.1
        have k2_ := FF.2.1
        refine wn_iast rfl (e := 45) rfl rfl (by decide) (by omega) (by decide) ?_
        refine wx_aload_n rfl (e := 46) rfl rfl ?_
        refine wx_getr rfl (e := 49) rfl rfl rfl ?_
        refine wx_iload_n rfl (e := 50) rfl rfl ?_
        refine wx_aload_n rfl (e := 51) rfl rfl ?_
        refine wx_iconst (v := (nI 0)) rfl (e := 52) rfl (by decide) ?_
        refine wx_bipush (v := (nI 9)) rfl (e := 54) rfl (by decide) ?_
        refine wx_cv2 (mc := 0) (ms := 0) rfl (e := 57) rfl rfl (Nat.le_of_ble_eq_true rfl) ⟨by decide, by decide⟩ ?_
        refine c_bounded0 FF.1 (by have := FF.2.1; omega) (by rw [wr_other _ _ _ _ (by decide)]; exact FF.2.2.1) ?_
        refine wn_iast rfl (e := 58) rfl rfl (by decide) (by omega) (by decide) ?_
        refine wx_aload_n rfl (e := 59) rfl rfl ?_
        refine wx_iload_n rfl (e := 60) rfl rfl ?_
        refine wx_iconst (v := (-1)) rfl (e := 61) rfl (by decide) ?_
        refine wx_cv2 (mc := 0) (ms := 0) rfl (e := 64) rfl rfl (Nat.le_of_ble_eq_true rfl) ⟨by decide, by decide⟩ ?_
        refine c_ends0 FF.1 (by have := FF.2.1; omega) (by rw [wr_other _ _ _ _ (by decide), wr_other _ _ _ _ (by decide)]; exact FF.2.2.1) ?_
        refine wx_aload_n rfl (e := 65) rfl rfl ?_
        refine wx_geti rfl (e := 68) rfl rfl ?_
        first | rw [r65] | rw [FF.2.2.1] | rw [wr_other _ _ _ _ (by decide), FF.2.2.1] | rw [wr_other _ _ _ _ (by decide), wr_other _ _ _ _ (by decide), FF.2.2.1] | rw [wr_other _ _ _ _ (by decide), wr_other _ _ _ _ (by decide), wr_other _ _ _ _ (by decide), FF.2.2.1]
        refine wn_if_ne rfl (e := 71) rfl (by omega) (fun c_68 => ?_) (fun c_68 => absurd c_68 (by omega))
        refine wx_ret rfl rfl ⟨by decide, by decide⟩ ?_
        rcases hc3 with ⟨w1, w2⟩ | ⟨w1, w2, w3⟩
        · subst w1; exact hn 1 _ (by decide) (by rw [sqT_y hk1 h41, sqT_y hk2 h42, sqT_1 w2]) _ ((f2.p.tr (f3.p.tr ((fmp.w (by unfold own; omega)).tr f4.p))).tr ((fmp.w (by unfold own; omega)).tr (fmp.w (by unfold own; omega)))) (FF.co (by rw [wr_other _ _ _ _ (by decide), wr_other _ _ _ _ (by decide)]) (by rw [wr_other _ _ _ _ (by decide), wr_other _ _ _ _ (by decide)]))
        · subst w1; exact hn 2 _ (by decide) (by rw [sqT_y hk1 h41, sqT_y hk2 h42, sqT_2 w2 w3]) _ ((f2.p.tr (f3.p.tr ((fmp.w (by unfold own; omega)).tr f4.p))).tr ((fmp.w (by unfold own; omega)).tr (fmp.w (by unfold own; omega)))) (FF.co (by rw [wr_other _ _ _ _ (by decide), wr_other _ _ _ _ (by decide)]) (by rw [wr_other _ _ _ _ (by decide), wr_other _ _ _ _ (by decide)]))
    · have k1_ := FF.1
      have k2_ := FF.2.1
      refine wn_iast rfl (e := 32) rfl rfl (by decide) (by omega) (by decide) ?_
      refine wx_aload_n rfl (e := 33) rfl rfl ?_
      refine wx_getr rfl (e := 36) rfl rfl rfl ?_
      refine wx_iload_n rfl (e := 37) rfl rfl ?_
      refine wx_aload_n rfl (e := 38) rfl rfl ?_
      refine wx_iconst (v := (nI 0)) rfl (e := 39) rfl (by decide) ?_
      refine wx_bipush (v := (nI 9)) rfl (e := 41) rfl (by decide) ?_
      refine wx_cv2 (mc := 0) (ms := 0) rfl (e := 44) rfl rfl (Nat.le_of_ble_eq_true rfl) ⟨by decide, by decide⟩ ?_
      refine c_bounded0 FF.1 (by have := FF.2.1; omega) (by rw [wr_other _ _ _ _ (by decide)]; exact FF.2.2.1) ?_
      refine wn_iast rfl (e := 45) rfl rfl (by decide) (by omega) (by decide) ?_
      refine wx_aload_n rfl (e := 46) rfl rfl ?_
      refine wx_getr rfl (e := 49) rfl rfl rfl ?_
      refine wx_iload_n rfl (e := 50) rfl rfl ?_
      refine wx_aload_n rfl (e := 51) rfl rfl ?_
      refine wx_iconst (v := (nI 0)) rfl (e := 52) rfl (by decide) ?_
      refine wx_bipush (v := (nI 9)) rfl (e := 54) rfl (by decide) ?_
      refine wx_cv2 (mc := 0) (ms := 0) rfl (e := 57) rfl rfl (Nat.le_of_ble_eq_true rfl) ⟨by decide, by decide⟩ ?_
      refine c_bounded0 FF.1 (by have := FF.2.1; omega) (by rw [wr_other _ _ _ _ (by decide), wr_other _ _ _ _ (by decide)]; exact FF.2.2.1) ?_
      refine wn_iast rfl (e := 58) rfl rfl (by decide) (by omega) (by decide) ?_
      refine wx_aload_n rfl (e := 59) rfl rfl ?_
      refine wx_iload_n rfl (e := 60) rfl rfl ?_
      refine wx_iconst (v := (-1)) rfl (e := 61) rfl (by decide) ?_
      refine wx_cv2 (mc := 0) (ms := 0) rfl (e := 64) rfl rfl (Nat.le_of_ble_eq_true rfl) ⟨by decide, by decide⟩ ?_
      refine c_ends0 FF.1 (by have := FF.2.1; omega) (by rw [wr_other _ _ _ _ (by decide), wr_other _ _ _ _ (by decide), wr_other _ _ _ _ (by decide)]; exact FF.2.2.1) ?_
      refine wx_aload_n rfl (e := 65) rfl rfl ?_
      refine wx_geti rfl (e := 68) rfl rfl ?_
      first | rw [r65] | rw [FF.2.2.1] | rw [wr_other _ _ _ _ (by decide), FF.2.2.1] | rw [wr_other _ _ _ _ (by decide), wr_other _ _ _ _ (by decide), FF.2.2.1] | rw [wr_other _ _ _ _ (by decide), wr_other _ _ _ _ (by decide), wr_other _ _ _ _ (by decide), FF.2.2.1]
      refine wn_if_ne rfl (e := 71) rfl (by omega) (fun c_68 => ?_) (fun c_68 => absurd c_68 (by omega))
      refine wx_ret rfl rfl ⟨by decide, by decide⟩ ?_
      rcases hc2 with ⟨w1, w2⟩ | ⟨w1, w2, w3⟩
      · subst w1; exact hn 1 _ (by decide) (by rw [sqT_y hk1 h41, sqT_1 w2]) _ ((f2.p.tr ft.p).tr ((fmp.w (by unfold own; omega)).tr ((fmp.w (by unfold own; omega)).tr (fmp.w (by unfold own; omega))))) (FF.co (by rw [wr_other _ _ _ _ (by decide), wr_other _ _ _ _ (by decide), wr_other _ _ _ _ (by decide)]) (by rw [wr_other _ _ _ _ (by decide), wr_other _ _ _ _ (by decide), wr_other _ _ _ _ (by decide)]))
      · subst w1; exact hn 2 _ (by decide) (by rw [sqT_y hk1 h41, sqT_2 w2 w3]) _ ((f2.p.tr ft.p).tr ((fmp.w (by unfold own; omega)).tr ((fmp.w (by unfold own; omega)).tr (fmp.w (by unfold own; omega))))) (FF.co (by rw [wr_other _ _ _ _ (by decide), wr_other _ _ _ _ (by decide), wr_other _ _ _ _ (by decide)]) (by rw [wr_other _ _ _ _ (by decide), wr_other _ _ _ _ (by decide), wr_other _ _ _ _ (by decide)]))
  · have k1_ := FF.1
    have k2_ := FF.2.1
    refine wx_istore_n (L2 := [_, _, _]) rfl (e := 22) rfl (by decide) rfl ?_
    refine wx_aload_n rfl (e := 23) rfl rfl ?_
    refine wx_getr rfl (e := 26) rfl rfl rfl ?_
    refine wx_iload_n rfl (e := 27) rfl rfl ?_
    refine wx_aload_n rfl (e := 28) rfl rfl ?_
    refine wx_cv0 (mc := 0) (ms := 0) rfl (e := 31) rfl rfl (Nat.le_of_ble_eq_true rfl) ⟨by decide, by decide⟩ ?_
    refine c_known0 FF.1 (by have := FF.2.1; omega) FF.2.2.1 ?_
    refine wn_iast rfl (e := 32) rfl rfl (by decide) (by omega) (by decide) ?_
    refine wx_aload_n rfl (e := 33) rfl rfl ?_
    refine wx_getr rfl (e := 36) rfl rfl rfl ?_
    refine wx_iload_n rfl (e := 37) rfl rfl ?_
    refine wx_aload_n rfl (e := 38) rfl rfl ?_
    refine wx_iconst (v := (nI 0)) rfl (e := 39) rfl (by decide) ?_
    refine wx_bipush (v := (nI 9)) rfl (e := 41) rfl (by decide) ?_
    refine wx_cv2 (mc := 0) (ms := 0) rfl (e := 44) rfl rfl (Nat.le_of_ble_eq_true rfl) ⟨by decide, by decide⟩ ?_
    refine c_bounded0 FF.1 (by have := FF.2.1; omega) (by rw [wr_other _ _ _ _ (by decide)]; exact FF.2.2.1) ?_
    refine wn_iast rfl (e := 45) rfl rfl (by decide) (by omega) (by decide) ?_
    refine wx_aload_n rfl (e := 46) rfl rfl ?_
    refine wx_getr rfl (e := 49) rfl rfl rfl ?_
    refine wx_iload_n rfl (e := 50) rfl rfl ?_
    refine wx_aload_n rfl (e := 51) rfl rfl ?_
    refine wx_iconst (v := (nI 0)) rfl (e := 52) rfl (by decide) ?_
    refine wx_bipush (v := (nI 9)) rfl (e := 54) rfl (by decide) ?_
    refine wx_cv2 (mc := 0) (ms := 0) rfl (e := 57) rfl rfl (Nat.le_of_ble_eq_true rfl) ⟨by decide, by decide⟩ ?_
    refine c_bounded0 FF.1 (by have := FF.2.1; omega) (by rw [wr_other _ _ _ _ (by decide), wr_other _ _ _ _ (by decide)]; exact FF.2.2.1) ?_
    refine wn_iast rfl (e := 58) rfl rfl (by decide) (by omega) (by decide) ?_
    refine wx_aload_n rfl (e := 59) rfl rfl ?_
    refine wx_iload_n rfl (e := 60) rfl rfl ?_
    refine wx_iconst (v := (-1)) rfl (e := 61) rfl (by decide) ?_
    refine wx_cv2 (mc := 0) (ms := 0) rfl (e := 64) rfl rfl (Nat.le_of_ble_eq_true rfl) ⟨by decide, by decide⟩ ?_
    refine c_ends0 FF.1 (by have := FF.2.1; omega) (by rw [wr_other _ _ _ _ (by decide), wr_other _ _ _ _ (by decide), wr_other _ _ _ _ (by decide)]; exact FF.2.2.1) ?_
    refine wx_aload_n rfl (e := 65) rfl rfl ?_
    refine wx_geti rfl (e := 68) rfl rfl ?_
    first | rw [r65] | rw [FF.2.2.1] | rw [wr_other _ _ _ _ (by decide), FF.2.2.1] | rw [wr_other _ _ _ _ (by decide), wr_other _ _ _ _ (by decide), FF.2.2.1] | rw [wr_other _ _ _ _ (by decide), wr_other _ _ _ _ (by decide), wr_other _ _ _ _ (by decide), FF.2.2.1]
    refine wn_if_ne rfl (e := 71) rfl (by omega) (fun c_68 => ?_) (fun c_68 => absurd c_68 (by omega))
    refine wx_ret rfl rfl ⟨by decide, by decide⟩ ?_
    rcases hc1 with ⟨w1, w2⟩ | ⟨w1, w2, w3⟩
    · subst w1; exact hn 1 _ (by decide) (by exact sqT_1 w2) _ (ft.p.tr ((fmp.w (by unfold own; omega)).tr ((fmp.w (by unfold own; omega)).tr (fmp.w (by unfold own; omega))))) (FF.co (by rw [wr_other _ _ _ _ (by decide), wr_other _ _ _ _ (by decide), wr_other _ _ _ _ (by decide)]) (by rw [wr_other _ _ _ _ (by decide), wr_other _ _ _ _ (by decide), wr_other _ _ _ _ (by decide)]))
    · subst w1; exact hn 2 _ (by decide) (by exact sqT_2 w2 w3) _ (ft.p.tr ((fmp.w (by unfold own; omega)).tr ((fmp.w (by unfold own; omega)).tr (fmp.w (by unfold own; omega))))) (FF.co (by rw [wr_other _ _ _ _ (by decide), wr_other _ _ _ _ (by decide), wr_other _ _ _ _ (by decide)]) (by rw [wr_other _ _ _ _ (by decide), wr_other _ _ _ _ (by decide), wr_other _ _ _ _ (by decide)]))

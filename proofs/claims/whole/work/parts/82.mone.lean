/-! the model: one statement -/
theorem mk_sw1 : ∀ a, a < 62 → vld a = true → (mk a = 20 ↔ a = 0) ∧ (mk a = 21 ↔ a = 1) ∧ (mk a = 22 ↔ a = 2) ∧ (mk a = 23 ↔ a = 3) := by decide +kernel
theorem mk_sw2 : ∀ a, a < 62 → vld a = true → (mk a = 31 ↔ a = 9) ∧ ((26 ≤ mk a ∧ mk a ≤ 30) ↔ (4 ≤ a ∧ a ≤ 8)) := by decide +kernel
theorem mk_sw3 : ∀ a, a < 62 → vld a = true → 4 ≤ a → a ≤ 8 → mk a = a + 22 := by decide +kernel
theorem sub26 : ∀ a, a < 44 → (nI a - nI 26 < nI 0 ↔ a < 26) := by decide +kernel
theorem frq.pm {a0 r0 sd : Nat} {I I2 : Nat → Nat → Int32} (h : frq a0 (420 * sd + 420) r0 (130 * sd + 130) I I2) (h1 : 420 * sd ≤ a0) (h2 : 130 * sd ≤ r0) : fmp sd I I2 := fun q k hh => by
  unfold own at hh
  by_cases q1 : q = 55
  · subst q1; exact h.2.1 k (by omega)
  · by_cases q2 : 79 ≤ q ∧ q ≤ 86
    · by_cases q3 : q = 84
      · subst q3; exact (h.2.2.1 k (by omega)).1
      · by_cases q4 : q = 85
        · subst q4; exact (h.2.2.1 k (by omega)).2
        · exact h.2.2.2 k (by omega) q (by omega) (by omega)
    · rw [h.1 q q1 q2]
theorem stq_y {b : Nat → Nat} {n κ : Nat} {ks : List Nat} {S S2 : ps} (h : kd b n (sT S) = κ) (h4 : sT S < 400) : stQ b n (κ :: ks) S S2 = if (sqT b n ks (sT S + 1)).1 = 0 then (0, 0, S2) else ((sqT b n ks (sT S + 1)).1, (sqT b n ks (sT S + 1)).2, S) := by
  unfold stQ; rw [sqT_y h h4]
theorem stq_2 {b : Nat → Nat} {n κ : Nat} {ks : List Nat} {S S2 : ps} (h : kd b n (sT S) = κ) (h4 : 400 ≤ sT S) : stQ b n (κ :: ks) S S2 = (2, sT S, S) := by
  unfold stQ; rw [sqT_2 h h4]; exact if_neg (show ¬ 2 = 0 by decide)
theorem c_tellLaw0 {d Lx tt rt u : Nat} {I : Nat → Nat → Int32} {G : Nat → Nat → Int64} {Q : ab_Q} {k a0 h rh br e : Nat} (he : ¬ e = 0) (he2 : e ≤ 5) (h13 : I 55 13 = nI e) (hbr : I 55 37 = nI br) (hr2 : rh ≤ 260) (hrh : br < rh) (hq : ∀ I2, frq a0 h br rh I I2 → I2 55 13 = I 55 13 → I2 55 14 = I 55 14 → Q none (hp Lx tt rt u I2 G)) : ab_call ab_MT (d + 7) 211 [.ref 55, .int (nI k)] (hp Lx tt rt u I G) 0 0 Q := by
  refine wx_in (M := mX11_tellLaw) rfl rfl rfl (Nat.le_of_ble_eq_true rfl) ?_
  refine wx_aload_n rfl (e := 1) rfl rfl ?_
  refine wx_iconst (v := (nI 5)) rfl (e := 2) rfl (by decide) ?_
  refine wx_cv1 (mc := 0) (ms := 0) rfl (e := 5) rfl rfl (Nat.le_of_ble_eq_true rfl) ⟨by decide, by decide⟩ ?_
  refine c_must0 he he2 h13 ?_
  refine wx_aload_n rfl (e := 6) rfl rfl ?_
  refine wx_geti rfl (e := 9) rfl rfl ?_
  rw [hbr]
  refine wx_istore_n (L2 := [_, _, _, _]) rfl (e := 10) rfl (by decide) rfl ?_
  refine wx_iconst (v := (nI 0)) rfl (e := 11) rfl (by decide) ?_
  refine wx_istore_n (L2 := [_, _, _, _]) rfl (e := 12) rfl (by decide) rfl ?_
  exact fl12 (a0 := a0) (h := h) (rh := rh) he he2 h13 hbr (Nat.le_refl _) hr2 hrh hq
theorem c_roomFor {d Lx tt rt u : Nat} {I : Nat → Nat → Int32} {G : Nat → Nat → Int64} {Q : ab_Q} {b : Nat → Nat} {n t v N : Nat} (hM : MS b n t I G) (hv : v < 20) (hN : N < 20) (hy : ¬ v = N → t < 400 → Q none (hp Lx tt rt u (nx t I) G)) (hf : (v = N ∨ 400 ≤ t) → Q none (hp Lx tt rt u (ft 2 (stA b n t) I) G)) : ab_call ab_MT (d + 3) 202 [.ref 55, .int (nI v), .int (nI N)] (hp Lx tt rt u I G) 0 0 Q := by
  have r13 := hM.2.2.2.2
  refine wx_in (M := mX11_roomFor) rfl rfl rfl (Nat.le_of_ble_eq_true rfl) ?_
  refine wx_iload_n rfl (e := 1) rfl rfl ?_
  refine wx_iload_n rfl (e := 2) rfl rfl ?_
  refine wn_ic_ne rfl (e := 5) rfl (by omega) (by omega) (fun c_2 => ?_) (fun c_2 => ?_)
  · refine wx_aload_n rfl (e := 11) rfl rfl ?_
    refine wx_geti rfl (e := 14) rfl rfl ?_
    first | rw [r13] | rw [f13]
    refine wn_if_ne rfl (e := 17) rfl (by omega) (fun c_14 => absurd c_14 (by omega)) (fun c_14 => ?_)
    refine wx_aload_n rfl (e := 18) rfl rfl ?_
    refine wx_cv0 (mc := 0) (ms := 0) rfl (e := 21) rfl rfl (Nat.le_of_ble_eq_true rfl) ⟨by decide, by decide⟩ ?_
    refine c_goes hM (fun h4 => ?_) (fun h4 => ?_)
    · refine wx_ret rfl rfl ⟨by decide, by decide⟩ ?_
      exact hy c_2 h4
    · refine wx_ret rfl rfl ⟨by decide, by decide⟩ ?_
      exact hf (Or.inr h4)
  · refine wx_aload_n rfl (e := 6) rfl rfl ?_
    refine wx_iconst (v := (nI 2)) rfl (e := 7) rfl (by decide) ?_
    refine wx_cv1 (mc := 0) (ms := 0) rfl (e := 10) rfl rfl (Nat.le_of_ble_eq_true rfl) ⟨by decide, by decide⟩ ?_
    refine c_fail hM (k := 2) ?_
    have f13 : ft 2 (stA b n t) I 55 13 = nI 2 := by unfold ft; rw [wr_ne _ _ _ _ (by decide), wr_eq]
    refine wx_aload_n rfl (e := 11) rfl rfl ?_
    refine wx_geti rfl (e := 14) rfl rfl ?_
    first | rw [r13] | rw [f13]
    refine wn_if_ne rfl (e := 17) rfl (by omega) (fun c_14 => ?_) (fun c_14 => absurd c_14 (by omega))
    refine wx_ret rfl rfl ⟨by decide, by decide⟩ ?_
    exact hf (Or.inl c_2)
set_option maxHeartbeats 8000000 in
theorem fch {d Lx tt rt u : Nat} {I : Nat → Nat → Int32} {G : Nat → Nat → Int64} {Q : ab_Q} {b : Nat → Nat} {n sd : Nat} {S : ps} (hn2 : n ≤ 2000) (hV : PV S) (hW : PW S) (hP : MP b n sd S (sT S + 1) I G) (hf : sC S < 6) {x1 : Option Value} (hy : (sqT b n [24, 25, 59] (sT S + 1)).1 = 0 → ∀ I2 G2, fmp sd I I2 → (∀ q, q ≠ 63 → G2 q = G q) → MP b n sd (nwC b n S) (sT S + 4) I2 G2 → Q none (hp Lx tt rt u I2 G2)) (hn : ∀ k tok, ¬ k = 0 → sqT b n [24, 25, 59] (sT S + 1) = (k, tok) → ∀ I2, fmp sd I I2 → FM b n k tok I2 → Q none (hp Lx tt rt u I2 G)) : WP (d + 7) mX11_tellOne Q 95 [some (.ref 55), x1] [] (hp Lx tt rt u I G) 0 0 := by
  obtain ⟨hM, hE, hN, hQ, hX⟩ := id hP
  obtain ⟨v1, v2, v3, v4, v5, v6⟩ := id hV
  obtain ⟨-, ht, hgd, r11, r13⟩ := id hM
  obtain ⟨⟨c1, c2, c3, c4, c5⟩, c6, c7, c8, c9⟩ := id hQ
  have c1 : I 65 sd = nI (sC S) := c1
  have c2 : I 67 sd = nI (sD S) := c2
  have c3 : I 69 sd = nI (sR S) := c3
  have c4 : I 72 sd = nI (sP S) := c4
  have c6 : ∀ c, c < sC S → I 66 (6 * sd + c) = sW S c := c6
  have c8 : ∀ i, i < sR S → I 70 (6 * sd + i) = sQ S i ∧ I 71 (6 * sd + i) = b1 (sU S i) := c8
  have c9 : ∀ a, a < sP S → I 73 (5 * sd + a) = (sH S).1 a ∧ I 74 (5 * sd + a) = (sH S).2.1 a ∧ I 75 (5 * sd + a) = (sH S).2.2 a := c9
  have hsd := hX.2.1
  have hsd1 := hX.2.2.1
  have hs9 := v5
  refine wx_aload_n rfl (e := 96) rfl rfl ?_
  refine wx_cv0 (mc := 0) (ms := 0) rfl (e := 99) rfl rfl (Nat.le_of_ble_eq_true rfl) ⟨by decide, by decide⟩ ?_
  refine c_named hn2 hM hE (fun w => Nat.lt_of_lt_of_le (hW.1 w) (by omega)) hN (fun hk1 h41 I2 f2 M2 E2 => ?_) (fun k1 hc1 FF => ?_)
  · have fA := f2
    refine wx_istore_n (L2 := [_, _]) rfl (e := 100) rfl (by decide) rfl ?_
    refine wx_aload_n rfl (e := 101) rfl rfl ?_
    refine wx_getr rfl (e := 104) rfl rfl rfl ?_
    refine wx_bipush (v := (nI 6)) rfl (e := 106) rfl (by decide) ?_
    refine wx_aload_n rfl (e := 107) rfl rfl ?_
    refine wx_geti rfl (e := 110) rfl rfl ?_
    rw [fA.2 19 (by omega), hsd]
    refine wn_imul rfl (e := 111) rfl ?_
    refine wx_aload_n rfl (e := 112) rfl rfl ?_
    refine wx_getr rfl (e := 115) rfl rfl rfl ?_
    refine wx_aload_n rfl (e := 116) rfl rfl ?_
    refine wx_geti rfl (e := 119) rfl rfl ?_
    rw [fA.2 19 (by omega), hsd]
    refine wn_iald rfl (e := 120) rfl rfl (by omega) (by decide) ?_
    rw [fA.1 65 (by decide), c1]
    refine wn_iadd rfl (e := 121) rfl ?_
    refine wx_aload_n rfl (e := 122) rfl rfl ?_
    refine wx_iconst (v := (nI 0)) rfl (e := 123) rfl (by decide) ?_
    refine wx_bipush (v := (nI 9)) rfl (e := 125) rfl (by decide) ?_
    refine wx_cv2 (mc := 0) (ms := 0) rfl (e := 128) rfl rfl (Nat.le_of_ble_eq_true rfl) ⟨by decide, by decide⟩ ?_
    refine c_bounded hn2 M2 E2 (lte_2 (fun w => Nat.lt_of_lt_of_le (hW.1 w) (by omega)) (by omega)) (lo := 0) (hi := 9) (by decide) (by decide) (c := decide (9 < nuT b n (sT S + 2))) (fun _ => by rw [decide_eq_true_iff]; show 9 < nuT b n (sT S + 2) ↔ ¬ (0 ≤ nuT b n (sT S + 2) ∧ nuT b n (sT S + 2) ≤ 9); omega) (fun hk2 h42 I3 f3 M3 E3 => ?_) (fun k2 hc2 I3 v3_ f3 FF => ?_)
    · have fB := f3
      refine wn_iast rfl (e := 129) rfl rfl (by decide) (by omega) (by decide) ?_
      refine wx_aload_n rfl (e := 130) rfl rfl ?_
      refine wx_iload_n rfl (e := 131) rfl rfl ?_
      refine wx_aload_n rfl (e := 132) rfl rfl ?_
      refine wx_getr rfl (e := 135) rfl rfl rfl ?_
      refine wx_aload_n rfl (e := 136) rfl rfl ?_
      refine wx_geti rfl (e := 139) rfl rfl ?_
      rw [wr_other _ _ _ _ (by decide), fB.2 19 (by omega), fA.2 19 (by omega), hsd]
      refine wn_iald rfl (e := 140) rfl rfl (by omega) (by decide) ?_
      rw [wr_other _ _ _ _ (by decide), fB.1 65 (by decide), fA.1 65 (by decide), c1]
      refine wx_cv2 (mc := 0) (ms := 0) rfl (e := 143) rfl rfl (Nat.le_of_ble_eq_true rfl) ⟨by decide, by decide⟩ ?_
      have P3 : fmp sd I (wr I3 66 (6 * sd + sC S) (nI (nuT b n (sT S + 2)))) := f2.p.tr (f3.p.tr (fmp.w (by unfold own; omega)))
      have M3b : MS b n (sT S + 1 + 1 + 1) (wr I3 66 (6 * sd + sC S) (nI (nuT b n (sT S + 2)))) G := M3.q (fun q h => wr_other _ _ _ _ (by omega)) (fun k h => by rw [wr_other _ _ _ _ (by omega)])
      have q20 : (wr I3 66 (6 * sd + sC S) (nI (nuT b n (sT S + 2)))) 55 20 = I 55 20 := by rw [wr_other _ _ _ _ (by decide), f3.2 20 (by omega), f2.2 20 (by omega)]
      have q64 : (wr I3 66 (6 * sd + sC S) (nI (nuT b n (sT S + 2)))) 64 = I 64 := by rw [wr_other _ _ _ _ (by decide), f3.1 64 (by decide), f2.1 64 (by decide)]
      refine c_ends M3b (N := sM S) (hN.kept q20 q64 rfl) (by omega) (tok := sT S + 1) (by omega) hk1 (fun hk3 h43 I6 G6 a1 a2 a3 M6 N6 => ?_) (fun k3 hc3 FF => ?_)
      · have r65 := M6.2.2.2.2
        have row : ∀ q, q ≠ 55 → q ≠ 64 → q ≠ 66 → I6 q = I q := fun q y1 y2 y3 => by rw [a1 q y1 y2, wr_other _ _ _ _ y3, f3.1 q y1, f2.1 q y1]
        have fld : ∀ k, ¬ (k = 11 ∨ (13 ≤ k ∧ k ≤ 16) ∨ k = 20) → I6 55 k = I 55 k := fun k hk => by rw [a2 k (by omega) (by omega), wr_other _ _ _ _ (by decide), f3.2 k (by omega), f2.2 k (by omega)]
        have SD6 : I6 55 19 = nI sd := (fld 19 (by decide)).trans hsd
        have PP6 : I6 65 sd = nI (sC S) := by rw [row 65 (by decide) (by decide) (by decide)]; exact c1
        have e66 : ∀ a, I6 66 (6 * sd + a) = if 6 * sd + a = (6 * sd + sC S) then (nI (nuT b n (sT S + 2))) else I 66 (6 * sd + a) := fun a => by rw [a1 66 (by decide) (by decide), wr_at, if_pos rfl, f3.1 66 (by decide), f2.1 66 (by decide)]
        refine wx_aload_n rfl (e := 144) rfl rfl ?_
        refine wx_geti rfl (e := 147) rfl rfl ?_
        first | rw [r65] | rw [FF.2.2.1] | rw [wr_other _ _ _ _ (by decide), FF.2.2.1]
        refine wn_if_ne rfl (e := 150) rfl (by omega) (fun c_147 => absurd c_147 (by omega)) (fun c_147 => ?_)
        refine wx_aload_n rfl (e := 151) rfl rfl ?_
        refine wx_getr rfl (e := 154) rfl rfl rfl ?_
        refine wx_aload_n rfl (e := 155) rfl rfl ?_
        refine wx_geti rfl (e := 158) rfl rfl ?_
        rw [SD6]
        refine wx_dup2 rfl (e := 159) rfl ⟨rfl, rfl⟩ ?_
        refine wn_iald rfl (e := 160) rfl rfl (by omega) (by decide) ?_
        rw [PP6]
        refine wx_iconst (v := (nI 1)) rfl (e := 161) rfl (by decide) ?_
        refine wn_iadd rfl (e := 162) rfl ?_
        refine wn_iast rfl (e := 163) rfl rfl (by decide) (by omega) (by decide) ?_
        refine wx_goto rfl ?_
        refine wx_ret rfl rfl ⟨by decide, by decide⟩ ?_
        have P6 : fmp sd I I6 := P3.tr (fm6 a1 a2)
        refine hy (by rw [sqT_y hk1 h41, sqT_y hk2 h42, sqT_y hk3 h43]; rfl) (wr I6 65 sd (nI (sC S + 1))) G6 (P6.tr (fmp.w (by unfold own; omega))) a3 ⟨M6.q (fun q h => wr_other _ _ _ _ (by omega)) (fun k h => by rw [wr_other _ _ _ _ (by omega)]), ?_, N6.kept (by rw [wr_other _ _ _ _ (by decide)]) (wr_other _ _ _ _ (by decide)) rfl, ?_, hX.kept (by show sT S + 1 ≤ sT S + 4; omega) (fun q y1 y2 => ?_) ?_ ?_ ?_ ?_⟩
        · exact E3.t (by rw [wr_other _ _ _ _ (by decide), a2 15 (by decide) (by decide), wr_other _ _ _ _ (by decide)]) (by rw [wr_other _ _ _ _ (by decide), a2 16 (by decide) (by decide), wr_other _ _ _ _ (by decide)])
        · refine ⟨⟨by rw [wr_eq]; rfl, by rw [wr_other _ _ _ _ (by decide), row 67 (by decide) (by decide) (by decide)]; exact c2, by rw [wr_other _ _ _ _ (by decide), row 69 (by decide) (by decide) (by decide)]; exact c3, by rw [wr_other _ _ _ _ (by decide), row 72 (by decide) (by decide) (by decide)]; exact c4, by rw [wr_other _ _ _ _ (by decide), row 76 (by decide) (by decide) (by decide)]; exact c5⟩, fun c hc => ?_, fun y => by rw [wr_other _ _ _ _ (by decide), row 68 (by decide) (by decide) (by decide)]; exact c7 (lte_0 (by decide) (lte_0 (by decide) y)), by rw [wr_other _ _ _ _ (by decide), wr_other _ _ _ _ (by decide), row 70 (by decide) (by decide) (by decide), row 71 (by decide) (by decide) (by decide)]; exact c8, by rw [wr_other _ _ _ _ (by decide), wr_other _ _ _ _ (by decide), wr_other _ _ _ _ (by decide), row 73 (by decide) (by decide) (by decide), row 74 (by decide) (by decide) (by decide), row 75 (by decide) (by decide) (by decide)]; exact c9⟩
          have hc : c < sC S + 1 := hc
          rw [wr_other _ _ _ _ (by decide), e66]
          show _ = set1 (sW S) (sC S) _ c
          unfold set1
          by_cases zc : c = sC S
          · rw [if_pos zc, if_pos (by omega)]
          · rw [if_neg zc, if_neg (by omega)]; exact c6 c (by omega)
        · rw [wr_other _ _ _ _ (by omega), row q (by omega) (by omega) (by omega)]
        · rw [wr_other _ _ _ _ (by decide)]; exact fld 12 (by decide)
        · rw [wr_other _ _ _ _ (by decide)]; exact fld 19 (by decide)
        · rw [wr_other _ _ _ _ (by decide)]; exact fld 43 (by decide)
        · rw [wr_other _ _ _ _ (by decide)]; exact fld 37 (by decide)
      · have k1_ := FF.1
        have k2_ := FF.2.1
        refine wx_aload_n rfl (e := 144) rfl rfl ?_
        refine wx_geti rfl (e := 147) rfl rfl ?_
        first | rw [r65] | rw [FF.2.2.1] | rw [wr_other _ _ _ _ (by decide), FF.2.2.1]
        refine wn_if_ne rfl (e := 150) rfl (by omega) (fun c_147 => ?_) (fun c_147 => absurd c_147 (by omega))
        refine wx_ret rfl rfl ⟨by decide, by decide⟩ ?_
        rcases hc3 with ⟨w1, w2⟩ | ⟨w1, w2, w3⟩
        · subst w1; exact hn 1 _ (by decide) (by rw [sqT_y hk1 h41, sqT_y hk2 h42, sqT_1 w2]) _ (P3.tr ft.p) FF
        · subst w1; exact hn 2 _ (by decide) (by rw [sqT_y hk1 h41, sqT_y hk2 h42, sqT_2 w2 w3]) _ (P3.tr ft.p) FF
    · have k1_ := FF.1
      have k2_ := FF.2.1
      have fB := f3
      refine wn_iast rfl (e := 129) rfl rfl (by decide) (by omega) (by decide) ?_
      refine wx_aload_n rfl (e := 130) rfl rfl ?_
      refine wx_iload_n rfl (e := 131) rfl rfl ?_
      refine wx_aload_n rfl (e := 132) rfl rfl ?_
      refine wx_getr rfl (e := 135) rfl rfl rfl ?_
      refine wx_aload_n rfl (e := 136) rfl rfl ?_
      refine wx_geti rfl (e := 139) rfl rfl ?_
      rw [wr_other _ _ _ _ (by decide), fB.2 19 (by omega), fA.2 19 (by omega), hsd]
      refine wn_iald rfl (e := 140) rfl rfl (by omega) (by decide) ?_
      rw [wr_other _ _ _ _ (by decide), fB.1 65 (by decide), fA.1 65 (by decide), c1]
      refine wx_cv2 (mc := 0) (ms := 0) rfl (e := 143) rfl rfl (Nat.le_of_ble_eq_true rfl) ⟨by decide, by decide⟩ ?_
      refine c_ends0 FF.1 (by have := FF.2.1; omega) (by rw [wr_other _ _ _ _ (by decide)]; exact FF.2.2.1) ?_
      refine wx_aload_n rfl (e := 144) rfl rfl ?_
      refine wx_geti rfl (e := 147) rfl rfl ?_
      first | rw [r65] | rw [FF.2.2.1] | rw [wr_other _ _ _ _ (by decide), FF.2.2.1]
      refine wn_if_ne rfl (e := 150) rfl (by omega) (fun c_147 => ?_) (fun c_147 => absurd c_147 (by omega))
      refine wx_ret rfl rfl ⟨by decide, by decide⟩ ?_
      rcases hc2 with ⟨w1, w2⟩ | ⟨w1, w2, w3⟩
      · subst w1; exact hn 1 _ (by decide) (by rw [sqT_y hk1 h41, sqT_1 w2]) _ ((f2.p.tr f3.p).tr (fmp.w (by unfold own; omega))) (FF.co (by rw [wr_other _ _ _ _ (by decide)]) (by rw [wr_other _ _ _ _ (by decide)]))
      · subst w1; exact hn 2 _ (by decide) (by rw [sqT_y hk1 h41, sqT_2 w2 w3]) _ ((f2.p.tr f3.p).tr (fmp.w (by unfold own; omega))) (FF.co (by rw [wr_other _ _ _ _ (by decide)]) (by rw [wr_other _ _ _ _ (by decide)]))
  · have k1_ := FF.1
    have k2_ := FF.2.1
    have fA : frm I (ft k1 (stA b n (sT S + 1)) I) := ft.m2
    refine wx_istore_n (L2 := [_, _]) rfl (e := 100) rfl (by decide) rfl ?_
    refine wx_aload_n rfl (e := 101) rfl rfl ?_
    refine wx_getr rfl (e := 104) rfl rfl rfl ?_
    refine wx_bipush (v := (nI 6)) rfl (e := 106) rfl (by decide) ?_
    refine wx_aload_n rfl (e := 107) rfl rfl ?_
    refine wx_geti rfl (e := 110) rfl rfl ?_
    rw [fA.2 19 (by omega), hsd]
    refine wn_imul rfl (e := 111) rfl ?_
    refine wx_aload_n rfl (e := 112) rfl rfl ?_
    refine wx_getr rfl (e := 115) rfl rfl rfl ?_
    refine wx_aload_n rfl (e := 116) rfl rfl ?_
    refine wx_geti rfl (e := 119) rfl rfl ?_
    rw [fA.2 19 (by omega), hsd]
    refine wn_iald rfl (e := 120) rfl rfl (by omega) (by decide) ?_
    rw [fA.1 65 (by decide), c1]
    refine wn_iadd rfl (e := 121) rfl ?_
    refine wx_aload_n rfl (e := 122) rfl rfl ?_
    refine wx_iconst (v := (nI 0)) rfl (e := 123) rfl (by decide) ?_
    refine wx_bipush (v := (nI 9)) rfl (e := 125) rfl (by decide) ?_
    refine wx_cv2 (mc := 0) (ms := 0) rfl (e := 128) rfl rfl (Nat.le_of_ble_eq_true rfl) ⟨by decide, by decide⟩ ?_
    refine c_bounded0 FF.1 (by have := FF.2.1; omega) FF.2.2.1 ?_
    have fB := frm.rf (I := ft k1 (stA b n (sT S + 1)) I)
    refine wn_iast rfl (e := 129) rfl rfl (by decide) (by omega) (by decide) ?_
    refine wx_aload_n rfl (e := 130) rfl rfl ?_
    refine wx_iload_n rfl (e := 131) rfl rfl ?_
    refine wx_aload_n rfl (e := 132) rfl rfl ?_
    refine wx_getr rfl (e := 135) rfl rfl rfl ?_
    refine wx_aload_n rfl (e := 136) rfl rfl ?_
    refine wx_geti rfl (e := 139) rfl rfl ?_
    rw [wr_other _ _ _ _ (by decide), fB.2 19 (by omega), fA.2 19 (by omega), hsd]
    refine wn_iald rfl (e := 140) rfl rfl (by omega) (by decide) ?_
    rw [wr_other _ _ _ _ (by decide), fB.1 65 (by decide), fA.1 65 (by decide), c1]
    refine wx_cv2 (mc := 0) (ms := 0) rfl (e := 143) rfl rfl (Nat.le_of_ble_eq_true rfl) ⟨by decide, by decide⟩ ?_
    refine c_ends0 FF.1 (by have := FF.2.1; omega) (by rw [wr_other _ _ _ _ (by decide)]; exact FF.2.2.1) ?_
    refine wx_aload_n rfl (e := 144) rfl rfl ?_
    refine wx_geti rfl (e := 147) rfl rfl ?_
    first | rw [r65] | rw [FF.2.2.1] | rw [wr_other _ _ _ _ (by decide), FF.2.2.1]
    refine wn_if_ne rfl (e := 150) rfl (by omega) (fun c_147 => ?_) (fun c_147 => absurd c_147 (by omega))
    refine wx_ret rfl rfl ⟨by decide, by decide⟩ ?_
    rcases hc1 with ⟨w1, w2⟩ | ⟨w1, w2, w3⟩
    · subst w1; exact hn 1 _ (by decide) (by exact sqT_1 w2) _ (ft.p.tr (fmp.w (by unfold own; omega))) (FF.co (by rw [wr_other _ _ _ _ (by decide)]) (by rw [wr_other _ _ _ _ (by decide)]))
    · subst w1; exact hn 2 _ (by decide) (by exact sqT_2 w2 w3) _ (ft.p.tr (fmp.w (by unfold own; omega))) (FF.co (by rw [wr_other _ _ _ _ (by decide)]) (by rw [wr_other _ _ _ _ (by decide)]))
set_option maxHeartbeats 8000000 in
theorem fse {d Lx tt rt u : Nat} {I : Nat → Nat → Int32} {G : Nat → Nat → Int64} {Q : ab_Q} {b : Nat → Nat} {n sd : Nat} {S : ps} (hn2 : n ≤ 2000) (hV : PV S) (hW : PW S) (hP : MP b n sd S (sT S + 1) I G) {x1 : Option Value} (hy : (sqT b n [25, 59] (sT S + 1)).1 = 0 → ∀ I2 G2, fmp sd I I2 → (∀ q, q ≠ 63 → G2 q = G q) → MP b n sd (nwS b n S) (sT S + 3) I2 G2 → Q none (hp Lx tt rt u I2 G2)) (hn : ∀ k tok, ¬ k = 0 → sqT b n [25, 59] (sT S + 1) = (k, tok) → ∀ I2, fmp sd I I2 → FM b n k tok I2 → Q none (hp Lx tt rt u I2 G)) : WP (d + 7) mX11_tellOne Q 256 [some (.ref 55), x1] [] (hp Lx tt rt u I G) 0 0 := by
  obtain ⟨hM, hE, hN, hQ, hX⟩ := id hP
  obtain ⟨v1, v2, v3, v4, v5, v6⟩ := id hV
  obtain ⟨-, ht, hgd, r11, r13⟩ := id hM
  obtain ⟨⟨c1, c2, c3, c4, c5⟩, c6, c7, c8, c9⟩ := id hQ
  have c1 : I 65 sd = nI (sC S) := c1
  have c2 : I 67 sd = nI (sD S) := c2
  have c3 : I 69 sd = nI (sR S) := c3
  have c4 : I 72 sd = nI (sP S) := c4
  have c6 : ∀ c, c < sC S → I 66 (6 * sd + c) = sW S c := c6
  have c8 : ∀ i, i < sR S → I 70 (6 * sd + i) = sQ S i ∧ I 71 (6 * sd + i) = b1 (sU S i) := c8
  have c9 : ∀ a, a < sP S → I 73 (5 * sd + a) = (sH S).1 a ∧ I 74 (5 * sd + a) = (sH S).2.1 a ∧ I 75 (5 * sd + a) = (sH S).2.2 a := c9
  have hsd := hX.2.1
  have hsd1 := hX.2.2.1
  have hs9 := v5
  refine wx_aload_n rfl (e := 257) rfl rfl ?_
  refine wx_getr rfl (e := 260) rfl rfl rfl ?_
  refine wx_aload_n rfl (e := 261) rfl rfl ?_
  refine wx_geti rfl (e := 264) rfl rfl ?_
  rw [hsd]
  refine wx_aload_n rfl (e := 265) rfl rfl ?_
  refine wx_iconst (v := (nI 0)) rfl (e := 266) rfl (by decide) ?_
  refine wx_sipush (v := (nI 9999)) rfl (e := 269) rfl (by decide) ?_
  refine wx_cv2 (mc := 0) (ms := 0) rfl (e := 272) rfl rfl (Nat.le_of_ble_eq_true rfl) ⟨by decide, by decide⟩ ?_
  refine c_bounded hn2 hM hE (fun w => Nat.lt_of_lt_of_le (hW.1 w) (by omega)) (lo := 0) (hi := 9999) (by decide) (by decide) (c := false) (fun w => ⟨fun h => absurd h (by decide), fun h => absurd (nu_lt w) (by omega)⟩) (fun hk1 h41 I3 f3 M3 E3 => ?_) (fun k1 hc1 I3 v3_ f3 FF => ?_)
  · rw [lte_f] at E3
    refine wn_iast rfl (e := 273) rfl rfl (by decide) (by omega) (by decide) ?_
    refine wx_aload_n rfl (e := 274) rfl rfl ?_
    refine wx_iconst (v := (nI 4)) rfl (e := 275) rfl (by decide) ?_
    refine wx_cv1 (mc := 0) (ms := 0) rfl (e := 278) rfl rfl (Nat.le_of_ble_eq_true rfl) ⟨by decide, by decide⟩ ?_
    have P3 : fmp sd I (wr I3 76 sd (nI (nuT b n (sT S + 1)))) := f3.p.tr (fmp.w (by unfold own; omega))
    have M3b : MS b n (sT S + 1 + 1) (wr I3 76 sd (nI (nuT b n (sT S + 1)))) G := M3.q (fun q h => wr_other _ _ _ _ (by omega)) (fun k h => by rw [wr_other _ _ _ _ (by omega)])
    refine c_must M3b (κ := 59) (by decide) (by decide) (by decide) (by decide) (fun hk2 h42 M5 => ?_) (fun k2 hc2 FF => ?_)
    · refine wx_goto rfl ?_
      refine wx_ret rfl rfl ⟨by decide, by decide⟩ ?_
      refine hy (by rw [sqT_y hk1 h41, sqT_y hk2 h42]; rfl) (nx (sT S + 1 + 1) (wr I3 76 sd (nI (nuT b n (sT S + 1))))) G (P3.tr nx.p) (fun _ _ => rfl) ⟨M5, E3.t (by rw [nx.f (by decide), wr_other _ _ _ _ (by decide)]) (by rw [nx.f (by decide), wr_other _ _ _ _ (by decide)]), hN.kept (by rw [nx.f (by decide), wr_other _ _ _ _ (by decide), f3.2 20 (by omega)]) (by rw [nx.q (by decide), wr_other _ _ _ _ (by decide), f3.1 64 (by decide)]) rfl, ?_, hX.kept (by show sT S + 1 ≤ sT S + 3; omega) (fun q y1 y2 => by rw [nx.q (by omega), wr_other _ _ _ _ (by omega), f3.1 q (by omega)]) (by rw [nx.f (by decide), wr_other _ _ _ _ (by decide), f3.2 12 (by omega)]) (by rw [nx.f (by decide), wr_other _ _ _ _ (by decide), f3.2 19 (by omega)]) (by rw [nx.f (by decide), wr_other _ _ _ _ (by decide), f3.2 43 (by omega)]) (by rw [nx.f (by decide), wr_other _ _ _ _ (by decide), f3.2 37 (by omega)])⟩
      refine ⟨⟨by rw [nx.q (by decide), wr_other _ _ _ _ (by decide), f3.1 65 (by decide)]; exact c1, by rw [nx.q (by decide), wr_other _ _ _ _ (by decide), f3.1 67 (by decide)]; exact c2, by rw [nx.q (by decide), wr_other _ _ _ _ (by decide), f3.1 69 (by decide)]; exact c3, by rw [nx.q (by decide), wr_other _ _ _ _ (by decide), f3.1 72 (by decide)]; exact c4, by rw [nx.q (by decide), wr_eq]; rfl⟩, by rw [nx.q (by decide), wr_other _ _ _ _ (by decide), f3.1 66 (by decide)]; exact c6, by rw [nx.q (by decide), wr_other _ _ _ _ (by decide), f3.1 68 (by decide)]; exact c7, by rw [nx.q (by decide), nx.q (by decide), wr_other _ _ _ _ (by decide), wr_other _ _ _ _ (by decide), f3.1 70 (by decide), f3.1 71 (by decide)]; exact c8, by rw [nx.q (by decide), nx.q (by decide), nx.q (by decide), wr_other _ _ _ _ (by decide), wr_other _ _ _ _ (by decide), wr_other _ _ _ _ (by decide), f3.1 73 (by decide), f3.1 74 (by decide), f3.1 75 (by decide)]; exact c9⟩
    · have k1_ := FF.1
      have k2_ := FF.2.1
      refine wx_goto rfl ?_
      refine wx_ret rfl rfl ⟨by decide, by decide⟩ ?_
      rcases hc2 with ⟨w1, w2⟩ | ⟨w1, w2, w3⟩
      · subst w1; exact hn 1 _ (by decide) (by rw [sqT_y hk1 h41, sqT_1 w2]) _ (P3.tr ft.p) FF
      · subst w1; exact hn 2 _ (by decide) (by rw [sqT_y hk1 h41, sqT_2 w2 w3]) _ (P3.tr ft.p) FF
  · have k1_ := FF.1
    have k2_ := FF.2.1
    refine wn_iast rfl (e := 273) rfl rfl (by decide) (by omega) (by decide) ?_
    refine wx_aload_n rfl (e := 274) rfl rfl ?_
    refine wx_iconst (v := (nI 4)) rfl (e := 275) rfl (by decide) ?_
    refine wx_cv1 (mc := 0) (ms := 0) rfl (e := 278) rfl rfl (Nat.le_of_ble_eq_true rfl) ⟨by decide, by decide⟩ ?_
    refine c_must0 FF.1 (by have := FF.2.1; omega) (by rw [wr_other _ _ _ _ (by decide)]; exact FF.2.2.1) ?_
    refine wx_goto rfl ?_
    refine wx_ret rfl rfl ⟨by decide, by decide⟩ ?_
    rcases hc1 with ⟨w1, w2⟩ | ⟨w1, w2, w3⟩
    · subst w1; exact hn 1 _ (by decide) (by exact sqT_1 w2) _ (f3.p.tr (fmp.w (by unfold own; omega))) (FF.co (by rw [wr_other _ _ _ _ (by decide)]) (by rw [wr_other _ _ _ _ (by decide)]))
    · subst w1; exact hn 2 _ (by decide) (by exact sqT_2 w2 w3) _ (f3.p.tr (fmp.w (by unfold own; omega))) (FF.co (by rw [wr_other _ _ _ _ (by decide)]) (by rw [wr_other _ _ _ _ (by decide)]))

/-! the model: a law as a statement; one statement -/
theorem STB.kept {I I2 : Nat → Nat → Int32} {A A2 X X2 l r0 : Nat} {w : rpn} {ts : List (rpn × rpn × rpn)} (h : STB I A X l w r0 ts) (hA : A2 ≤ A) (hX : X ≤ X2) (h1 : ∀ i, r0 ≤ i → i < l → ∀ q, 79 ≤ q → q ≤ 83 → I2 q i = I q i) (h2 : ∀ i, A ≤ i → i < X → I2 84 i = I 84 i ∧ I2 85 i = I 85 i) : STB I2 A2 X2 l w r0 ts := fun I3 y1 y2 => h I3 (fun i h0 hi q z1 z2 => (y1 i h0 hi q z1 z2).trans (h1 i h0 hi q z1 z2)) (fun i h0 hi => ⟨(y2 i (by omega) (by omega)).1.trans (h2 i h0 hi).1, (y2 i (by omega) (by omega)).2.trans (h2 i h0 hi).2⟩)
set_option maxHeartbeats 8000000 in
theorem fla {d Lx tt rt u : Nat} {I : Nat → Nat → Int32} {G : Nat → Nat → Int64} {Q : ab_Q} {b : Nat → Nat} {n sd : Nat} {S : ps} (hn2 : n ≤ 2000) (hP : MP b n sd S (sT S) I G) (hk : 4 ≤ kd b n (sT S) ∧ kd b n (sT S) ≤ 8) {k : Nat} (hkk : k = kd b n (sT S) - 4) (hy : (lwQ b n (sT S)).1 = 0 → ∀ I2, fmp sd I I2 → MP b n sd (nwL S k (lwQ b n (sT S))) (lwQ b n (sT S)).2.1 I2 G → Q none (hp Lx tt rt u I2 G)) (hn : ¬ (lwQ b n (sT S)).1 = 0 → ∀ I2, fmp sd I I2 → FM b n (lwQ b n (sT S)).1 (lwQ b n (sT S)).2.1 I2 → Q none (hp Lx tt rt u I2 G)) : WP (d + 7) mX11_tellOne Q 325 [some (.ref 55), some (.int (nI k))] [] (hp Lx tt rt u I G) 0 0 := by
  obtain ⟨hM, hE, hN, hQ, hX⟩ := id hP
  obtain ⟨-, ht, hgd, r11, r13⟩ := id hM
  obtain ⟨⟨c1, c2, c3, c4, c5⟩, c6, c7, c8, c9⟩ := id hQ
  have c1 : I 65 sd = nI (sC S) := c1
  have c2 : I 67 sd = nI (sD S) := c2
  have c3 : I 69 sd = nI (sR S) := c3
  have c4 : I 72 sd = nI (sP S) := c4
  have c6 : ∀ c, c < sC S → I 66 (6 * sd + c) = sW S c := c6
  have c8 : ∀ i, i < sR S → I 70 (6 * sd + i) = sQ S i ∧ I 71 (6 * sd + i) = b1 (sU S i) := c8
  have c9 : ∀ a, a < sP S → I 73 (5 * sd + a) = (sH S).1 a ∧ I 74 (5 * sd + a) = (sH S).2.1 a ∧ I 75 (5 * sd + a) = (sH S).2.2 a := c9
  have hsd := hX.2.1
  have hsd1 := hX.2.2.1
  obtain ⟨q1, q2, q3, x, br, q4, q5, q6, q7, q8, q9, q10⟩ := hX
  refine wx_aload_n rfl (e := 326) rfl rfl ?_
  refine wx_cv0 (mc := 0) (ms := 0) rfl (e := 329) rfl rfl (Nat.le_of_ble_eq_true rfl) ⟨by decide, by decide⟩ ?_
  refine c_goes hM (fun h4 => ?_) (fun h4 => ?_)
  · have M1 := hM.nx h4 (by omega)
    have hl : lwQ b n (sT S) = (ltk b n 61 (sT S + 1) (lwP b n 4 (sT S + 1 + 1) [])) := by unfold lwQ; rw [if_pos hk, if_neg (by omega)]
    refine wx_aload_n rfl (e := 330) rfl rfl ?_
    refine wx_iload_n rfl (e := 331) rfl rfl ?_
    refine wx_cv1 (mc := 0) (ms := 0) rfl (e := 334) rfl rfl (Nat.le_of_ble_eq_true rfl) ⟨by decide, by decide⟩ ?_
    refine c_tellLaw (B := 420 * sd) (a0 := x) (r0 := br) (rh := 130 * sd + 130) (sd := sd) (k := k) (by omega) M1 (by rw [nx.f (by decide)]; exact q1) (by rw [nx.f (by decide)]; exact q4) (by omega) (by rw [nx.f (by decide)]; exact q7) (by rw [nx.f (by decide)]; exact hsd) hsd1 (by omega) (by omega) (by omega) (fun t2 ts w hr I2 x2 f2 M2 o12 o43 hx2 o37 B2 ht2 => ?_) (fun e tok he hr I2 f2 FF => ?_)
    · refine wx_ret rfl rfl ⟨by decide, by decide⟩ ?_
      have F : fmp sd I (wr (wr I2 77 (5 * sd + k) (nI br)) 78 (5 * sd + k) (nI (br + ts.length + 1))) := nx.p.tr ((f2.pm q5 q8).tr ((fmp.w (by unfold own; omega)).tr (fmp.w (by unfold own; omega))))
      have hsp : (lwQ b n (sT S)).2.2 = (ts, w) := by rw [hl, hr]
      have hs0 : (lwQ b n (sT S)).1 = 0 := by rw [hl, hr]
      have hs1 : (lwQ b n (sT S)).2.1 = t2 := by rw [hl, hr]
      refine hy hs0 _ F ?_
      rw [hs1]
      refine ⟨M2, hE.t (by rw [wr_other _ _ _ _ (by decide), wr_other _ _ _ _ (by decide), f2.2.1 15 (by omega), nx.f (by decide)]) (by rw [wr_other _ _ _ _ (by decide), wr_other _ _ _ _ (by decide), f2.2.1 16 (by omega), nx.f (by decide)]), hN.kept (by rw [wr_other _ _ _ _ (by decide), wr_other _ _ _ _ (by decide), f2.2.1 20 (by omega), nx.f (by decide)]) (by rw [wr_other _ _ _ _ (by decide), wr_other _ _ _ _ (by decide), f2.1 64 (by decide) (by decide), nx.q (by decide)]) rfl, ?_, ?_⟩
      · refine ⟨⟨by rw [wr_other _ _ _ _ (by decide), wr_other _ _ _ _ (by decide), f2.1 65 (by decide) (by decide), nx.q (by decide)]; exact c1, by rw [wr_other _ _ _ _ (by decide), wr_other _ _ _ _ (by decide), f2.1 67 (by decide) (by decide), nx.q (by decide)]; exact c2, by rw [wr_other _ _ _ _ (by decide), wr_other _ _ _ _ (by decide), f2.1 69 (by decide) (by decide), nx.q (by decide)]; exact c3, by rw [wr_other _ _ _ _ (by decide), wr_other _ _ _ _ (by decide), f2.1 72 (by decide) (by decide), nx.q (by decide)]; exact c4, by rw [wr_other _ _ _ _ (by decide), wr_other _ _ _ _ (by decide), f2.1 76 (by decide) (by decide), nx.q (by decide)]; exact c5⟩, by rw [wr_other _ _ _ _ (by decide), wr_other _ _ _ _ (by decide), f2.1 66 (by decide) (by decide), nx.q (by decide)]; exact c6, by rw [wr_other _ _ _ _ (by decide), wr_other _ _ _ _ (by decide), f2.1 68 (by decide) (by decide), nx.q (by decide)]; exact c7, ?_, ?_⟩
        · rw [wr_other _ _ _ _ (by decide), wr_other _ _ _ _ (by decide), wr_other _ _ _ _ (by decide), wr_other _ _ _ _ (by decide), f2.1 70 (by decide) (by decide), f2.1 71 (by decide) (by decide), nx.q (by decide), nx.q (by decide)]; exact c8
        · rw [wr_other _ _ _ _ (by decide), wr_other _ _ _ _ (by decide), wr_other _ _ _ _ (by decide), wr_other _ _ _ _ (by decide), wr_other _ _ _ _ (by decide), wr_other _ _ _ _ (by decide), f2.1 73 (by decide) (by decide), f2.1 74 (by decide) (by decide), f2.1 75 (by decide) (by decide), nx.q (by decide), nx.q (by decide), nx.q (by decide)]; exact c9
      · refine ⟨by rw [wr_other _ _ _ _ (by decide), wr_other _ _ _ _ (by decide)]; exact o12, by rw [wr_other _ _ _ _ (by decide), wr_other _ _ _ _ (by decide), f2.2.1 19 (by omega), nx.f (by decide)]; exact hsd, hsd1, x2, br + ts.length + 1, by rw [wr_other _ _ _ _ (by decide), wr_other _ _ _ _ (by decide)]; exact o43, by omega, by omega, by rw [wr_other _ _ _ _ (by decide), wr_other _ _ _ _ (by decide)]; exact o37, by omega, by omega, ?_⟩
        intro k3 hk3
        have e77 : (wr (wr I2 77 (5 * sd + k) (nI br)) 78 (5 * sd + k) (nI (br + ts.length + 1))) 77 (5 * sd + k3) = if k3 = k then nI br else I 77 (5 * sd + k3) := by
          rw [wr_other _ _ _ _ (by decide), wr_at, if_pos rfl, f2.1 77 (by decide) (by decide), nx.q (by decide)]
          by_cases z : k3 = k
          · rw [if_pos z, if_pos (by omega)]
          · rw [if_neg z, if_neg (by omega)]
        have e78 : (wr (wr I2 77 (5 * sd + k) (nI br)) 78 (5 * sd + k) (nI (br + ts.length + 1))) 78 (5 * sd + k3) = if k3 = k then nI (br + ts.length + 1) else I 78 (5 * sd + k3) := by
          rw [wr_at, if_pos rfl, wr_other _ _ _ _ (by decide), f2.1 78 (by decide) (by decide), nx.q (by decide)]
          by_cases z : k3 = k
          · rw [if_pos z, if_pos (by omega)]
          · rw [if_neg z, if_neg (by omega)]
        by_cases z : k3 = k
        · rw [if_pos z] at e77 e78
          refine ⟨br, br + ts.length + 1, by omega, by omega, e77, e78, Or.inr ⟨w, ts, fun vs => ?_, q8, B2.kept q5 (Nat.le_refl _) (fun i _ hi q y1 y2 => by rw [wr_other _ _ _ _ (by omega), wr_other _ _ _ _ (by omega)]) (fun i _ hi => ⟨by rw [wr_other _ _ _ _ (by decide), wr_other _ _ _ _ (by decide)], by rw [wr_other _ _ _ _ (by decide), wr_other _ _ _ _ (by decide)]⟩)⟩⟩
          show set1 (sL S) k (fun vs => lwL vs (lwQ b n (sT S)).2.2.2 (lwQ b n (sT S)).2.2.1) k3 vs = _
          rw [hsp]; unfold set1; rw [if_pos z]
        · rw [if_neg z] at e77 e78
          obtain ⟨f, l, y1, y2, y3, y4, y5⟩ := q10 k3 hk3
          have el : ∀ vs, set1 (sL S) k (fun vs => lwL vs (lwQ b n (sT S)).2.2.2 (lwQ b n (sT S)).2.2.1) k3 vs = sL S k3 vs := fun vs => by unfold set1; rw [if_neg z]
          refine ⟨f, l, by omega, by omega, e77.trans y3, e78.trans y4, ?_⟩
          rcases y5 with ⟨y5, y6⟩ | ⟨w0, ts0, y6, y9, y7⟩
          · exact Or.inl ⟨y5, fun vs => (el vs).trans (y6 vs)⟩
          · refine Or.inr ⟨w0, ts0, fun vs => (el vs).trans (y6 vs), y9, y7.kept (Nat.le_refl _) hx2.2 (fun i _ hi q z1 z2 => ?_) (fun i _ hi => ?_)⟩
            · rw [wr_other _ _ _ _ (by omega), wr_other _ _ _ _ (by omega), f2.2.2.2 i (by omega) q z1 z2, nx.q (by omega)]
            · have y8 := f2.2.2.1 i (by omega)
              rw [wr_other _ _ _ _ (by decide), wr_other _ _ _ _ (by decide), wr_other _ _ _ _ (by decide), wr_other _ _ _ _ (by decide), y8.1, y8.2, nx.q (by decide), nx.q (by decide)]; exact ⟨rfl, rfl⟩
    · refine wx_ret rfl rfl ⟨by decide, by decide⟩ ?_
      exact hn (by rw [hl, hr]; exact he) I2 (nx.p.tr (f2.pm q5 q8)) (by rw [hl, hr]; exact FF)
  · have FF : FM b n 2 (sT S) (ft 2 (stA b n (sT S)) I) := ft.m (by decide) (by decide)
    have hl2 : lwQ b n (sT S) = (2, sT S, [], []) := by unfold lwQ; rw [if_pos hk, if_pos h4]
    refine wx_aload_n rfl (e := 330) rfl rfl ?_
    refine wx_iload_n rfl (e := 331) rfl rfl ?_
    refine wx_cv1 (mc := 0) (ms := 0) rfl (e := 334) rfl rfl (Nat.le_of_ble_eq_true rfl) ⟨by decide, by decide⟩ ?_
    refine c_tellLaw0 (k := k) (a0 := x) (h := 420 * sd + 420) (rh := 130 * sd + 130) (br := br) FF.1 (by decide) FF.2.2.1 (by rw [ft.m2.2 37 (by omega)]; exact q7) (by omega) (by omega) (fun I9 f9 y13 y14 => ?_)
    refine wx_ret rfl rfl ⟨by decide, by decide⟩ ?_
    exact hn (by rw [hl2]; exact (show ¬ 2 = 0 by decide)) I9 (ft.p.tr (f9.pm q5 q8)) (by rw [hl2]; exact FF.co y13 y14)
theorem stX_0 {b : Nat → Nat} {n : Nat} {S : ps} (h : kd b n (sT S) = 0) : stX b n S = (if sC S = 6 then (2, sT S, S) else stQ b n [0, 24, 25, 59] S (nwC b n S)) := if_pos h
theorem stX_1 {b : Nat → Nat} {n : Nat} {S : ps} (h : kd b n (sT S) = 1) : stX b n S = (if sD S = 9 then (2, sT S, S) else stQ b n [1, 24, 24, 25, 59] S (nwD b n S)) := by
  unfold stX; rw [if_neg (by omega), if_pos h]
theorem stX_2 {b : Nat → Nat} {n : Nat} {S : ps} (h : kd b n (sT S) = 2) : stX b n S = (if sR S = 6 then (2, sT S, S) else stQ b n [2, 24, 24, if kd b n (sT S + 3) = 11 then 11 else 10, 59] S (nwR b n S)) := by
  unfold stX; rw [if_neg (by omega), if_neg (by omega), if_pos h]
theorem stX_3 {b : Nat → Nat} {n : Nat} {S : ps} (h : kd b n (sT S) = 3) : stX b n S = (if sP S = 5 then (2, sT S, S) else stQ b n [3, 24, 24, 25, 25, 59] S (nwP b n S)) := by
  unfold stX; rw [if_neg (by omega), if_neg (by omega), if_neg (by omega), if_pos h]
theorem stX_9 {b : Nat → Nat} {n : Nat} {S : ps} (h : kd b n (sT S) = 9) : stX b n S = stQ b n [9, 25, 59] S (nwS b n S) := by
  unfold stX; rw [if_neg (by omega), if_neg (by omega), if_neg (by omega), if_neg (by omega), if_pos h]
theorem stX_l {b : Nat → Nat} {n : Nat} {S : ps} (h0 : ¬ kd b n (sT S) = 0) (h1 : ¬ kd b n (sT S) = 1) (h2 : ¬ kd b n (sT S) = 2) (h3 : ¬ kd b n (sT S) = 3) (h9 : ¬ kd b n (sT S) = 9) : stX b n S = if (lwQ b n (sT S)).1 = 0 then (0, 0, nwL S (kd b n (sT S) - 4) (lwQ b n (sT S))) else ((lwQ b n (sT S)).1, (lwQ b n (sT S)).2.1, S) := by
  unfold stX; rw [if_neg h0, if_neg h1, if_neg h2, if_neg h3, if_neg h9]
theorem MP.nx {b : Nat → Nat} {n sd : Nat} {S : ps} {t : Nat} {I : Nat → Nat → Int32} {G : Nat → Nat → Int64} (h : MP b n sd S t I G) (h4 : t < 400) (hk : kd b n t ≠ 26 ∧ kd b n t ≠ 27) : MP b n sd S (t + 1) (nx t I) G := by
  obtain ⟨hM, hE, hN, ⟨⟨c1, c2, c3, c4, c5⟩, c6, c7, c8, c9⟩, hX⟩ := h
  refine ⟨hM.nx h4 hk, hE.t (nx.f (by decide)) (nx.f (by decide)), hN.kept (nx.f (by decide)) (nx.q (by decide)) rfl, ⟨⟨by rw [nx.q (by decide)]; exact c1, by rw [nx.q (by decide)]; exact c2, by rw [nx.q (by decide)]; exact c3, by rw [nx.q (by decide)]; exact c4, by rw [nx.q (by decide)]; exact c5⟩, by rw [nx.q (by decide)]; exact c6, by rw [nx.q (by decide)]; exact c7, by rw [nx.q (by decide), nx.q (by decide)]; exact c8, by rw [nx.q (by decide), nx.q (by decide), nx.q (by decide)]; exact c9⟩, hX.kept (by omega) (fun q y1 y2 => nx.q (by omega)) (nx.f (by decide)) (nx.f (by decide)) (nx.f (by decide)) (nx.f (by decide))⟩

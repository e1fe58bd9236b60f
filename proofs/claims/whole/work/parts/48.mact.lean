/-! the calls of the model that change what goes on -/
theorem MI.base {lv : Nat} {I I2 : Nat → Nat → Int32} {s : gs} (h : MI lv I s) (f : ∀ q, (65 ≤ q ∧ q ≤ 85) ∨ q = 89 → I2 q = I q) (h18 : I2 55 18 = I 55 18) (h17 : I2 55 17 = I 55 17) : MT lv I2 (gT s) ∧ I2 67 lv = gD s ∧ I2 55 17 = gP s :=
  ⟨h.1.kept f h18, by rw [f 67 (by omega)]; exact h.2.1, h17.trans h.2.2.2.2.2.2.2⟩
theorem MI.kp {lv : Nat} {I I1 I2 : Nat → Nat → Int32} {s : gs} {r : rw_} (h : MI lv I s) (f1 : fmq I I1) (f2 : fmr I1 I2) (N2 : NR I2 r) (H2 : NH I2 (psh (gR s) (gH s).1) (min 40 ((gH s).2 + 1))) : MI lv I2 (kpS s r) ∧ ∀ q, q < 55 ∨ (77 ≤ q ∧ q ≤ 85) ∨ 98 < q → I2 q = I q := by
  have h1 := h.q f1
  have g := f2.1
  have k := f2.2
  obtain ⟨e1, e2, e3⟩ := h1.base (I2 := I2) (fun q hq => g q (by omega) (by omega) (by omega)) (k 18 (by decide)) (k 17 (by decide))
  obtain ⟨-, -, -, -, hK, hW, hB, -⟩ := h1
  refine ⟨⟨e1, e2, N2, H2, hK.kept (g _ (by decide) (by decide) (by decide)) (g _ (by decide) (by decide) (by decide)), hW.kept (k _ (by decide)) (g _ (by decide) (by decide) (by decide)) (g _ (by decide) (by decide) (by decide)), hB.kept (k _ (by decide)) (g _ (by decide) (by decide) (by decide)), e3⟩, fun q hq => ?_⟩
  rw [g q (by omega) (by omega) (by omega)]; exact f1.c (by omega)
theorem c_X11_steal {d Lx t rt u : Nat} {I : Nat → Nat → Int32} {G : Nat → Nat → Int64} {Q : ab_Q} {s : gs} {n0 lv : Nat} (hI : MI lv I s) (hg : gok n0 s) {e c n : Int32}  (hq : ∀ I2, (∀ q, q < 55 ∨ (77 ≤ q ∧ q ≤ 85) ∨ 98 < q → I2 q = I q) → MI lv I2 (tSteal s e c n).2 → Q (some (.int (tSteal s e c n).1)) (hp Lx t rt u I2 G)) : ab_call ab_MT (d + 5) 254 [.ref 55, .int e, .int c, .int n] (hp Lx t rt u I G) 0 0 Q := by
  obtain ⟨hM, hD1, hN, hHh, hSs, hDd, hPp, hpl⟩ := id hI
  obtain ⟨hlv, ⟨hC6, hR6, hP5, hH, hTf, hFn, hLx⟩, m18, m65, m69, m72, m76, m71, m89, m73, mL⟩ := id hM
  have hL := hg.1.1
  have hr := hL.2.1
  have hb := hg.1.2.1
  refine wx_in (M := mX11_steal) rfl rfl rfl (Nat.le_of_ble_eq_true rfl) ?_
  refine wx_aload_n rfl (e := 1) rfl rfl ?_
  refine wx_iload_n rfl (e := 2) rfl rfl ?_
  refine wx_cv1 (mc := 0) (ms := 0) rfl (e := 5) rfl rfl (Nat.le_of_ble_eq_true rfl) ⟨by decide, by decide⟩ ?_
  refine c_X11_isRelic hM (fun k1 hk1 ek1 => ?_) (fun no1 => ?_)
  · subst ek1
    have f_1 : inS (nI k1) (tR (gT s)) = true := in_y hk1 (by omega)
    have g_1 : kS (nI k1) = k1 := kS_n (by omega)
    refine wn_if_eq rfl (e := 8) rfl (by omega) (fun c_5 => absurd c_5 (by omega)) (fun c_5 => ?_)
    refine wx_aload_n rfl (e := 9) rfl rfl ?_
    refine wx_iload_n rfl (e := 10) rfl rfl ?_
    refine wx_cv1 (mc := 0) (ms := 0) rfl (e := 13) rfl rfl (Nat.le_of_ble_eq_true rfl) ⟨by decide, by decide⟩ ?_
    refine c_X11_isChurch hM (fun k2 hk2 ek2 => ?_) (fun no2 => ?_)
    · subst ek2
      have f_2 : inS (nI k2) (tC (gT s)) = true := in_y hk2 (by omega)
      have g_2 : kS (nI k2) = k2 := kS_n (by omega)
      refine wn_if_eq rfl (e := 16) rfl (by omega) (fun c_13 => absurd c_13 (by omega)) (fun c_13 => ?_)
      refine wx_iload_n rfl (e := 17) rfl rfl ?_
      refine wx_cs1 (mc := 0) (ms := 0) rfl (e := 20) rfl (Nat.le_of_ble_eq_true rfl) ⟨by decide, by decide⟩ ?_
      refine c_X11_isNights (fun k3 a3 b3 ek3 => ?_) (fun no3 => ?_)
      · subst ek3
        have f_3 : wiS (nI k3) (1) (9) = true := wi_y a3 b3 (by omega)
        have g_3 : kS (nI k3) = k3 := kS_n (by omega)
        refine wn_if_ne rfl (e := 23) rfl (by omega) (fun c_20 => ?_) (fun c_20 => absurd c_20 (by omega))
        refine wx_aload_n rfl (e := 26) rfl rfl ?_
        refine wx_getr rfl (e := 29) rfl rfl rfl ?_
        refine wx_bipush (v := (nI 6)) rfl (e := 31) rfl (by decide) ?_
        refine wx_iload_n rfl (e := 32) rfl rfl ?_
        refine wn_iadd rfl (e := 33) rfl ?_
        refine wn_iald rfl (e := 34) rfl rfl (by omega) (by decide) ?_
        rw [hN _ (by omega)]
        refine wx_iload_n rfl (e := 35) rfl rfl ?_
        refine wx_ic_ne rfl (e := 38) rfl (fun c_35 => ?_) (fun c_35 => ?_)
        · refine wx_aload_n rfl (e := 42) rfl rfl ?_
          refine wx_cv0 (mc := 0) (ms := 0) rfl (e := 45) rfl rfl (Nat.le_of_ble_eq_true rfl) ⟨by decide, by decide⟩ ?_
          refine c_cp hM hN (fun I2 f2 T2 N2 R2 h54 => ?_)
          refine wx_aload_n rfl (e := 46) rfl rfl ?_
          refine wx_iload_n rfl (e := 47) rfl rfl ?_
          refine wx_iload_n rfl (e := 48) rfl rfl ?_
          refine wx_iload_n rfl (e := 49) rfl rfl ?_
          refine wx_cv3 (mc := 0) (ms := 0) rfl (e := 52) rfl rfl (Nat.le_of_ble_eq_true rfl) ⟨by decide, by decide⟩ ?_
          refine c_X11_triesFor T2 R2 hL h54 hk1 hk2 (fun I3 y3 R3 => ?_)
          refine wx_istore (L2 := [_, _, _, _, _]) rfl (e := 54) rfl (by decide) rfl ?_
          refine wx_aload_n rfl (e := 55) rfl rfl ?_
          refine wx_cv0 (mc := 0) (ms := 0) rfl (e := 58) rfl rfl (Nat.le_of_ble_eq_true rfl) ⟨by decide, by decide⟩ ?_
          have F9 := f2.tr y3.q
          refine c_X11_records (F9.N hN) R3 (hHh.kept (F9.2 57 (by decide) (by decide) (by decide) (by decide)) (F9.c (by omega))) (fun I9 f9 N9 H9 => ?_)
          obtain ⟨z1, z2⟩ := hI.kp F9 f9 N9 H9
          refine wx_iload rfl (e := 60) rfl rfl ?_
          refine wx_iret rfl rfl rfl ⟨by decide, by decide⟩ ?_
          simp only [tSteal, f_1, g_1, f_2, g_2, f_3, g_3, Bool.and_true, Bool.true_and, Bool.false_and, Bool.and_false, Bool.false_eq_true, eq_self, if_true, if_false] at hq
          rw [if_neg c_35] at hq
          exact hq _ z2 z1
        · refine wx_bipush (v := (-2)) rfl (e := 40) rfl (by decide) ?_
          refine wx_iret rfl rfl rfl ⟨by decide, by decide⟩ ?_
          simp only [tSteal, f_1, g_1, f_2, g_2, f_3, g_3, Bool.and_true, Bool.true_and, Bool.false_and, Bool.and_false, Bool.false_eq_true, eq_self, if_true, if_false] at hq
          rw [if_pos c_35] at hq
          exact hq I (fun _ _ => rfl) hI
      · have f_3 : wiS n (1) (9) = false := wi_n no3
        refine wn_if_ne rfl (e := 23) rfl (by omega) (fun c_20 => absurd c_20 (by omega)) (fun c_20 => ?_)
        refine wx_iconst (v := (-1)) rfl (e := 24) rfl (by decide) ?_
        refine wx_iret rfl rfl rfl ⟨by decide, by decide⟩ ?_
        simp only [tSteal, f_1, g_1, f_2, g_2, f_3, Bool.and_true, Bool.true_and, Bool.false_and, Bool.and_false, Bool.false_eq_true, eq_self, if_true, if_false] at hq
        exact hq I (fun _ _ => rfl) hI
    · have f_2 : inS c (tC (gT s)) = false := in_n no2
      refine wn_if_eq rfl (e := 16) rfl (by omega) (fun c_13 => ?_) (fun c_13 => absurd c_13 (by omega))
      refine wx_iconst (v := (-1)) rfl (e := 24) rfl (by decide) ?_
      refine wx_iret rfl rfl rfl ⟨by decide, by decide⟩ ?_
      simp only [tSteal, f_1, g_1, f_2, Bool.and_true, Bool.true_and, Bool.false_and, Bool.and_false, Bool.false_eq_true, eq_self, if_true, if_false] at hq
      exact hq I (fun _ _ => rfl) hI
  · have f_1 : inS e (tR (gT s)) = false := in_n no1
    refine wn_if_eq rfl (e := 8) rfl (by omega) (fun c_5 => ?_) (fun c_5 => absurd c_5 (by omega))
    refine wx_iconst (v := (-1)) rfl (e := 24) rfl (by decide) ?_
    refine wx_iret rfl rfl rfl ⟨by decide, by decide⟩ ?_
    simp only [tSteal, f_1, Bool.and_true, Bool.true_and, Bool.false_and, Bool.and_false, Bool.false_eq_true, eq_self, if_true, if_false] at hq
    exact hq I (fun _ _ => rfl) hI
theorem c_X11_swap {d Lx t rt u : Nat} {I : Nat → Nat → Int32} {G : Nat → Nat → Int64} {Q : ab_Q} {s : gs} {n0 lv : Nat} (hI : MI lv I s) (hg : gok n0 s) {e f : Int32}  (hq : ∀ I2, (∀ q, q < 55 ∨ (77 ≤ q ∧ q ≤ 85) ∨ 98 < q → I2 q = I q) → MI lv I2 (tSwap s e f).2 → Q (some (.int (tSwap s e f).1)) (hp Lx t rt u I2 G)) : ab_call ab_MT (d + 3) 255 [.ref 55, .int e, .int f] (hp Lx t rt u I G) 0 0 Q := by
  obtain ⟨hM, hD1, hN, hHh, hSs, hDd, hPp, hpl⟩ := id hI
  obtain ⟨hlv, ⟨hC6, hR6, hP5, hH, hTf, hFn, hLx⟩, m18, m65, m69, m72, m76, m71, m89, m73, mL⟩ := id hM
  have hL := hg.1.1
  have hr := hL.2.1
  have hb := hg.1.2.1
  refine wx_in (M := mX11_swap) rfl rfl rfl (Nat.le_of_ble_eq_true rfl) ?_
  refine wx_aload_n rfl (e := 1) rfl rfl ?_
  refine wx_iload_n rfl (e := 2) rfl rfl ?_
  refine wx_cv1 (mc := 0) (ms := 0) rfl (e := 5) rfl rfl (Nat.le_of_ble_eq_true rfl) ⟨by decide, by decide⟩ ?_
  refine c_X11_isRelic hM (fun k1 hk1 ek1 => ?_) (fun no1 => ?_)
  · subst ek1
    have f_1 : inS (nI k1) (tR (gT s)) = true := in_y hk1 (by omega)
    have g_1 : kS (nI k1) = k1 := kS_n (by omega)
    refine wn_if_eq rfl (e := 8) rfl (by omega) (fun c_5 => absurd c_5 (by omega)) (fun c_5 => ?_)
    refine wx_aload_n rfl (e := 9) rfl rfl ?_
    refine wx_iload_n rfl (e := 10) rfl rfl ?_
    refine wx_cv1 (mc := 0) (ms := 0) rfl (e := 13) rfl rfl (Nat.le_of_ble_eq_true rfl) ⟨by decide, by decide⟩ ?_
    refine c_X11_isRelic hM (fun k2 hk2 ek2 => ?_) (fun no2 => ?_)
    · subst ek2
      have f_2 : inS (nI k2) (tR (gT s)) = true := in_y hk2 (by omega)
      have g_2 : kS (nI k2) = k2 := kS_n (by omega)
      refine wn_if_eq rfl (e := 16) rfl (by omega) (fun c_13 => absurd c_13 (by omega)) (fun c_13 => ?_)
      refine wx_aload_n rfl (e := 17) rfl rfl ?_
      refine wx_getr rfl (e := 20) rfl rfl rfl ?_
      refine wx_bipush (v := (nI 6)) rfl (e := 22) rfl (by decide) ?_
      refine wx_iload_n rfl (e := 23) rfl rfl ?_
      refine wn_iadd rfl (e := 24) rfl ?_
      refine wn_iald rfl (e := 25) rfl rfl (by omega) (by decide) ?_
      rw [hN _ (by omega)]
      refine wx_aload_n rfl (e := 26) rfl rfl ?_
      refine wx_getr rfl (e := 29) rfl rfl rfl ?_
      refine wx_bipush (v := (nI 6)) rfl (e := 31) rfl (by decide) ?_
      refine wx_iload_n rfl (e := 32) rfl rfl ?_
      refine wn_iadd rfl (e := 33) rfl ?_
      refine wn_iald rfl (e := 34) rfl rfl (by omega) (by decide) ?_
      rw [hN _ (by omega)]
      refine wx_ic_ne rfl (e := 37) rfl (fun c_34 => ?_) (fun c_34 => ?_)
      · refine wx_aload_n rfl (e := 40) rfl rfl ?_
        refine wx_cv0 (mc := 0) (ms := 0) rfl (e := 43) rfl rfl (Nat.le_of_ble_eq_true rfl) ⟨by decide, by decide⟩ ?_
        refine c_cp hM hN (fun I2 f2 T2 N2 R2 h54 => ?_)
        refine wx_aload_n rfl (e := 44) rfl rfl ?_
        refine wx_getr rfl (e := 47) rfl rfl rfl ?_
        refine wx_bipush (v := (nI 6)) rfl (e := 49) rfl (by decide) ?_
        refine wx_iload_n rfl (e := 50) rfl rfl ?_
        refine wn_iadd rfl (e := 51) rfl ?_
        refine wx_aload_n rfl (e := 52) rfl rfl ?_
        refine wx_getr rfl (e := 55) rfl rfl rfl ?_
        refine wx_bipush (v := (nI 6)) rfl (e := 57) rfl (by decide) ?_
        refine wx_iload_n rfl (e := 58) rfl rfl ?_
        refine wn_iadd rfl (e := 59) rfl ?_
        refine wn_iald rfl (e := 60) rfl rfl (by omega) (by decide) ?_
        rw [N2 _ (by omega)]
        refine wn_iast rfl (e := 61) rfl rfl (by decide) (by omega) (by decide) ?_
        refine wx_aload_n rfl (e := 62) rfl rfl ?_
        refine wx_getr rfl (e := 65) rfl rfl rfl ?_
        refine wx_bipush (v := (nI 6)) rfl (e := 67) rfl (by decide) ?_
        refine wx_iload_n rfl (e := 68) rfl rfl ?_
        refine wn_iadd rfl (e := 69) rfl ?_
        refine wx_aload_n rfl (e := 70) rfl rfl ?_
        refine wx_getr rfl (e := 73) rfl rfl rfl ?_
        refine wx_bipush (v := (nI 6)) rfl (e := 75) rfl (by decide) ?_
        refine wx_iload_n rfl (e := 76) rfl rfl ?_
        refine wn_iadd rfl (e := 77) rfl ?_
        refine wn_iald rfl (e := 78) rfl rfl (by omega) (by decide) ?_
        rw [wr_other _ _ _ _ (by decide), N2 _ (by omega)]
        refine wn_iast rfl (e := 79) rfl rfl (by decide) (by omega) (by decide) ?_
        refine wx_aload_n rfl (e := 80) rfl rfl ?_
        refine wx_cv0 (mc := 0) (ms := 0) rfl (e := 83) rfl rfl (Nat.le_of_ble_eq_true rfl) ⟨by decide, by decide⟩ ?_
        have F9 : fmq I (wr (wr I2 91 (6 + k1) (gR s (6 + k2))) 91 (6 + k2) (gR s (6 + k1))) := f2.tr ((fmy.w1 _ _).q.tr (fmy.w1 _ _).q)
        refine c_X11_records (F9.N hN) ((R2.mv k1 _).mv k2 _) (hHh.kept (F9.2 57 (by decide) (by decide) (by decide) (by decide)) (F9.c (by omega))) (fun I9 f9 N9 H9 => ?_)
        obtain ⟨z1, z2⟩ := hI.kp F9 f9 N9 H9
        refine wx_iconst (v := (nI 1)) rfl (e := 84) rfl (by decide) ?_
        refine wx_iret rfl rfl rfl ⟨by decide, by decide⟩ ?_
        simp only [tSwap, f_1, g_1, f_2, g_2, Bool.and_true, Bool.true_and, Bool.false_and, Bool.and_false, Bool.false_eq_true, eq_self, if_true, if_false] at hq
        rw [if_neg c_34] at hq
        exact hq _ z2 z1
      · refine wx_iconst (v := (nI 0)) rfl (e := 38) rfl (by decide) ?_
        refine wx_iret rfl rfl rfl ⟨by decide, by decide⟩ ?_
        simp only [tSwap, f_1, g_1, f_2, g_2, Bool.and_true, Bool.true_and, Bool.false_and, Bool.and_false, Bool.false_eq_true, eq_self, if_true, if_false] at hq
        rw [if_pos c_34] at hq
        exact hq I (fun _ _ => rfl) hI
    · have f_2 : inS f (tR (gT s)) = false := in_n no2
      refine wn_if_eq rfl (e := 16) rfl (by omega) (fun c_13 => ?_) (fun c_13 => absurd c_13 (by omega))
      refine wx_iconst (v := (nI 0)) rfl (e := 38) rfl (by decide) ?_
      refine wx_iret rfl rfl rfl ⟨by decide, by decide⟩ ?_
      simp only [tSwap, f_1, g_1, f_2, Bool.and_true, Bool.true_and, Bool.false_and, Bool.and_false, Bool.false_eq_true, eq_self, if_true, if_false] at hq
      exact hq I (fun _ _ => rfl) hI
  · have f_1 : inS e (tR (gT s)) = false := in_n no1
    refine wn_if_eq rfl (e := 8) rfl (by omega) (fun c_5 => ?_) (fun c_5 => absurd c_5 (by omega))
    refine wx_iconst (v := (nI 0)) rfl (e := 38) rfl (by decide) ?_
    refine wx_iret rfl rfl rfl ⟨by decide, by decide⟩ ?_
    simp only [tSwap, f_1, Bool.and_true, Bool.true_and, Bool.false_and, Bool.and_false, Bool.false_eq_true, eq_self, if_true, if_false] at hq
    exact hq I (fun _ _ => rfl) hI
theorem c_X11_watch {d Lx t rt u : Nat} {I : Nat → Nat → Int32} {G : Nat → Nat → Int64} {Q : ab_Q} {s : gs} {n0 lv : Nat} (hI : MI lv I s) (hg : gok n0 s) {c w : Int32}  (hq : ∀ I2, (∀ q, q < 55 ∨ (77 ≤ q ∧ q ≤ 85) ∨ 98 < q → I2 q = I q) → MI lv I2 (tWatch s c w).2 → Q (some (.int (tWatch s c w).1)) (hp Lx t rt u I2 G)) : ab_call ab_MT (d + 3) 256 [.ref 55, .int c, .int w] (hp Lx t rt u I G) 0 0 Q := by
  obtain ⟨hM, hD1, hN, hHh, hSs, hDd, hPp, hpl⟩ := id hI
  obtain ⟨hlv, ⟨hC6, hR6, hP5, hH, hTf, hFn, hLx⟩, m18, m65, m69, m72, m76, m71, m89, m73, mL⟩ := id hM
  have hL := hg.1.1
  have hr := hL.2.1
  have hb := hg.1.2.1
  refine wx_in (M := mX11_watch) rfl rfl rfl (Nat.le_of_ble_eq_true rfl) ?_
  refine wx_aload_n rfl (e := 1) rfl rfl ?_
  refine wx_iload_n rfl (e := 2) rfl rfl ?_
  refine wx_cv1 (mc := 0) (ms := 0) rfl (e := 5) rfl rfl (Nat.le_of_ble_eq_true rfl) ⟨by decide, by decide⟩ ?_
  refine c_X11_isChurch hM (fun k1 hk1 ek1 => ?_) (fun no1 => ?_)
  · subst ek1
    have f_1 : inS (nI k1) (tC (gT s)) = true := in_y hk1 (by omega)
    have g_1 : kS (nI k1) = k1 := kS_n (by omega)
    refine wn_if_eq rfl (e := 8) rfl (by omega) (fun c_5 => absurd c_5 (by omega)) (fun c_5 => ?_)
    refine wx_iload_n rfl (e := 9) rfl rfl ?_
    refine wx_iconst (v := (nI 0)) rfl (e := 10) rfl (by decide) ?_
    refine wx_bipush (v := (nI 9)) rfl (e := 12) rfl (by decide) ?_
    refine wx_cs3 (mc := 0) (ms := 0) rfl (e := 15) rfl (Nat.le_of_ble_eq_true rfl) ⟨by decide, by decide⟩ ?_
    refine c_X11_in (lo := 0) (hi := 9) (by omega) (by omega) (fun k2 a2 b2 ek2 => ?_) (fun no2 => ?_)
    · subst ek2
      have f_2 : wiS (nI k2) (0) (9) = true := wi_y a2 b2 (by omega)
      have g_2 : kS (nI k2) = k2 := kS_n (by omega)
      refine wn_if_eq rfl (e := 18) rfl (by omega) (fun c_15 => absurd c_15 (by omega)) (fun c_15 => ?_)
      refine wx_aload_n rfl (e := 19) rfl rfl ?_
      refine wx_getr rfl (e := 22) rfl rfl rfl ?_
      refine wx_iload_n rfl (e := 23) rfl rfl ?_
      refine wn_iald rfl (e := 24) rfl rfl (by omega) (by decide) ?_
      rw [hN _ (by omega)]
      refine wx_iload_n rfl (e := 25) rfl rfl ?_
      refine wx_ic_ne rfl (e := 28) rfl (fun c_25 => ?_) (fun c_25 => ?_)
      · refine wx_aload_n rfl (e := 31) rfl rfl ?_
        refine wx_cv0 (mc := 0) (ms := 0) rfl (e := 34) rfl rfl (Nat.le_of_ble_eq_true rfl) ⟨by decide, by decide⟩ ?_
        refine c_cp hM hN (fun I2 f2 T2 N2 R2 h54 => ?_)
        refine wx_aload_n rfl (e := 35) rfl rfl ?_
        refine wx_getr rfl (e := 38) rfl rfl rfl ?_
        refine wx_iload_n rfl (e := 39) rfl rfl ?_
        refine wx_iload_n rfl (e := 40) rfl rfl ?_
        refine wn_iast rfl (e := 41) rfl rfl (by decide) (by omega) (by decide) ?_
        refine wx_aload_n rfl (e := 42) rfl rfl ?_
        refine wx_cv0 (mc := 0) (ms := 0) rfl (e := 45) rfl rfl (Nat.le_of_ble_eq_true rfl) ⟨by decide, by decide⟩ ?_
        have F9 : fmq I (wr I2 91 k1 (nI k2)) := f2.tr (fmy.w1 _ _).q
        refine c_X11_records (F9.N hN) (R2.set k1 _) (hHh.kept (F9.2 57 (by decide) (by decide) (by decide) (by decide)) (F9.c (by omega))) (fun I9 f9 N9 H9 => ?_)
        obtain ⟨z1, z2⟩ := hI.kp F9 f9 N9 H9
        refine wx_iconst (v := (nI 1)) rfl (e := 46) rfl (by decide) ?_
        refine wx_iret rfl rfl rfl ⟨by decide, by decide⟩ ?_
        simp only [tWatch, f_1, g_1, f_2, g_2, Bool.and_true, Bool.true_and, Bool.false_and, Bool.and_false, Bool.false_eq_true, eq_self, if_true, if_false] at hq
        rw [if_neg c_25] at hq
        exact hq _ z2 z1
      · refine wx_iconst (v := (nI 0)) rfl (e := 29) rfl (by decide) ?_
        refine wx_iret rfl rfl rfl ⟨by decide, by decide⟩ ?_
        simp only [tWatch, f_1, g_1, f_2, g_2, Bool.and_true, Bool.true_and, Bool.false_and, Bool.and_false, Bool.false_eq_true, eq_self, if_true, if_false] at hq
        rw [if_pos c_25] at hq
        exact hq I (fun _ _ => rfl) hI
    · have f_2 : wiS w (0) (9) = false := wi_n no2
      refine wn_if_eq rfl (e := 18) rfl (by omega) (fun c_15 => ?_) (fun c_15 => absurd c_15 (by omega))
      refine wx_iconst (v := (nI 0)) rfl (e := 29) rfl (by decide) ?_
      refine wx_iret rfl rfl rfl ⟨by decide, by decide⟩ ?_
      simp only [tWatch, f_1, g_1, f_2, Bool.and_true, Bool.true_and, Bool.false_and, Bool.and_false, Bool.false_eq_true, eq_self, if_true, if_false] at hq
      exact hq I (fun _ _ => rfl) hI
  · have f_1 : inS c (tC (gT s)) = false := in_n no1
    refine wn_if_eq rfl (e := 8) rfl (by omega) (fun c_5 => ?_) (fun c_5 => absurd c_5 (by omega))
    refine wx_iconst (v := (nI 0)) rfl (e := 29) rfl (by decide) ?_
    refine wx_iret rfl rfl rfl ⟨by decide, by decide⟩ ?_
    simp only [tWatch, f_1, Bool.and_true, Bool.true_and, Bool.false_and, Bool.and_false, Bool.false_eq_true, eq_self, if_true, if_false] at hq
    exact hq I (fun _ _ => rfl) hI
theorem c_X11_years {d Lx t rt u : Nat} {I : Nat → Nat → Int32} {G : Nat → Nat → Int64} {Q : ab_Q} {s : gs} {n0 lv : Nat} (hI : MI lv I s) (hg : gok n0 s) {n : Int32}  (hq : ∀ I2, (∀ q, q < 55 ∨ (77 ≤ q ∧ q ≤ 85) ∨ 98 < q → I2 q = I q) → MI lv I2 (tYears s n).2 → Q (some (.int (tYears s n).1)) (hp Lx t rt u I2 G)) : ab_call ab_MT (d + 8) 257 [.ref 55, .int n] (hp Lx t rt u I G) 0 0 Q := by
  obtain ⟨hM, hD1, hN, hHh, hSs, hDd, hPp, hpl⟩ := id hI
  obtain ⟨hlv, ⟨hC6, hR6, hP5, hH, hTf, hFn, hLx⟩, m18, m65, m69, m72, m76, m71, m89, m73, mL⟩ := id hM
  have hL := hg.1.1
  have hr := hL.2.1
  have hb := hg.1.2.1
  refine wx_in (M := mX11_years) rfl rfl rfl (Nat.le_of_ble_eq_true rfl) ?_
  refine wx_iload_n rfl (e := 1) rfl rfl ?_
  refine wx_iconst (v := (nI 0)) rfl (e := 2) rfl (by decide) ?_
  refine wx_bipush (v := (nI 60)) rfl (e := 4) rfl (by decide) ?_
  refine wx_cs3 (mc := 0) (ms := 0) rfl (e := 7) rfl (Nat.le_of_ble_eq_true rfl) ⟨by decide, by decide⟩ ?_
  refine c_X11_in (lo := 0) (hi := 60) (by omega) (by omega) (fun k1 a1 b1 ek1 => ?_) (fun no1 => ?_)
  · subst ek1
    have f_1 : wiS (nI k1) (0) (60) = true := wi_y a1 b1 (by omega)
    have g_1 : kS (nI k1) = k1 := kS_n (by omega)
    refine wn_if_ne rfl (e := 10) rfl (by omega) (fun c_7 => ?_) (fun c_7 => absurd c_7 (by omega))
    refine wx_iload_n rfl (e := 13) rfl rfl ?_
    refine wn_if_ne rfl (e := 16) rfl (by omega) (fun c_13 => ?_) (fun c_13 => ?_)
    · refine wx_aload_n rfl (e := 25) rfl rfl ?_
      refine wx_cv0 (mc := 0) (ms := 0) rfl (e := 28) rfl rfl (Nat.le_of_ble_eq_true rfl) ⟨by decide, by decide⟩ ?_
      refine c_cp hM hN (fun I2 f2 T2 N2 R2 h54 => ?_)
      refine wx_aload_n rfl (e := 29) rfl rfl ?_
      refine wx_iload_n rfl (e := 30) rfl rfl ?_
      refine wx_cv1 (mc := 0) (ms := 0) rfl (e := 33) rfl rfl (Nat.le_of_ble_eq_true rfl) ⟨by decide, by decide⟩ ?_
      refine c_X11_yearsGo T2 R2 hr (n := k1) (by omega) (fun I3 y3 R3 => ?_)
      rw [h54] at R3
      have R3 : MR I3 (yaS (gT s) (gR s) k1) := R3
      have f3 := f2.tr y3.q
      have T3 := f3.T hM
      have N3 := f3.N hN
      refine wx_aload_n rfl (e := 34) rfl rfl ?_
      refine wx_cv0 (mc := 0) (ms := 0) rfl (e := 37) rfl rfl (Nat.le_of_ble_eq_true rfl) ⟨by decide, by decide⟩ ?_
      have F9 := f3
      refine c_X11_records (F9.N hN) R3 (hHh.kept (F9.2 57 (by decide) (by decide) (by decide) (by decide)) (F9.c (by omega))) (fun I9 f9 N9 H9 => ?_)
      obtain ⟨z1, z2⟩ := hI.kp F9 f9 N9 H9
      refine wx_aload_n rfl (e := 38) rfl rfl ?_
      refine wx_getr rfl (e := 41) rfl rfl rfl ?_
      refine wx_bipush (v := (nI 46)) rfl (e := 43) rfl (by decide) ?_
      refine wn_iald rfl (e := 44) rfl rfl (by omega) (by decide) ?_
      rw [N9 _ (by omega)]
      refine wx_iret rfl rfl rfl ⟨by decide, by decide⟩ ?_
      simp only [tYears, f_1, g_1, Bool.and_true, Bool.true_and, Bool.false_and, Bool.and_false, Bool.false_eq_true, eq_self, if_true, if_false] at hq
      rw [if_neg (show ¬ k1 = 0 by omega)] at hq
      exact hq _ z2 z1
    · refine wx_aload_n rfl (e := 17) rfl rfl ?_
      refine wx_getr rfl (e := 20) rfl rfl rfl ?_
      refine wx_bipush (v := (nI 46)) rfl (e := 22) rfl (by decide) ?_
      refine wn_iald rfl (e := 23) rfl rfl (by omega) (by decide) ?_
      rw [hN _ (by omega)]
      refine wx_iret rfl rfl rfl ⟨by decide, by decide⟩ ?_
      simp only [tYears, f_1, g_1, Bool.and_true, Bool.true_and, Bool.false_and, Bool.and_false, Bool.false_eq_true, eq_self, if_true, if_false] at hq
      rw [if_pos (show k1 = 0 by omega)] at hq
      exact hq I (fun _ _ => rfl) hI
  · have f_1 : wiS n (0) (60) = false := wi_n no1
    refine wn_if_ne rfl (e := 10) rfl (by omega) (fun c_7 => absurd c_7 (by omega)) (fun c_7 => ?_)
    refine wx_iconst (v := (-1)) rfl (e := 11) rfl (by decide) ?_
    refine wx_iret rfl rfl rfl ⟨by decide, by decide⟩ ?_
    simp only [tYears, f_1, Bool.and_true, Bool.true_and, Bool.false_and, Bool.and_false, Bool.false_eq_true, eq_self, if_true, if_false] at hq
    exact hq I (fun _ _ => rfl) hI
set_option maxHeartbeats 1000000 in
theorem c_X11_undo {d Lx t rt u : Nat} {I : Nat → Nat → Int32} {G : Nat → Nat → Int64} {Q : ab_Q} {s : gs} {n0 lv : Nat} (hI : MI lv I s) (hg : gok n0 s)  (hq : ∀ I2, (∀ q, q < 55 ∨ (77 ≤ q ∧ q ≤ 85) ∨ 98 < q → I2 q = I q) → MI lv I2 (tUndo s).2 → Q (some (.int (tUndo s).1)) (hp Lx t rt u I2 G)) : ab_call ab_MT (d + 1) 258 [.ref 55] (hp Lx t rt u I G) 0 0 Q := by
  obtain ⟨hM, hD1, hN, hHh, hSs, hDd, hPp, hpl⟩ := id hI
  obtain ⟨hlv, ⟨hC6, hR6, hP5, hH, hTf, hFn, hLx⟩, m18, m65, m69, m72, m76, m71, m89, m73, mL⟩ := id hM
  have hL := hg.1.1
  have hr := hL.2.1
  have hb := hg.1.2.1
  have hm := hHh.1
  refine wx_in (M := mX11_undo) rfl rfl rfl (Nat.le_of_ble_eq_true rfl) ?_
  refine wx_aload_n rfl (e := 1) rfl rfl ?_
  refine wx_geti rfl (e := 4) rfl rfl ?_
  rw [hHh.2.1]
  refine wn_if_ne rfl (e := 7) rfl (by omega) (fun c_4 => ?_) (fun c_4 => ?_)
  · refine wx_aload_n rfl (e := 10) rfl rfl ?_
    refine wx_dup rfl (e := 11) rfl rfl ?_
    refine wx_geti rfl (e := 14) rfl rfl ?_
    rw [hHh.2.1]
    refine wx_iconst (v := (nI 1)) rfl (e := 15) rfl (by decide) ?_
    refine wn_isub rfl (e := 16) rfl (by omega) ?_
    refine wx_puti rfl (e := 19) rfl rfl (by decide) ?_
    refine wx_iconst (v := (nI 0)) rfl (e := 20) rfl (by decide) ?_
    refine wx_istore_n (L2 := [_, _]) rfl (e := 21) rfl (by decide) rfl ?_
    unfold tUndo at hq
    rw [if_neg c_4] at hq
    have hH0 : ∀ k, k < 49 → I 94 (49 * ((gH s).2 - 1) + k) = (gH s).1 0 k := fun k hk => by rw [← hHh.2.2 0 (by omega) k hk]; congr 1
    have loop : ∀ (m : Nat) (i : Nat) (I2 : Nat → Nat → Int32), i ≤ 49 → 49 - i < m → (∀ q, q ≠ 55 → q ≠ 90 → I2 q = I q) → (∀ k, k ≠ 57 → I2 55 k = I 55 k) → I2 55 57 = nI ((gH s).2 - 1) → (∀ k, k < i → I2 90 k = (gH s).1 0 k) → WP d mX11_undo Q 21 [some (.ref 55), some (.int (nI i))] [] (hp Lx t rt u I2 G) 0 0 := by
      intro m
      induction m with
      | zero => intro i I2 h1 h2; omega
      | succ m ih =>
        intro i I2 h1 h2 g2 k2 e5 n2
        refine wx_iload_n rfl (e := 22) rfl rfl ?_
        refine wx_bipush (v := (nI 49)) rfl (e := 24) rfl (by decide) ?_
        refine wn_ic_ge rfl (e := 27) rfl (by omega) (by omega) (fun c_24 => ?_) (fun c_24 => ?_)
        · refine wx_iconst (v := (nI 1)) rfl (e := 54) rfl (by decide) ?_
          refine wx_iret rfl rfl rfl ⟨by decide, by decide⟩ ?_
          have ei : i = 49 := by omega
          subst ei
          obtain ⟨e1, e2, e3⟩ := hI.base (I2 := I2) (fun q hq => g2 q (by omega) (by omega)) (k2 18 (by decide)) (k2 17 (by decide))
          exact hq I2 (fun q h => g2 q (by omega) (by omega)) ⟨e1, e2, n2, ⟨by show (gH s).2 - 1 ≤ 40; omega, e5, fun j hj k hk => by rw [g2 94 (by decide) (by decide)]; show _ = (gH s).1 (j + 1) k; have hj2 : j < (gH s).2 - 1 := hj; rw [← hHh.2.2 (j + 1) (by omega) k hk]; congr 1; show 49 * ((gH s).2 - 1 - 1 - j) + k = _; omega⟩, hSs.kept (g2 _ (by decide) (by decide)) (g2 _ (by decide) (by decide)), hDd.kept (k2 _ (by decide)) (g2 _ (by decide) (by decide)) (g2 _ (by decide) (by decide)), hPp.kept (k2 _ (by decide)) (g2 _ (by decide) (by decide)), e3⟩
        · refine wx_aload_n rfl (e := 28) rfl rfl ?_
          refine wx_getr rfl (e := 31) rfl rfl rfl ?_
          refine wx_iload_n rfl (e := 32) rfl rfl ?_
          refine wx_aload_n rfl (e := 33) rfl rfl ?_
          refine wx_getr rfl (e := 36) rfl rfl rfl ?_
          refine wx_bipush (v := (nI 49)) rfl (e := 38) rfl (by decide) ?_
          refine wx_aload_n rfl (e := 39) rfl rfl ?_
          refine wx_geti rfl (e := 42) rfl rfl ?_
          rw [e5]
          refine wn_imul rfl (e := 43) rfl ?_
          refine wx_iload_n rfl (e := 44) rfl rfl ?_
          refine wn_iadd rfl (e := 45) rfl ?_
          refine wn_iald rfl (e := 46) rfl rfl (by omega) (by decide) ?_
          rw [g2 94 (by decide) (by decide), hH0 _ (by omega)]
          refine wn_iast rfl (e := 47) rfl rfl (by decide) (by omega) (by decide) ?_
          refine wn_iinc (m := 1) (L2 := [_, _]) rfl (e := 50) rfl rfl (by decide) rfl ?_
          refine wx_goto rfl ?_
          refine ih (i + 1) _ (by omega) (by omega) (fun q a b => by rw [wr_other _ _ _ _ b]; exact g2 q a b) (fun k hk => by rw [wr_other _ _ _ _ (by decide)]; exact k2 k hk) (by rw [wr_other _ _ _ _ (by decide)]; exact e5) (fun k hk => ?_)
          by_cases z : k = i
          · rw [z, wr_eq]
          · rw [wr_ne _ _ _ _ z]; exact n2 k (by omega)
    exact loop 50 0 _ (by omega) (by omega) (fun q a b => wr_other _ _ _ _ a) (fun k hk => wr_ne _ _ _ _ hk) (wr_eq _ _ _ _) (fun k hk => absurd hk (Nat.not_lt_zero _))
  · refine wx_iconst (v := (nI 0)) rfl (e := 8) rfl (by decide) ?_
    refine wx_iret rfl rfl rfl ⟨by decide, by decide⟩ ?_
    unfold tUndo at hq
    rw [if_pos c_4] at hq
    exact hq I (fun _ _ => rfl) hI
set_option maxHeartbeats 1000000 in
theorem c_X11_hold {d Lx t rt u : Nat} {I : Nat → Nat → Int32} {G : Nat → Nat → Int64} {Q : ab_Q} {s : gs} {n0 lv : Nat} (hI : MI lv I s) (hg : gok n0 s) {v : Int32}  (hq : ∀ I2, (∀ q, q < 55 ∨ (77 ≤ q ∧ q ≤ 85) ∨ 98 < q → I2 q = I q) → MI lv I2 (tHold s v).2 → Q (some (.int (tHold s v).1)) (hp Lx t rt u I2 G)) : ab_call ab_MT (d + 2) 294 [.ref 55, .int v] (hp Lx t rt u I G) 0 0 Q := by
  obtain ⟨hM, hD1, hN, hHh, hSs, hDd, hPp, hpl⟩ := id hI
  obtain ⟨hlv, ⟨hC6, hR6, hP5, hH, hTf, hFn, hLx⟩, m18, m65, m69, m72, m76, m71, m89, m73, mL⟩ := id hM
  have hL := hg.1.1
  have hr := hL.2.1
  have hb := hg.1.2.1
  refine wx_in (M := mX11_hold) rfl rfl rfl (Nat.le_of_ble_eq_true rfl) ?_
  refine wx_iload_n rfl (e := 1) rfl rfl ?_
  refine wx_iconst (v := (nI 0)) rfl (e := 2) rfl (by decide) ?_
  refine wx_iconst (v := (nI 2)) rfl (e := 3) rfl (by decide) ?_
  refine wx_cs3 (mc := 0) (ms := 0) rfl (e := 6) rfl (Nat.le_of_ble_eq_true rfl) ⟨by decide, by decide⟩ ?_
  refine c_X11_in (lo := 0) (hi := 2) (by omega) (by omega) (fun k1 la1 lb1 ek1 => ?_) (fun no1 => ?_)
  · subst ek1
    have f_1 : inS (nI k1) 3 = true := in_y (by omega) (by omega)
    have g_1 : kS (nI k1) = k1 := kS_n (by omega)
    refine wn_if_ne rfl (e := 9) rfl (by omega) (fun c_6 => ?_) (fun c_6 => absurd c_6 (by omega))
    refine wx_aload_n rfl (e := 12) rfl rfl ?_
    refine wx_getr rfl (e := 15) rfl rfl rfl ?_
    refine wx_iload_n rfl (e := 16) rfl rfl ?_
    refine wx_iconst (v := (nI 1)) rfl (e := 17) rfl (by decide) ?_
    refine wn_zast rfl (e := 18) rfl rfl (by decide) (by omega) (by decide) ?_
    refine wx_iconst (v := (nI 0)) rfl (e := 19) rfl (by decide) ?_
    refine wx_istore_n (L2 := [_, _, _]) rfl (e := 20) rfl (by decide) rfl ?_
    simp only [tHold, f_1, g_1, Bool.and_true, Bool.true_and, Bool.false_and, Bool.and_false, Bool.false_eq_true, eq_self, if_true, if_false] at hq
    have loop : ∀ (m : Nat) (i : Nat) (I2 : Nat → Nat → Int32), i ≤ 49 → 49 - i < m → (∀ q, q ≠ 97 → q ≠ 98 → I2 q = I q) → (∀ j, j < 3 → I2 97 j = b1 (if j = k1 then true else (gK s).1 j)) → (∀ j, j ≠ k1 → ∀ k, k < 49 → I2 98 (49 * j + k) = I 98 (49 * j + k)) → (∀ k, k < i → I2 98 (49 * k1 + k) = gR s k) → WP (d + 1) mX11_hold Q 20 [some (.ref 55), some (.int (nI k1)), some (.int (nI i))] [] (hp Lx t rt u I2 G) 0 0 := by
      intro m
      induction m with
      | zero => intro i I2 h1 h2; omega
      | succ m ih =>
        intro i I2 h1 h2 g2 e5 o2 n2
        refine wx_iload_n rfl (e := 21) rfl rfl ?_
        refine wx_bipush (v := (nI 49)) rfl (e := 23) rfl (by decide) ?_
        refine wn_ic_ge rfl (e := 26) rfl (by omega) (by omega) (fun c_23 => ?_) (fun c_23 => ?_)
        · refine wx_iconst (v := (nI 1)) rfl (e := 50) rfl (by decide) ?_
          refine wx_iret rfl rfl rfl ⟨by decide, by decide⟩ ?_
          have ei : i = 49 := by omega
          subst ei
          obtain ⟨e1, e2, e3⟩ := hI.base (I2 := I2) (fun q hq => g2 q (by omega) (by omega)) (by rw [g2 55 (by decide) (by decide)]) (by rw [g2 55 (by decide) (by decide)])
          refine hq I2 (fun q h => g2 q (by omega) (by omega)) ⟨e1, e2, hN.kept (g2 _ (by decide) (by decide)), hHh.kept (by rw [g2 55 (by decide) (by decide)]) (g2 _ (by decide) (by decide)), fun j hj => ⟨e5 j hj, fun hh k hk => ?_⟩, hDd.kept (by rw [g2 55 (by decide) (by decide)]) (g2 _ (by decide) (by decide)) (g2 _ (by decide) (by decide)), hPp.kept (by rw [g2 55 (by decide) (by decide)]) (g2 _ (by decide) (by decide)), e3⟩
          have hh : (if j = k1 then true else (gK s).1 j) = true := hh
          show _ = (if j = k1 then gR s else (gK s).2 j) k
          by_cases z : j = k1
          · rw [if_pos z, z]; exact n2 k hk
          · rw [if_neg z] at hh ⊢; rw [o2 j z k hk]; exact (hSs j hj).2 hh k hk
        · refine wx_aload_n rfl (e := 27) rfl rfl ?_
          refine wx_getr rfl (e := 30) rfl rfl rfl ?_
          refine wx_bipush (v := (nI 49)) rfl (e := 32) rfl (by decide) ?_
          refine wx_iload_n rfl (e := 33) rfl rfl ?_
          refine wn_imul rfl (e := 34) rfl ?_
          refine wx_iload_n rfl (e := 35) rfl rfl ?_
          refine wn_iadd rfl (e := 36) rfl ?_
          refine wx_aload_n rfl (e := 37) rfl rfl ?_
          refine wx_getr rfl (e := 40) rfl rfl rfl ?_
          refine wx_iload_n rfl (e := 41) rfl rfl ?_
          refine wn_iald rfl (e := 42) rfl rfl (by omega) (by decide) ?_
          rw [g2 90 (by decide) (by decide), hN _ (by omega)]
          refine wn_iast rfl (e := 43) rfl rfl (by decide) (by omega) (by decide) ?_
          refine wn_iinc (m := 1) (L2 := [_, _, _]) rfl (e := 46) rfl rfl (by decide) rfl ?_
          refine wx_goto rfl ?_
          refine ih (i + 1) _ (by omega) (by omega) (fun q a b => by rw [wr_other _ _ _ _ b]; exact g2 q a b) (fun j hj => by rw [wr_other _ _ _ _ (by decide)]; exact e5 j hj) (fun j hj k hk => by rw [wr_ne _ _ _ _ (by omega)]; exact o2 j hj k hk) (fun k hk => ?_)
          by_cases z : k = i
          · rw [z, wr_eq]
          · rw [wr_ne _ _ _ _ (by omega)]; exact n2 k (by omega)
    refine loop 50 0 _ (by omega) (by omega) (fun q a b => wr_other _ _ _ _ a) (fun j hj => ?_) (fun j hj k hk => by rw [wr_other _ _ _ _ (by decide)]) (fun k hk => absurd hk (Nat.not_lt_zero _))
    by_cases z : j = k1
    · rw [if_pos z, z, wr_eq]; rfl
    · rw [if_neg z, wr_ne _ _ _ _ z]; exact (hSs j hj).1
  · have f_1 : inS v 3 = false := in_n (fun k hk => no1 k (by omega) (by omega))
    refine wn_if_ne rfl (e := 9) rfl (by omega) (fun c_6 => absurd c_6 (by omega)) (fun c_6 => ?_)
    refine wx_iconst (v := (nI 0)) rfl (e := 10) rfl (by decide) ?_
    refine wx_iret rfl rfl rfl ⟨by decide, by decide⟩ ?_
    simp only [tHold, f_1, Bool.and_true, Bool.true_and, Bool.false_and, Bool.and_false, Bool.false_eq_true, eq_self, if_true, if_false] at hq
    exact hq I (fun _ _ => rfl) hI
set_option maxHeartbeats 1000000 in
theorem c_X11_restore {d Lx t rt u : Nat} {I : Nat → Nat → Int32} {G : Nat → Nat → Int64} {Q : ab_Q} {s : gs} {n0 lv : Nat} (hI : MI lv I s) (hg : gok n0 s) {v : Int32}  (hq : ∀ I2, (∀ q, q < 55 ∨ (77 ≤ q ∧ q ≤ 85) ∨ 98 < q → I2 q = I q) → MI lv I2 (tRestore s v).2 → Q (some (.int (tRestore s v).1)) (hp Lx t rt u I2 G)) : ab_call ab_MT (d + 2) 295 [.ref 55, .int v] (hp Lx t rt u I G) 0 0 Q := by
  obtain ⟨hM, hD1, hN, hHh, hSs, hDd, hPp, hpl⟩ := id hI
  obtain ⟨hlv, ⟨hC6, hR6, hP5, hH, hTf, hFn, hLx⟩, m18, m65, m69, m72, m76, m71, m89, m73, mL⟩ := id hM
  have hL := hg.1.1
  have hr := hL.2.1
  have hb := hg.1.2.1
  refine wx_in (M := mX11_restore) rfl rfl rfl (Nat.le_of_ble_eq_true rfl) ?_
  refine wx_iload_n rfl (e := 1) rfl rfl ?_
  refine wx_iconst (v := (nI 0)) rfl (e := 2) rfl (by decide) ?_
  refine wx_iconst (v := (nI 2)) rfl (e := 3) rfl (by decide) ?_
  refine wx_cs3 (mc := 0) (ms := 0) rfl (e := 6) rfl (Nat.le_of_ble_eq_true rfl) ⟨by decide, by decide⟩ ?_
  refine c_X11_in (lo := 0) (hi := 2) (by omega) (by omega) (fun k1 la1 lb1 ek1 => ?_) (fun no1 => ?_)
  · subst ek1
    have f_1 : inS (nI k1) 3 = true := in_y (by omega) (by omega)
    have g_1 : kS (nI k1) = k1 := kS_n (by omega)
    refine wn_if_eq rfl (e := 9) rfl (by omega) (fun c_6 => absurd c_6 (by omega)) (fun c_6 => ?_)
    refine wx_aload_n rfl (e := 10) rfl rfl ?_
    refine wx_getr rfl (e := 13) rfl rfl rfl ?_
    refine wx_iload_n rfl (e := 14) rfl rfl ?_
    refine wn_zald rfl (e := 15) rfl rfl (by omega) (by decide) ?_
    rw [(hSs k1 (by omega)).1]
    refine wx_if_ne rfl (e := 18) rfl (fun c_15 => ?_) (fun c_15 => ?_)
    · refine wx_iconst (v := (nI 0)) rfl (e := 21) rfl (by decide) ?_
      refine wx_istore_n (L2 := [_, _, _]) rfl (e := 22) rfl (by decide) rfl ?_
      have hd := b1_n0.mp c_15
      simp only [tRestore, f_1, g_1, hd, Bool.and_true, Bool.true_and, Bool.false_and, Bool.and_false, Bool.false_eq_true, eq_self, if_true, if_false] at hq
      have loop : ∀ (m : Nat) (i : Nat) (I2 : Nat → Nat → Int32), i ≤ 49 → 49 - i < m → (∀ q, q ≠ 90 → I2 q = I q) → (∀ k, k < i → I2 90 k = (gK s).2 k1 k) → WP (d + 1) mX11_restore Q 22 [some (.ref 55), some (.int (nI k1)), some (.int (nI i))] [] (hp Lx t rt u I2 G) 0 0 := by
        intro m
        induction m with
        | zero => intro i I2 h1 h2; omega
        | succ m ih =>
          intro i I2 h1 h2 g2 n2
          refine wx_iload_n rfl (e := 23) rfl rfl ?_
          refine wx_bipush (v := (nI 49)) rfl (e := 25) rfl (by decide) ?_
          refine wn_ic_ge rfl (e := 28) rfl (by omega) (by omega) (fun c_25 => ?_) (fun c_25 => ?_)
          · refine wx_aload_n rfl (e := 52) rfl rfl ?_
            refine wx_iconst (v := (nI 0)) rfl (e := 53) rfl (by decide) ?_
            refine wx_puti rfl (e := 56) rfl rfl (by decide) ?_
            refine wx_iconst (v := (nI 1)) rfl (e := 57) rfl (by decide) ?_
            refine wx_iret rfl rfl rfl ⟨by decide, by decide⟩ ?_
            have ei : i = 49 := by omega
            subst ei
            obtain ⟨e1, e2, e3⟩ := hI.base (I2 := wr I2 55 57 (nI 0)) (fun q hq => by rw [wr_other _ _ _ _ (by omega)]; exact g2 q (by omega)) (by rw [wr_ne _ _ _ _ (by decide), g2 55 (by decide)]) (by rw [wr_ne _ _ _ _ (by decide), g2 55 (by decide)])
            have k2 : ∀ k, k ≠ 57 → wr I2 55 57 (nI 0) 55 k = I 55 k := fun k hk => by rw [wr_ne _ _ _ _ hk, g2 55 (by decide)]
            have g3 : ∀ q, q ≠ 55 → q ≠ 90 → wr I2 55 57 (nI 0) q = I q := fun q a b => by rw [wr_other _ _ _ _ a]; exact g2 q b
            exact hq _ (fun q h => g3 q (by omega) (by omega)) ⟨e1, e2, fun k hk => by rw [wr_other _ _ _ _ (by decide)]; exact n2 k hk, ⟨Nat.zero_le _, wr_eq _ _ _ _, fun j hj => absurd hj (Nat.not_lt_zero _)⟩, hSs.kept (g3 _ (by decide) (by decide)) (g3 _ (by decide) (by decide)), hDd.kept (k2 _ (by decide)) (g3 _ (by decide) (by decide)) (g3 _ (by decide) (by decide)), hPp.kept (k2 _ (by decide)) (g3 _ (by decide) (by decide)), e3⟩
          · refine wx_aload_n rfl (e := 29) rfl rfl ?_
            refine wx_getr rfl (e := 32) rfl rfl rfl ?_
            refine wx_iload_n rfl (e := 33) rfl rfl ?_
            refine wx_aload_n rfl (e := 34) rfl rfl ?_
            refine wx_getr rfl (e := 37) rfl rfl rfl ?_
            refine wx_bipush (v := (nI 49)) rfl (e := 39) rfl (by decide) ?_
            refine wx_iload_n rfl (e := 40) rfl rfl ?_
            refine wn_imul rfl (e := 41) rfl ?_
            refine wx_iload_n rfl (e := 42) rfl rfl ?_
            refine wn_iadd rfl (e := 43) rfl ?_
            refine wn_iald rfl (e := 44) rfl rfl (by omega) (by decide) ?_
            rw [g2 98 (by decide), (hSs k1 (by omega)).2 hd _ (by omega)]
            refine wn_iast rfl (e := 45) rfl rfl (by decide) (by omega) (by decide) ?_
            refine wn_iinc (m := 1) (L2 := [_, _, _]) rfl (e := 48) rfl rfl (by decide) rfl ?_
            refine wx_goto rfl ?_
            refine ih (i + 1) _ (by omega) (by omega) (fun q b => by rw [wr_other _ _ _ _ b]; exact g2 q b) (fun k hk => ?_)
            by_cases z : k = i
            · rw [z, wr_eq]
            · rw [wr_ne _ _ _ _ z]; exact n2 k (by omega)
      exact loop 50 0 I (by omega) (by omega) (fun q _ => rfl) (fun k hk => absurd hk (Nat.not_lt_zero _))
    · refine wx_iconst (v := (nI 0)) rfl (e := 19) rfl (by decide) ?_
      refine wx_iret rfl rfl rfl ⟨by decide, by decide⟩ ?_
      simp only [tRestore, f_1, g_1, b1_0.mp c_15, Bool.and_true, Bool.true_and, Bool.false_and, Bool.and_false, Bool.false_eq_true, eq_self, if_true, if_false] at hq
      exact hq I (fun _ _ => rfl) hI
  · have f_1 : inS v 3 = false := in_n (fun k hk => no1 k (by omega) (by omega))
    refine wn_if_eq rfl (e := 9) rfl (by omega) (fun c_6 => ?_) (fun c_6 => absurd c_6 (by omega))
    refine wx_iconst (v := (nI 0)) rfl (e := 19) rfl (by decide) ?_
    refine wx_iret rfl rfl rfl ⟨by decide, by decide⟩ ?_
    simp only [tRestore, f_1, Bool.and_true, Bool.true_and, Bool.false_and, Bool.and_false, Bool.false_eq_true, eq_self, if_true, if_false] at hq
    exact hq I (fun _ _ => rfl) hI
set_option maxHeartbeats 1000000 in
theorem c_X11_tell {d Lx t rt u : Nat} {I : Nat → Nat → Int32} {G : Nat → Nat → Int64} {Q : ab_Q} {s : gs} {n0 lv : Nat} (hI : MI lv I s) (hg : gok n0 s) {w : Bool} {a : Int32} (hq : ∀ I2, (∀ q, q < 55 ∨ (77 ≤ q ∧ q ≤ 85) ∨ 98 < q → I2 q = I q) → MI lv I2 (tTell s a w).2 → Q (some (.int (tTell s a w).1)) (hp Lx t rt u I2 G)) : ab_call ab_MT (d + 3) 288 [.ref 55, .int a, .int (b1 w)] (hp Lx t rt u I G) 0 0 Q := by
  obtain ⟨hM, hD1, hN, hHh, hSs, hDd, hPp, hpl⟩ := id hI
  obtain ⟨hlv, ⟨hC6, hR6, hP5, hH, hTf, hFn, hLx⟩, m18, m65, m69, m72, m76, m71, m89, m73, mL⟩ := id hM
  have hL := hg.1.1
  have hr := hL.2.1
  have hb := hg.1.2.1
  have hwm := hDd.1
  refine wx_in (M := mX11_tell) rfl rfl rfl (Nat.le_of_ble_eq_true rfl) ?_
  refine wx_aload_n rfl (e := 1) rfl rfl ?_
  refine wx_geti rfl (e := 4) rfl rfl ?_
  rw [hDd.2.1]
  refine wx_bipush (v := (nI 20)) rfl (e := 6) rfl (by decide) ?_
  refine wn_ic_eq rfl (e := 9) rfl (by omega) (by omega) (fun c_6 => ?_) (fun c_6 => ?_)
  · refine wx_iconst (v := (-1)) rfl (e := 18) rfl (by decide) ?_
    refine wx_iret rfl rfl rfl ⟨by decide, by decide⟩ ?_
    unfold tTell at hq
    rw [if_pos c_6] at hq
    by_cases z : inS a (tP (gT s)) = true
    · rw [if_pos z] at hq; exact hq I (fun _ _ => rfl) hI
    · rw [if_neg z] at hq; exact hq I (fun _ _ => rfl) hI
  · refine wx_aload_n rfl (e := 10) rfl rfl ?_
    refine wx_iload_n rfl (e := 11) rfl rfl ?_
    refine wx_cv1 (mc := 0) (ms := 0) rfl (e := 14) rfl rfl (Nat.le_of_ble_eq_true rfl) ⟨by decide, by decide⟩ ?_
    refine c_X11_isPilgrim hM (fun k1 hk1 ek1 => ?_) (fun no1 => ?_)
    · subst ek1
      have f_1 : inS (nI k1) (tP (gT s)) = true := in_y hk1 (by omega)
      have g_1 : kS (nI k1) = k1 := kS_n (by omega)
      refine wn_if_ne rfl (e := 17) rfl (by omega) (fun c_14 => ?_) (fun c_14 => absurd c_14 (by omega))
      refine wx_aload_n rfl (e := 20) rfl rfl ?_
      refine wx_getr rfl (e := 23) rfl rfl rfl ?_
      refine wx_aload_n rfl (e := 24) rfl rfl ?_
      refine wx_geti rfl (e := 27) rfl rfl ?_
      rw [hDd.2.1]
      refine wx_iload_n rfl (e := 28) rfl rfl ?_
      refine wn_iast rfl (e := 29) rfl rfl (by decide) (by omega) (by decide) ?_
      refine wx_aload_n rfl (e := 30) rfl rfl ?_
      refine wx_getr rfl (e := 33) rfl rfl rfl ?_
      refine wx_aload_n rfl (e := 34) rfl rfl ?_
      refine wx_geti rfl (e := 37) rfl rfl ?_
      rw [wr_other _ _ _ _ (by decide), hDd.2.1]
      refine wx_iload_n rfl (e := 38) rfl rfl ?_
      refine wn_zast rfl (e := 39) rfl rfl (by decide) (by omega) (by decide) ?_
      refine wx_aload_n rfl (e := 40) rfl rfl ?_
      refine wx_dup rfl (e := 41) rfl rfl ?_
      refine wx_geti rfl (e := 44) rfl rfl ?_
      rw [wr_other _ _ _ _ (by decide), wr_other _ _ _ _ (by decide), hDd.2.1]
      refine wx_iconst (v := (nI 1)) rfl (e := 45) rfl (by decide) ?_
      refine wn_iadd rfl (e := 46) rfl ?_
      refine wx_puti rfl (e := 49) rfl rfl (by decide) ?_
      refine wx_aload_n rfl (e := 50) rfl rfl ?_
      refine wx_geti rfl (e := 53) rfl rfl ?_
      rw [wr_eq]
      refine wx_iconst (v := (nI 1)) rfl (e := 54) rfl (by decide) ?_
      refine wn_isub rfl (e := 55) rfl (by omega) ?_
      refine wx_iret rfl rfl rfl ⟨by decide, by decide⟩ ?_
      simp only [tTell, f_1, g_1, Bool.and_true, Bool.true_and, Bool.false_and, Bool.and_false, Bool.false_eq_true, eq_self, if_true, if_false] at hq
      rw [if_neg c_6] at hq
      have g2 : ∀ q, q ≠ 55 → q ≠ 95 → q ≠ 96 → wr (wr (wr I 95 (gW s).2.2 (nI k1)) 96 (gW s).2.2 (vp_nar .boolean (b1 w))) 55 61 (nI ((gW s).2.2 + 1)) q = I q := fun q a b c => by rw [wr_other _ _ _ _ a, wr_other _ _ _ _ c, wr_other _ _ _ _ b]
      have k2 : ∀ k, k ≠ 61 → wr (wr (wr I 95 (gW s).2.2 (nI k1)) 96 (gW s).2.2 (vp_nar .boolean (b1 w))) 55 61 (nI ((gW s).2.2 + 1)) 55 k = I 55 k := fun k hk => by rw [wr_ne _ _ _ _ hk, wr_other _ _ _ _ (by decide), wr_other _ _ _ _ (by decide)]
      obtain ⟨e1, e2, e3⟩ := hI.base (I2 := wr (wr (wr I 95 (gW s).2.2 (nI k1)) 96 (gW s).2.2 (vp_nar .boolean (b1 w))) 55 61 (nI ((gW s).2.2 + 1))) (fun q hq => g2 q (by omega) (by omega) (by omega)) (k2 18 (by decide)) (k2 17 (by decide))
      rw [show (gW s).2.2 + 1 - 1 = (gW s).2.2 by omega]
      refine hq _ (fun q h => g2 q (by omega) (by omega) (by omega)) ⟨e1, e2, hN.kept (g2 _ (by decide) (by decide) (by decide)), hHh.kept (k2 _ (by decide)) (g2 _ (by decide) (by decide) (by decide)), hSs.kept (g2 _ (by decide) (by decide) (by decide)) (g2 _ (by decide) (by decide) (by decide)), ⟨by show (gW s).2.2 + 1 ≤ 20; omega, wr_eq _ _ _ _, fun j hj => ?_⟩, hPp.kept (k2 _ (by decide)) (g2 _ (by decide) (by decide) (by decide)), e3⟩
      have hj : j < (gW s).2.2 + 1 := hj
      have q95 : (wr (wr (wr I 95 (gW s).2.2 (nI k1)) 96 (gW s).2.2 (vp_nar .boolean (b1 w))) 55 61 (nI ((gW s).2.2 + 1))) 95 j = wr I 95 (gW s).2.2 (nI k1) 95 j := by rw [wr_other _ _ _ _ (by decide), wr_other _ _ _ _ (by decide)]
      have q96 : (wr (wr (wr I 95 (gW s).2.2 (nI k1)) 96 (gW s).2.2 (vp_nar .boolean (b1 w))) 55 61 (nI ((gW s).2.2 + 1))) 96 j = wr (wr I 95 (gW s).2.2 (nI k1)) 96 (gW s).2.2 (vp_nar .boolean (b1 w)) 96 j := by rw [wr_other _ _ _ _ (by decide)]
      rw [q95, q96]
      show _ = nI (if j = (gW s).2.2 then k1 else (gW s).1 j) ∧ _ = b1 (if j = (gW s).2.2 then w else (gW s).2.1 j)
      by_cases z : j = (gW s).2.2
      · rw [if_pos z, if_pos z, z, wr_eq, wr_eq]; exact ⟨rfl, nar_b1 w⟩
      · rw [if_neg z, if_neg z, wr_ne _ _ _ _ z, wr_ne _ _ _ _ z, wr_other _ _ _ _ (by decide)]; exact hDd.2.2 j (by omega)
    · have f_1 : inS a (tP (gT s)) = false := in_n no1
      refine wn_if_ne rfl (e := 17) rfl (by omega) (fun c_14 => absurd c_14 (by omega)) (fun c_14 => ?_)
      refine wx_iconst (v := (-1)) rfl (e := 18) rfl (by decide) ?_
      refine wx_iret rfl rfl rfl ⟨by decide, by decide⟩ ?_
      simp only [tTell, f_1, Bool.and_true, Bool.true_and, Bool.false_and, Bool.and_false, Bool.false_eq_true, eq_self, if_true, if_false] at hq
      exact hq I (fun _ _ => rfl) hI
theorem c_X11_forget {d Lx t rt u : Nat} {I : Nat → Nat → Int32} {G : Nat → Nat → Int64} {Q : ab_Q} {s : gs} {n0 lv : Nat} (hI : MI lv I s) (hg : gok n0 s)  (hq : ∀ I2, (∀ q, q < 55 ∨ (77 ≤ q ∧ q ≤ 85) ∨ 98 < q → I2 q = I q) → MI lv I2 (tForget s).2 → Q (some (.int (tForget s).1)) (hp Lx t rt u I2 G)) : ab_call ab_MT (d + 1) 289 [.ref 55] (hp Lx t rt u I G) 0 0 Q := by
  obtain ⟨hM, hD1, hN, hHh, hSs, hDd, hPp, hpl⟩ := id hI
  obtain ⟨hlv, ⟨hC6, hR6, hP5, hH, hTf, hFn, hLx⟩, m18, m65, m69, m72, m76, m71, m89, m73, mL⟩ := id hM
  have hL := hg.1.1
  have hr := hL.2.1
  have hb := hg.1.2.1
  refine wx_in (M := mX11_forget) rfl rfl rfl (Nat.le_of_ble_eq_true rfl) ?_
  refine wx_aload_n rfl (e := 1) rfl rfl ?_
  refine wx_geti rfl (e := 4) rfl rfl ?_
  rw [hDd.2.1]
  refine wx_istore_n (L2 := [_, _]) rfl (e := 5) rfl (by decide) rfl ?_
  refine wx_aload_n rfl (e := 6) rfl rfl ?_
  refine wx_iconst (v := (nI 0)) rfl (e := 7) rfl (by decide) ?_
  refine wx_puti rfl (e := 10) rfl rfl (by decide) ?_
  refine wx_iload_n rfl (e := 11) rfl rfl ?_
  refine wx_iret rfl rfl rfl ⟨by decide, by decide⟩ ?_
  have g2 : ∀ q, q ≠ 55 → wr I 55 61 (nI 0) q = I q := fun q a => wr_other _ _ _ _ a
  have k2 : ∀ k, k ≠ 61 → wr I 55 61 (nI 0) 55 k = I 55 k := fun k hk => wr_ne _ _ _ _ hk
  obtain ⟨e1, e2, e3⟩ := hI.base (I2 := wr I 55 61 (nI 0)) (fun q hq => g2 q (by omega)) (k2 18 (by decide)) (k2 17 (by decide))
  exact hq _ (fun q h => g2 q (by omega)) ⟨e1, e2, hN.kept (g2 _ (by decide)), hHh.kept (k2 _ (by decide)) (g2 _ (by decide)), hSs.kept (g2 _ (by decide)) (g2 _ (by decide)), ⟨Nat.zero_le _, wr_eq _ _ _ _, fun j hj => absurd hj (Nat.not_lt_zero _)⟩, hPp.kept (k2 _ (by decide)) (g2 _ (by decide)), e3⟩
theorem c_X11_feed {d Lx t rt u : Nat} {I : Nat → Nat → Int32} {G : Nat → Nat → Int64} {Q : ab_Q} {s : gs} {n0 lv : Nat} (hI : MI lv I s) (hg : gok n0 s) {a b c e f : Int32}  (hq : ∀ I2, (∀ q, q < 55 ∨ (77 ≤ q ∧ q ≤ 85) ∨ 98 < q → I2 q = I q) → MI lv I2 (tFeed s a b c e f).2 → Q (some (.int (tFeed s a b c e f).1)) (hp Lx t rt u I2 G)) : ab_call ab_MT (d + 2) 183 [.ref 55, .int a, .int b, .int c, .int e, .int f] (hp Lx t rt u I G) 0 0 Q := by
  obtain ⟨hM, hD1, hN, hHh, hSs, hDd, hPp, hpl⟩ := id hI
  obtain ⟨hlv, ⟨hC6, hR6, hP5, hH, hTf, hFn, hLx⟩, m18, m65, m69, m72, m76, m71, m89, m73, mL⟩ := id hM
  have hL := hg.1.1
  have hr := hL.2.1
  have hb := hg.1.2.1
  refine wx_in (M := mX11_feed) rfl rfl rfl (Nat.le_of_ble_eq_true rfl) ?_
  refine wx_aload_n rfl (e := 1) rfl rfl ?_
  refine wx_geti rfl (e := 4) rfl rfl ?_
  rw [hPp.2.1]
  have hb2 := hPp.1
  refine wx_bipush (v := (nI 20)) rfl (e := 6) rfl (by decide) ?_
  refine wn_iadd rfl (e := 7) rfl ?_
  refine wx_sipush (v := (nI 2000)) rfl (e := 10) rfl (by decide) ?_
  refine wn_ic_le rfl (e := 13) rfl (by omega) (by omega) (fun c_10 => ?_) (fun c_10 => ?_)
  · refine wx_aload_n rfl (e := 16) rfl rfl ?_
    refine wx_iload_n rfl (e := 17) rfl rfl ?_
    refine wx_cv1 (mc := 0) (ms := 0) rfl (e := 20) rfl rfl (Nat.le_of_ble_eq_true rfl) ⟨by decide, by decide⟩ ?_
    refine c_X11_put hPp (by omega) (fun I1 f1 B1 => ?_)
    refine wx_aload_n rfl (e := 21) rfl rfl ?_
    refine wx_iload_n rfl (e := 22) rfl rfl ?_
    refine wx_cv1 (mc := 0) (ms := 0) rfl (e := 25) rfl rfl (Nat.le_of_ble_eq_true rfl) ⟨by decide, by decide⟩ ?_
    refine c_X11_put B1 (by omega) (fun I2 f2 B2 => ?_)
    refine wx_aload_n rfl (e := 26) rfl rfl ?_
    refine wx_iload_n rfl (e := 27) rfl rfl ?_
    refine wx_cv1 (mc := 0) (ms := 0) rfl (e := 30) rfl rfl (Nat.le_of_ble_eq_true rfl) ⟨by decide, by decide⟩ ?_
    refine c_X11_put B2 (by omega) (fun I3 f3 B3 => ?_)
    refine wx_aload_n rfl (e := 31) rfl rfl ?_
    refine wx_iload rfl (e := 33) rfl rfl ?_
    refine wx_cv1 (mc := 0) (ms := 0) rfl (e := 36) rfl rfl (Nat.le_of_ble_eq_true rfl) ⟨by decide, by decide⟩ ?_
    refine c_X11_put B3 (by omega) (fun I4 f4 B4 => ?_)
    refine wx_aload_n rfl (e := 37) rfl rfl ?_
    refine wx_iload rfl (e := 39) rfl rfl ?_
    refine wx_cv1 (mc := 0) (ms := 0) rfl (e := 42) rfl rfl (Nat.le_of_ble_eq_true rfl) ⟨by decide, by decide⟩ ?_
    refine c_X11_put B4 (by omega) (fun I5 f5 B5 => ?_)
    refine wx_aload_n rfl (e := 43) rfl rfl ?_
    refine wx_geti rfl (e := 46) rfl rfl ?_
    rw [B5.2.1]
    refine wx_iret rfl rfl rfl ⟨by decide, by decide⟩ ?_
    unfold tFeed at hq
    rw [if_pos (by omega)] at hq
    have ff := f1.tr (f2.tr (f3.tr (f4.tr f5)))
    have g2 := ff.1
    have k2 := ff.2
    obtain ⟨e1, e2, e3⟩ := hI.base (I2 := I5) (fun q hq => g2 q (by omega) (by omega)) (k2 18 (by decide)) (k2 17 (by decide))
    exact hq _ (fun q h => g2 q (by omega) (by omega)) ⟨e1, e2, hN.kept (g2 _ (by decide) (by decide)), hHh.kept (k2 _ (by decide)) (g2 _ (by decide) (by decide)), hSs.kept (g2 _ (by decide) (by decide)) (g2 _ (by decide) (by decide)), hDd.kept (k2 _ (by decide)) (g2 _ (by decide) (by decide)) (g2 _ (by decide) (by decide)), B5, e3⟩
  · refine wx_iconst (v := (-1)) rfl (e := 14) rfl (by decide) ?_
    refine wx_iret rfl rfl rfl ⟨by decide, by decide⟩ ?_
    unfold tFeed at hq
    rw [if_neg (by omega)] at hq
    exact hq I (fun _ _ => rfl) hI
theorem c_X11_back {d Lx t rt u : Nat} {I : Nat → Nat → Int32} {G : Nat → Nat → Int64} {Q : ab_Q} {s : gs} {n0 lv : Nat} (hI : MI lv I s) (hg : gok n0 s) {v : Int32} (hq : ∀ I2, (∀ q, q < 55 ∨ (77 ≤ q ∧ q ≤ 85) ∨ 98 < q → I2 q = I q) → MI lv I2 (tBack s v).2 → Q (some (.int (tBack s v).1)) (hp Lx t rt u I2 G)) : ab_call ab_MT (d + 1) 185 [.ref 55, .int v] (hp Lx t rt u I G) 0 0 Q := by
  obtain ⟨hM, hD1, hN, hHh, hSs, hDd, hPp, hpl⟩ := id hI
  obtain ⟨hlv, ⟨hC6, hR6, hP5, hH, hTf, hFn, hLx⟩, m18, m65, m69, m72, m76, m71, m89, m73, mL⟩ := id hM
  have hL := hg.1.1
  have hr := hL.2.1
  have hb := hg.1.2.1
  refine wx_in (M := mX11_back) rfl rfl rfl (Nat.le_of_ble_eq_true rfl) ?_
  refine wx_iload_n rfl (e := 1) rfl rfl ?_
  refine wx_if_lt rfl (e := 4) rfl (fun c_1 => ?_) (fun c_1 => ?_)
  · have f_1 : wiS v 0 (gB s).2 = false := wi_n (fun k _ h2 e => by rw [e] at c_1; have := hPp.1; exact absurd c_1 (nI_pos (by omega)))
    refine wx_iconst (v := (-1)) rfl (e := 13) rfl (by decide) ?_
    refine wx_iret rfl rfl rfl ⟨by decide, by decide⟩ ?_
    unfold tBack at hq
    rw [if_neg (by rw [f_1]; decide)] at hq
    exact hq I (fun _ _ => rfl) hI
  · obtain ⟨k1, hk1, rfl⟩ := nI_of c_1
    refine wx_iload_n rfl (e := 5) rfl rfl ?_
    refine wx_aload_n rfl (e := 6) rfl rfl ?_
    refine wx_geti rfl (e := 9) rfl rfl ?_
    rw [hPp.2.1]
    have hb2 := hPp.1
    refine wn_ic_le rfl (e := 12) rfl (by omega) (by omega) (fun c_9 => ?_) (fun c_9 => ?_)
    · refine wx_aload_n rfl (e := 15) rfl rfl ?_
      refine wx_dup rfl (e := 16) rfl rfl ?_
      refine wx_geti rfl (e := 19) rfl rfl ?_
      rw [hPp.2.1]
      refine wx_iload_n rfl (e := 20) rfl rfl ?_
      refine wn_isub rfl (e := 21) rfl (by omega) ?_
      refine wx_puti rfl (e := 24) rfl rfl (by decide) ?_
      refine wx_aload_n rfl (e := 25) rfl rfl ?_
      refine wx_geti rfl (e := 28) rfl rfl ?_
      rw [wr_eq]
      refine wx_iret rfl rfl rfl ⟨by decide, by decide⟩ ?_
      unfold tBack at hq
      rw [if_pos (wi_y (Nat.zero_le _) c_9 (by omega)), kS_n hk1] at hq
      have g2 : ∀ q, q ≠ 55 → wr I 55 2 (nI ((gB s).2 - k1)) q = I q := fun q a => wr_other _ _ _ _ a
      have k2 : ∀ k, k ≠ 2 → wr I 55 2 (nI ((gB s).2 - k1)) 55 k = I 55 k := fun k hk => wr_ne _ _ _ _ hk
      obtain ⟨e1, e2, e3⟩ := hI.base (I2 := wr I 55 2 (nI ((gB s).2 - k1))) (fun q hq => g2 q (by omega)) (k2 18 (by decide)) (k2 17 (by decide))
      exact hq _ (fun q h => g2 q (by omega)) ⟨e1, e2, hN.kept (g2 _ (by decide)), hHh.kept (k2 _ (by decide)) (g2 _ (by decide)), hSs.kept (g2 _ (by decide)) (g2 _ (by decide)), hDd.kept (k2 _ (by decide)) (g2 _ (by decide)) (g2 _ (by decide)), ⟨by show (gB s).2 - k1 ≤ 2000; omega, wr_eq _ _ _ _, fun j hj => by rw [g2 _ (by decide)]; have hj : j < (gB s).2 - k1 := hj; exact hPp.2.2 j (by omega)⟩, e3⟩
    · refine wx_iconst (v := (-1)) rfl (e := 13) rfl (by decide) ?_
      refine wx_iret rfl rfl rfl ⟨by decide, by decide⟩ ?_
      unfold tBack at hq
      rw [if_neg (by rw [wi_n (fun k _ h2 e => by have := (nI_eq hk1 (by omega)).mp e; omega)]; decide)] at hq
      exact hq I (fun _ _ => rfl) hI

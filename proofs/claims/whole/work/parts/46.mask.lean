/-! more calls of the model that ask -/
theorem wk_amx (T : tx) (r : rw_) : ∀ e, wkL T r e = amx (fun e => likS T r e (bnS T r e)) e
  | 0 => rfl
  | e + 1 => by rw [wkL, amx, wk_amx T r e]
theorem lik_n (T : tx) (r : rw_) (e n : Nat) : ∃ k, k < 2 ^ 31 ∧ likS T r e n = nI k := by
  obtain ⟨a, h1, h2⟩ := held_n (v := tL T 3 (fun k => if k = 8 then b1 (tT T e) else if k = 5 then nI n else if k = 1 then r (12 + chN r e) else vs0 r (chN r e) k)) (m := 100) (by decide)
  obtain ⟨b, h3, h4⟩ := held_n (v := tL T 4 (fun k => if k = 6 then r (chN r e) else if k = 5 then nI n else vs0 r (chN r e) k)) (m := 100) (by decide)
  have h5 : leavS T r (chN r e) e n = nI a := h2
  have h6 : caugS T r (chN r e) (r (chN r e)) n = nI b := h4
  refine ⟨a * (100 - b), ?_, ?_⟩
  · have := Nat.mul_le_mul h1 (Nat.sub_le 100 b); omega
  · unfold likS; rw [h5, h6, pk_sub h3, pk_mul]
set_option maxHeartbeats 1000000 in
theorem c_X11_weak {d Lx t rt u : Nat} {I : Nat → Nat → Int32} {G : Nat → Nat → Int64} {Q : ab_Q} {s : gs} {n0 lv : Nat} (hI : MI lv I s) (hg : gok n0 s) {w : Int32}  (hq : ∀ I2, fmq I I2 → Q (some (.int (aWeak s w))) (hp Lx t rt u I2 G)) : ab_call ab_MT (d + 7) 268 [.ref 55, .int w] (hp Lx t rt u I G) 0 0 Q := by
  obtain ⟨hM, hD1, hN, hHh, hSs, hDd, hPp, hpl⟩ := id hI
  obtain ⟨hlv, ⟨hC6, hR6, hP5, hH, hTf, hFn, hLx⟩, m18, m65, m69, m72, m76, m71, m89, m73, mL⟩ := id hM
  have hL := hg.1.1
  have hr := hL.2.1
  have hb := hg.1.2.1
  refine wx_in (M := mX11_weak) rfl rfl rfl (Nat.le_of_ble_eq_true rfl) ?_
  refine wx_iload_n rfl (e := 1) rfl rfl ?_
  refine wx_iconst (v := (nI 0)) rfl (e := 2) rfl (by decide) ?_
  refine wx_iconst (v := (nI 2)) rfl (e := 3) rfl (by decide) ?_
  refine wx_cs3 (mc := 0) (ms := 0) rfl (e := 6) rfl (Nat.le_of_ble_eq_true rfl) ⟨by decide, by decide⟩ ?_
  refine c_X11_in (lo := 0) (hi := 2) (by omega) (by omega) (fun k1 a1 b1 ek1 => ?_) (fun no1 => ?_)
  · subst ek1
    have f_1 : wiS (nI k1) (0) (2) = true := wi_y a1 b1 (by omega)
    have g_1 : kS (nI k1) = k1 := kS_n (by omega)
    refine wn_if_ne rfl (e := 9) rfl (by omega) (fun c_6 => ?_) (fun c_6 => absurd c_6 (by omega))
    refine wx_aload_n rfl (e := 12) rfl rfl ?_
    refine wx_cv0 (mc := 0) (ms := 0) rfl (e := 15) rfl rfl (Nat.le_of_ble_eq_true rfl) ⟨by decide, by decide⟩ ?_
    refine c_cp hM hN (fun I2 f2 T2 N2 R2 h54 => ?_)
    refine wx_bipush (v := (-2)) rfl (e := 17) rfl (by decide) ?_
    refine wx_istore_n (L2 := [_, _, _, _, _, _]) rfl (e := 18) rfl (by decide) rfl ?_
    refine wx_bipush (v := (-2)) rfl (e := 20) rfl (by decide) ?_
    refine wx_istore_n (L2 := [_, _, _, _, _, _]) rfl (e := 21) rfl (by decide) rfl ?_
    refine wx_iconst (v := (nI 0)) rfl (e := 22) rfl (by decide) ?_
    refine wx_istore (L2 := [_, _, _, _, _, _]) rfl (e := 24) rfl (by decide) rfl ?_
    simp only [aWeak, f_1, g_1, Bool.and_true, Bool.true_and, Bool.false_and, Bool.and_false, Bool.false_eq_true, eq_self, if_true, if_false] at hq
    have fin : ∀ (I2 : Nat → Nat → Int32), fmq I I2 → MR I2 (gR s) → ∀ x4 x5, WP (d + 6) mX11_weak Q 73 [some (.ref 55), some (.int (nI k1)), some (.int (am2 (fun e => likS (gT s) (gR s) e (bnS (gT s) (gR s) e)) (tR (gT s))).1), some (.int (am2 (fun e => likS (gT s) (gR s) e (bnS (gT s) (gR s) e)) (tR (gT s))).2), x4, x5] [] (hp Lx t rt u I2 G) 0 0 := by
      intro I2 f2 R2 x4 x5
      rw [am2_1, ← wk_amx]
      show WP _ _ _ _ [_, _, some (.int (wkS (gT s) (gR s))), _, _, _] _ _ _ _
      refine wx_iload_n rfl (e := 74) rfl rfl ?_
      refine wx_if_lt rfl (e := 77) rfl (fun c_74 => ?_) (fun c_74 => ?_)
      · rw [← nI_0] at c_74
        refine wx_iload_n rfl (e := 82) rfl rfl ?_
        refine wx_goto rfl ?_
        refine wx_iret rfl rfl rfl ⟨by decide, by decide⟩ ?_
        rw [if_pos (Or.inl c_74)] at hq
        exact hq I2 f2
      · rw [← nI_0] at c_74
        obtain ⟨e, he, ee⟩ : ∃ b, b < tR (gT s) ∧ wkS (gT s) (gR s) = nI b := by
          rcases wkL_in (gT s) (gR s) (tR (gT s)) with h | h
          · exact absurd (show wkS (gT s) (gR s) < nI 0 from by unfold wkS; rw [h]; decide) c_74
          · exact h
        have ke : kS (wkS (gT s) (gR s)) = e := by rw [ee]; exact kS_n (by omega)
        refine wx_iload_n rfl (e := 78) rfl rfl ?_
        refine wn_if_ne rfl (e := 81) rfl (by omega) (fun c_78 => ?_) (fun c_78 => ?_)
        · refine wx_iload_n rfl (e := 86) rfl rfl ?_
          refine wx_iconst (v := (nI 1)) rfl (e := 87) rfl (by decide) ?_
          refine wn_ic_ne rfl (e := 90) rfl (by omega) (by omega) (fun c_87 => ?_) (fun c_87 => ?_)
          · refine wx_iload_n rfl (e := 99) rfl rfl ?_
            refine wx_iret rfl rfl rfl ⟨by decide, by decide⟩ ?_
            rw [if_neg (fun z => z.elim c_74 c_78), if_neg c_87, ke] at hq
            have em : (am2 (fun e => likS (gT s) (gR s) e (bnS (gT s) (gR s) e)) (tR (gT s))).2 = likS (gT s) (gR s) e (bnS (gT s) (gR s) e) := by
              unfold am2
              rw [if_neg (by omega)]
              exact amx_val (fun e => likS (gT s) (gR s) e (bnS (gT s) (gR s) e)) _ e (by omega) (by omega) (by rw [← wk_amx]; exact ee)
            rw [em]
            exact hq I2 f2
          · refine wx_aload_n rfl (e := 91) rfl rfl ?_
            refine wx_iload_n rfl (e := 92) rfl rfl ?_
            rw [ee]
            refine wx_cv1 (mc := 0) (ms := 0) rfl (e := 95) rfl rfl (Nat.le_of_ble_eq_true rfl) ⟨by decide, by decide⟩ ?_
            refine c_X11_nightsNow (f2.T hM) R2 hL he (fun I3 f3 => ?_)
            refine wx_goto rfl ?_
            refine wx_iret rfl rfl rfl ⟨by decide, by decide⟩ ?_
            rw [if_neg (fun z => z.elim c_74 c_78), if_pos c_87, ke] at hq
            exact hq I3 (f2.tr f3.q)
        · refine wx_iload_n rfl (e := 82) rfl rfl ?_
          refine wx_goto rfl ?_
          refine wx_iret rfl rfl rfl ⟨by decide, by decide⟩ ?_
          rw [if_pos (Or.inr c_78)] at hq
          exact hq I2 f2
    have loop : ∀ (m : Nat) (e : Nat) (I2 : Nat → Nat → Int32), e ≤ tR (gT s) → tR (gT s) - e < m → fmq I I2 → MR I2 (gR s) → ∀ x5, WP (d + 6) mX11_weak Q 24 [some (.ref 55), some (.int (nI k1)), some (.int (am2 (fun e => likS (gT s) (gR s) e (bnS (gT s) (gR s) e)) e).1), some (.int (am2 (fun e => likS (gT s) (gR s) e (bnS (gT s) (gR s) e)) e).2), some (.int (nI e)), x5] [] (hp Lx t rt u I2 G) 0 0 := by
      intro m
      induction m with
      | zero => intro e I2 h1 h2; omega
      | succ m ih =>
        intro e I2 h1 h2 f2 R2 x5
        refine wx_iload rfl (e := 26) rfl rfl ?_
        refine wx_aload_n rfl (e := 27) rfl rfl ?_
        refine wx_getr rfl (e := 30) rfl rfl rfl ?_
        refine wx_aload_n rfl (e := 31) rfl rfl ?_
        refine wx_geti rfl (e := 34) rfl rfl ?_
        rw [f2.2 18 (by decide) (by decide) (by decide) (by decide), m18]
        refine wn_iald rfl (e := 35) rfl rfl (by omega) (by decide) ?_
        rw [f2.c (by omega), m69]
        refine wn_ic_ge rfl (e := 38) rfl (by omega) (by omega) (fun c_35 => ?_) (fun c_35 => ?_)
        · have ee : e = tR (gT s) := by omega
          subst ee
          exact fin I2 f2 R2 _ _
        · refine wx_aload_n rfl (e := 39) rfl rfl ?_
          refine wx_iload rfl (e := 41) rfl rfl ?_
          refine wx_aload_n rfl (e := 42) rfl rfl ?_
          refine wx_iload rfl (e := 44) rfl rfl ?_
          refine wx_cv1 (mc := 0) (ms := 0) rfl (e := 47) rfl rfl (Nat.le_of_ble_eq_true rfl) ⟨by decide, by decide⟩ ?_
          refine c_X11_nightsNow (f2.T hM) R2 hL (by omega) (fun I3 f3 => ?_)
          refine wx_cv2 (mc := 0) (ms := 0) rfl (e := 50) rfl rfl (Nat.le_of_ble_eq_true rfl) ⟨by decide, by decide⟩ ?_
          refine c_X11_theftNow ((f2.tr f3.q).T hM) (f3.R R2) hL (by omega) (fun I4 f4 => ?_)
          refine wx_istore (L2 := [_, _, _, _, _, _]) rfl (e := 52) rfl (by decide) rfl ?_
          refine wx_iload rfl (e := 54) rfl rfl ?_
          refine wx_iload_n rfl (e := 55) rfl rfl ?_
          refine wx_ic_gt rfl (e := 58) rfl (fun c_55 => ?_) (fun c_55 => ?_)
          · have hG : am2 (fun e => likS (gT s) (gR s) e (bnS (gT s) (gR s) e)) (e + 1) = (nI e, likS (gT s) (gR s) e (bnS (gT s) (gR s) e)) := am2_gt c_55
            refine wx_iload rfl (e := 63) rfl rfl ?_
            refine wx_istore_n (L2 := [_, _, _, _, _, _]) rfl (e := 64) rfl (by decide) rfl ?_
            refine wx_iload rfl (e := 66) rfl rfl ?_
            refine wx_istore_n (L2 := [_, _, _, _, _, _]) rfl (e := 67) rfl (by decide) rfl ?_
            refine wn_iinc (m := 1) (L2 := [_, _, _, _, _, _]) rfl (e := 70) rfl rfl (by decide) rfl ?_
            refine wx_goto rfl ?_
            have hh := fun x5 => ih (e + 1) I4 (by omega) (by omega) (f2.tr (f3.q.tr f4.q)) (f4.R (f3.R R2)) x5
            rw [hG] at hh
            exact hh _
          · have hG : am2 (fun e => likS (gT s) (gR s) e (bnS (gT s) (gR s) e)) (e + 1) = am2 (fun e => likS (gT s) (gR s) e (bnS (gT s) (gR s) e)) e := am2_le (by omega) (lik_n _ _ _ _) (Int32.not_lt.mp c_55)
            refine wx_goto rfl ?_
            refine wn_iinc (m := 1) (L2 := [_, _, _, _, _, _]) rfl (e := 70) rfl rfl (by decide) rfl ?_
            refine wx_goto rfl ?_
            have hh := fun x5 => ih (e + 1) I4 (by omega) (by omega) (f2.tr (f3.q.tr f4.q)) (f4.R (f3.R R2)) x5
            rw [hG] at hh
            exact hh _
    exact loop (tR (gT s) + 1) 0 I2 (by omega) (by omega) f2 R2 _
  · have f_1 : wiS w (0) (2) = false := wi_n no1
    refine wn_if_ne rfl (e := 9) rfl (by omega) (fun c_6 => absurd c_6 (by omega)) (fun c_6 => ?_)
    refine wx_iconst (v := (-1)) rfl (e := 10) rfl (by decide) ?_
    refine wx_iret rfl rfl rfl ⟨by decide, by decide⟩ ?_
    simp only [aWeak, f_1, Bool.and_true, Bool.true_and, Bool.false_and, Bool.and_false, Bool.false_eq_true, eq_self, if_true, if_false] at hq
    exact hq I fmq.rf
set_option maxHeartbeats 1000000 in
theorem c_X11_barter {d Lx t rt u : Nat} {I : Nat → Nat → Int32} {G : Nat → Nat → Int64} {Q : ab_Q} {s : gs} {n0 lv : Nat} (hI : MI lv I s) (hg : gok n0 s) {n w : Int32} (h0 : n0 ≤ 512) (hq : ∀ I2, fmq I I2 → Q (some (.int (aBarter s n w))) (hp Lx t rt u I2 G)) : ab_call ab_MT (d + 10) 274 [.ref 55, .int n, .int w] (hp Lx t rt u I G) 0 0 Q := by
  obtain ⟨hM, hD1, hN, hHh, hSs, hDd, hPp, hpl⟩ := id hI
  obtain ⟨hlv, ⟨hC6, hR6, hP5, hH, hTf, hFn, hLx⟩, m18, m65, m69, m72, m76, m71, m89, m73, mL⟩ := id hM
  have hL := hg.1.1
  have hr := hL.2.1
  have hb := hg.1.2.1
  refine wx_in (M := mX11_barter) rfl rfl rfl (Nat.le_of_ble_eq_true rfl) ?_
  refine wx_iload_n rfl (e := 1) rfl rfl ?_
  refine wx_cs1 (mc := 0) (ms := 0) rfl (e := 4) rfl (Nat.le_of_ble_eq_true rfl) ⟨by decide, by decide⟩ ?_
  refine c_X11_isFew (fun k1 a1 b1 ek1 => ?_) (fun no1 => ?_)
  · subst ek1
    have f_1 : wiS (nI k1) (1) (24) = true := wi_y a1 b1 (by omega)
    have g_1 : kS (nI k1) = k1 := kS_n (by omega)
    refine wn_if_eq rfl (e := 7) rfl (by omega) (fun c_4 => absurd c_4 (by omega)) (fun c_4 => ?_)
    refine wx_iload_n rfl (e := 8) rfl rfl ?_
    refine wx_iconst (v := (nI 0)) rfl (e := 9) rfl (by decide) ?_
    refine wx_iconst (v := (nI 1)) rfl (e := 10) rfl (by decide) ?_
    refine wx_cs3 (mc := 0) (ms := 0) rfl (e := 13) rfl (Nat.le_of_ble_eq_true rfl) ⟨by decide, by decide⟩ ?_
    refine c_X11_in (lo := 0) (hi := 1) (by omega) (by omega) (fun k2 a2 b2 ek2 => ?_) (fun no2 => ?_)
    · subst ek2
      have f_2 : wiS (nI k2) (0) (1) = true := wi_y a2 b2 (by omega)
      have g_2 : kS (nI k2) = k2 := kS_n (by omega)
      refine wn_if_ne rfl (e := 16) rfl (by omega) (fun c_13 => ?_) (fun c_13 => absurd c_13 (by omega))
      refine wx_iconst (v := (nI 0)) rfl (e := 19) rfl (by decide) ?_
      refine wx_istore_n (L2 := [_, _, _, _, _, _, _]) rfl (e := 20) rfl (by decide) rfl ?_
      refine wx_bipush (v := (-2)) rfl (e := 22) rfl (by decide) ?_
      refine wx_istore (L2 := [_, _, _, _, _, _, _]) rfl (e := 24) rfl (by decide) rfl ?_
      refine wx_iconst (v := (nI 0)) rfl (e := 25) rfl (by decide) ?_
      refine wx_istore (L2 := [_, _, _, _, _, _, _]) rfl (e := 27) rfl (by decide) rfl ?_
      simp only [aBarter, f_1, g_1, f_2, g_2, Bool.and_true, Bool.true_and, Bool.false_and, Bool.and_false, Bool.false_eq_true, eq_self, if_true, if_false] at hq
      have inner : ∀ e, e < tR (gT s) → (∀ (I2 : Nat → Nat → Int32), fmq I I2 → ∀ x6, WP (d + 9) mX11_barter Q 100 [some (.ref 55), some (.int (nI k1)), some (.int (nI k2)), some (.int (nI (brO (bgn (gT s) (gR s) k1) (tR (gT s)) (e + 1)).1)), some (.int (brO (bgn (gT s) (gR s) k1) (tR (gT s)) (e + 1)).2), some (.int (nI e)), x6] [] (hp Lx t rt u I2 G) 0 0) → ∀ (m j : Nat) (I2 : Nat → Nat → Int32), e + 1 + j ≤ tR (gT s) → tR (gT s) - (e + 1 + j) < m → fmq I I2 → WP (d + 9) mX11_barter Q 47 [some (.ref 55), some (.int (nI k1)), some (.int (nI k2)), some (.int (nI (brI (bgn (gT s) (gR s) k1) e (brO (bgn (gT s) (gR s) k1) (tR (gT s)) e) j).1)), some (.int (brI (bgn (gT s) (gR s) k1) e (brO (bgn (gT s) (gR s) k1) (tR (gT s)) e) j).2), some (.int (nI e)), some (.int (nI (e + 1 + j)))] [] (hp Lx t rt u I2 G) 0 0 := by
        intro e he go m
        induction m with
        | zero => intro j I2 h1 h2; omega
        | succ m ih =>
          intro j I2 h1 h2 f2
          refine wx_iload rfl (e := 49) rfl rfl ?_
          refine wx_aload_n rfl (e := 50) rfl rfl ?_
          refine wx_getr rfl (e := 53) rfl rfl rfl ?_
          refine wx_aload_n rfl (e := 54) rfl rfl ?_
          refine wx_geti rfl (e := 57) rfl rfl ?_
          rw [f2.2 18 (by decide) (by decide) (by decide) (by decide), m18]
          refine wn_iald rfl (e := 58) rfl rfl (by omega) (by decide) ?_
          rw [f2.c (by omega), m69]
          refine wn_ic_ge rfl (e := 61) rfl (by omega) (by omega) (fun c_58 => ?_) (fun c_58 => ?_)
          · have ej : j = tR (gT s) - (e + 1) := by omega
            subst ej
            exact go I2 f2 _
          · refine wx_aload_n rfl (e := 62) rfl rfl ?_
            refine wx_iload rfl (e := 64) rfl rfl ?_
            refine wx_iload rfl (e := 66) rfl rfl ?_
            refine wx_iload_n rfl (e := 67) rfl rfl ?_
            refine wx_cv3 (mc := 0) (ms := 0) rfl (e := 70) rfl rfl (Nat.le_of_ble_eq_true rfl) ⟨by decide, by decide⟩ ?_
            refine c_X11_isBarter (f2.T hM) (f2.N hN) hL hb h0 (by omega) (by omega) (by omega) (fun I3 f3 => ?_)
            refine wx_if_ne rfl (e := 73) rfl (fun c_70 => ?_) (fun c_70 => ?_)
            · have hg1 := b1_n0.mp c_70
              refine wn_iinc (m := 1) (L2 := [_, _, _, _, _, _, _]) rfl (e := 79) rfl rfl (by decide) rfl ?_
              refine wx_iload rfl (e := 81) rfl rfl ?_
              refine wx_if_ge rfl (e := 84) rfl (fun c_81 => ?_) (fun c_81 => ?_)
              · rw [← nI_0] at c_81
                have hG : brI (bgn (gT s) (gR s) k1) e (brO (bgn (gT s) (gR s) k1) (tR (gT s)) e) (j + 1) = ((brI (bgn (gT s) (gR s) k1) e (brO (bgn (gT s) (gR s) k1) (tR (gT s)) e) j).1 + 1, (brI (bgn (gT s) (gR s) k1) e (brO (bgn (gT s) (gR s) k1) (tR (gT s)) e) j).2) := by rw [brI, if_pos hg1, if_neg (Int32.not_lt.mpr c_81)]
                refine wn_iinc (m := 1) (L2 := [_, _, _, _, _, _, _]) rfl (e := 97) rfl rfl (by decide) rfl ?_
                refine wx_goto rfl ?_
                have hh := ih (j + 1) I3 (by omega) (by omega) (f2.tr f3)
                rw [hG] at hh
                exact hh
              · rw [← nI_0] at c_81
                have hG : brI (bgn (gT s) (gR s) k1) e (brO (bgn (gT s) (gR s) k1) (tR (gT s)) e) (j + 1) = ((brI (bgn (gT s) (gR s) k1) e (brO (bgn (gT s) (gR s) k1) (tR (gT s)) e) j).1 + 1, nI (10 * e + (e + 1 + j))) := by rw [brI, if_pos hg1, if_pos (Int32.not_le.mp c_81)]
                refine wx_bipush (v := (nI 10)) rfl (e := 86) rfl (by decide) ?_
                refine wx_iload rfl (e := 88) rfl rfl ?_
                refine wn_imul rfl (e := 89) rfl ?_
                refine wx_iload rfl (e := 91) rfl rfl ?_
                refine wn_iadd rfl (e := 92) rfl ?_
                refine wx_istore (L2 := [_, _, _, _, _, _, _]) rfl (e := 94) rfl (by decide) rfl ?_
                refine wn_iinc (m := 1) (L2 := [_, _, _, _, _, _, _]) rfl (e := 97) rfl rfl (by decide) rfl ?_
                refine wx_goto rfl ?_
                have hh := ih (j + 1) I3 (by omega) (by omega) (f2.tr f3)
                rw [hG] at hh
                exact hh
            · have hG : brI (bgn (gT s) (gR s) k1) e (brO (bgn (gT s) (gR s) k1) (tR (gT s)) e) (j + 1) = (brI (bgn (gT s) (gR s) k1) e (brO (bgn (gT s) (gR s) k1) (tR (gT s)) e) j) := by rw [brI, if_neg (by rw [b1_0.mp c_70]; decide)]
              refine wx_goto rfl ?_
              refine wn_iinc (m := 1) (L2 := [_, _, _, _, _, _, _]) rfl (e := 97) rfl rfl (by decide) rfl ?_
              refine wx_goto rfl ?_
              have hh := ih (j + 1) I3 (by omega) (by omega) (f2.tr f3)
              rw [hG] at hh
              exact hh
      have outer : ∀ (m : Nat) (e : Nat) (I2 : Nat → Nat → Int32), e ≤ tR (gT s) → tR (gT s) - e < m → fmq I I2 → ∀ x6, WP (d + 9) mX11_barter Q 27 [some (.ref 55), some (.int (nI k1)), some (.int (nI k2)), some (.int (nI (brO (bgn (gT s) (gR s) k1) (tR (gT s)) e).1)), some (.int (brO (bgn (gT s) (gR s) k1) (tR (gT s)) e).2), some (.int (nI e)), x6] [] (hp Lx t rt u I2 G) 0 0 := by
        intro m
        induction m with
        | zero => intro e I2 h1 h2; omega
        | succ m ih =>
          intro e I2 h1 h2 f2 x6
          refine wx_iload rfl (e := 29) rfl rfl ?_
          refine wx_aload_n rfl (e := 30) rfl rfl ?_
          refine wx_getr rfl (e := 33) rfl rfl rfl ?_
          refine wx_aload_n rfl (e := 34) rfl rfl ?_
          refine wx_geti rfl (e := 37) rfl rfl ?_
          rw [f2.2 18 (by decide) (by decide) (by decide) (by decide), m18]
          refine wn_iald rfl (e := 38) rfl rfl (by omega) (by decide) ?_
          rw [f2.c (by omega), m69]
          refine wn_ic_ge rfl (e := 41) rfl (by omega) (by omega) (fun c_38 => ?_) (fun c_38 => ?_)
          · refine wx_iload_n rfl (e := 107) rfl rfl ?_
            refine wn_if_ne rfl (e := 110) rfl (by omega) (fun c_107 => ?_) (fun c_107 => ?_)
            · refine wx_iload rfl (e := 116) rfl rfl ?_
              refine wx_iret rfl rfl rfl ⟨by decide, by decide⟩ ?_
              have ee : e = tR (gT s) := by omega
              subst ee
              rw [if_pos (by omega)] at hq
              exact hq I2 f2
            · refine wx_iload_n rfl (e := 111) rfl rfl ?_
              refine wx_goto rfl ?_
              refine wx_iret rfl rfl rfl ⟨by decide, by decide⟩ ?_
              have ee : e = tR (gT s) := by omega
              subst ee
              rw [if_neg (by omega)] at hq
              exact hq I2 f2
          · refine wx_iload rfl (e := 43) rfl rfl ?_
            refine wx_iconst (v := (nI 1)) rfl (e := 44) rfl (by decide) ?_
            refine wn_iadd rfl (e := 45) rfl ?_
            refine wx_istore (L2 := [_, _, _, _, _, _, _]) rfl (e := 47) rfl (by decide) rfl ?_
            refine inner e (by omega) (fun I3 f3 x => ?_) (tR (gT s) + 1) 0 I2 (by omega) (by omega) f2
            refine wn_iinc (m := 1) (L2 := [_, _, _, _, _, _, _]) rfl (e := 103) rfl rfl (by decide) rfl ?_
            refine wx_goto rfl ?_
            exact ih (e + 1) I3 (by omega) (by omega) f3 _
      exact outer (tR (gT s) + 1) 0 I (by omega) (by omega) fmq.rf _
    · have f_2 : wiS w (0) (1) = false := wi_n no2
      refine wn_if_ne rfl (e := 16) rfl (by omega) (fun c_13 => absurd c_13 (by omega)) (fun c_13 => ?_)
      refine wx_iconst (v := (-1)) rfl (e := 17) rfl (by decide) ?_
      refine wx_iret rfl rfl rfl ⟨by decide, by decide⟩ ?_
      simp only [aBarter, f_1, g_1, f_2, Bool.and_true, Bool.true_and, Bool.false_and, Bool.and_false, Bool.false_eq_true, eq_self, if_true, if_false] at hq
      exact hq I fmq.rf
  · have f_1 : wiS n (1) (24) = false := wi_n no1
    refine wn_if_eq rfl (e := 7) rfl (by omega) (fun c_4 => ?_) (fun c_4 => absurd c_4 (by omega))
    refine wx_iconst (v := (-1)) rfl (e := 17) rfl (by decide) ?_
    refine wx_iret rfl rfl rfl ⟨by decide, by decide⟩ ?_
    simp only [aBarter, f_1, Bool.and_true, Bool.true_and, Bool.false_and, Bool.and_false, Bool.false_eq_true, eq_self, if_true, if_false] at hq
    exact hq I fmq.rf
theorem c_X11_hub {d Lx t rt u : Nat} {I : Nat → Nat → Int32} {G : Nat → Nat → Int64} {Q : ab_Q} {s : gs} {n0 lv : Nat} (hI : MI lv I s) (hg : gok n0 s) (hq : ∀ I2, fmq I I2 → Q (some (.int (aHub s))) (hp Lx t rt u I2 G)) : ab_call ab_MT (d + 2) 279 [.ref 55] (hp Lx t rt u I G) 0 0 Q := by
  obtain ⟨hM, hD1, hN, hHh, hSs, hDd, hPp, hpl⟩ := id hI
  obtain ⟨hlv, ⟨hC6, hR6, hP5, hH, hTf, hFn, hLx⟩, m18, m65, m69, m72, m76, m71, m89, m73, mL⟩ := id hM
  have hL := hg.1.1
  have hr := hL.2.1
  have hb := hg.1.2.1
  have inner : ∀ c, c < tC (gT s) → (∀ x5, WP (d + 1) mX11_hub Q 63 [some (.ref 55), some (.int (amn (hbF (gT s)) c).1), some (.int (amn (hbF (gT s)) c).2), some (.int (nI c)), some (.int (hbF (gT s) c)), x5] [] (hp Lx t rt u I G) 0 0) → ∀ (m j : Nat), j ≤ tC (gT s) → tC (gT s) - j < m → WP (d + 1) mX11_hub Q 26 [some (.ref 55), some (.int (amn (hbF (gT s)) c).1), some (.int (amn (hbF (gT s)) c).2), some (.int (nI c)), some (.int (sm_ (tF (gT s) c) 0 j)), some (.int (nI j))] [] (hp Lx t rt u I G) 0 0 := by
    intro c hc go m
    induction m with
    | zero => intro j h1 h2; omega
    | succ m ih =>
      intro j h1 h2
      refine wx_iload rfl (e := 28) rfl rfl ?_
      refine wx_aload_n rfl (e := 29) rfl rfl ?_
      refine wx_getr rfl (e := 32) rfl rfl rfl ?_
      refine wx_aload_n rfl (e := 33) rfl rfl ?_
      refine wx_geti rfl (e := 36) rfl rfl ?_
      rw [m18]
      refine wn_iald rfl (e := 37) rfl rfl (by omega) (by decide) ?_
      rw [m65]
      refine wn_ic_ge rfl (e := 40) rfl (by omega) (by omega) (fun c_37 => ?_) (fun c_37 => ?_)
      · have ej : j = tC (gT s) := by omega
        subst ej
        exact go _
      · refine wx_iload rfl (e := 42) rfl rfl ?_
        refine wx_aload_n rfl (e := 43) rfl rfl ?_
        refine wx_getr rfl (e := 46) rfl rfl rfl ?_
        refine wx_bipush (v := (nI 6)) rfl (e := 48) rfl (by decide) ?_
        refine wx_iload_n rfl (e := 49) rfl rfl ?_
        refine wn_imul rfl (e := 50) rfl ?_
        refine wx_iload rfl (e := 52) rfl rfl ?_
        refine wn_iadd rfl (e := 53) rfl ?_
        refine wn_iald rfl (e := 54) rfl rfl (by omega) (by decide) ?_
        rw [m89 _ _ hc (by omega)]
        refine wx_iadd rfl (e := 55) rfl ?_
        refine wx_istore (L2 := [_, _, _, _, _, _]) rfl (e := 57) rfl (by decide) rfl ?_
        refine wn_iinc (m := 1) (L2 := [_, _, _, _, _, _]) rfl (e := 60) rfl rfl (by decide) rfl ?_
        refine wx_goto rfl ?_
        have hG : sm_ (tF (gT s) c) 0 (j + 1) = sm_ (tF (gT s) c) 0 j + tF (gT s) c j := by rw [sm_, Nat.zero_add]
        have hh := ih (j + 1) (by omega) (by omega)
        rw [hG] at hh
        exact hh
  have outer : ∀ (m : Nat) (c : Nat), c ≤ tC (gT s) → tC (gT s) - c < m → ∀ x4 x5, WP (d + 1) mX11_hub Q 7 [some (.ref 55), some (.int (amn (hbF (gT s)) c).1), some (.int (amn (hbF (gT s)) c).2), some (.int (nI c)), x4, x5] [] (hp Lx t rt u I G) 0 0 := by
    intro m
    induction m with
    | zero => intro c h1 h2 x4 x5; omega
    | succ m ih =>
      intro c h1 h2 x4 x5
      refine wx_iload_n rfl (e := 8) rfl rfl ?_
      refine wx_aload_n rfl (e := 9) rfl rfl ?_
      refine wx_getr rfl (e := 12) rfl rfl rfl ?_
      refine wx_aload_n rfl (e := 13) rfl rfl ?_
      refine wx_geti rfl (e := 16) rfl rfl ?_
      rw [m18]
      refine wn_iald rfl (e := 17) rfl rfl (by omega) (by decide) ?_
      rw [m65]
      refine wn_ic_ge rfl (e := 20) rfl (by omega) (by omega) (fun c_17 => ?_) (fun c_17 => ?_)
      · refine wx_iload_n rfl (e := 88) rfl rfl ?_
        refine wx_iret rfl rfl rfl ⟨by decide, by decide⟩ ?_
        have ec : c = tC (gT s) := by omega
        subst ec
        exact hq I fmq.rf
      · refine wx_iconst (v := (nI 0)) rfl (e := 21) rfl (by decide) ?_
        refine wx_istore (L2 := [_, _, _, _, _, _]) rfl (e := 23) rfl (by decide) rfl ?_
        refine wx_iconst (v := (nI 0)) rfl (e := 24) rfl (by decide) ?_
        refine wx_istore (L2 := [_, _, _, _, _, _]) rfl (e := 26) rfl (by decide) rfl ?_
        refine inner c (by omega) (fun x => ?_) (tC (gT s) + 1) 0 (by omega) (by omega)
        refine wx_iload_n rfl (e := 64) rfl rfl ?_
        refine wx_if_lt rfl (e := 67) rfl (fun c_64 => ?_) (fun c_64 => ?_)
        · rw [← nI_0] at c_64
          have hG : amn (hbF (gT s)) (c + 1) = (nI c, hbF (gT s) c) := by rw [amn, if_pos (Or.inl c_64)]
          refine wx_iload_n rfl (e := 77) rfl rfl ?_
          refine wx_istore_n (L2 := [_, _, _, _, _, _]) rfl (e := 78) rfl (by decide) rfl ?_
          refine wx_iload rfl (e := 80) rfl rfl ?_
          refine wx_istore_n (L2 := [_, _, _, _, _, _]) rfl (e := 81) rfl (by decide) rfl ?_
          refine wn_iinc (m := 1) (L2 := [_, _, _, _, _, _]) rfl (e := 84) rfl rfl (by decide) rfl ?_
          refine wx_goto rfl ?_
          have hh := fun x4 x5 => ih (c + 1) (by omega) (by omega) x4 x5
          rw [hG] at hh
          exact hh _ _
        · rw [← nI_0] at c_64
          refine wx_iload rfl (e := 69) rfl rfl ?_
          refine wx_iload_n rfl (e := 70) rfl rfl ?_
          refine wx_ic_lt rfl (e := 73) rfl (fun c_70 => ?_) (fun c_70 => ?_)
          · have hG : amn (hbF (gT s)) (c + 1) = (nI c, hbF (gT s) c) := by rw [amn, if_pos (Or.inr c_70)]
            refine wx_iload_n rfl (e := 77) rfl rfl ?_
            refine wx_istore_n (L2 := [_, _, _, _, _, _]) rfl (e := 78) rfl (by decide) rfl ?_
            refine wx_iload rfl (e := 80) rfl rfl ?_
            refine wx_istore_n (L2 := [_, _, _, _, _, _]) rfl (e := 81) rfl (by decide) rfl ?_
            refine wn_iinc (m := 1) (L2 := [_, _, _, _, _, _]) rfl (e := 84) rfl rfl (by decide) rfl ?_
            refine wx_goto rfl ?_
            have hh := fun x4 x5 => ih (c + 1) (by omega) (by omega) x4 x5
            rw [hG] at hh
            exact hh _ _
          · have hG : amn (hbF (gT s)) (c + 1) = amn (hbF (gT s)) c := by rw [amn, if_neg (fun z => z.elim c_64 c_70)]
            refine wx_goto rfl ?_
            refine wn_iinc (m := 1) (L2 := [_, _, _, _, _, _]) rfl (e := 84) rfl rfl (by decide) rfl ?_
            refine wx_goto rfl ?_
            have hh := fun x4 x5 => ih (c + 1) (by omega) (by omega) x4 x5
            rw [hG] at hh
            exact hh _ _
  refine wx_in (M := mX11_hub) rfl rfl rfl (Nat.le_of_ble_eq_true rfl) ?_
  refine wx_bipush (v := (-2)) rfl (e := 2) rfl (by decide) ?_
  refine wx_istore_n (L2 := [_, _, _, _, _, _]) rfl (e := 3) rfl (by decide) rfl ?_
  refine wx_iconst (v := (nI 0)) rfl (e := 4) rfl (by decide) ?_
  refine wx_istore_n (L2 := [_, _, _, _, _, _]) rfl (e := 5) rfl (by decide) rfl ?_
  refine wx_iconst (v := (nI 0)) rfl (e := 6) rfl (by decide) ?_
  refine wx_istore_n (L2 := [_, _, _, _, _, _]) rfl (e := 7) rfl (by decide) rfl ?_
  exact outer (tC (gT s) + 1) 0 (by omega) (by omega) _ _
theorem c_X11_crowd {d Lx t rt u : Nat} {I : Nat → Nat → Int32} {G : Nat → Nat → Int64} {Q : ab_Q} {s : gs} {n0 lv : Nat} (hI : MI lv I s) (hg : gok n0 s) {c : Int32}  (hq : ∀ I2, fmq I I2 → Q (some (.int (aCrowd s c))) (hp Lx t rt u I2 G)) : ab_call ab_MT (d + 5) 280 [.ref 55, .int c] (hp Lx t rt u I G) 0 0 Q := by
  obtain ⟨hM, hD1, hN, hHh, hSs, hDd, hPp, hpl⟩ := id hI
  obtain ⟨hlv, ⟨hC6, hR6, hP5, hH, hTf, hFn, hLx⟩, m18, m65, m69, m72, m76, m71, m89, m73, mL⟩ := id hM
  have hL := hg.1.1
  have hr := hL.2.1
  have hb := hg.1.2.1
  refine wx_in (M := mX11_crowd) rfl rfl rfl (Nat.le_of_ble_eq_true rfl) ?_
  refine wx_aload_n rfl (e := 1) rfl rfl ?_
  refine wx_iload_n rfl (e := 2) rfl rfl ?_
  refine wx_cv1 (mc := 0) (ms := 0) rfl (e := 5) rfl rfl (Nat.le_of_ble_eq_true rfl) ⟨by decide, by decide⟩ ?_
  refine c_X11_isChurch hM (fun k1 hk1 ek1 => ?_) (fun no1 => ?_)
  · subst ek1
    have f_1 : inS (nI k1) (tC (gT s)) = true := in_y hk1 (by omega)
    have g_1 : kS (nI k1) = k1 := kS_n (by omega)
    refine wn_if_ne rfl (e := 8) rfl (by omega) (fun c_5 => ?_) (fun c_5 => absurd c_5 (by omega))
    refine wx_aload_n rfl (e := 11) rfl rfl ?_
    refine wx_cv0 (mc := 0) (ms := 0) rfl (e := 14) rfl rfl (Nat.le_of_ble_eq_true rfl) ⟨by decide, by decide⟩ ?_
    refine c_cp hM hN (fun I2 f2 T2 N2 R2 h54 => ?_)
    refine wx_iconst (v := (nI 0)) rfl (e := 15) rfl (by decide) ?_
    refine wx_istore_n (L2 := [_, _, _, _]) rfl (e := 16) rfl (by decide) rfl ?_
    refine wx_iconst (v := (nI 0)) rfl (e := 17) rfl (by decide) ?_
    refine wx_istore_n (L2 := [_, _, _, _]) rfl (e := 18) rfl (by decide) rfl ?_
    simp only [aCrowd, f_1, g_1, Bool.and_true, Bool.true_and, Bool.false_and, Bool.and_false, Bool.false_eq_true, eq_self, if_true, if_false] at hq
    have loop : ∀ (m : Nat) (a : Nat) (I2 : Nat → Nat → Int32), a ≤ tP (gT s) → tP (gT s) - a < m → fmq I I2 → MR I2 (gR s) → WP (d + 4) mX11_crowd Q 18 [some (.ref 55), some (.int (nI k1)), some (.int (nI (cwN (gT s) (gR s) k1 a))), some (.int (nI a))] [] (hp Lx t rt u I2 G) 0 0 := by
      intro m
      induction m with
      | zero => intro a I2 h1 h2; omega
      | succ m ih =>
        intro a I2 h1 h2 f2 R2
        refine wx_iload_n rfl (e := 19) rfl rfl ?_
        refine wx_aload_n rfl (e := 20) rfl rfl ?_
        refine wx_getr rfl (e := 23) rfl rfl rfl ?_
        refine wx_aload_n rfl (e := 24) rfl rfl ?_
        refine wx_geti rfl (e := 27) rfl rfl ?_
        rw [f2.2 18 (by decide) (by decide) (by decide) (by decide), m18]
        refine wn_iald rfl (e := 28) rfl rfl (by omega) (by decide) ?_
        rw [f2.c (by omega), m72]
        refine wn_ic_ge rfl (e := 31) rfl (by omega) (by omega) (fun c_28 => ?_) (fun c_28 => ?_)
        · refine wx_iload_n rfl (e := 53) rfl rfl ?_
          refine wx_iret rfl rfl rfl ⟨by decide, by decide⟩ ?_
          have ec : a = tP (gT s) := by omega
          subst ec
          exact hq I2 f2
        · refine wx_aload_n rfl (e := 32) rfl rfl ?_
          refine wx_iload_n rfl (e := 33) rfl rfl ?_
          refine wx_cv1 (mc := 0) (ms := 0) rfl (e := 36) rfl rfl (Nat.le_of_ble_eq_true rfl) ⟨by decide, by decide⟩ ?_
          refine c_X11_goesNow (f2.T hM) R2 hr (by omega) (fun I3 f3 => ?_)
          refine wx_iload_n rfl (e := 37) rfl rfl ?_
          refine wx_ic_ne rfl (e := 40) rfl (fun c_37 => ?_) (fun c_37 => ?_)
          · have hG : cwN (gT s) (gR s) k1 (a + 1) = cwN (gT s) (gR s) k1 a := by rw [cwN, if_neg c_37]
            refine wn_iinc (m := 1) (L2 := [_, _, _, _]) rfl (e := 49) rfl rfl (by decide) rfl ?_
            refine wx_goto rfl ?_
            have hh := ih (a + 1) I3 (by omega) (by omega) (f2.tr f3.q) (f3.R R2)
            rw [hG] at hh
            exact hh
          · have hG : cwN (gT s) (gR s) k1 (a + 1) = cwN (gT s) (gR s) k1 a + 2 ^ a := by rw [cwN, if_pos c_37]
            refine wx_iload_n rfl (e := 41) rfl rfl ?_
            refine wx_iconst (v := (nI 1)) rfl (e := 42) rfl (by decide) ?_
            refine wx_iload_n rfl (e := 43) rfl rfl ?_
            refine wx_ishl rfl (e := 44) rfl ?_
            refine wx_ior rfl (e := 45) rfl ?_
            rw [or6 a (by omega) _ (cw_lt _ _ _ a)]
            refine wx_istore_n (L2 := [_, _, _, _]) rfl (e := 46) rfl (by decide) rfl ?_
            refine wn_iinc (m := 1) (L2 := [_, _, _, _]) rfl (e := 49) rfl rfl (by decide) rfl ?_
            refine wx_goto rfl ?_
            have hh := ih (a + 1) I3 (by omega) (by omega) (f2.tr f3.q) (f3.R R2)
            rw [hG] at hh
            exact hh
    exact loop (tP (gT s) + 1) 0 I2 (by omega) (by omega) f2 R2
  · have f_1 : inS c (tC (gT s)) = false := in_n no1
    refine wn_if_ne rfl (e := 8) rfl (by omega) (fun c_5 => absurd c_5 (by omega)) (fun c_5 => ?_)
    refine wx_iconst (v := (-1)) rfl (e := 9) rfl (by decide) ?_
    refine wx_iret rfl rfl rfl ⟨by decide, by decide⟩ ?_
    simp only [aCrowd, f_1, Bool.and_true, Bool.true_and, Bool.false_and, Bool.and_false, Bool.false_eq_true, eq_self, if_true, if_false] at hq
    exact hq I fmq.rf
theorem hw_g {T : tx} (hT : tok T) (sd : Int32) (r : rw_) {e v : Nat} (he : e < 6) (hv : v < 2 ^ 29) (hr : r (24 + e) = nI v) : ∀ n, n ≤ 60 → ∃ g, g ≤ 495 * n ∧ yrsS T sd r n (24 + e) = nI (v + g) ∧ (hwS T sd r e n = true ↔ 0 < g)
  | 0, _ => ⟨0, by omega, by rw [yrsS, hr]; rfl, by rw [hwS]; simp⟩
  | n + 1, hn => by
    obtain ⟨g, h1, h2, h3⟩ := hw_g hT sd r he hv hr n (by omega)
    obtain ⟨g2, h4, h5⟩ := yrS_gr hT sd (yrsS T sd r n) (k := 24 + e) (by omega) (by omega)
    have h6 : yrsS T sd r (n + 1) (24 + e) = nI (v + (g + g2)) := by
      rw [yrsS, h5, h2, nI_add, Nat.add_assoc]
    refine ⟨g + g2, by omega, h6, ?_⟩
    rw [hwS, Bool.or_eq_true, h3, decide_eq_true_iff, h6, hr, nI_ltI (by omega) (by omega)]
    omega
set_option maxHeartbeats 1000000 in
theorem c_X11_year {d Lx t rt u : Nat} {I : Nat → Nat → Int32} {G : Nat → Nat → Int64} {Q : ab_Q} {s : gs} {n0 lv : Nat} (hI : MI lv I s) (hg : gok n0 s) {e n k : Int32} (h0 : n0 ≤ 512) (hq : ∀ I2, fmq I I2 → Q (some (.int (aYear s e n k))) (hp Lx t rt u I2 G)) : ab_call ab_MT (d + 8) 283 [.ref 55, .int e, .int n, .int k] (hp Lx t rt u I G) 0 0 Q := by
  obtain ⟨hM, hD1, hN, hHh, hSs, hDd, hPp, hpl⟩ := id hI
  obtain ⟨hlv, ⟨hC6, hR6, hP5, hH, hTf, hFn, hLx⟩, m18, m65, m69, m72, m76, m71, m89, m73, mL⟩ := id hM
  have hL := hg.1.1
  have hr := hL.2.1
  have hb := hg.1.2.1
  refine wx_in (M := mX11_year) rfl rfl rfl (Nat.le_of_ble_eq_true rfl) ?_
  refine wx_aload_n rfl (e := 1) rfl rfl ?_
  refine wx_iload_n rfl (e := 2) rfl rfl ?_
  refine wx_cv1 (mc := 0) (ms := 0) rfl (e := 5) rfl rfl (Nat.le_of_ble_eq_true rfl) ⟨by decide, by decide⟩ ?_
  refine c_X11_isRelic hM (fun k1 hk1 ek1 => ?_) (fun no1 => ?_)
  · subst ek1
    have f_1 : inS (nI k1) (tR (gT s)) = true := in_y hk1 (by omega)
    have g_1 : kS (nI k1) = k1 := kS_n (by omega)
    refine wn_if_eq rfl (e := 8) rfl (by omega) (fun c_5 => absurd c_5 (by omega)) (fun c_5 => ?_)
    refine wx_iload_n rfl (e := 9) rfl rfl ?_
    refine wx_cs1 (mc := 0) (ms := 0) rfl (e := 12) rfl (Nat.le_of_ble_eq_true rfl) ⟨by decide, by decide⟩ ?_
    refine c_X11_isLong (fun k2 a2 b2 ek2 => ?_) (fun no2 => ?_)
    · subst ek2
      have f_2 : wiS (nI k2) (0) (60) = true := wi_y a2 b2 (by omega)
      have g_2 : kS (nI k2) = k2 := kS_n (by omega)
      refine wn_if_eq rfl (e := 15) rfl (by omega) (fun c_12 => absurd c_12 (by omega)) (fun c_12 => ?_)
      refine wx_iload_n rfl (e := 16) rfl rfl ?_
      refine wx_iconst (v := (nI 1)) rfl (e := 17) rfl (by decide) ?_
      refine wx_bipush (v := (nI 20)) rfl (e := 19) rfl (by decide) ?_
      refine wx_cs3 (mc := 0) (ms := 0) rfl (e := 22) rfl (Nat.le_of_ble_eq_true rfl) ⟨by decide, by decide⟩ ?_
      refine c_X11_in (lo := 1) (hi := 20) (by omega) (by omega) (fun k3 a3 b3 ek3 => ?_) (fun no3 => ?_)
      · subst ek3
        have f_3 : wiS (nI k3) (1) (20) = true := wi_y a3 b3 (by omega)
        have g_3 : kS (nI k3) = k3 := kS_n (by omega)
        refine wn_if_ne rfl (e := 25) rfl (by omega) (fun c_22 => ?_) (fun c_22 => absurd c_22 (by omega))
        refine wx_iconst (v := (nI 0)) rfl (e := 28) rfl (by decide) ?_
        refine wx_istore (L2 := [_, _, _, _, _, _]) rfl (e := 30) rfl (by decide) rfl ?_
        refine wx_iconst (v := (nI 0)) rfl (e := 31) rfl (by decide) ?_
        refine wx_istore (L2 := [_, _, _, _, _, _]) rfl (e := 33) rfl (by decide) rfl ?_
        simp only [aYear, f_1, g_1, f_2, g_2, f_3, g_3, Bool.and_true, Bool.true_and, Bool.false_and, Bool.and_false, Bool.false_eq_true, eq_self, if_true, if_false] at hq
        obtain ⟨v, hv1, hv2⟩ := hb (24 + k1) (by omega) (by omega)
        have loop : ∀ (m : Nat) (i : Nat) (I2 : Nat → Nat → Int32), i ≤ k3 → k3 - i < m → fmq I I2 → WP (d + 7) mX11_year Q 33 [some (.ref 55), some (.int (nI k1)), some (.int (nI k2)), some (.int (nI k3)), some (.int (nI (cntS (hwG (gT s) (gR s) k1 k2) i))), some (.int (nI i))] [] (hp Lx t rt u I2 G) 0 0 := by
          intro m
          induction m with
          | zero => intro i I2 h1 h2; omega
          | succ m ih =>
            intro i I2 h1 h2 f2
            refine wx_iload rfl (e := 35) rfl rfl ?_
            refine wx_iload_n rfl (e := 36) rfl rfl ?_
            refine wn_ic_ge rfl (e := 39) rfl (by omega) (by omega) (fun c_36 => ?_) (fun c_36 => ?_)
            · refine wx_iload rfl (e := 91) rfl rfl ?_
              refine wx_iret rfl rfl rfl ⟨by decide, by decide⟩ ?_
              have ei : i = k3 := by omega
              subst ei
              exact hq I2 f2
            · refine wx_aload_n rfl (e := 40) rfl rfl ?_
              refine wx_cv0 (mc := 0) (ms := 0) rfl (e := 43) rfl rfl (Nat.le_of_ble_eq_true rfl) ⟨by decide, by decide⟩ ?_
              refine c_cp (f2.T hM) (f2.N hN) (fun I3 f3 T3 N3 R3 h54 => ?_)
              refine wx_aload_n rfl (e := 44) rfl rfl ?_
              refine wx_dup rfl (e := 45) rfl rfl ?_
              refine wx_geti rfl (e := 48) rfl rfl ?_
              rw [h54]
              refine wx_iload rfl (e := 50) rfl rfl ?_
              refine wx_iadd rfl (e := 51) rfl ?_
              refine wx_puti rfl (e := 54) rfl rfl (by decide) ?_
              refine wx_aload_n rfl (e := 55) rfl rfl ?_
              refine wx_iload_n rfl (e := 56) rfl rfl ?_
              refine wx_cv1 (mc := 0) (ms := 0) rfl (e := 59) rfl rfl (Nat.le_of_ble_eq_true rfl) ⟨by decide, by decide⟩ ?_
              have F4 := fmq.w5 (I := I3) (tS (gT s) + nI i) (k := 54) (by omega)
              refine c_X11_yearsGo (F4.T T3) (R3.kept (wr_other _ _ _ _ (by decide))) hr (n := k2) (by omega) (fun I4 y4 R4 => ?_)
              rw [wr_eq] at R4
              have f4 := f2.tr (f3.tr (F4.tr y4.q))
              obtain ⟨g, h3, h4, h5⟩ := hw_g hM.2.1 (tS (gT s) + nI i) (gR s) (e := k1) (by omega) (show v < 2 ^ 29 by omega) hv2 k2 (by omega)
              refine wx_aload_n rfl (e := 60) rfl rfl ?_
              refine wx_getr rfl (e := 63) rfl rfl rfl ?_
              refine wx_bipush (v := (nI 24)) rfl (e := 65) rfl (by decide) ?_
              refine wx_iload_n rfl (e := 66) rfl rfl ?_
              refine wn_iadd rfl (e := 67) rfl ?_
              refine wn_iald rfl (e := 68) rfl rfl (by omega) (by decide) ?_
              rw [R4 _ (by omega), h4]
              refine wx_aload_n rfl (e := 69) rfl rfl ?_
              refine wx_getr rfl (e := 72) rfl rfl rfl ?_
              refine wx_bipush (v := (nI 24)) rfl (e := 74) rfl (by decide) ?_
              refine wx_iload_n rfl (e := 75) rfl rfl ?_
              refine wn_iadd rfl (e := 76) rfl ?_
              refine wn_iald rfl (e := 77) rfl rfl (by omega) (by decide) ?_
              rw [(f4.N hN) _ (by omega), hv2]
              refine wn_ic_le rfl (e := 80) rfl (by omega) (by omega) (fun c_77 => ?_) (fun c_77 => ?_)
              · have hG : cntS (hwG (gT s) (gR s) k1 k2) (i + 1) = cntS (hwG (gT s) (gR s) k1 k2) i := by rw [cntS, if_neg (by show ¬ hwS _ _ _ _ _ = true; rw [h5]; omega)]; rfl
                refine wn_iinc (m := 1) (L2 := [_, _, _, _, _, _]) rfl (e := 86) rfl rfl (by decide) rfl ?_
                refine wx_goto rfl ?_
                have hh := ih (i + 1) I4 (by omega) (by omega) f4
                rw [hG] at hh
                exact hh
              · have hG : cntS (hwG (gT s) (gR s) k1 k2) (i + 1) = cntS (hwG (gT s) (gR s) k1 k2) i + 1 := by rw [cntS, if_pos (by show hwS _ _ _ _ _ = true; rw [h5]; omega)]
                refine wn_iinc (m := 1) (L2 := [_, _, _, _, _, _]) rfl (e := 83) rfl rfl (by decide) rfl ?_
                refine wn_iinc (m := 1) (L2 := [_, _, _, _, _, _]) rfl (e := 86) rfl rfl (by decide) rfl ?_
                refine wx_goto rfl ?_
                have hh := ih (i + 1) I4 (by omega) (by omega) f4
                rw [hG] at hh
                exact hh
        exact loop (k3 + 1) 0 I (by omega) (by omega) fmq.rf
      · have f_3 : wiS k (1) (20) = false := wi_n no3
        refine wn_if_ne rfl (e := 25) rfl (by omega) (fun c_22 => absurd c_22 (by omega)) (fun c_22 => ?_)
        refine wx_iconst (v := (-1)) rfl (e := 26) rfl (by decide) ?_
        refine wx_iret rfl rfl rfl ⟨by decide, by decide⟩ ?_
        simp only [aYear, f_1, g_1, f_2, g_2, f_3, Bool.and_true, Bool.true_and, Bool.false_and, Bool.and_false, Bool.false_eq_true, eq_self, if_true, if_false] at hq
        exact hq I fmq.rf
    · have f_2 : wiS n (0) (60) = false := wi_n no2
      refine wn_if_eq rfl (e := 15) rfl (by omega) (fun c_12 => ?_) (fun c_12 => absurd c_12 (by omega))
      refine wx_iconst (v := (-1)) rfl (e := 26) rfl (by decide) ?_
      refine wx_iret rfl rfl rfl ⟨by decide, by decide⟩ ?_
      simp only [aYear, f_1, g_1, f_2, Bool.and_true, Bool.true_and, Bool.false_and, Bool.and_false, Bool.false_eq_true, eq_self, if_true, if_false] at hq
      exact hq I fmq.rf
  · have f_1 : inS e (tR (gT s)) = false := in_n no1
    refine wn_if_eq rfl (e := 8) rfl (by omega) (fun c_5 => ?_) (fun c_5 => absurd c_5 (by omega))
    refine wx_iconst (v := (-1)) rfl (e := 26) rfl (by decide) ?_
    refine wx_iret rfl rfl rfl ⟨by decide, by decide⟩ ?_
    simp only [aYear, f_1, Bool.and_true, Bool.true_and, Bool.false_and, Bool.and_false, Bool.false_eq_true, eq_self, if_true, if_false] at hq
    exact hq I fmq.rf

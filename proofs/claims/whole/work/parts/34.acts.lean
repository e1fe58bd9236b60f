/-! the calls of the class that change what goes on; beliefs; what was told -/
theorem CI.base {t : Nat} {I I2 : Nat → Nat → Int32} {s : gs} (h : CI t I s) (f : ∀ q, (t ≤ q ∧ q ≤ t + 14 ∧ q ≠ t + 5 ∧ q ≠ t + 6) ∨ q = 33 → I2 q = I q) : CT t I2 (gT s) ∧ I2 t 11 = gD s ∧ I2 33 6 = gP s := by
  refine ⟨h.1.kept (fun c h1 h2 h3 h4 => f c (Or.inl ⟨h1, h2, h3, h4⟩)), ?_, ?_⟩
  · rw [f t (Or.inl ⟨by omega, by omega, by omega, by omega⟩)]; exact h.2.1
  · rw [f 33 (Or.inr rfl)]; exact h.2.2.2.2.2.2.2
theorem CI.kp {t : Nat} {I I2 I3 : Nat → Nat → Int32} {s : gs} {r : rw_} (h : CI t I s) (f2 : ∀ q, q ≠ 48 → q ≠ 49 → I2 q = I q) (A2 : PA I2 (psh (gR s) (gH s).1) (min 40 ((gH s).2 + 1))) (f3 : frp t 39 I2 I3) (S3 : CS 39 I3 r) : CI t I3 (kpS s r) ∧ ∀ q, 55 ≤ q → I3 q = I q := by
  have hu := h.1.1
  have g3 : ∀ q, q ≠ t + 5 → q ≠ t + 6 → q ≠ 40 → q ≠ 42 → q ≠ 43 → I3 q = I2 q := f3
  have g : ∀ q, q ≠ t + 5 → q ≠ t + 6 → q ≠ 40 → q ≠ 42 → q ≠ 43 → q ≠ 48 → q ≠ 49 → I3 q = I q := fun q a b c d e f g => (g3 q a b c d e).trans (f2 q f g)
  obtain ⟨b1, b2, b3⟩ := h.base (I2 := I3) (fun q hq => g q (by omega) (by omega) (by omega) (by omega) (by omega) (by omega) (by omega))
  obtain ⟨-, -, -, -, hK, hW, hB, -⟩ := h
  refine ⟨⟨b1, b2, S3, A2.kept ?_ ?_, hK.kept ?_ ?_, hW.kept ?_ ?_ ?_, hB.kept ?_ ?_, b3⟩, fun q hq => g q (by omega) (by omega) (by omega) (by omega) (by omega) (by omega) (by omega)⟩
  · exact g3 _ (by omega) (by omega) (by omega) (by omega) (by omega)
  · exact g3 _ (by omega) (by omega) (by omega) (by omega) (by omega)
  · exact g _ (by omega) (by omega) (by omega) (by omega) (by omega) (by omega) (by omega)
  · exact g _ (by omega) (by omega) (by omega) (by omega) (by omega) (by omega) (by omega)
  · exact g _ (by omega) (by omega) (by omega) (by omega) (by omega) (by omega) (by omega)
  · exact g _ (by omega) (by omega) (by omega) (by omega) (by omega) (by omega) (by omega)
  · exact g _ (by omega) (by omega) (by omega) (by omega) (by omega) (by omega) (by omega)
  · exact g _ (by omega) (by omega) (by omega) (by omega) (by omega) (by omega) (by omega)
  · exact g _ (by omega) (by omega) (by omega) (by omega) (by omega) (by omega) (by omega)
theorem f40 {u : Nat} {I I2 : Nat → Nat → Int32} (h : ∀ q, q ≠ 40 → I2 q = I q) : frp u 39 I I2 := fun q _ _ a _ _ => h q a
theorem c_X10_steal {d Lx t rt : Nat} {I : Nat → Nat → Int32} {G : Nat → Nat → Int64} {Q : ab_Q} {s : gs} {n0 : Nat} (hC : CI t I s) (hg : gok n0 s) {e c n : Int32}  (hq : ∀ I2, (∀ q, 55 ≤ q → I2 q = I q) → CI t I2 (tSteal s e c n).2 → Q (some (.int (tSteal s e c n).1)) (hp Lx t rt t I2 G)) : ab_call ab_MT (d + 6) 147 [.ref 0, .int e, .int c, .int n] (hp Lx t rt t I G) 0 0 Q := by
  obtain ⟨hT, hD, hS, hA, hK, hW, hB, hP⟩ := id hC
  have hu := hT.1
  obtain ⟨hC6, hR6, hP5, hH, hTf, hFn, hLx⟩ := hT.2.1
  obtain ⟨-, -, t1, t2, t3, t4, t5, t6, t7, -⟩ := id hT
  have hL := hg.1.1
  have hr := hL.2.1
  refine wx_in (M := mX10_steal) rfl rfl rfl (Nat.le_of_ble_eq_true rfl) ?_
  refine wx_aload_n rfl (e := 1) rfl rfl ?_
  refine wx_getr rfl (e := 4) rfl rfl rfl ?_
  refine wx_iload_n rfl (e := 5) rfl rfl ?_
  refine wx_cv1 (mc := 0) (ms := 0) rfl (e := 8) rfl (sh_t hu) (Nat.le_of_ble_eq_true rfl) ⟨by decide, by decide⟩ ?_
  refine c_X7_hasRelic hu (n := tR (gT s)) t2 (by omega) (fun k1 hk1 ek1 => ?_) (fun no1 => ?_)
  · subst ek1
    have f_1 : inS (nI k1) (tR (gT s)) = true := in_y hk1 (by omega)
    have g_1 : kS (nI k1) = k1 := kS_n (by omega)
    refine wn_if_eq rfl (e := 11) rfl (by omega) (fun c_8 => absurd c_8 (by omega)) (fun c_8 => ?_)
    refine wx_aload_n rfl (e := 12) rfl rfl ?_
    refine wx_getr rfl (e := 15) rfl rfl rfl ?_
    refine wx_iload_n rfl (e := 16) rfl rfl ?_
    refine wx_cv1 (mc := 0) (ms := 0) rfl (e := 19) rfl (sh_t hu) (Nat.le_of_ble_eq_true rfl) ⟨by decide, by decide⟩ ?_
    refine c_X7_hasChurch hu (n := tC (gT s)) t1 (by omega) (fun k2 hk2 ek2 => ?_) (fun no2 => ?_)
    · subst ek2
      have f_2 : inS (nI k2) (tC (gT s)) = true := in_y hk2 (by omega)
      have g_2 : kS (nI k2) = k2 := kS_n (by omega)
      refine wn_if_eq rfl (e := 22) rfl (by omega) (fun c_19 => absurd c_19 (by omega)) (fun c_19 => ?_)
      refine wx_iload_n rfl (e := 23) rfl rfl ?_
      refine wx_iconst (v := (nI 1)) rfl (e := 24) rfl (by decide) ?_
      refine wx_bipush (v := (nI 9)) rfl (e := 26) rfl (by decide) ?_
      refine wx_cs3 (mc := 0) (ms := 0) rfl (e := 29) rfl (Nat.le_of_ble_eq_true rfl) ⟨by decide, by decide⟩ ?_
      refine c_X10_isWithin (lo := 1) (hi := 9) (by omega) (by decide) (fun k3 a3 b3 ek3 => ?_) (fun no3 => ?_)
      · subst ek3
        have f_3 : wiS (nI k3) (1) (9) = true := wi_y a3 b3 (by omega)
        have g_3 : kS (nI k3) = k3 := kS_n (by omega)
        refine wn_if_ne rfl (e := 32) rfl (by omega) (fun c_29 => ?_) (fun c_29 => absurd c_29 (by omega))
        refine wx_aload_n rfl (e := 35) rfl rfl ?_
        refine wx_getr rfl (e := 38) rfl rfl rfl ?_
        refine wx_bipush (v := (nI 24)) rfl (e := 40) rfl (by decide) ?_
        refine wx_iload_n rfl (e := 41) rfl rfl ?_
        refine wn_iadd rfl (e := 42) rfl ?_
        refine wx_cv1 (mc := 0) (ms := 0) rfl (e := 45) rfl rfl (Nat.le_of_ble_eq_true rfl) ⟨by decide, by decide⟩ ?_
        refine c_X5_get (c := 39) (by omega) (by omega) ?_
        rw [hS _ (by omega), cst_r _ (by omega)]
        refine wx_iload_n rfl (e := 46) rfl rfl ?_
        refine wx_ic_ne rfl (e := 49) rfl (fun c_46 => ?_) (fun c_46 => ?_)
        · refine wx_aload_n rfl (e := 53) rfl rfl ?_
          refine wx_getr rfl (e := 56) rfl rfl rfl ?_
          refine wx_aload_n rfl (e := 57) rfl rfl ?_
          refine wx_getr rfl (e := 60) rfl rfl rfl ?_
          refine wx_cv1 (mc := 0) (ms := 0) rfl (e := 63) rfl rfl (Nat.le_of_ble_eq_true rfl) ⟨by decide, by decide⟩ ?_
          refine c_X3_keep hA hS (fun I2 f2 A2 => ?_)
          have T2 : CT t I2 (gT s) := hT.kept (fun c h1 h2 h3 h4 => f2 c (by omega) (by omega))
          have S2 : CS 39 I2 (gR s) := hS.kept (f2 40 (by decide) (by decide))
          refine wx_aload_n rfl (e := 64) rfl rfl ?_
          refine wx_getr rfl (e := 67) rfl rfl rfl ?_
          refine wx_aload_n rfl (e := 68) rfl rfl ?_
          refine wx_getr rfl (e := 71) rfl rfl rfl ?_
          refine wx_iload_n rfl (e := 72) rfl rfl ?_
          refine wx_iload_n rfl (e := 73) rfl rfl ?_
          refine wx_iload_n rfl (e := 74) rfl rfl ?_
          refine wx_cv4 (mc := 0) (ms := 0) rfl (e := 77) rfl rfl (Nat.le_of_ble_eq_true rfl) ⟨by decide, by decide⟩ ?_
          refine c_X0_tryTheft T2 (s := 39) (by omega) S2 hL hk1 hk2 (fun I3 f3 S3 => ?_)
          refine wx_iret rfl rfl rfl ⟨by decide, by decide⟩ ?_
          simp only [tSteal, f_1, g_1, f_2, g_2, f_3, g_3, Bool.and_true, Bool.true_and, Bool.false_and, Bool.and_false, Bool.false_eq_true, eq_self, if_true, if_false] at hq
          rw [if_neg c_46] at hq
          obtain ⟨z1, z2⟩ := hC.kp f2 A2 (f3.p) S3
          exact hq _ z2 z1
        · refine wx_bipush (v := (-2)) rfl (e := 51) rfl (by decide) ?_
          refine wx_iret rfl rfl rfl ⟨by decide, by decide⟩ ?_
          simp only [tSteal, f_1, g_1, f_2, g_2, f_3, g_3, Bool.and_true, Bool.true_and, Bool.false_and, Bool.and_false, Bool.false_eq_true, eq_self, if_true, if_false] at hq
          rw [if_pos c_46] at hq
          exact hq I (fun _ _ => rfl) hC
      · have f_3 : wiS n (1) (9) = false := wi_n no3
        refine wn_if_ne rfl (e := 32) rfl (by omega) (fun c_29 => absurd c_29 (by omega)) (fun c_29 => ?_)
        refine wx_iconst (v := (-1)) rfl (e := 33) rfl (by decide) ?_
        refine wx_iret rfl rfl rfl ⟨by decide, by decide⟩ ?_
        simp only [tSteal, f_1, g_1, f_2, g_2, f_3, Bool.and_true, Bool.true_and, Bool.false_and, Bool.and_false, Bool.false_eq_true, eq_self, if_true, if_false] at hq
        exact hq I (fun _ _ => rfl) hC
    · have f_2 : inS c (tC (gT s)) = false := in_n no2
      refine wn_if_eq rfl (e := 22) rfl (by omega) (fun c_19 => ?_) (fun c_19 => absurd c_19 (by omega))
      refine wx_iconst (v := (-1)) rfl (e := 33) rfl (by decide) ?_
      refine wx_iret rfl rfl rfl ⟨by decide, by decide⟩ ?_
      simp only [tSteal, f_1, g_1, f_2, Bool.and_true, Bool.true_and, Bool.false_and, Bool.and_false, Bool.false_eq_true, eq_self, if_true, if_false] at hq
      exact hq I (fun _ _ => rfl) hC
  · have f_1 : inS e (tR (gT s)) = false := in_n no1
    refine wn_if_eq rfl (e := 11) rfl (by omega) (fun c_8 => ?_) (fun c_8 => absurd c_8 (by omega))
    refine wx_iconst (v := (-1)) rfl (e := 33) rfl (by decide) ?_
    refine wx_iret rfl rfl rfl ⟨by decide, by decide⟩ ?_
    simp only [tSteal, f_1, Bool.and_true, Bool.true_and, Bool.false_and, Bool.and_false, Bool.false_eq_true, eq_self, if_true, if_false] at hq
    exact hq I (fun _ _ => rfl) hC
theorem c_X10_swap {d Lx t rt : Nat} {I : Nat → Nat → Int32} {G : Nat → Nat → Int64} {Q : ab_Q} {s : gs} {n0 : Nat} (hC : CI t I s) (hg : gok n0 s) {e f : Int32}  (hq : ∀ I2, (∀ q, 55 ≤ q → I2 q = I q) → CI t I2 (tSwap s e f).2 → Q (some (.int (tSwap s e f).1)) (hp Lx t rt t I2 G)) : ab_call ab_MT (d + 5) 148 [.ref 0, .int e, .int f] (hp Lx t rt t I G) 0 0 Q := by
  obtain ⟨hT, hD, hS, hA, hK, hW, hB, hP⟩ := id hC
  have hu := hT.1
  obtain ⟨hC6, hR6, hP5, hH, hTf, hFn, hLx⟩ := hT.2.1
  obtain ⟨-, -, t1, t2, t3, t4, t5, t6, t7, -⟩ := id hT
  have hL := hg.1.1
  have hr := hL.2.1
  refine wx_in (M := mX10_swap) rfl rfl rfl (Nat.le_of_ble_eq_true rfl) ?_
  refine wx_aload_n rfl (e := 1) rfl rfl ?_
  refine wx_getr rfl (e := 4) rfl rfl rfl ?_
  refine wx_iload_n rfl (e := 5) rfl rfl ?_
  refine wx_cv1 (mc := 0) (ms := 0) rfl (e := 8) rfl (sh_t hu) (Nat.le_of_ble_eq_true rfl) ⟨by decide, by decide⟩ ?_
  refine c_X7_hasRelic hu (n := tR (gT s)) t2 (by omega) (fun k1 hk1 ek1 => ?_) (fun no1 => ?_)
  · subst ek1
    have f_1 : inS (nI k1) (tR (gT s)) = true := in_y hk1 (by omega)
    have g_1 : kS (nI k1) = k1 := kS_n (by omega)
    refine wn_if_eq rfl (e := 11) rfl (by omega) (fun c_8 => absurd c_8 (by omega)) (fun c_8 => ?_)
    refine wx_aload_n rfl (e := 12) rfl rfl ?_
    refine wx_getr rfl (e := 15) rfl rfl rfl ?_
    refine wx_iload_n rfl (e := 16) rfl rfl ?_
    refine wx_cv1 (mc := 0) (ms := 0) rfl (e := 19) rfl (sh_t hu) (Nat.le_of_ble_eq_true rfl) ⟨by decide, by decide⟩ ?_
    refine c_X7_hasRelic hu (n := tR (gT s)) t2 (by omega) (fun k2 hk2 ek2 => ?_) (fun no2 => ?_)
    · subst ek2
      have f_2 : inS (nI k2) (tR (gT s)) = true := in_y hk2 (by omega)
      have g_2 : kS (nI k2) = k2 := kS_n (by omega)
      refine wn_if_ne rfl (e := 22) rfl (by omega) (fun c_19 => ?_) (fun c_19 => absurd c_19 (by omega))
      refine wx_aload_n rfl (e := 25) rfl rfl ?_
      refine wx_getr rfl (e := 28) rfl rfl rfl ?_
      refine wx_bipush (v := (nI 24)) rfl (e := 30) rfl (by decide) ?_
      refine wx_iload_n rfl (e := 31) rfl rfl ?_
      refine wn_iadd rfl (e := 32) rfl ?_
      refine wx_cv1 (mc := 0) (ms := 0) rfl (e := 35) rfl rfl (Nat.le_of_ble_eq_true rfl) ⟨by decide, by decide⟩ ?_
      refine c_X5_get (c := 39) (by omega) (by omega) ?_
      rw [hS _ (by omega), cst_r _ (by omega)]
      refine wx_aload_n rfl (e := 36) rfl rfl ?_
      refine wx_getr rfl (e := 39) rfl rfl rfl ?_
      refine wx_bipush (v := (nI 24)) rfl (e := 41) rfl (by decide) ?_
      refine wx_iload_n rfl (e := 42) rfl rfl ?_
      refine wn_iadd rfl (e := 43) rfl ?_
      refine wx_cv1 (mc := 0) (ms := 0) rfl (e := 46) rfl rfl (Nat.le_of_ble_eq_true rfl) ⟨by decide, by decide⟩ ?_
      refine c_X5_get (c := 39) (by omega) (by omega) ?_
      rw [hS _ (by omega), cst_r _ (by omega)]
      refine wx_ic_ne rfl (e := 49) rfl (fun c_46 => ?_) (fun c_46 => ?_)
      · refine wx_aload_n rfl (e := 52) rfl rfl ?_
        refine wx_getr rfl (e := 55) rfl rfl rfl ?_
        refine wx_aload_n rfl (e := 56) rfl rfl ?_
        refine wx_getr rfl (e := 59) rfl rfl rfl ?_
        refine wx_cv1 (mc := 0) (ms := 0) rfl (e := 62) rfl rfl (Nat.le_of_ble_eq_true rfl) ⟨by decide, by decide⟩ ?_
        refine c_X3_keep hA hS (fun I2 f2 A2 => ?_)
        have T2 : CT t I2 (gT s) := hT.kept (fun c h1 h2 h3 h4 => f2 c (by omega) (by omega))
        have S2 : CS 39 I2 (gR s) := hS.kept (f2 40 (by decide) (by decide))
        refine wx_aload_n rfl (e := 63) rfl rfl ?_
        refine wx_getr rfl (e := 66) rfl rfl rfl ?_
        refine wx_iload_n rfl (e := 67) rfl rfl ?_
        refine wx_iload_n rfl (e := 68) rfl rfl ?_
        refine wx_cv2 (mc := 0) (ms := 0) rfl (e := 71) rfl rfl (Nat.le_of_ble_eq_true rfl) ⟨by decide, by decide⟩ ?_
        refine c_X5_exchange (s := 39) (by omega) S2 (by omega) (by omega) (fun I3 f3 S3 => ?_)
        refine wx_iconst (v := (nI 1)) rfl (e := 72) rfl (by decide) ?_
        refine wx_iret rfl rfl rfl ⟨by decide, by decide⟩ ?_
        simp only [tSwap, f_1, g_1, f_2, g_2, Bool.and_true, Bool.true_and, Bool.false_and, Bool.and_false, Bool.false_eq_true, eq_self, if_true, if_false] at hq
        rw [if_neg c_46] at hq
        obtain ⟨z1, z2⟩ := hC.kp f2 A2 (f40 f3) S3
        exact hq _ z2 z1
      · refine wx_iconst (v := (nI 0)) rfl (e := 50) rfl (by decide) ?_
        refine wx_iret rfl rfl rfl ⟨by decide, by decide⟩ ?_
        simp only [tSwap, f_1, g_1, f_2, g_2, Bool.and_true, Bool.true_and, Bool.false_and, Bool.and_false, Bool.false_eq_true, eq_self, if_true, if_false] at hq
        rw [if_pos c_46] at hq
        exact hq I (fun _ _ => rfl) hC
    · have f_2 : inS f (tR (gT s)) = false := in_n no2
      refine wn_if_ne rfl (e := 22) rfl (by omega) (fun c_19 => absurd c_19 (by omega)) (fun c_19 => ?_)
      refine wx_iconst (v := (nI 0)) rfl (e := 23) rfl (by decide) ?_
      refine wx_iret rfl rfl rfl ⟨by decide, by decide⟩ ?_
      simp only [tSwap, f_1, g_1, f_2, Bool.and_true, Bool.true_and, Bool.false_and, Bool.and_false, Bool.false_eq_true, eq_self, if_true, if_false] at hq
      exact hq I (fun _ _ => rfl) hC
  · have f_1 : inS e (tR (gT s)) = false := in_n no1
    refine wn_if_eq rfl (e := 11) rfl (by omega) (fun c_8 => ?_) (fun c_8 => absurd c_8 (by omega))
    refine wx_iconst (v := (nI 0)) rfl (e := 23) rfl (by decide) ?_
    refine wx_iret rfl rfl rfl ⟨by decide, by decide⟩ ?_
    simp only [tSwap, f_1, Bool.and_true, Bool.true_and, Bool.false_and, Bool.and_false, Bool.false_eq_true, eq_self, if_true, if_false] at hq
    exact hq I (fun _ _ => rfl) hC
theorem c_X10_watch {d Lx t rt : Nat} {I : Nat → Nat → Int32} {G : Nat → Nat → Int64} {Q : ab_Q} {s : gs} {n0 : Nat} (hC : CI t I s) (hg : gok n0 s) {c w : Int32}  (hq : ∀ I2, (∀ q, 55 ≤ q → I2 q = I q) → CI t I2 (tWatch s c w).2 → Q (some (.int (tWatch s c w).1)) (hp Lx t rt t I2 G)) : ab_call ab_MT (d + 5) 149 [.ref 0, .int c, .int w] (hp Lx t rt t I G) 0 0 Q := by
  obtain ⟨hT, hD, hS, hA, hK, hW, hB, hP⟩ := id hC
  have hu := hT.1
  obtain ⟨hC6, hR6, hP5, hH, hTf, hFn, hLx⟩ := hT.2.1
  obtain ⟨-, -, t1, t2, t3, t4, t5, t6, t7, -⟩ := id hT
  have hL := hg.1.1
  have hr := hL.2.1
  refine wx_in (M := mX10_watch) rfl rfl rfl (Nat.le_of_ble_eq_true rfl) ?_
  refine wx_aload_n rfl (e := 1) rfl rfl ?_
  refine wx_getr rfl (e := 4) rfl rfl rfl ?_
  refine wx_iload_n rfl (e := 5) rfl rfl ?_
  refine wx_cv1 (mc := 0) (ms := 0) rfl (e := 8) rfl (sh_t hu) (Nat.le_of_ble_eq_true rfl) ⟨by decide, by decide⟩ ?_
  refine c_X7_hasChurch hu (n := tC (gT s)) t1 (by omega) (fun k1 hk1 ek1 => ?_) (fun no1 => ?_)
  · subst ek1
    have f_1 : inS (nI k1) (tC (gT s)) = true := in_y hk1 (by omega)
    have g_1 : kS (nI k1) = k1 := kS_n (by omega)
    refine wn_if_eq rfl (e := 11) rfl (by omega) (fun c_8 => absurd c_8 (by omega)) (fun c_8 => ?_)
    refine wx_iload_n rfl (e := 12) rfl rfl ?_
    refine wx_iconst (v := (nI 0)) rfl (e := 13) rfl (by decide) ?_
    refine wx_bipush (v := (nI 9)) rfl (e := 15) rfl (by decide) ?_
    refine wx_cs3 (mc := 0) (ms := 0) rfl (e := 18) rfl (Nat.le_of_ble_eq_true rfl) ⟨by decide, by decide⟩ ?_
    refine c_X10_isWithin (lo := 0) (hi := 9) (by omega) (by decide) (fun k2 a2 b2 ek2 => ?_) (fun no2 => ?_)
    · subst ek2
      have f_2 : wiS (nI k2) (0) (9) = true := wi_y a2 b2 (by omega)
      have g_2 : kS (nI k2) = k2 := kS_n (by omega)
      refine wn_if_ne rfl (e := 21) rfl (by omega) (fun c_18 => ?_) (fun c_18 => absurd c_18 (by omega))
      refine wx_aload_n rfl (e := 24) rfl rfl ?_
      refine wx_getr rfl (e := 27) rfl rfl rfl ?_
      refine wx_iconst (v := (nI 0)) rfl (e := 28) rfl (by decide) ?_
      refine wx_iload_n rfl (e := 29) rfl rfl ?_
      refine wn_iadd rfl (e := 30) rfl ?_
      refine wx_cv1 (mc := 0) (ms := 0) rfl (e := 33) rfl rfl (Nat.le_of_ble_eq_true rfl) ⟨by decide, by decide⟩ ?_
      rw [Nat.zero_add]
      refine c_X5_get (c := 39) (by omega) (by omega) ?_
      rw [hS _ (by omega), cst_w _ (by omega)]
      refine wx_iload_n rfl (e := 34) rfl rfl ?_
      refine wx_ic_ne rfl (e := 37) rfl (fun c_34 => ?_) (fun c_34 => ?_)
      · refine wx_aload_n rfl (e := 40) rfl rfl ?_
        refine wx_getr rfl (e := 43) rfl rfl rfl ?_
        refine wx_aload_n rfl (e := 44) rfl rfl ?_
        refine wx_getr rfl (e := 47) rfl rfl rfl ?_
        refine wx_cv1 (mc := 0) (ms := 0) rfl (e := 50) rfl rfl (Nat.le_of_ble_eq_true rfl) ⟨by decide, by decide⟩ ?_
        refine c_X3_keep hA hS (fun I2 f2 A2 => ?_)
        have T2 : CT t I2 (gT s) := hT.kept (fun c h1 h2 h3 h4 => f2 c (by omega) (by omega))
        have S2 : CS 39 I2 (gR s) := hS.kept (f2 40 (by decide) (by decide))
        refine wx_aload_n rfl (e := 51) rfl rfl ?_
        refine wx_getr rfl (e := 54) rfl rfl rfl ?_
        refine wx_iconst (v := (nI 0)) rfl (e := 55) rfl (by decide) ?_
        refine wx_iload_n rfl (e := 56) rfl rfl ?_
        refine wn_iadd rfl (e := 57) rfl ?_
        refine wx_iload_n rfl (e := 58) rfl rfl ?_
        refine wx_cv2 (mc := 0) (ms := 0) rfl (e := 61) rfl rfl (Nat.le_of_ble_eq_true rfl) ⟨by decide, by decide⟩ ?_
        rw [Nat.zero_add]
        refine c_X5_set (c := 39) (by omega) (by omega) ?_
        refine wx_iconst (v := (nI 1)) rfl (e := 62) rfl (by decide) ?_
        refine wx_iret rfl rfl rfl ⟨by decide, by decide⟩ ?_
        simp only [tWatch, f_1, g_1, f_2, g_2, Bool.and_true, Bool.true_and, Bool.false_and, Bool.and_false, Bool.false_eq_true, eq_self, if_true, if_false] at hq
        rw [if_neg c_34] at hq
        obtain ⟨z1, z2⟩ := hC.kp f2 A2 (f40 (fun q h => wr_other _ _ _ _ h)) (S2.setw (c := k1) (v := nI k2) (by omega))
        exact hq _ z2 z1
      · refine wx_iconst (v := (nI 0)) rfl (e := 38) rfl (by decide) ?_
        refine wx_iret rfl rfl rfl ⟨by decide, by decide⟩ ?_
        simp only [tWatch, f_1, g_1, f_2, g_2, Bool.and_true, Bool.true_and, Bool.false_and, Bool.and_false, Bool.false_eq_true, eq_self, if_true, if_false] at hq
        rw [if_pos c_34] at hq
        exact hq I (fun _ _ => rfl) hC
    · have f_2 : wiS w (0) (9) = false := wi_n no2
      refine wn_if_ne rfl (e := 21) rfl (by omega) (fun c_18 => absurd c_18 (by omega)) (fun c_18 => ?_)
      refine wx_iconst (v := (nI 0)) rfl (e := 22) rfl (by decide) ?_
      refine wx_iret rfl rfl rfl ⟨by decide, by decide⟩ ?_
      simp only [tWatch, f_1, g_1, f_2, Bool.and_true, Bool.true_and, Bool.false_and, Bool.and_false, Bool.false_eq_true, eq_self, if_true, if_false] at hq
      exact hq I (fun _ _ => rfl) hC
  · have f_1 : inS c (tC (gT s)) = false := in_n no1
    refine wn_if_eq rfl (e := 11) rfl (by omega) (fun c_8 => ?_) (fun c_8 => absurd c_8 (by omega))
    refine wx_iconst (v := (nI 0)) rfl (e := 22) rfl (by decide) ?_
    refine wx_iret rfl rfl rfl ⟨by decide, by decide⟩ ?_
    simp only [tWatch, f_1, Bool.and_true, Bool.true_and, Bool.false_and, Bool.and_false, Bool.false_eq_true, eq_self, if_true, if_false] at hq
    exact hq I (fun _ _ => rfl) hC
theorem c_X10_years {d Lx t rt : Nat} {I : Nat → Nat → Int32} {G : Nat → Nat → Int64} {Q : ab_Q} {s : gs} {n0 : Nat} (hC : CI t I s) (hg : gok n0 s) {n : Int32}  (hq : ∀ I2, (∀ q, 55 ≤ q → I2 q = I q) → CI t I2 (tYears s n).2 → Q (some (.int (tYears s n).1)) (hp Lx t rt t I2 G)) : ab_call ab_MT (d + 7) 150 [.ref 0, .int n] (hp Lx t rt t I G) 0 0 Q := by
  obtain ⟨hT, hD, hS, hA, hK, hW, hB, hP⟩ := id hC
  have hu := hT.1
  obtain ⟨hC6, hR6, hP5, hH, hTf, hFn, hLx⟩ := hT.2.1
  obtain ⟨-, -, t1, t2, t3, t4, t5, t6, t7, -⟩ := id hT
  have hL := hg.1.1
  have hr := hL.2.1
  refine wx_in (M := mX10_years) rfl rfl rfl (Nat.le_of_ble_eq_true rfl) ?_
  refine wx_iload_n rfl (e := 1) rfl rfl ?_
  refine wx_iconst (v := (nI 0)) rfl (e := 2) rfl (by decide) ?_
  refine wx_bipush (v := (nI 60)) rfl (e := 4) rfl (by decide) ?_
  refine wx_cs3 (mc := 0) (ms := 0) rfl (e := 7) rfl (Nat.le_of_ble_eq_true rfl) ⟨by decide, by decide⟩ ?_
  refine c_X10_isWithin (lo := 0) (hi := 60) (by omega) (by decide) (fun k1 a1 b1 ek1 => ?_) (fun no1 => ?_)
  · subst ek1
    have f_1 : wiS (nI k1) (0) (60) = true := wi_y a1 b1 (by omega)
    have g_1 : kS (nI k1) = k1 := kS_n (by omega)
    refine wn_if_ne rfl (e := 10) rfl (by omega) (fun c_7 => ?_) (fun c_7 => absurd c_7 (by omega))
    refine wx_iload_n rfl (e := 13) rfl rfl ?_
    refine wn_if_le rfl (e := 16) rfl (by omega) (fun c_13 => ?_) (fun c_13 => ?_)
    · refine wx_aload_n rfl (e := 47) rfl rfl ?_
      refine wx_getr rfl (e := 50) rfl rfl rfl ?_
      refine wx_bipush (v := (nI 52)) rfl (e := 52) rfl (by decide) ?_
      refine wx_cv1 (mc := 0) (ms := 0) rfl (e := 55) rfl rfl (Nat.le_of_ble_eq_true rfl) ⟨by decide, by decide⟩ ?_
      refine c_X5_get (c := 39) (by omega) (by omega) ?_
      rw [hS _ (by omega), cst_h _ (by omega)]
      refine wx_iret rfl rfl rfl ⟨by decide, by decide⟩ ?_
      simp only [tYears, f_1, g_1, Bool.and_true, Bool.true_and, Bool.false_and, Bool.and_false, Bool.false_eq_true, eq_self, if_true, if_false] at hq
      rw [if_pos (show k1 = 0 by omega)] at hq
      exact hq I (fun _ _ => rfl) hC
    · refine wx_aload_n rfl (e := 17) rfl rfl ?_
      refine wx_getr rfl (e := 20) rfl rfl rfl ?_
      refine wx_aload_n rfl (e := 21) rfl rfl ?_
      refine wx_getr rfl (e := 24) rfl rfl rfl ?_
      refine wx_cv1 (mc := 0) (ms := 0) rfl (e := 27) rfl rfl (Nat.le_of_ble_eq_true rfl) ⟨by decide, by decide⟩ ?_
      refine c_X3_keep hA hS (fun I2 f2 A2 => ?_)
      have T2 : CT t I2 (gT s) := hT.kept (fun c h1 h2 h3 h4 => f2 c (by omega) (by omega))
      have S2 : CS 39 I2 (gR s) := hS.kept (f2 40 (by decide) (by decide))
      refine wx_aload_n rfl (e := 28) rfl rfl ?_
      refine wx_getr rfl (e := 31) rfl rfl rfl ?_
      refine wx_aload_n rfl (e := 32) rfl rfl ?_
      refine wx_getr rfl (e := 35) rfl rfl rfl ?_
      refine wx_aload_n rfl (e := 36) rfl rfl ?_
      refine wx_getr rfl (e := 39) rfl rfl rfl ?_
      refine wx_cv0 (mc := 0) (ms := 0) rfl (e := 42) rfl (sh_t hu) (Nat.le_of_ble_eq_true rfl) ⟨by decide, by decide⟩ ?_
      refine c_X7_seed hu ?_
      rw [sd_u T2]
      refine wx_iload_n rfl (e := 43) rfl rfl ?_
      refine wx_cv3 (mc := 0) (ms := 0) rfl (e := 46) rfl rfl (Nat.le_of_ble_eq_true rfl) ⟨by decide, by decide⟩ ?_
      refine c_X0_pass T2 (s := 39) (by omega) S2 (by omega) hr (fun I3 f3 S3 w3 => ?_)
      refine wx_aload_n rfl (e := 47) rfl rfl ?_
      refine wx_getr rfl (e := 50) rfl rfl rfl ?_
      refine wx_bipush (v := (nI 52)) rfl (e := 52) rfl (by decide) ?_
      refine wx_cv1 (mc := 0) (ms := 0) rfl (e := 55) rfl rfl (Nat.le_of_ble_eq_true rfl) ⟨by decide, by decide⟩ ?_
      refine c_X5_get (c := 39) (by omega) (by omega) ?_
      rw [S3 _ (by omega), cst_h _ (by omega)]
      refine wx_iret rfl rfl rfl ⟨by decide, by decide⟩ ?_
      simp only [tYears, f_1, g_1, Bool.and_true, Bool.true_and, Bool.false_and, Bool.and_false, Bool.false_eq_true, eq_self, if_true, if_false] at hq
      rw [if_neg (show ¬ k1 = 0 by omega)] at hq
      obtain ⟨z1, z2⟩ := hC.kp f2 A2 (f3) S3
      exact hq _ z2 z1
  · have f_1 : wiS n (0) (60) = false := wi_n no1
    refine wn_if_ne rfl (e := 10) rfl (by omega) (fun c_7 => absurd c_7 (by omega)) (fun c_7 => ?_)
    refine wx_iconst (v := (-1)) rfl (e := 11) rfl (by decide) ?_
    refine wx_iret rfl rfl rfl ⟨by decide, by decide⟩ ?_
    simp only [tYears, f_1, Bool.and_true, Bool.true_and, Bool.false_and, Bool.and_false, Bool.false_eq_true, eq_self, if_true, if_false] at hq
    exact hq I (fun _ _ => rfl) hC
theorem c_X10_undo {d Lx t rt : Nat} {I : Nat → Nat → Int32} {G : Nat → Nat → Int64} {Q : ab_Q} {s : gs} {n0 : Nat} (hC : CI t I s) (hg : gok n0 s)  (hq : ∀ I2, (∀ q, 55 ≤ q → I2 q = I q) → CI t I2 (tUndo s).2 → Q (some (.int (tUndo s).1)) (hp Lx t rt t I2 G)) : ab_call ab_MT (d + 3) 151 [.ref 0] (hp Lx t rt t I G) 0 0 Q := by
  obtain ⟨hT, hD, hS, hA, hK, hW, hB, hP⟩ := id hC
  have hu := hT.1
  obtain ⟨hC6, hR6, hP5, hH, hTf, hFn, hLx⟩ := hT.2.1
  obtain ⟨-, -, t1, t2, t3, t4, t5, t6, t7, -⟩ := id hT
  have hL := hg.1.1
  have hr := hL.2.1
  refine wx_in (M := mX10_undo) rfl rfl rfl (Nat.le_of_ble_eq_true rfl) ?_
  refine wx_aload_n rfl (e := 1) rfl rfl ?_
  refine wx_getr rfl (e := 4) rfl rfl rfl ?_
  refine wx_aload_n rfl (e := 5) rfl rfl ?_
  refine wx_getr rfl (e := 8) rfl rfl rfl ?_
  refine wx_cv1 (mc := 0) (ms := 0) rfl (e := 11) rfl rfl (Nat.le_of_ble_eq_true rfl) ⟨by decide, by decide⟩ ?_
  refine c_X3_takeBack hA (fun z => ?_) (fun z I2 f2 S2 A2 => ?_)
  · unfold tUndo at hq
    rw [if_pos z] at hq
    refine wx_iret rfl rfl rfl ⟨by decide, by decide⟩ ?_
    exact hq I (fun _ _ => rfl) hC
  · unfold tUndo at hq
    rw [if_neg (by omega)] at hq
    refine wx_iret rfl rfl rfl ⟨by decide, by decide⟩ ?_
    obtain ⟨b1, b2, b3⟩ := hC.base (I2 := I2) (fun q hq => f2 q (by omega) (by omega))
    exact hq _ (fun q h => f2 q (by omega) (by omega)) ⟨b1, b2, S2, A2, hK.kept (f2 _ (by decide) (by decide)) (f2 _ (by decide) (by decide)), hW.kept (f2 _ (by decide) (by decide)) (f2 _ (by decide) (by decide)) (f2 _ (by decide) (by decide)), hB.kept (f2 _ (by decide) (by decide)) (f2 _ (by decide) (by decide)), b3⟩
theorem c_X10_tell {d Lx t rt : Nat} {I : Nat → Nat → Int32} {G : Nat → Nat → Int64} {Q : ab_Q} {s : gs} {n0 : Nat} (hC : CI t I s) (hg : gok n0 s) {w : Bool} {a : Int32} (hq : ∀ I2, (∀ q, 55 ≤ q → I2 q = I q) → CI t I2 (tTell s a w).2 → Q (some (.int (tTell s a w).1)) (hp Lx t rt t I2 G)) : ab_call ab_MT (d + 2) 171 [.ref 0, .int a, .int (b1 w)] (hp Lx t rt t I G) 0 0 Q := by
  obtain ⟨hT, hD, hS, hA, hK, hW, hB, hP⟩ := id hC
  have hu := hT.1
  obtain ⟨hC6, hR6, hP5, hH, hTf, hFn, hLx⟩ := hT.2.1
  obtain ⟨-, -, t1, t2, t3, t4, t5, t6, t7, -⟩ := id hT
  have hL := hg.1.1
  have hr := hL.2.1
  refine wx_in (M := mX10_tell) rfl rfl rfl (Nat.le_of_ble_eq_true rfl) ?_
  refine wx_aload_n rfl (e := 1) rfl rfl ?_
  refine wx_getr rfl (e := 4) rfl rfl rfl ?_
  refine wx_iload_n rfl (e := 5) rfl rfl ?_
  refine wx_cv1 (mc := 0) (ms := 0) rfl (e := 8) rfl (sh_t hu) (Nat.le_of_ble_eq_true rfl) ⟨by decide, by decide⟩ ?_
  refine c_X7_hasPilgrim hu (n := tP (gT s)) t3 (by omega) (fun k1 hk1 ek1 => ?_) (fun no1 => ?_)
  · subst ek1
    have f_1 : inS (nI k1) (tP (gT s)) = true := in_y hk1 (by omega)
    have g_1 : kS (nI k1) = k1 := kS_n (by omega)
    refine wn_if_eq rfl (e := 11) rfl (by omega) (fun c_8 => absurd c_8 (by omega)) (fun c_8 => ?_)
    refine wx_aload_n rfl (e := 12) rfl rfl ?_
    refine wx_getr rfl (e := 15) rfl rfl rfl ?_
    refine wx_iload_n rfl (e := 16) rfl rfl ?_
    refine wx_iload_n rfl (e := 17) rfl rfl ?_
    refine wx_cv2 (mc := 0) (ms := 0) rfl (e := 20) rfl rfl (Nat.le_of_ble_eq_true rfl) ⟨by decide, by decide⟩ ?_
    refine c_X9_add hW (fun z => ?_) (fun z I2 f2 D2 => ?_)
    · simp only [tTell, f_1, g_1, Bool.and_true, Bool.true_and, Bool.false_and, Bool.and_false, Bool.false_eq_true, eq_self, if_true, if_false] at hq
      rw [if_pos z] at hq
      refine wx_goto rfl ?_
      refine wx_iret rfl rfl rfl ⟨by decide, by decide⟩ ?_
      exact hq I (fun _ _ => rfl) hC
    · simp only [tTell, f_1, g_1, Bool.and_true, Bool.true_and, Bool.false_and, Bool.and_false, Bool.false_eq_true, eq_self, if_true, if_false] at hq
      rw [if_neg (by omega)] at hq
      refine wx_goto rfl ?_
      refine wx_iret rfl rfl rfl ⟨by decide, by decide⟩ ?_
      obtain ⟨b1, b2, b3⟩ := hC.base (I2 := I2) (fun q hq => f2 q (by omega) (by omega) (by omega))
      have fd := fun q (h1 : q ≠ 52) (h2 : q ≠ 53) (h3 : q ≠ 54) => f2 q h1 h2 h3
      exact hq _ (fun q h => f2 q (by omega) (by omega) (by omega)) ⟨b1, b2, hS.kept (f2 _ (by decide) (by decide) (by decide)), hA.kept (f2 _ (by decide) (by decide) (by decide)) (f2 _ (by decide) (by decide) (by decide)), hK.kept (f2 _ (by decide) (by decide) (by decide)) (f2 _ (by decide) (by decide) (by decide)), D2, hB.kept (f2 _ (by decide) (by decide) (by decide)) (f2 _ (by decide) (by decide) (by decide)), b3⟩
  · have f_1 : inS a (tP (gT s)) = false := in_n no1
    refine wn_if_eq rfl (e := 11) rfl (by omega) (fun c_8 => ?_) (fun c_8 => absurd c_8 (by omega))
    refine wx_iconst (v := (-1)) rfl (e := 24) rfl (by decide) ?_
    refine wx_iret rfl rfl rfl ⟨by decide, by decide⟩ ?_
    simp only [tTell, f_1, Bool.and_true, Bool.true_and, Bool.false_and, Bool.and_false, Bool.false_eq_true, eq_self, if_true, if_false] at hq
    exact hq I (fun _ _ => rfl) hC
theorem c_X10_forget {d Lx t rt : Nat} {I : Nat → Nat → Int32} {G : Nat → Nat → Int64} {Q : ab_Q} {s : gs} {n0 : Nat} (hC : CI t I s) (hg : gok n0 s)  (hq : ∀ I2, (∀ q, 55 ≤ q → I2 q = I q) → CI t I2 (tForget s).2 → Q (some (.int (tForget s).1)) (hp Lx t rt t I2 G)) : ab_call ab_MT (d + 2) 172 [.ref 0] (hp Lx t rt t I G) 0 0 Q := by
  obtain ⟨hT, hD, hS, hA, hK, hW, hB, hP⟩ := id hC
  have hu := hT.1
  obtain ⟨hC6, hR6, hP5, hH, hTf, hFn, hLx⟩ := hT.2.1
  obtain ⟨-, -, t1, t2, t3, t4, t5, t6, t7, -⟩ := id hT
  have hL := hg.1.1
  have hr := hL.2.1
  refine wx_in (M := mX10_forget) rfl rfl rfl (Nat.le_of_ble_eq_true rfl) ?_
  refine wx_aload_n rfl (e := 1) rfl rfl ?_
  refine wx_getr rfl (e := 4) rfl rfl rfl ?_
  refine wx_cv0 (mc := 0) (ms := 0) rfl (e := 7) rfl rfl (Nat.le_of_ble_eq_true rfl) ⟨by decide, by decide⟩ ?_
  refine c_X9_size hW ?_
  refine wx_istore_n (L2 := [_, _]) rfl (e := 8) rfl (by decide) rfl ?_
  refine wx_aload_n rfl (e := 9) rfl rfl ?_
  refine wx_getr rfl (e := 12) rfl rfl rfl ?_
  refine wx_cv0 (mc := 0) (ms := 0) rfl (e := 15) rfl rfl (Nat.le_of_ble_eq_true rfl) ⟨by decide, by decide⟩ ?_
  refine c_X9_clear (fun I2 f2 D2 => ?_)
  refine wx_iload_n rfl (e := 16) rfl rfl ?_
  refine wx_iret rfl rfl rfl ⟨by decide, by decide⟩ ?_
  obtain ⟨b1, b2, b3⟩ := hC.base (I2 := I2) (fun q hq => f2 q (by omega))
  exact hq _ (fun q h => f2 q (by omega)) ⟨b1, b2, hS.kept (f2 _ (by decide)), hA.kept (f2 _ (by decide)) (f2 _ (by decide)), hK.kept (f2 _ (by decide)) (f2 _ (by decide)), D2, hB.kept (f2 _ (by decide)) (f2 _ (by decide)), b3⟩
theorem c_X10_hold {d Lx t rt : Nat} {I : Nat → Nat → Int32} {G : Nat → Nat → Int64} {Q : ab_Q} {s : gs} {n0 : Nat} (hC : CI t I s) (hg : gok n0 s) {v : Int32}  (hq : ∀ I2, (∀ q, 55 ≤ q → I2 q = I q) → CI t I2 (tHold s v).2 → Q (some (.int (tHold s v).1)) (hp Lx t rt t I2 G)) : ab_call ab_MT (d + 3) 175 [.ref 0, .int v] (hp Lx t rt t I G) 0 0 Q := by
  obtain ⟨hT, hD, hS, hA, hK, hW, hB, hP⟩ := id hC
  have hu := hT.1
  obtain ⟨hC6, hR6, hP5, hH, hTf, hFn, hLx⟩ := hT.2.1
  obtain ⟨-, -, t1, t2, t3, t4, t5, t6, t7, -⟩ := id hT
  have hL := hg.1.1
  have hr := hL.2.1
  refine wx_in (M := mX10_hold) rfl rfl rfl (Nat.le_of_ble_eq_true rfl) ?_
  refine wx_aload_n rfl (e := 1) rfl rfl ?_
  refine wx_getr rfl (e := 4) rfl rfl rfl ?_
  refine wx_aload_n rfl (e := 5) rfl rfl ?_
  refine wx_getr rfl (e := 8) rfl rfl rfl ?_
  refine wx_iload_n rfl (e := 9) rfl rfl ?_
  refine wx_cv2 (mc := 0) (ms := 0) rfl (e := 12) rfl rfl (Nat.le_of_ble_eq_true rfl) ⟨by decide, by decide⟩ ?_
  refine c_X3_putInSlot hK hS (fun k hk ev I2 f2 K2 => ?_) (fun hno => ?_)
  · subst ev
    simp only [tHold, in_y hk (by omega), kS_n (show k < 2 ^ 31 by omega), Bool.and_true, Bool.true_and, Bool.false_and, Bool.and_false, Bool.false_eq_true, eq_self, if_true, if_false] at hq
    refine wx_iret rfl rfl rfl ⟨by decide, by decide⟩ ?_
    obtain ⟨b1, b2, b3⟩ := hC.base (I2 := I2) (fun q hq => f2 q (by omega) (by omega))
    exact hq _ (fun q h => f2 q (by omega) (by omega)) ⟨b1, b2, hS.kept (f2 _ (by decide) (by decide)), hA.kept (f2 _ (by decide) (by decide)) (f2 _ (by decide) (by decide)), K2, hW.kept (f2 _ (by decide) (by decide)) (f2 _ (by decide) (by decide)) (f2 _ (by decide) (by decide)), hB.kept (f2 _ (by decide) (by decide)) (f2 _ (by decide) (by decide)), b3⟩
  · simp only [tHold, in_n hno, Bool.and_true, Bool.true_and, Bool.false_and, Bool.and_false, Bool.false_eq_true, eq_self, if_true, if_false] at hq
    refine wx_iret rfl rfl rfl ⟨by decide, by decide⟩ ?_
    exact hq I (fun _ _ => rfl) hC
theorem c_X10_restore {d Lx t rt : Nat} {I : Nat → Nat → Int32} {G : Nat → Nat → Int64} {Q : ab_Q} {s : gs} {n0 : Nat} (hC : CI t I s) (hg : gok n0 s) {v : Int32}  (hq : ∀ I2, (∀ q, 55 ≤ q → I2 q = I q) → CI t I2 (tRestore s v).2 → Q (some (.int (tRestore s v).1)) (hp Lx t rt t I2 G)) : ab_call ab_MT (d + 3) 176 [.ref 0, .int v] (hp Lx t rt t I G) 0 0 Q := by
  obtain ⟨hT, hD, hS, hA, hK, hW, hB, hP⟩ := id hC
  have hu := hT.1
  obtain ⟨hC6, hR6, hP5, hH, hTf, hFn, hLx⟩ := hT.2.1
  obtain ⟨-, -, t1, t2, t3, t4, t5, t6, t7, -⟩ := id hT
  have hL := hg.1.1
  have hr := hL.2.1
  refine wx_in (M := mX10_restore) rfl rfl rfl (Nat.le_of_ble_eq_true rfl) ?_
  refine wx_aload_n rfl (e := 1) rfl rfl ?_
  refine wx_getr rfl (e := 4) rfl rfl rfl ?_
  refine wx_aload_n rfl (e := 5) rfl rfl ?_
  refine wx_getr rfl (e := 8) rfl rfl rfl ?_
  refine wx_iload_n rfl (e := 9) rfl rfl ?_
  refine wx_cv2 (mc := 0) (ms := 0) rfl (e := 12) rfl rfl (Nat.le_of_ble_eq_true rfl) ⟨by decide, by decide⟩ ?_
  refine c_X3_takeFromSlot hK hA (fun k hk ev hd I2 f2 S2 A2 => ?_) (fun hno => ?_)
  · subst ev
    simp only [tRestore, in_y hk (by omega), kS_n (show k < 2 ^ 31 by omega), hd, Bool.and_true, Bool.true_and, Bool.false_and, Bool.and_false, Bool.false_eq_true, eq_self, if_true, if_false] at hq
    refine wx_iret rfl rfl rfl ⟨by decide, by decide⟩ ?_
    obtain ⟨b1, b2, b3⟩ := hC.base (I2 := I2) (fun q hq => f2 q (by omega) (by omega))
    exact hq _ (fun q h => f2 q (by omega) (by omega)) ⟨b1, b2, S2, A2, hK.kept (f2 _ (by decide) (by decide)) (f2 _ (by decide) (by decide)), hW.kept (f2 _ (by decide) (by decide)) (f2 _ (by decide) (by decide)) (f2 _ (by decide) (by decide)), hB.kept (f2 _ (by decide) (by decide)) (f2 _ (by decide) (by decide)), b3⟩
  · have hz : (inS v 3 && (gK s).1 (kS v)) = false := by
      by_cases z : inS v 3 = true
      · have z2 := z
        unfold inS at z2
        rw [decide_eq_true_iff] at z2
        rw [hno _ z2.1 z2.2, Bool.and_false]
      · rw [Bool.not_eq_true] at z
        rw [z, Bool.false_and]
    simp only [tRestore, hz, Bool.and_true, Bool.true_and, Bool.false_and, Bool.and_false, Bool.false_eq_true, eq_self, if_true, if_false] at hq
    refine wx_iret rfl rfl rfl ⟨by decide, by decide⟩ ?_
    exact hq I (fun _ _ => rfl) hC
theorem c_X10_feed {d Lx t rt : Nat} {I : Nat → Nat → Int32} {G : Nat → Nat → Int64} {Q : ab_Q} {s : gs} {n0 : Nat} (hC : CI t I s) (hg : gok n0 s) {a b c e f : Int32}  (hq : ∀ I2, (∀ q, 55 ≤ q → I2 q = I q) → CI t I2 (tFeed s a b c e f).2 → Q (some (.int (tFeed s a b c e f).1)) (hp Lx t rt t I2 G)) : ab_call ab_MT (d + 2) 137 [.ref 0, .int a, .int b, .int c, .int e, .int f] (hp Lx t rt t I G) 0 0 Q := by
  obtain ⟨hT, hD, hS, hA, hK, hW, hB, hP⟩ := id hC
  have hu := hT.1
  obtain ⟨hC6, hR6, hP5, hH, hTf, hFn, hLx⟩ := hT.2.1
  obtain ⟨-, -, t1, t2, t3, t4, t5, t6, t7, -⟩ := id hT
  have hL := hg.1.1
  have hr := hL.2.1
  refine wx_in (M := mX10_feed) rfl rfl rfl (Nat.le_of_ble_eq_true rfl) ?_
  refine wx_aload_n rfl (e := 1) rfl rfl ?_
  refine wx_getr rfl (e := 4) rfl rfl rfl ?_
  refine wx_cv0 (mc := 0) (ms := 0) rfl (e := 7) rfl rfl (Nat.le_of_ble_eq_true rfl) ⟨by decide, by decide⟩ ?_
  refine c_X6_length ?_
  rw [hB.2.1]
  have hb2 := hB.1
  refine wx_sipush (v := (nI 1980)) rfl (e := 10) rfl (by decide) ?_
  refine wn_ic_le rfl (e := 13) rfl (by omega) (by omega) (fun c_10 => ?_) (fun c_10 => ?_)
  · refine wx_aload_n rfl (e := 16) rfl rfl ?_
    refine wx_getr rfl (e := 19) rfl rfl rfl ?_
    refine wx_iload_n rfl (e := 20) rfl rfl ?_
    refine wx_cv1 (mc := 0) (ms := 0) rfl (e := 23) rfl rfl (Nat.le_of_ble_eq_true rfl) ⟨by decide, by decide⟩ ?_
    refine c_X6_append hB (by omega) (fun I1 f1 B1 => ?_)
    refine wx_aload_n rfl (e := 24) rfl rfl ?_
    refine wx_getr rfl (e := 27) rfl rfl rfl ?_
    refine wx_iload_n rfl (e := 28) rfl rfl ?_
    refine wx_cv1 (mc := 0) (ms := 0) rfl (e := 31) rfl rfl (Nat.le_of_ble_eq_true rfl) ⟨by decide, by decide⟩ ?_
    refine c_X6_append B1 (by omega) (fun I2 f2 B2 => ?_)
    refine wx_aload_n rfl (e := 32) rfl rfl ?_
    refine wx_getr rfl (e := 35) rfl rfl rfl ?_
    refine wx_iload_n rfl (e := 36) rfl rfl ?_
    refine wx_cv1 (mc := 0) (ms := 0) rfl (e := 39) rfl rfl (Nat.le_of_ble_eq_true rfl) ⟨by decide, by decide⟩ ?_
    refine c_X6_append B2 (by omega) (fun I3 f3 B3 => ?_)
    refine wx_aload_n rfl (e := 40) rfl rfl ?_
    refine wx_getr rfl (e := 43) rfl rfl rfl ?_
    refine wx_iload rfl (e := 45) rfl rfl ?_
    refine wx_cv1 (mc := 0) (ms := 0) rfl (e := 48) rfl rfl (Nat.le_of_ble_eq_true rfl) ⟨by decide, by decide⟩ ?_
    refine c_X6_append B3 (by omega) (fun I4 f4 B4 => ?_)
    refine wx_aload_n rfl (e := 49) rfl rfl ?_
    refine wx_getr rfl (e := 52) rfl rfl rfl ?_
    refine wx_iload rfl (e := 54) rfl rfl ?_
    refine wx_cv1 (mc := 0) (ms := 0) rfl (e := 57) rfl rfl (Nat.le_of_ble_eq_true rfl) ⟨by decide, by decide⟩ ?_
    refine c_X6_append B4 (by omega) (fun I5 f5 B5 => ?_)
    refine wx_aload_n rfl (e := 58) rfl rfl ?_
    refine wx_getr rfl (e := 61) rfl rfl rfl ?_
    refine wx_cv0 (mc := 0) (ms := 0) rfl (e := 64) rfl rfl (Nat.le_of_ble_eq_true rfl) ⟨by decide, by decide⟩ ?_
    refine c_X6_length ?_
    rw [B5.2.1]
    refine wx_iret rfl rfl rfl ⟨by decide, by decide⟩ ?_
    unfold tFeed at hq
    rw [if_pos c_10] at hq
    have ff : ∀ q, q ≠ 31 → q ≠ 32 → I5 q = I q := fun q a b => (f5 q a b).trans ((f4 q a b).trans ((f3 q a b).trans ((f2 q a b).trans (f1 q a b))))
    obtain ⟨b1, b2, b3⟩ := hC.base (I2 := I5) (fun q hq => ff q (by omega) (by omega))
    exact hq _ (fun q h => ff q (by omega) (by omega)) ⟨b1, b2, hS.kept (ff _ (by decide) (by decide)), hA.kept (ff _ (by decide) (by decide)) (ff _ (by decide) (by decide)), hK.kept (ff _ (by decide) (by decide)) (ff _ (by decide) (by decide)), hW.kept (ff _ (by decide) (by decide)) (ff _ (by decide) (by decide)) (ff _ (by decide) (by decide)), B5, b3⟩
  · refine wx_iconst (v := (-1)) rfl (e := 14) rfl (by decide) ?_
    refine wx_iret rfl rfl rfl ⟨by decide, by decide⟩ ?_
    unfold tFeed at hq
    rw [if_neg (by omega)] at hq
    exact hq I (fun _ _ => rfl) hC
theorem c_X10_back {d Lx t rt : Nat} {I : Nat → Nat → Int32} {G : Nat → Nat → Int64} {Q : ab_Q} {s : gs} {n0 : Nat} (hC : CI t I s) (hg : gok n0 s) {v : Int32} (hq : ∀ I2, (∀ q, 55 ≤ q → I2 q = I q) → CI t I2 (tBack s v).2 → Q (some (.int (tBack s v).1)) (hp Lx t rt t I2 G)) : ab_call ab_MT (d + 3) 138 [.ref 0, .int v] (hp Lx t rt t I G) 0 0 Q := by
  obtain ⟨hT, hD, hS, hA, hK, hW, hB, hP⟩ := id hC
  have hu := hT.1
  obtain ⟨hC6, hR6, hP5, hH, hTf, hFn, hLx⟩ := hT.2.1
  obtain ⟨-, -, t1, t2, t3, t4, t5, t6, t7, -⟩ := id hT
  have hL := hg.1.1
  have hr := hL.2.1
  refine wx_in (M := mX10_back) rfl rfl rfl (Nat.le_of_ble_eq_true rfl) ?_
  refine wx_iload_n rfl (e := 1) rfl rfl ?_
  refine wx_if_lt rfl (e := 4) rfl (fun c_1 => ?_) (fun c_1 => ?_)
  · have f_1 : wiS v 0 (gB s).2 = false := wi_n (fun k _ h2 e => by rw [e] at c_1; have := hB.1; exact absurd c_1 (nI_pos (by omega)))
    refine wx_iconst (v := (-1)) rfl (e := 16) rfl (by decide) ?_
    refine wx_iret rfl rfl rfl ⟨by decide, by decide⟩ ?_
    unfold tBack at hq
    rw [if_neg (by rw [f_1]; decide)] at hq
    exact hq I (fun _ _ => rfl) hC
  · obtain ⟨k1, hk1, rfl⟩ := nI_of c_1
    refine wx_iload_n rfl (e := 5) rfl rfl ?_
    refine wx_aload_n rfl (e := 6) rfl rfl ?_
    refine wx_getr rfl (e := 9) rfl rfl rfl ?_
    refine wx_cv0 (mc := 0) (ms := 0) rfl (e := 12) rfl rfl (Nat.le_of_ble_eq_true rfl) ⟨by decide, by decide⟩ ?_
    refine c_X6_length ?_
    rw [hB.2.1]
    have hb2 := hB.1
    refine wn_ic_le rfl (e := 15) rfl (by omega) (by omega) (fun c_12 => ?_) (fun c_12 => ?_)
    · refine wx_aload_n rfl (e := 18) rfl rfl ?_
      refine wx_getr rfl (e := 21) rfl rfl rfl ?_
      refine wx_aload_n rfl (e := 22) rfl rfl ?_
      refine wx_getr rfl (e := 25) rfl rfl rfl ?_
      refine wx_cv0 (mc := 0) (ms := 0) rfl (e := 28) rfl rfl (Nat.le_of_ble_eq_true rfl) ⟨by decide, by decide⟩ ?_
      refine c_X6_length ?_
      rw [hB.2.1]
      refine wx_iload_n rfl (e := 29) rfl rfl ?_
      refine wn_isub rfl (e := 30) rfl (by omega) ?_
      refine wx_cv1 (mc := 0) (ms := 0) rfl (e := 33) rfl rfl (Nat.le_of_ble_eq_true rfl) ⟨by decide, by decide⟩ ?_
      refine c_X6_cutTo hB (by omega) (fun I2 f2 B2 => ?_)
      refine wx_aload_n rfl (e := 34) rfl rfl ?_
      refine wx_getr rfl (e := 37) rfl rfl rfl ?_
      refine wx_cv0 (mc := 0) (ms := 0) rfl (e := 40) rfl rfl (Nat.le_of_ble_eq_true rfl) ⟨by decide, by decide⟩ ?_
      refine c_X6_length ?_
      rw [B2.2.1]
      refine wx_iret rfl rfl rfl ⟨by decide, by decide⟩ ?_
      unfold tBack at hq
      rw [if_pos (wi_y (Nat.zero_le _) c_12 (by omega)), kS_n hk1] at hq
      obtain ⟨b1, b2, b3⟩ := hC.base (I2 := I2) (fun q hq => f2 q (by omega))
      exact hq _ (fun q h => f2 q (by omega)) ⟨b1, b2, hS.kept (f2 _ (by decide)), hA.kept (f2 _ (by decide)) (f2 _ (by decide)), hK.kept (f2 _ (by decide)) (f2 _ (by decide)), hW.kept (f2 _ (by decide)) (f2 _ (by decide)) (f2 _ (by decide)), B2, b3⟩
    · refine wx_iconst (v := (-1)) rfl (e := 16) rfl (by decide) ?_
      refine wx_iret rfl rfl rfl ⟨by decide, by decide⟩ ?_
      unfold tBack at hq
      rw [if_neg (by rw [wi_n (fun k _ h2 e => by have := (nI_eq hk1 (by omega)).mp e; omega)]; decide)] at hq
      exact hq I (fun _ _ => rfl) hC
theorem c_X10_whose {d Lx t rt : Nat} {I : Nat → Nat → Int32} {G : Nat → Nat → Int64} {Q : ab_Q} {s : gs} {n0 : Nat} (hC : CI t I s) (hg : gok n0 s) {k w : Int32}  (hq : ∀ I2, frf t I I2 → Q (some (.int (aWhose s k w))) (hp Lx t rt t I2 G)) : ab_call ab_MT (d + 8) 173 [.ref 0, .int k, .int w] (hp Lx t rt t I G) 0 0 Q := by
  obtain ⟨hT, hD, hS, hA, hK, hW, hB, hP⟩ := id hC
  have hu := hT.1
  obtain ⟨hC6, hR6, hP5, hH, hTf, hFn, hLx⟩ := hT.2.1
  obtain ⟨-, -, t1, t2, t3, t4, t5, t6, t7, -⟩ := id hT
  have hL := hg.1.1
  have hr := hL.2.1
  have hwm := hW.1
  refine wx_in (M := mX10_whose) rfl rfl rfl (Nat.le_of_ble_eq_true rfl) ?_
  refine wx_iload_n rfl (e := 1) rfl rfl ?_
  refine wx_iconst (v := (nI 0)) rfl (e := 2) rfl (by decide) ?_
  refine wx_aload_n rfl (e := 3) rfl rfl ?_
  refine wx_getr rfl (e := 6) rfl rfl rfl ?_
  refine wx_cv0 (mc := 0) (ms := 0) rfl (e := 9) rfl rfl (Nat.le_of_ble_eq_true rfl) ⟨by decide, by decide⟩ ?_
  refine c_X9_size hW ?_
  refine wx_cs3 (mc := 0) (ms := 0) rfl (e := 12) rfl (Nat.le_of_ble_eq_true rfl) ⟨by decide, by decide⟩ ?_
  refine c_X10_isWithin (lo := 0) (hi := (gW s).2.2) (by omega) (by omega) (fun k1 a1 b1 ek1 => ?_) (fun no1 => ?_)
  · subst ek1
    have f_1 : wiS (nI k1) (0) ((gW s).2.2) = true := wi_y a1 b1 (by omega)
    have g_1 : kS (nI k1) = k1 := kS_n (by omega)
    refine wn_if_eq rfl (e := 15) rfl (by omega) (fun c_12 => absurd c_12 (by omega)) (fun c_12 => ?_)
    refine wx_iload_n rfl (e := 16) rfl rfl ?_
    refine wx_iconst (v := (nI 0)) rfl (e := 17) rfl (by decide) ?_
    refine wx_iconst (v := (nI 1)) rfl (e := 18) rfl (by decide) ?_
    refine wx_cs3 (mc := 0) (ms := 0) rfl (e := 21) rfl (Nat.le_of_ble_eq_true rfl) ⟨by decide, by decide⟩ ?_
    refine c_X10_isWithin (lo := 0) (hi := 1) (by omega) (by decide) (fun k2 a2 b2 ek2 => ?_) (fun no2 => ?_)
    · subst ek2
      have f_2 : wiS (nI k2) (0) (1) = true := wi_y a2 b2 (by omega)
      have g_2 : kS (nI k2) = k2 := kS_n (by omega)
      refine wn_if_ne rfl (e := 24) rfl (by omega) (fun c_21 => ?_) (fun c_21 => absurd c_21 (by omega))
      refine wx_aload_n rfl (e := 27) rfl rfl ?_
      refine wx_getr rfl (e := 30) rfl rfl rfl ?_
      refine wx_iconst (v := (nI 1)) rfl (e := 31) rfl (by decide) ?_
      refine wx_cv1 (mc := 0) (ms := 0) rfl (e := 34) rfl rfl (Nat.le_of_ble_eq_true rfl) ⟨by decide, by decide⟩ ?_
      refine c_X1_after hT hS hL (n := 1) (by omega) (fun I2 f2 S2 _ w2 => ?_)
      have W2 : ∀ a, a < 5 → I2 43 a = nI (bsF (wdF (gT s) (gR s) a)) := fun a ha => (w2 0 rfl a ha).trans (wd_ok _ _ _)
      have D2 := hW.kept (f2 52 (by omega) (by omega) (by omega) (by omega) (by omega) (by omega)) (f2 53 (by omega) (by omega) (by omega) (by omega) (by omega) (by omega)) (f2 54 (by omega) (by omega) (by omega) (by omega) (by omega) (by omega))
      refine wx_pop rfl (e := 35) rfl rfl ?_
      refine wx_aload_n rfl (e := 36) rfl rfl ?_
      refine wx_getr rfl (e := 39) rfl rfl rfl ?_
      refine wx_iload_n rfl (e := 40) rfl rfl ?_
      refine wx_aload_n rfl (e := 41) rfl rfl ?_
      refine wx_getr rfl (e := 44) rfl rfl rfl ?_
      refine wx_cv0 (mc := 0) (ms := 0) rfl (e := 47) rfl (sh_t hu) (Nat.le_of_ble_eq_true rfl) ⟨by decide, by decide⟩ ?_
      refine c_X7_relics hu ?_
      rw [f2 t (by omega) (by omega) (by omega) (by omega) (by omega) (by omega), t2]
      refine wx_aload_n rfl (e := 48) rfl rfl ?_
      refine wx_getr rfl (e := 51) rfl rfl rfl ?_
      refine wx_cv3 (mc := 0) (ms := 0) rfl (e := 54) rfl rfl (Nat.le_of_ble_eq_true rfl) ⟨by decide, by decide⟩ ?_
      refine c_X9_relicsLeft D2 (k := k1) (wf := wdF (gT s) (gR s)) b1 hR6 (fun j hj => by have := hg.2.2.2 j hj; omega) W2 ?_
      show WP _ _ _ _ _ (.int (nI (bsF (rlS s k1))) :: _) _ _ _
      have hlt := bs_lt (rlS s k1)
      refine wx_istore_n (L2 := [_, _, _, _]) rfl (e := 55) rfl (by decide) rfl ?_
      refine wx_iload_n rfl (e := 56) rfl rfl ?_
      refine wn_if_ne rfl (e := 59) rfl (by omega) (fun c_56 => ?_) (fun c_56 => ?_)
      · refine wx_iload_n rfl (e := 67) rfl rfl ?_
        refine wx_iret rfl rfl rfl ⟨by decide, by decide⟩ ?_
        simp only [aWhose, f_1, g_1, f_2, g_2, Bool.and_true, Bool.true_and, Bool.false_and, Bool.and_false, Bool.false_eq_true, eq_self, if_true, if_false] at hq
        rw [if_neg c_56] at hq
        exact hq I2 f2
      · refine wx_iload_n rfl (e := 60) rfl rfl ?_
        refine wx_cs1 (mc := 0) (ms := 0) rfl (e := 63) rfl (Nat.le_of_ble_eq_true rfl) ⟨by decide, by decide⟩ ?_
        refine c_J6_bitCount ?_
        rw [bc_ok]
        refine wx_goto rfl ?_
        refine wx_iret rfl rfl rfl ⟨by decide, by decide⟩ ?_
        simp only [aWhose, f_1, g_1, f_2, g_2, Bool.and_true, Bool.true_and, Bool.false_and, Bool.and_false, Bool.false_eq_true, eq_self, if_true, if_false] at hq
        rw [if_pos c_56] at hq
        exact hq I2 f2
    · have f_2 : wiS w (0) (1) = false := wi_n no2
      refine wn_if_ne rfl (e := 24) rfl (by omega) (fun c_21 => absurd c_21 (by omega)) (fun c_21 => ?_)
      refine wx_iconst (v := (-1)) rfl (e := 25) rfl (by decide) ?_
      refine wx_iret rfl rfl rfl ⟨by decide, by decide⟩ ?_
      simp only [aWhose, f_1, g_1, f_2, Bool.and_true, Bool.true_and, Bool.false_and, Bool.and_false, Bool.false_eq_true, eq_self, if_true, if_false] at hq
      exact hq I frf.rf
  · have f_1 : wiS k (0) ((gW s).2.2) = false := wi_n no1
    refine wn_if_eq rfl (e := 15) rfl (by omega) (fun c_12 => ?_) (fun c_12 => absurd c_12 (by omega))
    refine wx_iconst (v := (-1)) rfl (e := 25) rfl (by decide) ?_
    refine wx_iret rfl rfl rfl ⟨by decide, by decide⟩ ?_
    simp only [aWhose, f_1, Bool.and_true, Bool.true_and, Bool.false_and, Bool.and_false, Bool.false_eq_true, eq_self, if_true, if_false] at hq
    exact hq I frf.rf
theorem c_X10_ask {d Lx t rt : Nat} {I : Nat → Nat → Int32} {G : Nat → Nat → Int64} {Q : ab_Q} {s : gs} {n0 : Nat} (hC : CI t I s) (hg : gok n0 s) {k : Int32}  (hq : ∀ I2, frf t I I2 → Q (some (.int (aAsk s k))) (hp Lx t rt t I2 G)) : ab_call ab_MT (d + 8) 174 [.ref 0, .int k] (hp Lx t rt t I G) 0 0 Q := by
  obtain ⟨hT, hD, hS, hA, hK, hW, hB, hP⟩ := id hC
  have hu := hT.1
  obtain ⟨hC6, hR6, hP5, hH, hTf, hFn, hLx⟩ := hT.2.1
  obtain ⟨-, -, t1, t2, t3, t4, t5, t6, t7, -⟩ := id hT
  have hL := hg.1.1
  have hr := hL.2.1
  have hwm := hW.1
  refine wx_in (M := mX10_ask) rfl rfl rfl (Nat.le_of_ble_eq_true rfl) ?_
  refine wx_iload_n rfl (e := 1) rfl rfl ?_
  refine wx_iconst (v := (nI 0)) rfl (e := 2) rfl (by decide) ?_
  refine wx_aload_n rfl (e := 3) rfl rfl ?_
  refine wx_getr rfl (e := 6) rfl rfl rfl ?_
  refine wx_cv0 (mc := 0) (ms := 0) rfl (e := 9) rfl rfl (Nat.le_of_ble_eq_true rfl) ⟨by decide, by decide⟩ ?_
  refine c_X9_size hW ?_
  refine wx_cs3 (mc := 0) (ms := 0) rfl (e := 12) rfl (Nat.le_of_ble_eq_true rfl) ⟨by decide, by decide⟩ ?_
  refine c_X10_isWithin (lo := 0) (hi := (gW s).2.2) (by omega) (by omega) (fun k1 a1 b1 ek1 => ?_) (fun no1 => ?_)
  · subst ek1
    have f_1 : wiS (nI k1) (0) ((gW s).2.2) = true := wi_y a1 b1 (by omega)
    have g_1 : kS (nI k1) = k1 := kS_n (by omega)
    refine wn_if_ne rfl (e := 15) rfl (by omega) (fun c_12 => ?_) (fun c_12 => absurd c_12 (by omega))
    refine wx_aload_n rfl (e := 18) rfl rfl ?_
    refine wx_getr rfl (e := 21) rfl rfl rfl ?_
    refine wx_iconst (v := (nI 1)) rfl (e := 22) rfl (by decide) ?_
    refine wx_cv1 (mc := 0) (ms := 0) rfl (e := 25) rfl rfl (Nat.le_of_ble_eq_true rfl) ⟨by decide, by decide⟩ ?_
    refine c_X1_after hT hS hL (n := 1) (by omega) (fun I2 f2 S2 _ w2 => ?_)
    have W2 : ∀ a, a < 5 → I2 43 a = nI (bsF (wdF (gT s) (gR s) a)) := fun a ha => (w2 0 rfl a ha).trans (wd_ok _ _ _)
    have D2 := hW.kept (f2 52 (by omega) (by omega) (by omega) (by omega) (by omega) (by omega)) (f2 53 (by omega) (by omega) (by omega) (by omega) (by omega) (by omega)) (f2 54 (by omega) (by omega) (by omega) (by omega) (by omega) (by omega))
    refine wx_pop rfl (e := 26) rfl rfl ?_
    refine wx_aload_n rfl (e := 27) rfl rfl ?_
    refine wx_getr rfl (e := 30) rfl rfl rfl ?_
    refine wx_iload_n rfl (e := 31) rfl rfl ?_
    refine wx_aload_n rfl (e := 32) rfl rfl ?_
    refine wx_getr rfl (e := 35) rfl rfl rfl ?_
    refine wx_cv0 (mc := 0) (ms := 0) rfl (e := 38) rfl (sh_t hu) (Nat.le_of_ble_eq_true rfl) ⟨by decide, by decide⟩ ?_
    refine c_X7_relics hu ?_
    rw [f2 t (by omega) (by omega) (by omega) (by omega) (by omega) (by omega), t2]
    refine wx_aload_n rfl (e := 39) rfl rfl ?_
    refine wx_getr rfl (e := 42) rfl rfl rfl ?_
    refine wx_cv3 (mc := 0) (ms := 0) rfl (e := 45) rfl rfl (Nat.le_of_ble_eq_true rfl) ⟨by decide, by decide⟩ ?_
    refine c_X9_relicsLeft D2 (k := k1) (wf := wdF (gT s) (gR s)) b1 hR6 (fun j hj => by have := hg.2.2.2 j hj; omega) W2 ?_
    show WP _ _ _ _ _ (.int (nI (bsF (rlS s k1))) :: _) _ _ _
    have hlt := bs_lt (rlS s k1)
    refine wx_istore_n (L2 := [_, _, _]) rfl (e := 46) rfl (by decide) rfl ?_
    refine wx_iload_n rfl (e := 47) rfl rfl ?_
    refine wn_if_ne rfl (e := 50) rfl (by omega) (fun c_47 => ?_) (fun c_47 => ?_)
    · refine wx_aload_n rfl (e := 56) rfl rfl ?_
      refine wx_getr rfl (e := 59) rfl rfl rfl ?_
      refine wx_iload_n rfl (e := 60) rfl rfl ?_
      refine wx_aload_n rfl (e := 61) rfl rfl ?_
      refine wx_getr rfl (e := 64) rfl rfl rfl ?_
      refine wx_cv0 (mc := 0) (ms := 0) rfl (e := 67) rfl (sh_t hu) (Nat.le_of_ble_eq_true rfl) ⟨by decide, by decide⟩ ?_
      refine c_X7_pilgrims hu ?_
      rw [f2 t (by omega) (by omega) (by omega) (by omega) (by omega) (by omega), t3]
      refine wx_aload_n rfl (e := 68) rfl rfl ?_
      refine wx_getr rfl (e := 71) rfl rfl rfl ?_
      refine wx_cv3 (mc := 0) (ms := 0) rfl (e := 74) rfl rfl (Nat.le_of_ble_eq_true rfl) ⟨by decide, by decide⟩ ?_
      refine c_X9_bestToAsk hP5 W2 ?_
      refine wx_iret rfl rfl rfl ⟨by decide, by decide⟩ ?_
      simp only [aAsk, f_1, g_1, Bool.and_true, Bool.true_and, Bool.false_and, Bool.and_false, Bool.false_eq_true, eq_self, if_true, if_false] at hq
      rw [if_neg c_47] at hq
      exact hq I2 f2
    · refine wx_bipush (v := (-2)) rfl (e := 52) rfl (by decide) ?_
      refine wx_goto rfl ?_
      refine wx_iret rfl rfl rfl ⟨by decide, by decide⟩ ?_
      simp only [aAsk, f_1, g_1, Bool.and_true, Bool.true_and, Bool.false_and, Bool.and_false, Bool.false_eq_true, eq_self, if_true, if_false] at hq
      rw [if_pos c_47] at hq
      exact hq I2 f2
  · have f_1 : wiS k (0) ((gW s).2.2) = false := wi_n no1
    refine wn_if_ne rfl (e := 15) rfl (by omega) (fun c_12 => absurd c_12 (by omega)) (fun c_12 => ?_)
    refine wx_iconst (v := (-1)) rfl (e := 16) rfl (by decide) ?_
    refine wx_iret rfl rfl rfl ⟨by decide, by decide⟩ ?_
    simp only [aAsk, f_1, Bool.and_true, Bool.true_and, Bool.false_and, Bool.and_false, Bool.false_eq_true, eq_self, if_true, if_false] at hq
    exact hq I frf.rf
theorem rw_b {h k n : Nat} (hh : h ≤ 100) (hn : n ≤ 4) : rwN h k n ≤ 100000000 := Nat.le_trans (rwN_le hh n) (Nat.le_trans (Nat.pow_le_pow_right (by omega) hn) (by decide))
theorem gcd_pos_of {y z : Nat} (h : ¬ y + z = 0) : 0 < Nat.gcd (y + z) y ∧ Nat.gcd (y + z) y ≤ y + z := by
  have h1 : 0 < y + z := by omega
  exact ⟨Nat.gcd_pos_of_pos_left _ h1, Nat.gcd_le_left _ h1⟩
theorem c_X10_belief {d Lx t rt : Nat} {I : Nat → Nat → Int32} {G : Nat → Nat → Int64} {Q : ab_Q} {s : gs} {n0 : Nat} (hC : CI t I s) (hg : gok n0 s) {b : Bool} {e a n k : Int32} (hq : ∀ I2, frf t I I2 → Q (some (.int (aBelief s e a n k b))) (hp Lx t rt t I2 G)) : ab_call ab_MT (d + 5) 169 [.ref 0, .int e, .int a, .int n, .int k, .int (b1 b)] (hp Lx t rt t I G) 0 0 Q := by
  obtain ⟨hT, hD, hS, hA, hK, hW, hB, hP⟩ := id hC
  have hu := hT.1
  obtain ⟨hC6, hR6, hP5, hH, hTf, hFn, hLx⟩ := hT.2.1
  obtain ⟨-, -, t1, t2, t3, t4, t5, t6, t7, -⟩ := id hT
  have hL := hg.1.1
  have hr := hL.2.1
  refine wx_in (M := mX10_belief) rfl rfl rfl (Nat.le_of_ble_eq_true rfl) ?_
  refine wx_aload_n rfl (e := 1) rfl rfl ?_
  refine wx_getr rfl (e := 4) rfl rfl rfl ?_
  refine wx_iload_n rfl (e := 5) rfl rfl ?_
  refine wx_cv1 (mc := 0) (ms := 0) rfl (e := 8) rfl (sh_t hu) (Nat.le_of_ble_eq_true rfl) ⟨by decide, by decide⟩ ?_
  refine c_X7_hasRelic hu (n := tR (gT s)) t2 (by omega) (fun k1 hk1 ek1 => ?_) (fun no1 => ?_)
  · subst ek1
    have f_1 : inS (nI k1) (tR (gT s)) = true := in_y hk1 (by omega)
    have g_1 : kS (nI k1) = k1 := kS_n (by omega)
    refine wn_if_eq rfl (e := 11) rfl (by omega) (fun c_8 => absurd c_8 (by omega)) (fun c_8 => ?_)
    refine wx_aload_n rfl (e := 12) rfl rfl ?_
    refine wx_getr rfl (e := 15) rfl rfl rfl ?_
    refine wx_iload_n rfl (e := 16) rfl rfl ?_
    refine wx_cv1 (mc := 0) (ms := 0) rfl (e := 19) rfl (sh_t hu) (Nat.le_of_ble_eq_true rfl) ⟨by decide, by decide⟩ ?_
    refine c_X7_hasPilgrim hu (n := tP (gT s)) t3 (by omega) (fun k2 hk2 ek2 => ?_) (fun no2 => ?_)
    · subst ek2
      have f_2 : inS (nI k2) (tP (gT s)) = true := in_y hk2 (by omega)
      have g_2 : kS (nI k2) = k2 := kS_n (by omega)
      refine wn_if_ne rfl (e := 22) rfl (by omega) (fun c_19 => ?_) (fun c_19 => absurd c_19 (by omega))
      refine wx_iload_n rfl (e := 25) rfl rfl ?_
      refine wx_iconst (v := (nI 0)) rfl (e := 26) rfl (by decide) ?_
      refine wx_iconst (v := (nI 4)) rfl (e := 27) rfl (by decide) ?_
      refine wx_cs3 (mc := 0) (ms := 0) rfl (e := 30) rfl (Nat.le_of_ble_eq_true rfl) ⟨by decide, by decide⟩ ?_
      refine c_X10_isWithin (lo := 0) (hi := 4) (by omega) (by decide) (fun k3 a3 b3 ek3 => ?_) (fun no3 => ?_)
      · subst ek3
        have f_3 : wiS (nI k3) (0) (4) = true := wi_y a3 b3 (by omega)
        have g_3 : kS (nI k3) = k3 := kS_n (by omega)
        refine wn_if_eq rfl (e := 33) rfl (by omega) (fun c_30 => absurd c_30 (by omega)) (fun c_30 => ?_)
        refine wx_iload rfl (e := 35) rfl rfl ?_
        refine wx_iconst (v := (nI 0)) rfl (e := 36) rfl (by decide) ?_
        refine wx_iload_n rfl (e := 37) rfl rfl ?_
        refine wx_cs3 (mc := 0) (ms := 0) rfl (e := 40) rfl (Nat.le_of_ble_eq_true rfl) ⟨by decide, by decide⟩ ?_
        refine c_X10_isWithin (lo := 0) (hi := k3) (by omega) (by omega) (fun k4 a4 b4 ek4 => ?_) (fun no4 => ?_)
        · subst ek4
          have f_4 : wiS (nI k4) (0) (k3) = true := wi_y a4 b4 (by omega)
          have g_4 : kS (nI k4) = k4 := kS_n (by omega)
          refine wn_if_ne rfl (e := 43) rfl (by omega) (fun c_40 => ?_) (fun c_40 => absurd c_40 (by omega))
          refine wx_aload_n rfl (e := 46) rfl rfl ?_
          refine wx_getr rfl (e := 49) rfl rfl rfl ?_
          refine wx_aload_n rfl (e := 50) rfl rfl ?_
          refine wx_getr rfl (e := 53) rfl rfl rfl ?_
          refine wx_iload_n rfl (e := 54) rfl rfl ?_
          refine wx_iload_n rfl (e := 55) rfl rfl ?_
          refine wx_iconst (v := (nI 1)) rfl (e := 56) rfl (by decide) ?_
          refine wx_cv4 (mc := 0) (ms := 0) rfl (e := 59) rfl rfl (Nat.le_of_ble_eq_true rfl) ⟨by decide, by decide⟩ ?_
          obtain ⟨hce, hre⟩ := hL.ch hT.2.1 hk1
          refine c_X0_healing hT (s := 39) (by omega) hS (by omega) hk2 hce hre (fun I2 f2 => ?_)
          obtain ⟨hh2, eh2⟩ := heal_n (gT s) (gR s) k1 k2 (nI 1)
          rw [eh2]
          refine wx_iload_n rfl (e := 60) rfl rfl ?_
          refine wx_iload rfl (e := 62) rfl rfl ?_
          refine wx_cs3 (mc := 0) (ms := 0) rfl (e := 65) rfl (Nat.le_of_ble_eq_true rfl) ⟨by decide, by decide⟩ ?_
          refine c_X10_likelyRow hh2 (by omega) (by omega) ?_
          have hY := rw_b (k := k4) hh2 (show k3 ≤ 4 by omega)
          refine wx_lstore (L2 := [_, _, _, _, _, _, _, _, _, _, _, _, _, _]) rfl (e := 67) rfl (by decide) rfl ?_
          refine wx_aload_n rfl (e := 68) rfl rfl ?_
          refine wx_getr rfl (e := 71) rfl rfl rfl ?_
          refine wx_aload_n rfl (e := 72) rfl rfl ?_
          refine wx_getr rfl (e := 75) rfl rfl rfl ?_
          refine wx_iload_n rfl (e := 76) rfl rfl ?_
          refine wx_iload_n rfl (e := 77) rfl rfl ?_
          refine wx_iconst (v := (nI 0)) rfl (e := 78) rfl (by decide) ?_
          refine wx_cv4 (mc := 0) (ms := 0) rfl (e := 81) rfl rfl (Nat.le_of_ble_eq_true rfl) ⟨by decide, by decide⟩ ?_
          refine c_X0_healing (f2.T hT) (s := 39) (by omega) (f2.S hu (Or.inl rfl) hS) (by omega) hk2 hce hre (fun I3 f3 => ?_)
          obtain ⟨hh3, eh3⟩ := heal_n (gT s) (gR s) k1 k2 (nI 0)
          rw [eh3]
          refine wx_iload_n rfl (e := 82) rfl rfl ?_
          refine wx_iload rfl (e := 84) rfl rfl ?_
          refine wx_cs3 (mc := 0) (ms := 0) rfl (e := 87) rfl (Nat.le_of_ble_eq_true rfl) ⟨by decide, by decide⟩ ?_
          refine c_X10_likelyRow hh3 (by omega) (by omega) ?_
          have hZ := rw_b (k := k4) hh3 (show k3 ≤ 4 by omega)
          refine wx_lstore (L2 := [_, _, _, _, _, _, _, _, _, _, _, _, _, _]) rfl (e := 89) rfl (by decide) rfl ?_
          refine wx_lload rfl (e := 91) rfl rfl ?_
          refine wx_lload rfl (e := 93) rfl rfl ?_
          refine wx_ladd rfl (e := 94) rfl ?_
          rw [lN_add]
          refine wx_lstore (L2 := [_, _, _, _, _, _, _, _, _, _, _, _, _, _]) rfl (e := 96) rfl (by decide) rfl ?_
          refine wx_lload rfl (e := 98) rfl rfl ?_
          refine wx_lconst (v := 0) rfl (e := 99) rfl (by decide) ?_
          refine wx_lcmp rfl (e := 100) rfl ?_
          refine wx_if_ne rfl (e := 103) rfl (fun c_100 => ?_) (fun c_100 => ?_)
          · have hyz : ¬ rwN (hN (gT s) (gR s) k1 k2 (nI 1)) k4 k3 + rwN (hN (gT s) (gR s) k1 k2 (nI 0)) k4 k3 = 0 := fun z => c_100 ((lg_cmp_eq _ _).mpr (by rw [z]; rfl))
            refine wx_lload rfl (e := 116) rfl rfl ?_
            refine wx_lload rfl (e := 118) rfl rfl ?_
            refine wx_cs2 (mc := 0) (ms := 0) rfl (e := 121) rfl (Nat.le_of_ble_eq_true rfl) ⟨by decide, by decide⟩ ?_
            refine c_X10_commonDivisor (by omega) (by omega) (by omega) ?_
            obtain ⟨hg1, hg2⟩ := gcd_pos_of hyz
            refine wx_lstore (L2 := [_, _, _, _, _, _, _, _, _, _, _, _, _, _]) rfl (e := 123) rfl (by decide) rfl ?_
            refine wx_iload rfl (e := 125) rfl rfl ?_
            refine wx_if_eq rfl (e := 128) rfl (fun c_125 => ?_) (fun c_125 => ?_)
            · refine wx_lload rfl (e := 135) rfl rfl ?_
              refine wx_lload rfl (e := 137) rfl rfl ?_
              refine wx_ldiv rfl (e := 138) rfl (fun z => absurd ((pk_lEQ (b := 0) (by omega) (by omega)).mp z) (by omega)) ?_
              rw [pk_lDiv (by omega) hg1 (by omega)]
              refine wx_l2i rfl (e := 139) rfl ?_
              rw [lN_i]
              refine wx_iret rfl rfl rfl ⟨by decide, by decide⟩ ?_
              simp only [aBelief, f_1, g_1, f_2, g_2, f_3, g_3, f_4, g_4, Bool.and_true, Bool.true_and, Bool.false_and, Bool.and_false, Bool.false_eq_true, eq_self, if_true, if_false] at hq
              have hb := b1_0.mp c_125
              simp only [blS, hb, Bool.and_true, Bool.true_and, Bool.false_and, Bool.and_false, Bool.false_eq_true, eq_self, if_true, if_false] at hq
              rw [if_neg hyz] at hq
              exact hq I3 (f2.tr f3).f
            · refine wx_lload rfl (e := 130) rfl rfl ?_
              refine wx_goto rfl ?_
              refine wx_lload rfl (e := 137) rfl rfl ?_
              refine wx_ldiv rfl (e := 138) rfl (fun z => absurd ((pk_lEQ (b := 0) (by omega) (by omega)).mp z) (by omega)) ?_
              rw [pk_lDiv (by omega) hg1 (by omega)]
              refine wx_l2i rfl (e := 139) rfl ?_
              rw [lN_i]
              refine wx_iret rfl rfl rfl ⟨by decide, by decide⟩ ?_
              simp only [aBelief, f_1, g_1, f_2, g_2, f_3, g_3, f_4, g_4, Bool.and_true, Bool.true_and, Bool.false_and, Bool.and_false, Bool.false_eq_true, eq_self, if_true, if_false] at hq
              have hb := b1_n0.mp c_125
              simp only [blS, hb, Bool.and_true, Bool.true_and, Bool.false_and, Bool.and_false, Bool.false_eq_true, eq_self, if_true, if_false] at hq
              rw [if_neg hyz] at hq
              exact hq I3 (f2.tr f3).f
          · have hyz : rwN (hN (gT s) (gR s) k1 k2 (nI 1)) k4 k3 + rwN (hN (gT s) (gR s) k1 k2 (nI 0)) k4 k3 = 0 := (pk_lEQ (by omega) (by omega)).mp ((lg_cmp_eq _ _).mp c_100)
            refine wx_iload rfl (e := 105) rfl rfl ?_
            refine wx_if_eq rfl (e := 108) rfl (fun c_105 => ?_) (fun c_105 => ?_)
            · refine wx_iconst (v := (nI 1)) rfl (e := 113) rfl (by decide) ?_
              refine wx_iret rfl rfl rfl ⟨by decide, by decide⟩ ?_
              simp only [aBelief, f_1, g_1, f_2, g_2, f_3, g_3, f_4, g_4, Bool.and_true, Bool.true_and, Bool.false_and, Bool.and_false, Bool.false_eq_true, eq_self, if_true, if_false] at hq
              have hb := b1_0.mp c_105
              simp only [blS, hb, Bool.and_true, Bool.true_and, Bool.false_and, Bool.and_false, Bool.false_eq_true, eq_self, if_true, if_false] at hq
              rw [if_pos hyz] at hq
              exact hq I3 (f2.tr f3).f
            · refine wx_iconst (v := (nI 2)) rfl (e := 109) rfl (by decide) ?_
              refine wx_goto rfl ?_
              refine wx_iret rfl rfl rfl ⟨by decide, by decide⟩ ?_
              simp only [aBelief, f_1, g_1, f_2, g_2, f_3, g_3, f_4, g_4, Bool.and_true, Bool.true_and, Bool.false_and, Bool.and_false, Bool.false_eq_true, eq_self, if_true, if_false] at hq
              have hb := b1_n0.mp c_105
              simp only [blS, hb, Bool.and_true, Bool.true_and, Bool.false_and, Bool.and_false, Bool.false_eq_true, eq_self, if_true, if_false] at hq
              rw [if_pos hyz] at hq
              exact hq I3 (f2.tr f3).f
        · have f_4 : wiS k (0) (k3) = false := wi_n no4
          refine wn_if_ne rfl (e := 43) rfl (by omega) (fun c_40 => absurd c_40 (by omega)) (fun c_40 => ?_)
          refine wx_iconst (v := (-1)) rfl (e := 44) rfl (by decide) ?_
          refine wx_iret rfl rfl rfl ⟨by decide, by decide⟩ ?_
          simp only [aBelief, f_1, g_1, f_2, g_2, f_3, g_3, f_4, Bool.and_true, Bool.true_and, Bool.false_and, Bool.and_false, Bool.false_eq_true, eq_self, if_true, if_false] at hq
          exact hq I frf.rf
      · have f_3 : wiS n (0) (4) = false := wi_n no3
        refine wn_if_eq rfl (e := 33) rfl (by omega) (fun c_30 => ?_) (fun c_30 => absurd c_30 (by omega))
        refine wx_iconst (v := (-1)) rfl (e := 44) rfl (by decide) ?_
        refine wx_iret rfl rfl rfl ⟨by decide, by decide⟩ ?_
        simp only [aBelief, f_1, g_1, f_2, g_2, f_3, Bool.and_true, Bool.true_and, Bool.false_and, Bool.and_false, Bool.false_eq_true, eq_self, if_true, if_false] at hq
        exact hq I frf.rf
    · have f_2 : inS a (tP (gT s)) = false := in_n no2
      refine wn_if_ne rfl (e := 22) rfl (by omega) (fun c_19 => absurd c_19 (by omega)) (fun c_19 => ?_)
      refine wx_iconst (v := (-1)) rfl (e := 23) rfl (by decide) ?_
      refine wx_iret rfl rfl rfl ⟨by decide, by decide⟩ ?_
      simp only [aBelief, f_1, g_1, f_2, Bool.and_true, Bool.true_and, Bool.false_and, Bool.and_false, Bool.false_eq_true, eq_self, if_true, if_false] at hq
      exact hq I frf.rf
  · have f_1 : inS e (tR (gT s)) = false := in_n no1
    refine wn_if_eq rfl (e := 11) rfl (by omega) (fun c_8 => ?_) (fun c_8 => absurd c_8 (by omega))
    refine wx_iconst (v := (-1)) rfl (e := 23) rfl (by decide) ?_
    refine wx_iret rfl rfl rfl ⟨by decide, by decide⟩ ?_
    simp only [aBelief, f_1, Bool.and_true, Bool.true_and, Bool.false_and, Bool.and_false, Bool.false_eq_true, eq_self, if_true, if_false] at hq
    exact hq I frf.rf
set_option maxHeartbeats 1000000 in
theorem c_X10_certain {d Lx t rt : Nat} {I : Nat → Nat → Int32} {G : Nat → Nat → Int64} {Q : ab_Q} {s : gs} {n0 : Nat} (hC : CI t I s) (hg : gok n0 s) {e a p : Int32}  (hq : ∀ I2, frf t I I2 → Q (some (.int (aCertain s e a p))) (hp Lx t rt t I2 G)) : ab_call ab_MT (d + 5) 170 [.ref 0, .int e, .int a, .int p] (hp Lx t rt t I G) 0 0 Q := by
  obtain ⟨hT, hD, hS, hA, hK, hW, hB, hP⟩ := id hC
  have hu := hT.1
  obtain ⟨hC6, hR6, hP5, hH, hTf, hFn, hLx⟩ := hT.2.1
  obtain ⟨-, -, t1, t2, t3, t4, t5, t6, t7, -⟩ := id hT
  have hL := hg.1.1
  have hr := hL.2.1
  refine wx_in (M := mX10_certain) rfl rfl rfl (Nat.le_of_ble_eq_true rfl) ?_
  refine wx_aload_n rfl (e := 1) rfl rfl ?_
  refine wx_getr rfl (e := 4) rfl rfl rfl ?_
  refine wx_iload_n rfl (e := 5) rfl rfl ?_
  refine wx_cv1 (mc := 0) (ms := 0) rfl (e := 8) rfl (sh_t hu) (Nat.le_of_ble_eq_true rfl) ⟨by decide, by decide⟩ ?_
  refine c_X7_hasRelic hu (n := tR (gT s)) t2 (by omega) (fun k1 hk1 ek1 => ?_) (fun no1 => ?_)
  · subst ek1
    have f_1 : inS (nI k1) (tR (gT s)) = true := in_y hk1 (by omega)
    have g_1 : kS (nI k1) = k1 := kS_n (by omega)
    refine wn_if_eq rfl (e := 11) rfl (by omega) (fun c_8 => absurd c_8 (by omega)) (fun c_8 => ?_)
    refine wx_aload_n rfl (e := 12) rfl rfl ?_
    refine wx_getr rfl (e := 15) rfl rfl rfl ?_
    refine wx_iload_n rfl (e := 16) rfl rfl ?_
    refine wx_cv1 (mc := 0) (ms := 0) rfl (e := 19) rfl (sh_t hu) (Nat.le_of_ble_eq_true rfl) ⟨by decide, by decide⟩ ?_
    refine c_X7_hasPilgrim hu (n := tP (gT s)) t3 (by omega) (fun k2 hk2 ek2 => ?_) (fun no2 => ?_)
    · subst ek2
      have f_2 : inS (nI k2) (tP (gT s)) = true := in_y hk2 (by omega)
      have g_2 : kS (nI k2) = k2 := kS_n (by omega)
      refine wn_if_eq rfl (e := 22) rfl (by omega) (fun c_19 => absurd c_19 (by omega)) (fun c_19 => ?_)
      refine wx_iload_n rfl (e := 23) rfl rfl ?_
      refine wx_iconst (v := (nI 0)) rfl (e := 24) rfl (by decide) ?_
      refine wx_bipush (v := (nI 100)) rfl (e := 26) rfl (by decide) ?_
      refine wx_cs3 (mc := 0) (ms := 0) rfl (e := 29) rfl (Nat.le_of_ble_eq_true rfl) ⟨by decide, by decide⟩ ?_
      refine c_X10_isWithin (lo := 0) (hi := 100) (by omega) (by decide) (fun k3 a3 b3 ek3 => ?_) (fun no3 => ?_)
      · subst ek3
        have f_3 : wiS (nI k3) (0) (100) = true := wi_y a3 b3 (by omega)
        have g_3 : kS (nI k3) = k3 := kS_n (by omega)
        refine wn_if_ne rfl (e := 32) rfl (by omega) (fun c_29 => ?_) (fun c_29 => absurd c_29 (by omega))
        refine wx_aload_n rfl (e := 35) rfl rfl ?_
        refine wx_getr rfl (e := 38) rfl rfl rfl ?_
        refine wx_aload_n rfl (e := 39) rfl rfl ?_
        refine wx_getr rfl (e := 42) rfl rfl rfl ?_
        refine wx_iload_n rfl (e := 43) rfl rfl ?_
        refine wx_iload_n rfl (e := 44) rfl rfl ?_
        refine wx_iconst (v := (nI 1)) rfl (e := 45) rfl (by decide) ?_
        refine wx_cv4 (mc := 0) (ms := 0) rfl (e := 48) rfl rfl (Nat.le_of_ble_eq_true rfl) ⟨by decide, by decide⟩ ?_
        obtain ⟨hce, hre⟩ := hL.ch hT.2.1 hk1
        refine c_X0_healing hT (s := 39) (by omega) hS (by omega) hk2 hce hre (fun I2 f2 => ?_)
        obtain ⟨hh2, eh2⟩ := heal_n (gT s) (gR s) k1 k2 (nI 1)
        rw [eh2]
        refine wx_istore (L2 := [_, _, _, _, _, _, _, _, _, _, _, _]) rfl (e := 50) rfl (by decide) rfl ?_
        refine wx_aload_n rfl (e := 51) rfl rfl ?_
        refine wx_getr rfl (e := 54) rfl rfl rfl ?_
        refine wx_aload_n rfl (e := 55) rfl rfl ?_
        refine wx_getr rfl (e := 58) rfl rfl rfl ?_
        refine wx_iload_n rfl (e := 59) rfl rfl ?_
        refine wx_iload_n rfl (e := 60) rfl rfl ?_
        refine wx_iconst (v := (nI 0)) rfl (e := 61) rfl (by decide) ?_
        refine wx_cv4 (mc := 0) (ms := 0) rfl (e := 64) rfl rfl (Nat.le_of_ble_eq_true rfl) ⟨by decide, by decide⟩ ?_
        refine c_X0_healing (f2.T hT) (s := 39) (by omega) (f2.S hu (Or.inl rfl) hS) (by omega) hk2 hce hre (fun I3 f3 => ?_)
        obtain ⟨hh3, eh3⟩ := heal_n (gT s) (gR s) k1 k2 (nI 0)
        rw [eh3]
        refine wx_istore (L2 := [_, _, _, _, _, _, _, _, _, _, _, _]) rfl (e := 66) rfl (by decide) rfl ?_
        refine wx_iconst (v := (nI 0)) rfl (e := 67) rfl (by decide) ?_
        refine wx_istore (L2 := [_, _, _, _, _, _, _, _, _, _, _, _]) rfl (e := 69) rfl (by decide) rfl ?_
        simp only [aCertain, f_1, g_1, f_2, g_2, f_3, g_3, Bool.and_true, Bool.true_and, Bool.false_and, Bool.and_false, Bool.false_eq_true, eq_self, if_true, if_false] at hq
        have loop : ∀ (f n : Nat), n + f = 5 → ctF (ctC (hN (gT s) (gR s) k1 k2 (nI 1)) (hN (gT s) (gR s) k1 k2 (nI 0)) k3) f n = ctF (ctC (hN (gT s) (gR s) k1 k2 (nI 1)) (hN (gT s) (gR s) k1 k2 (nI 0)) k3) 5 0 → ∀ z1 z2 z3 z4 z5, WP (d + 4) mX10_certain Q 69 [some (.ref 0), some (.int (nI k1)), some (.int (nI k2)), some (.int (nI k3)), some (.int (nI (hN (gT s) (gR s) k1 k2 (nI 1)))), some (.int (nI (hN (gT s) (gR s) k1 k2 (nI 0)))), some (.int (nI n)), z1, z2, z3, z4, z5] [] (hp Lx t rt t I3 G) 0 0 := by
          intro f
          induction f with
          | zero =>
            intro n hn hv z1 z2 z3 z4 z5
            refine wx_iload rfl (e := 71) rfl rfl ?_
            refine wx_iconst (v := (nI 4)) rfl (e := 72) rfl (by decide) ?_
            refine wn_ic_gt rfl (e := 75) rfl (by omega) (by omega) (fun c_72 => ?_) (fun c_72 => absurd c_72 (by omega))
            refine wx_bipush (v := (-2)) rfl (e := 159) rfl (by decide) ?_
            refine wx_iret rfl rfl rfl ⟨by decide, by decide⟩ ?_
            have e : (-2 : Int32) = _ := hv
            rw [← e] at hq
            exact hq I3 (f2.tr f3).f
          | succ f ih =>
            intro n hn hv z1 z2 z3 z4 z5
            refine wx_iload rfl (e := 71) rfl rfl ?_
            refine wx_iconst (v := (nI 4)) rfl (e := 72) rfl (by decide) ?_
            refine wn_ic_gt rfl (e := 75) rfl (by omega) (by omega) (fun c_72 => absurd c_72 (by omega)) (fun c_72 => ?_)
            refine wx_iload rfl (e := 77) rfl rfl ?_
            refine wx_iload rfl (e := 79) rfl rfl ?_
            refine wx_iload rfl (e := 81) rfl rfl ?_
            refine wx_cs3 (mc := 0) (ms := 0) rfl (e := 84) rfl (Nat.le_of_ble_eq_true rfl) ⟨by decide, by decide⟩ ?_
            refine c_X10_likelyRow hh2 (by omega) (by omega) ?_
            have hY := rw_b (k := n) hh2 (show n ≤ 4 by omega)
            refine wx_lstore (L2 := [_, _, _, _, _, _, _, _, _, _, _, _]) rfl (e := 86) rfl (by decide) rfl ?_
            refine wx_iload rfl (e := 88) rfl rfl ?_
            refine wx_iload rfl (e := 90) rfl rfl ?_
            refine wx_iload rfl (e := 92) rfl rfl ?_
            refine wx_cs3 (mc := 0) (ms := 0) rfl (e := 95) rfl (Nat.le_of_ble_eq_true rfl) ⟨by decide, by decide⟩ ?_
            refine c_X10_likelyRow hh3 (by omega) (by omega) ?_
            have hZ := rw_b (k := n) hh3 (show n ≤ 4 by omega)
            refine wx_lstore (L2 := [_, _, _, _, _, _, _, _, _, _, _, _]) rfl (e := 97) rfl (by decide) rfl ?_
            refine wx_lload rfl (e := 99) rfl rfl ?_
            refine wx_lload rfl (e := 101) rfl rfl ?_
            refine wx_ladd rfl (e := 102) rfl ?_
            rw [lN_add]
            refine wx_lconst (v := 0) rfl (e := 103) rfl (by decide) ?_
            refine wx_lcmp rfl (e := 104) rfl ?_
            refine wx_if_le rfl (e := 107) rfl (fun c_104 => ?_) (fun c_104 => ?_)
            · have hyz : ¬ 0 < rwN (hN (gT s) (gR s) k1 k2 (nI 1)) n n + rwN (hN (gT s) (gR s) k1 k2 (nI 0)) n n := fun z => by have := (pk_lLE (b := 0) (by omega) (by omega)).mp ((lg_cmp_le _ _).mp c_104); omega
              refine wx_iconst (v := (nI 0)) rfl (e := 112) rfl (by decide) ?_
              refine wx_istore (L2 := [_, _, _, _, _, _, _, _, _, _, _, _]) rfl (e := 114) rfl (by decide) rfl ?_
              refine wx_iload rfl (e := 116) rfl rfl ?_
              refine wn_if_eq rfl (e := 119) rfl (by omega) (fun c_116 => ?_) (fun c_116 => absurd c_116 (by omega))
              refine wx_bipush (v := (nI 100)) rfl (e := 142) rfl (by decide) ?_
              refine wx_iload_n rfl (e := 143) rfl rfl ?_
              refine wx_iconst (v := (nI 2)) rfl (e := 144) rfl (by decide) ?_
              refine wn_imul rfl (e := 145) rfl ?_
              refine wn_ic_lt rfl (e := 148) rfl (by omega) (by omega) (fun c_145 => ?_) (fun c_145 => ?_)
              · have hG : ¬ (ctC (hN (gT s) (gR s) k1 k2 (nI 1)) (hN (gT s) (gR s) k1 k2 (nI 0)) k3) n = true := by
                  unfold ctC; rw [if_neg hyz, decide_eq_true_iff]; omega
                refine wn_iinc (m := 1) (L2 := [_, _, _, _, _, _, _, _, _, _, _, _]) rfl (e := 154) rfl rfl (by decide) rfl ?_
                refine wx_goto rfl ?_
                rw [ctF, if_neg hG] at hv
                exact ih (n + 1) (by omega) hv _ _ _ _ _
              · have hG : (ctC (hN (gT s) (gR s) k1 k2 (nI 1)) (hN (gT s) (gR s) k1 k2 (nI 0)) k3) n = true := by
                  unfold ctC; rw [if_neg hyz, decide_eq_true_iff]; omega
                refine wx_iload rfl (e := 150) rfl rfl ?_
                refine wx_iret rfl rfl rfl ⟨by decide, by decide⟩ ?_
                rw [ctF, if_pos hG] at hv
                rw [← hv] at hq
                exact hq I3 (f2.tr f3).f
            · have hyz : 0 < rwN (hN (gT s) (gR s) k1 k2 (nI 1)) n n + rwN (hN (gT s) (gR s) k1 k2 (nI 0)) n n := by have := (not_congr (pk_lLE (a := rwN (hN (gT s) (gR s) k1 k2 (nI 1)) n n + rwN (hN (gT s) (gR s) k1 k2 (nI 0)) n n) (b := 0) (by omega) (by omega))).mp (fun z => c_104 ((lg_cmp_le _ _).mpr z)); omega
              refine wx_iconst (v := (nI 1)) rfl (e := 108) rfl (by decide) ?_
              refine wx_goto rfl ?_
              refine wx_istore (L2 := [_, _, _, _, _, _, _, _, _, _, _, _]) rfl (e := 114) rfl (by decide) rfl ?_
              refine wx_iload rfl (e := 116) rfl rfl ?_
              refine wn_if_eq rfl (e := 119) rfl (by omega) (fun c_116 => absurd c_116 (by omega)) (fun c_116 => ?_)
              refine wx_lload rfl (e := 121) rfl rfl ?_
              refine wx_ldc2 (v := 100) rfl (e := 124) rfl (by decide) ?_
              refine wx_lmul rfl (e := 125) rfl ?_
              rw [show lN (rwN (hN (gT s) (gR s) k1 k2 (nI 1)) n n) * 100 = lN ((rwN (hN (gT s) (gR s) k1 k2 (nI 1)) n n) * 100) from lN_mul _ 100]
              refine wx_iload_n rfl (e := 126) rfl rfl ?_
              refine wx_i2l rfl (e := 127) rfl ?_
              rw [nI_l (by omega)]
              refine wx_lload rfl (e := 129) rfl rfl ?_
              refine wx_lload rfl (e := 131) rfl rfl ?_
              refine wx_ladd rfl (e := 132) rfl ?_
              rw [lN_add]
              refine wx_lmul rfl (e := 133) rfl ?_
              rw [lN_mul]
              have hm := Nat.mul_le_mul (show k3 ≤ 100 by omega) (show rwN (hN (gT s) (gR s) k1 k2 (nI 1)) n n + rwN (hN (gT s) (gR s) k1 k2 (nI 0)) n n ≤ 200000000 by omega)
              refine wx_lcmp rfl (e := 134) rfl ?_
              refine wx_if_lt rfl (e := 137) rfl (fun c_134 => ?_) (fun c_134 => ?_)
              · have hG : ¬ (ctC (hN (gT s) (gR s) k1 k2 (nI 1)) (hN (gT s) (gR s) k1 k2 (nI 0)) k3) n = true := by
                  unfold ctC; rw [if_pos hyz, decide_eq_true_iff]; have := (pk_lLT (by omega) (by omega)).mp ((lg_cmp_lt _ _).mp c_134); omega
                refine wn_iinc (m := 1) (L2 := [_, _, _, _, _, _, _, _, _, _, _, _]) rfl (e := 154) rfl rfl (by decide) rfl ?_
                refine wx_goto rfl ?_
                rw [ctF, if_neg hG] at hv
                exact ih (n + 1) (by omega) hv _ _ _ _ _
              · have hG : (ctC (hN (gT s) (gR s) k1 k2 (nI 1)) (hN (gT s) (gR s) k1 k2 (nI 0)) k3) n = true := by
                  unfold ctC; rw [if_pos hyz, decide_eq_true_iff]; have := (not_congr (pk_lLT (by omega) (by omega))).mp (fun z => c_134 ((lg_cmp_lt _ _).mpr z)); omega
                refine wx_goto rfl ?_
                refine wx_iload rfl (e := 150) rfl rfl ?_
                refine wx_iret rfl rfl rfl ⟨by decide, by decide⟩ ?_
                rw [ctF, if_pos hG] at hv
                rw [← hv] at hq
                exact hq I3 (f2.tr f3).f
        exact loop 5 0 (by omega) rfl _ _ _ _ _
      · have f_3 : wiS p (0) (100) = false := wi_n no3
        refine wn_if_ne rfl (e := 32) rfl (by omega) (fun c_29 => absurd c_29 (by omega)) (fun c_29 => ?_)
        refine wx_iconst (v := (-1)) rfl (e := 33) rfl (by decide) ?_
        refine wx_iret rfl rfl rfl ⟨by decide, by decide⟩ ?_
        simp only [aCertain, f_1, g_1, f_2, g_2, f_3, Bool.and_true, Bool.true_and, Bool.false_and, Bool.and_false, Bool.false_eq_true, eq_self, if_true, if_false] at hq
        exact hq I frf.rf
    · have f_2 : inS a (tP (gT s)) = false := in_n no2
      refine wn_if_eq rfl (e := 22) rfl (by omega) (fun c_19 => ?_) (fun c_19 => absurd c_19 (by omega))
      refine wx_iconst (v := (-1)) rfl (e := 33) rfl (by decide) ?_
      refine wx_iret rfl rfl rfl ⟨by decide, by decide⟩ ?_
      simp only [aCertain, f_1, g_1, f_2, Bool.and_true, Bool.true_and, Bool.false_and, Bool.and_false, Bool.false_eq_true, eq_self, if_true, if_false] at hq
      exact hq I frf.rf
  · have f_1 : inS e (tR (gT s)) = false := in_n no1
    refine wn_if_eq rfl (e := 11) rfl (by omega) (fun c_8 => ?_) (fun c_8 => absurd c_8 (by omega))
    refine wx_iconst (v := (-1)) rfl (e := 33) rfl (by decide) ?_
    refine wx_iret rfl rfl rfl ⟨by decide, by decide⟩ ?_
    simp only [aCertain, f_1, Bool.and_true, Bool.true_and, Bool.false_and, Bool.and_false, Bool.false_eq_true, eq_self, if_true, if_false] at hq
    exact hq I frf.rf

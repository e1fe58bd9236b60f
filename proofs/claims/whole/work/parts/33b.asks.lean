/-! more of them -/
theorem c_X10_guard {d Lx t rt : Nat} {I : Nat → Nat → Int32} {G : Nat → Nat → Int64} {Q : ab_Q} {s : gs} {n0 : Nat} (hC : CI t I s) (hg : gok n0 s) {c p n : Int32}  (hq : ∀ I2, frf t I I2 → Q (some (.int (aGuard s c p n))) (hp Lx t rt t I2 G)) : ab_call ab_MT (d + 6) 156 [.ref 0, .int c, .int p, .int n] (hp Lx t rt t I G) 0 0 Q := by
  obtain ⟨hT, hD, hS, hA, hK, hW, hB, hP⟩ := id hC
  have hu := hT.1
  obtain ⟨hC6, hR6, hP5, hH, hTf, hFn, hLx⟩ := hT.2.1
  obtain ⟨-, -, t1, t2, t3, t4, t5, t6, t7, -⟩ := id hT
  have hL := hg.1.1
  have hr := hL.2.1
  refine wx_in (M := mX10_guard) rfl rfl rfl (Nat.le_of_ble_eq_true rfl) ?_
  refine wx_aload_n rfl (e := 1) rfl rfl ?_
  refine wx_getr rfl (e := 4) rfl rfl rfl ?_
  refine wx_iload_n rfl (e := 5) rfl rfl ?_
  refine wx_cv1 (mc := 0) (ms := 0) rfl (e := 8) rfl (sh_t hu) (Nat.le_of_ble_eq_true rfl) ⟨by decide, by decide⟩ ?_
  refine c_X7_hasChurch hu (n := tC (gT s)) t1 (by omega) (fun k1 hk1 ek1 => ?_) (fun no1 => ?_)
  · subst ek1
    have f_1 : inS (nI k1) (tC (gT s)) = true := in_y hk1 (by omega)
    have g_1 : kS (nI k1) = k1 := kS_n (by omega)
    refine wn_if_eq rfl (e := 11) rfl (by omega) (fun c_8 => absurd c_8 (by omega)) (fun c_8 => ?_)
    refine wx_iload_n rfl (e := 12) rfl rfl ?_
    refine wx_iconst (v := (nI 1)) rfl (e := 13) rfl (by decide) ?_
    refine wx_bipush (v := (nI 100)) rfl (e := 15) rfl (by decide) ?_
    refine wx_cs3 (mc := 0) (ms := 0) rfl (e := 18) rfl (Nat.le_of_ble_eq_true rfl) ⟨by decide, by decide⟩ ?_
    refine c_X10_isWithin (lo := 1) (hi := 100) (by omega) (by decide) (fun k2 a2 b2 ek2 => ?_) (fun no2 => ?_)
    · subst ek2
      have f_2 : wiS (nI k2) (1) (100) = true := wi_y a2 b2 (by omega)
      have g_2 : kS (nI k2) = k2 := kS_n (by omega)
      refine wn_if_eq rfl (e := 21) rfl (by omega) (fun c_18 => absurd c_18 (by omega)) (fun c_18 => ?_)
      refine wx_iload_n rfl (e := 22) rfl rfl ?_
      refine wx_iconst (v := (nI 1)) rfl (e := 23) rfl (by decide) ?_
      refine wx_bipush (v := (nI 9)) rfl (e := 25) rfl (by decide) ?_
      refine wx_cs3 (mc := 0) (ms := 0) rfl (e := 28) rfl (Nat.le_of_ble_eq_true rfl) ⟨by decide, by decide⟩ ?_
      refine c_X10_isWithin (lo := 1) (hi := 9) (by omega) (by decide) (fun k3 a3 b3 ek3 => ?_) (fun no3 => ?_)
      · subst ek3
        have f_3 : wiS (nI k3) (1) (9) = true := wi_y a3 b3 (by omega)
        have g_3 : kS (nI k3) = k3 := kS_n (by omega)
        refine wn_if_ne rfl (e := 31) rfl (by omega) (fun c_28 => ?_) (fun c_28 => absurd c_28 (by omega))
        refine wx_aload_n rfl (e := 34) rfl rfl ?_
        refine wx_getr rfl (e := 37) rfl rfl rfl ?_
        refine wx_aload_n rfl (e := 38) rfl rfl ?_
        refine wx_getr rfl (e := 41) rfl rfl rfl ?_
        refine wx_iload_n rfl (e := 42) rfl rfl ?_
        refine wx_iload_n rfl (e := 43) rfl rfl ?_
        refine wx_iload_n rfl (e := 44) rfl rfl ?_
        refine wx_cv4 (mc := 0) (ms := 0) rfl (e := 47) rfl rfl (Nat.le_of_ble_eq_true rfl) ⟨by decide, by decide⟩ ?_
        refine c_X0_watchersFor hT (s := 39) (by omega) hS hk1 (fun I2 f2 => ?_)
        refine wx_iret rfl rfl rfl ⟨by decide, by decide⟩ ?_
        simp only [aGuard, f_1, g_1, f_2, g_2, f_3, g_3, Bool.and_true, Bool.true_and, Bool.false_and, Bool.and_false, Bool.false_eq_true, eq_self, if_true, if_false] at hq
        exact hq I2 f2.f
      · have f_3 : wiS n (1) (9) = false := wi_n no3
        refine wn_if_ne rfl (e := 31) rfl (by omega) (fun c_28 => absurd c_28 (by omega)) (fun c_28 => ?_)
        refine wx_iconst (v := (-1)) rfl (e := 32) rfl (by decide) ?_
        refine wx_iret rfl rfl rfl ⟨by decide, by decide⟩ ?_
        simp only [aGuard, f_1, g_1, f_2, g_2, f_3, Bool.and_true, Bool.true_and, Bool.false_and, Bool.and_false, Bool.false_eq_true, eq_self, if_true, if_false] at hq
        exact hq I frf.rf
    · have f_2 : wiS p (1) (100) = false := wi_n no2
      refine wn_if_eq rfl (e := 21) rfl (by omega) (fun c_18 => ?_) (fun c_18 => absurd c_18 (by omega))
      refine wx_iconst (v := (-1)) rfl (e := 32) rfl (by decide) ?_
      refine wx_iret rfl rfl rfl ⟨by decide, by decide⟩ ?_
      simp only [aGuard, f_1, g_1, f_2, Bool.and_true, Bool.true_and, Bool.false_and, Bool.and_false, Bool.false_eq_true, eq_self, if_true, if_false] at hq
      exact hq I frf.rf
  · have f_1 : inS c (tC (gT s)) = false := in_n no1
    refine wn_if_eq rfl (e := 11) rfl (by omega) (fun c_8 => ?_) (fun c_8 => absurd c_8 (by omega))
    refine wx_iconst (v := (-1)) rfl (e := 32) rfl (by decide) ?_
    refine wx_iret rfl rfl rfl ⟨by decide, by decide⟩ ?_
    simp only [aGuard, f_1, Bool.and_true, Bool.true_and, Bool.false_and, Bool.and_false, Bool.false_eq_true, eq_self, if_true, if_false] at hq
    exact hq I frf.rf
theorem c_X10_took {d Lx t rt : Nat} {I : Nat → Nat → Int32} {G : Nat → Nat → Int64} {Q : ab_Q} {s : gs} {n0 : Nat} (hC : CI t I s) (hg : gok n0 s) {v n : Int32}  (hq : ∀ I2, frf t I I2 → Q (some (.int (aTook s v n))) (hp Lx t rt t I2 G)) : ab_call ab_MT (d + 9) 160 [.ref 0, .int v, .int n] (hp Lx t rt t I G) 0 0 Q := by
  obtain ⟨hT, hD, hS, hA, hK, hW, hB, hP⟩ := id hC
  have hu := hT.1
  obtain ⟨hC6, hR6, hP5, hH, hTf, hFn, hLx⟩ := hT.2.1
  obtain ⟨-, -, t1, t2, t3, t4, t5, t6, t7, -⟩ := id hT
  have hL := hg.1.1
  have hr := hL.2.1
  refine wx_in (M := mX10_took) rfl rfl rfl (Nat.le_of_ble_eq_true rfl) ?_
  refine wx_aload_n rfl (e := 1) rfl rfl ?_
  refine wx_getr rfl (e := 4) rfl rfl rfl ?_
  refine wx_iload_n rfl (e := 5) rfl rfl ?_
  refine wx_cv1 (mc := 0) (ms := 0) rfl (e := 8) rfl (sh_t hu) (Nat.le_of_ble_eq_true rfl) ⟨by decide, by decide⟩ ?_
  refine c_X7_hasChurch hu (n := tC (gT s)) t1 (by omega) (fun k1 hk1 ek1 => ?_) (fun no1 => ?_)
  · subst ek1
    have f_1 : inS (nI k1) (tC (gT s)) = true := in_y hk1 (by omega)
    have g_1 : kS (nI k1) = k1 := kS_n (by omega)
    refine wn_if_eq rfl (e := 11) rfl (by omega) (fun c_8 => absurd c_8 (by omega)) (fun c_8 => ?_)
    refine wx_iload_n rfl (e := 12) rfl rfl ?_
    refine wx_iconst (v := (nI 0)) rfl (e := 13) rfl (by decide) ?_
    refine wx_bipush (v := (nI 60)) rfl (e := 15) rfl (by decide) ?_
    refine wx_cs3 (mc := 0) (ms := 0) rfl (e := 18) rfl (Nat.le_of_ble_eq_true rfl) ⟨by decide, by decide⟩ ?_
    refine c_X10_isWithin (lo := 0) (hi := 60) (by omega) (by decide) (fun k2 a2 b2 ek2 => ?_) (fun no2 => ?_)
    · subst ek2
      have f_2 : wiS (nI k2) (0) (60) = true := wi_y a2 b2 (by omega)
      have g_2 : kS (nI k2) = k2 := kS_n (by omega)
      refine wn_if_ne rfl (e := 21) rfl (by omega) (fun c_18 => ?_) (fun c_18 => absurd c_18 (by omega))
      refine wx_aload_n rfl (e := 24) rfl rfl ?_
      refine wx_getr rfl (e := 27) rfl rfl rfl ?_
      refine wx_bipush (v := (nI 12)) rfl (e := 29) rfl (by decide) ?_
      refine wx_iload_n rfl (e := 30) rfl rfl ?_
      refine wn_iadd rfl (e := 31) rfl ?_
      refine wx_iload_n rfl (e := 32) rfl rfl ?_
      refine wx_cv2 (mc := 0) (ms := 0) rfl (e := 35) rfl rfl (Nat.le_of_ble_eq_true rfl) ⟨by decide, by decide⟩ ?_
      refine c_X1_more hT hS hL (by omega) (by omega) (fun I2 f2 => ?_)
      rw [cst_m _ (by omega) (by omega), cst_m _ (by omega) (by omega), show 12 + k1 + 6 = 18 + k1 by omega]
      refine wx_iret rfl rfl rfl ⟨by decide, by decide⟩ ?_
      simp only [aTook, f_1, g_1, f_2, g_2, Bool.and_true, Bool.true_and, Bool.false_and, Bool.and_false, Bool.false_eq_true, eq_self, if_true, if_false] at hq
      exact hq I2 f2
    · have f_2 : wiS n (0) (60) = false := wi_n no2
      refine wn_if_ne rfl (e := 21) rfl (by omega) (fun c_18 => absurd c_18 (by omega)) (fun c_18 => ?_)
      refine wx_iconst (v := (-1)) rfl (e := 22) rfl (by decide) ?_
      refine wx_iret rfl rfl rfl ⟨by decide, by decide⟩ ?_
      simp only [aTook, f_1, g_1, f_2, Bool.and_true, Bool.true_and, Bool.false_and, Bool.and_false, Bool.false_eq_true, eq_self, if_true, if_false] at hq
      exact hq I frf.rf
  · have f_1 : inS v (tC (gT s)) = false := in_n no1
    refine wn_if_eq rfl (e := 11) rfl (by omega) (fun c_8 => ?_) (fun c_8 => absurd c_8 (by omega))
    refine wx_iconst (v := (-1)) rfl (e := 22) rfl (by decide) ?_
    refine wx_iret rfl rfl rfl ⟨by decide, by decide⟩ ?_
    simp only [aTook, f_1, Bool.and_true, Bool.true_and, Bool.false_and, Bool.and_false, Bool.false_eq_true, eq_self, if_true, if_false] at hq
    exact hq I frf.rf
theorem c_X10_wonders {d Lx t rt : Nat} {I : Nat → Nat → Int32} {G : Nat → Nat → Int64} {Q : ab_Q} {s : gs} {n0 : Nat} (hC : CI t I s) (hg : gok n0 s) {v n : Int32}  (hq : ∀ I2, frf t I I2 → Q (some (.int (aWonders s v n))) (hp Lx t rt t I2 G)) : ab_call ab_MT (d + 9) 161 [.ref 0, .int v, .int n] (hp Lx t rt t I G) 0 0 Q := by
  obtain ⟨hT, hD, hS, hA, hK, hW, hB, hP⟩ := id hC
  have hu := hT.1
  obtain ⟨hC6, hR6, hP5, hH, hTf, hFn, hLx⟩ := hT.2.1
  obtain ⟨-, -, t1, t2, t3, t4, t5, t6, t7, -⟩ := id hT
  have hL := hg.1.1
  have hr := hL.2.1
  refine wx_in (M := mX10_wonders) rfl rfl rfl (Nat.le_of_ble_eq_true rfl) ?_
  refine wx_aload_n rfl (e := 1) rfl rfl ?_
  refine wx_getr rfl (e := 4) rfl rfl rfl ?_
  refine wx_iload_n rfl (e := 5) rfl rfl ?_
  refine wx_cv1 (mc := 0) (ms := 0) rfl (e := 8) rfl (sh_t hu) (Nat.le_of_ble_eq_true rfl) ⟨by decide, by decide⟩ ?_
  refine c_X7_hasRelic hu (n := tR (gT s)) t2 (by omega) (fun k1 hk1 ek1 => ?_) (fun no1 => ?_)
  · subst ek1
    have f_1 : inS (nI k1) (tR (gT s)) = true := in_y hk1 (by omega)
    have g_1 : kS (nI k1) = k1 := kS_n (by omega)
    refine wn_if_eq rfl (e := 11) rfl (by omega) (fun c_8 => absurd c_8 (by omega)) (fun c_8 => ?_)
    refine wx_iload_n rfl (e := 12) rfl rfl ?_
    refine wx_iconst (v := (nI 0)) rfl (e := 13) rfl (by decide) ?_
    refine wx_bipush (v := (nI 60)) rfl (e := 15) rfl (by decide) ?_
    refine wx_cs3 (mc := 0) (ms := 0) rfl (e := 18) rfl (Nat.le_of_ble_eq_true rfl) ⟨by decide, by decide⟩ ?_
    refine c_X10_isWithin (lo := 0) (hi := 60) (by omega) (by decide) (fun k2 a2 b2 ek2 => ?_) (fun no2 => ?_)
    · subst ek2
      have f_2 : wiS (nI k2) (0) (60) = true := wi_y a2 b2 (by omega)
      have g_2 : kS (nI k2) = k2 := kS_n (by omega)
      refine wn_if_ne rfl (e := 21) rfl (by omega) (fun c_18 => ?_) (fun c_18 => absurd c_18 (by omega))
      refine wx_aload_n rfl (e := 24) rfl rfl ?_
      refine wx_getr rfl (e := 27) rfl rfl rfl ?_
      refine wx_bipush (v := (nI 30)) rfl (e := 29) rfl (by decide) ?_
      refine wx_iload_n rfl (e := 30) rfl rfl ?_
      refine wn_iadd rfl (e := 31) rfl ?_
      refine wx_iload_n rfl (e := 32) rfl rfl ?_
      refine wx_cv2 (mc := 0) (ms := 0) rfl (e := 35) rfl rfl (Nat.le_of_ble_eq_true rfl) ⟨by decide, by decide⟩ ?_
      refine c_X1_more hT hS hL (by omega) (by omega) (fun I2 f2 => ?_)
      rw [cst_h _ (by omega), cst_h _ (by omega), show 30 + k1 - 6 = 24 + k1 by omega]
      refine wx_iret rfl rfl rfl ⟨by decide, by decide⟩ ?_
      simp only [aWonders, f_1, g_1, f_2, g_2, Bool.and_true, Bool.true_and, Bool.false_and, Bool.and_false, Bool.false_eq_true, eq_self, if_true, if_false] at hq
      exact hq I2 f2
    · have f_2 : wiS n (0) (60) = false := wi_n no2
      refine wn_if_ne rfl (e := 21) rfl (by omega) (fun c_18 => absurd c_18 (by omega)) (fun c_18 => ?_)
      refine wx_iconst (v := (-1)) rfl (e := 22) rfl (by decide) ?_
      refine wx_iret rfl rfl rfl ⟨by decide, by decide⟩ ?_
      simp only [aWonders, f_1, g_1, f_2, Bool.and_true, Bool.true_and, Bool.false_and, Bool.and_false, Bool.false_eq_true, eq_self, if_true, if_false] at hq
      exact hq I frf.rf
  · have f_1 : inS v (tR (gT s)) = false := in_n no1
    refine wn_if_eq rfl (e := 11) rfl (by omega) (fun c_8 => ?_) (fun c_8 => absurd c_8 (by omega))
    refine wx_iconst (v := (-1)) rfl (e := 22) rfl (by decide) ?_
    refine wx_iret rfl rfl rfl ⟨by decide, by decide⟩ ?_
    simp only [aWonders, f_1, Bool.and_true, Bool.true_and, Bool.false_and, Bool.and_false, Bool.false_eq_true, eq_self, if_true, if_false] at hq
    exact hq I frf.rf
theorem c_X10_healed {d Lx t rt : Nat} {I : Nat → Nat → Int32} {G : Nat → Nat → Int64} {Q : ab_Q} {s : gs} {n0 : Nat} (hC : CI t I s) (hg : gok n0 s) {v n : Int32}  (hq : ∀ I2, frf t I I2 → Q (some (.int (aHealed s v n))) (hp Lx t rt t I2 G)) : ab_call ab_MT (d + 9) 166 [.ref 0, .int v, .int n] (hp Lx t rt t I G) 0 0 Q := by
  obtain ⟨hT, hD, hS, hA, hK, hW, hB, hP⟩ := id hC
  have hu := hT.1
  obtain ⟨hC6, hR6, hP5, hH, hTf, hFn, hLx⟩ := hT.2.1
  obtain ⟨-, -, t1, t2, t3, t4, t5, t6, t7, -⟩ := id hT
  have hL := hg.1.1
  have hr := hL.2.1
  refine wx_in (M := mX10_healed) rfl rfl rfl (Nat.le_of_ble_eq_true rfl) ?_
  refine wx_aload_n rfl (e := 1) rfl rfl ?_
  refine wx_getr rfl (e := 4) rfl rfl rfl ?_
  refine wx_iload_n rfl (e := 5) rfl rfl ?_
  refine wx_cv1 (mc := 0) (ms := 0) rfl (e := 8) rfl (sh_t hu) (Nat.le_of_ble_eq_true rfl) ⟨by decide, by decide⟩ ?_
  refine c_X7_hasPilgrim hu (n := tP (gT s)) t3 (by omega) (fun k1 hk1 ek1 => ?_) (fun no1 => ?_)
  · subst ek1
    have f_1 : inS (nI k1) (tP (gT s)) = true := in_y hk1 (by omega)
    have g_1 : kS (nI k1) = k1 := kS_n (by omega)
    refine wn_if_eq rfl (e := 11) rfl (by omega) (fun c_8 => absurd c_8 (by omega)) (fun c_8 => ?_)
    refine wx_iload_n rfl (e := 12) rfl rfl ?_
    refine wx_iconst (v := (nI 0)) rfl (e := 13) rfl (by decide) ?_
    refine wx_bipush (v := (nI 60)) rfl (e := 15) rfl (by decide) ?_
    refine wx_cs3 (mc := 0) (ms := 0) rfl (e := 18) rfl (Nat.le_of_ble_eq_true rfl) ⟨by decide, by decide⟩ ?_
    refine c_X10_isWithin (lo := 0) (hi := 60) (by omega) (by decide) (fun k2 a2 b2 ek2 => ?_) (fun no2 => ?_)
    · subst ek2
      have f_2 : wiS (nI k2) (0) (60) = true := wi_y a2 b2 (by omega)
      have g_2 : kS (nI k2) = k2 := kS_n (by omega)
      refine wn_if_ne rfl (e := 21) rfl (by omega) (fun c_18 => ?_) (fun c_18 => absurd c_18 (by omega))
      refine wx_aload_n rfl (e := 24) rfl rfl ?_
      refine wx_getr rfl (e := 27) rfl rfl rfl ?_
      refine wx_bipush (v := (nI 47)) rfl (e := 29) rfl (by decide) ?_
      refine wx_iload_n rfl (e := 30) rfl rfl ?_
      refine wn_iadd rfl (e := 31) rfl ?_
      refine wx_iload_n rfl (e := 32) rfl rfl ?_
      refine wx_cv2 (mc := 0) (ms := 0) rfl (e := 35) rfl rfl (Nat.le_of_ble_eq_true rfl) ⟨by decide, by decide⟩ ?_
      refine c_X1_more hT hS hL (by omega) (by omega) (fun I2 f2 => ?_)
      rw [cst_h _ (by omega), cst_h _ (by omega), show 47 + k1 - 6 = 41 + k1 by omega]
      refine wx_iret rfl rfl rfl ⟨by decide, by decide⟩ ?_
      simp only [aHealed, f_1, g_1, f_2, g_2, Bool.and_true, Bool.true_and, Bool.false_and, Bool.and_false, Bool.false_eq_true, eq_self, if_true, if_false] at hq
      exact hq I2 f2
    · have f_2 : wiS n (0) (60) = false := wi_n no2
      refine wn_if_ne rfl (e := 21) rfl (by omega) (fun c_18 => absurd c_18 (by omega)) (fun c_18 => ?_)
      refine wx_iconst (v := (-1)) rfl (e := 22) rfl (by decide) ?_
      refine wx_iret rfl rfl rfl ⟨by decide, by decide⟩ ?_
      simp only [aHealed, f_1, g_1, f_2, Bool.and_true, Bool.true_and, Bool.false_and, Bool.and_false, Bool.false_eq_true, eq_self, if_true, if_false] at hq
      exact hq I frf.rf
  · have f_1 : inS v (tP (gT s)) = false := in_n no1
    refine wn_if_eq rfl (e := 11) rfl (by omega) (fun c_8 => ?_) (fun c_8 => absurd c_8 (by omega))
    refine wx_iconst (v := (-1)) rfl (e := 22) rfl (by decide) ?_
    refine wx_iret rfl rfl rfl ⟨by decide, by decide⟩ ?_
    simp only [aHealed, f_1, Bool.and_true, Bool.true_and, Bool.false_and, Bool.and_false, Bool.false_eq_true, eq_self, if_true, if_false] at hq
    exact hq I frf.rf
theorem c_X10_goesIn {d Lx t rt : Nat} {I : Nat → Nat → Int32} {G : Nat → Nat → Int64} {Q : ab_Q} {s : gs} {n0 : Nat} (hC : CI t I s) (hg : gok n0 s) {a n : Int32}  (hq : ∀ I2, frf t I I2 → Q (some (.int (aGoesIn s a n))) (hp Lx t rt t I2 G)) : ab_call ab_MT (d + 8) 162 [.ref 0, .int a, .int n] (hp Lx t rt t I G) 0 0 Q := by
  obtain ⟨hT, hD, hS, hA, hK, hW, hB, hP⟩ := id hC
  have hu := hT.1
  obtain ⟨hC6, hR6, hP5, hH, hTf, hFn, hLx⟩ := hT.2.1
  obtain ⟨-, -, t1, t2, t3, t4, t5, t6, t7, -⟩ := id hT
  have hL := hg.1.1
  have hr := hL.2.1
  refine wx_in (M := mX10_goesIn) rfl rfl rfl (Nat.le_of_ble_eq_true rfl) ?_
  refine wx_aload_n rfl (e := 1) rfl rfl ?_
  refine wx_getr rfl (e := 4) rfl rfl rfl ?_
  refine wx_iload_n rfl (e := 5) rfl rfl ?_
  refine wx_cv1 (mc := 0) (ms := 0) rfl (e := 8) rfl (sh_t hu) (Nat.le_of_ble_eq_true rfl) ⟨by decide, by decide⟩ ?_
  refine c_X7_hasPilgrim hu (n := tP (gT s)) t3 (by omega) (fun k1 hk1 ek1 => ?_) (fun no1 => ?_)
  · subst ek1
    have f_1 : inS (nI k1) (tP (gT s)) = true := in_y hk1 (by omega)
    have g_1 : kS (nI k1) = k1 := kS_n (by omega)
    refine wn_if_eq rfl (e := 11) rfl (by omega) (fun c_8 => absurd c_8 (by omega)) (fun c_8 => ?_)
    refine wx_iload_n rfl (e := 12) rfl rfl ?_
    refine wx_iconst (v := (nI 0)) rfl (e := 13) rfl (by decide) ?_
    refine wx_bipush (v := (nI 60)) rfl (e := 15) rfl (by decide) ?_
    refine wx_cs3 (mc := 0) (ms := 0) rfl (e := 18) rfl (Nat.le_of_ble_eq_true rfl) ⟨by decide, by decide⟩ ?_
    refine c_X10_isWithin (lo := 0) (hi := 60) (by omega) (by decide) (fun k2 a2 b2 ek2 => ?_) (fun no2 => ?_)
    · subst ek2
      have f_2 : wiS (nI k2) (0) (60) = true := wi_y a2 b2 (by omega)
      have g_2 : kS (nI k2) = k2 := kS_n (by omega)
      refine wn_if_ne rfl (e := 21) rfl (by omega) (fun c_18 => ?_) (fun c_18 => absurd c_18 (by omega))
      refine wx_aload_n rfl (e := 24) rfl rfl ?_
      refine wx_getr rfl (e := 27) rfl rfl rfl ?_
      refine wx_aload_n rfl (e := 28) rfl rfl ?_
      refine wx_getr rfl (e := 31) rfl rfl rfl ?_
      refine wx_iload_n rfl (e := 32) rfl rfl ?_
      refine wx_cv1 (mc := 0) (ms := 0) rfl (e := 35) rfl rfl (Nat.le_of_ble_eq_true rfl) ⟨by decide, by decide⟩ ?_
      refine c_X1_after hT hS hL (by omega) (fun I2 f2 S2 _ _ => ?_)
      refine wx_iload_n rfl (e := 36) rfl rfl ?_
      refine wx_cv2 (mc := 0) (ms := 0) rfl (e := 39) rfl rfl (Nat.le_of_ble_eq_true rfl) ⟨by decide, by decide⟩ ?_
      refine c_X0_goal (f2.T hT) (s := 45) (by omega) S2 hk1 (fun I3 f3 => ?_)
      refine wx_iret rfl rfl rfl ⟨by decide, by decide⟩ ?_
      simp only [aGoesIn, f_1, g_1, f_2, g_2, Bool.and_true, Bool.true_and, Bool.false_and, Bool.and_false, Bool.false_eq_true, eq_self, if_true, if_false] at hq
      exact hq I3 (f2.tr f3.f)
    · have f_2 : wiS n (0) (60) = false := wi_n no2
      refine wn_if_ne rfl (e := 21) rfl (by omega) (fun c_18 => absurd c_18 (by omega)) (fun c_18 => ?_)
      refine wx_iconst (v := (-1)) rfl (e := 22) rfl (by decide) ?_
      refine wx_iret rfl rfl rfl ⟨by decide, by decide⟩ ?_
      simp only [aGoesIn, f_1, g_1, f_2, Bool.and_true, Bool.true_and, Bool.false_and, Bool.and_false, Bool.false_eq_true, eq_self, if_true, if_false] at hq
      exact hq I frf.rf
  · have f_1 : inS a (tP (gT s)) = false := in_n no1
    refine wn_if_eq rfl (e := 11) rfl (by omega) (fun c_8 => ?_) (fun c_8 => absurd c_8 (by omega))
    refine wx_iconst (v := (-1)) rfl (e := 22) rfl (by decide) ?_
    refine wx_iret rfl rfl rfl ⟨by decide, by decide⟩ ?_
    simp only [aGoesIn, f_1, Bool.and_true, Bool.true_and, Bool.false_and, Bool.and_false, Bool.false_eq_true, eq_self, if_true, if_false] at hq
    exact hq I frf.rf
theorem c_X10_famed {d Lx t rt : Nat} {I : Nat → Nat → Int32} {G : Nat → Nat → Int64} {Q : ab_Q} {s : gs} {n0 : Nat} (hC : CI t I s) (hg : gok n0 s) {n : Int32}  (hq : ∀ I2, frf t I I2 → Q (some (.int (aFamed s n))) (hp Lx t rt t I2 G)) : ab_call ab_MT (d + 9) 167 [.ref 0, .int n] (hp Lx t rt t I G) 0 0 Q := by
  obtain ⟨hT, hD, hS, hA, hK, hW, hB, hP⟩ := id hC
  have hu := hT.1
  obtain ⟨hC6, hR6, hP5, hH, hTf, hFn, hLx⟩ := hT.2.1
  obtain ⟨-, -, t1, t2, t3, t4, t5, t6, t7, -⟩ := id hT
  have hL := hg.1.1
  have hr := hL.2.1
  refine wx_in (M := mX10_famed) rfl rfl rfl (Nat.le_of_ble_eq_true rfl) ?_
  refine wx_iload_n rfl (e := 1) rfl rfl ?_
  refine wx_iconst (v := (nI 0)) rfl (e := 2) rfl (by decide) ?_
  refine wx_bipush (v := (nI 60)) rfl (e := 4) rfl (by decide) ?_
  refine wx_cs3 (mc := 0) (ms := 0) rfl (e := 7) rfl (Nat.le_of_ble_eq_true rfl) ⟨by decide, by decide⟩ ?_
  refine c_X10_isWithin (lo := 0) (hi := 60) (by omega) (by decide) (fun k1 a1 b1 ek1 => ?_) (fun no1 => ?_)
  · subst ek1
    have f_1 : wiS (nI k1) (0) (60) = true := wi_y a1 b1 (by omega)
    have g_1 : kS (nI k1) = k1 := kS_n (by omega)
    refine wn_if_eq rfl (e := 10) rfl (by omega) (fun c_7 => absurd c_7 (by omega)) (fun c_7 => ?_)
    refine wx_aload_n rfl (e := 11) rfl rfl ?_
    refine wx_getr rfl (e := 14) rfl rfl rfl ?_
    refine wx_iload_n rfl (e := 15) rfl rfl ?_
    refine wx_cv1 (mc := 0) (ms := 0) rfl (e := 18) rfl rfl (Nat.le_of_ble_eq_true rfl) ⟨by decide, by decide⟩ ?_
    refine c_X1_mostFamed hT hS hL (by omega) (fun I2 f2 => ?_)
    refine wx_goto rfl ?_
    refine wx_iret rfl rfl rfl ⟨by decide, by decide⟩ ?_
    simp only [aFamed, f_1, g_1, Bool.and_true, Bool.true_and, Bool.false_and, Bool.and_false, Bool.false_eq_true, eq_self, if_true, if_false] at hq
    exact hq I2 f2
  · have f_1 : wiS n (0) (60) = false := wi_n no1
    refine wn_if_eq rfl (e := 10) rfl (by omega) (fun c_7 => ?_) (fun c_7 => absurd c_7 (by omega))
    refine wx_iconst (v := (-1)) rfl (e := 22) rfl (by decide) ?_
    refine wx_iret rfl rfl rfl ⟨by decide, by decide⟩ ?_
    simp only [aFamed, f_1, Bool.and_true, Bool.true_and, Bool.false_and, Bool.and_false, Bool.false_eq_true, eq_self, if_true, if_false] at hq
    exact hq I frf.rf
theorem c_X10_year {d Lx t rt : Nat} {I : Nat → Nat → Int32} {G : Nat → Nat → Int64} {Q : ab_Q} {s : gs} {n0 : Nat} (hC : CI t I s) (hg : gok n0 s) {e n k : Int32}  (hq : ∀ I2, frf t I I2 → Q (some (.int (aYear s e n k))) (hp Lx t rt t I2 G)) : ab_call ab_MT (d + 9) 168 [.ref 0, .int e, .int n, .int k] (hp Lx t rt t I G) 0 0 Q := by
  obtain ⟨hT, hD, hS, hA, hK, hW, hB, hP⟩ := id hC
  have hu := hT.1
  obtain ⟨hC6, hR6, hP5, hH, hTf, hFn, hLx⟩ := hT.2.1
  obtain ⟨-, -, t1, t2, t3, t4, t5, t6, t7, -⟩ := id hT
  have hL := hg.1.1
  have hr := hL.2.1
  refine wx_in (M := mX10_year) rfl rfl rfl (Nat.le_of_ble_eq_true rfl) ?_
  refine wx_aload_n rfl (e := 1) rfl rfl ?_
  refine wx_getr rfl (e := 4) rfl rfl rfl ?_
  refine wx_iload_n rfl (e := 5) rfl rfl ?_
  refine wx_cv1 (mc := 0) (ms := 0) rfl (e := 8) rfl (sh_t hu) (Nat.le_of_ble_eq_true rfl) ⟨by decide, by decide⟩ ?_
  refine c_X7_hasRelic hu (n := tR (gT s)) t2 (by omega) (fun k1 hk1 ek1 => ?_) (fun no1 => ?_)
  · subst ek1
    have f_1 : inS (nI k1) (tR (gT s)) = true := in_y hk1 (by omega)
    have g_1 : kS (nI k1) = k1 := kS_n (by omega)
    refine wn_if_eq rfl (e := 11) rfl (by omega) (fun c_8 => absurd c_8 (by omega)) (fun c_8 => ?_)
    refine wx_iload_n rfl (e := 12) rfl rfl ?_
    refine wx_iconst (v := (nI 0)) rfl (e := 13) rfl (by decide) ?_
    refine wx_bipush (v := (nI 60)) rfl (e := 15) rfl (by decide) ?_
    refine wx_cs3 (mc := 0) (ms := 0) rfl (e := 18) rfl (Nat.le_of_ble_eq_true rfl) ⟨by decide, by decide⟩ ?_
    refine c_X10_isWithin (lo := 0) (hi := 60) (by omega) (by decide) (fun k2 a2 b2 ek2 => ?_) (fun no2 => ?_)
    · subst ek2
      have f_2 : wiS (nI k2) (0) (60) = true := wi_y a2 b2 (by omega)
      have g_2 : kS (nI k2) = k2 := kS_n (by omega)
      refine wn_if_eq rfl (e := 21) rfl (by omega) (fun c_18 => absurd c_18 (by omega)) (fun c_18 => ?_)
      refine wx_iload_n rfl (e := 22) rfl rfl ?_
      refine wx_iconst (v := (nI 1)) rfl (e := 23) rfl (by decide) ?_
      refine wx_bipush (v := (nI 20)) rfl (e := 25) rfl (by decide) ?_
      refine wx_cs3 (mc := 0) (ms := 0) rfl (e := 28) rfl (Nat.le_of_ble_eq_true rfl) ⟨by decide, by decide⟩ ?_
      refine c_X10_isWithin (lo := 1) (hi := 20) (by omega) (by decide) (fun k3 a3 b3 ek3 => ?_) (fun no3 => ?_)
      · subst ek3
        have f_3 : wiS (nI k3) (1) (20) = true := wi_y a3 b3 (by omega)
        have g_3 : kS (nI k3) = k3 := kS_n (by omega)
        refine wn_if_ne rfl (e := 31) rfl (by omega) (fun c_28 => ?_) (fun c_28 => absurd c_28 (by omega))
        refine wx_aload_n rfl (e := 34) rfl rfl ?_
        refine wx_getr rfl (e := 37) rfl rfl rfl ?_
        refine wx_iload_n rfl (e := 38) rfl rfl ?_
        refine wx_iload_n rfl (e := 39) rfl rfl ?_
        refine wx_iload_n rfl (e := 40) rfl rfl ?_
        refine wx_cv3 (mc := 0) (ms := 0) rfl (e := 43) rfl rfl (Nat.le_of_ble_eq_true rfl) ⟨by decide, by decide⟩ ?_
        refine c_X1_seedsWithWonder hT hS hL hk1 (by omega) (by omega) (fun I2 f2 => ?_)
        refine wx_iret rfl rfl rfl ⟨by decide, by decide⟩ ?_
        simp only [aYear, f_1, g_1, f_2, g_2, f_3, g_3, Bool.and_true, Bool.true_and, Bool.false_and, Bool.and_false, Bool.false_eq_true, eq_self, if_true, if_false] at hq
        exact hq I2 f2
      · have f_3 : wiS k (1) (20) = false := wi_n no3
        refine wn_if_ne rfl (e := 31) rfl (by omega) (fun c_28 => absurd c_28 (by omega)) (fun c_28 => ?_)
        refine wx_iconst (v := (-1)) rfl (e := 32) rfl (by decide) ?_
        refine wx_iret rfl rfl rfl ⟨by decide, by decide⟩ ?_
        simp only [aYear, f_1, g_1, f_2, g_2, f_3, Bool.and_true, Bool.true_and, Bool.false_and, Bool.and_false, Bool.false_eq_true, eq_self, if_true, if_false] at hq
        exact hq I frf.rf
    · have f_2 : wiS n (0) (60) = false := wi_n no2
      refine wn_if_eq rfl (e := 21) rfl (by omega) (fun c_18 => ?_) (fun c_18 => absurd c_18 (by omega))
      refine wx_iconst (v := (-1)) rfl (e := 32) rfl (by decide) ?_
      refine wx_iret rfl rfl rfl ⟨by decide, by decide⟩ ?_
      simp only [aYear, f_1, g_1, f_2, Bool.and_true, Bool.true_and, Bool.false_and, Bool.and_false, Bool.false_eq_true, eq_self, if_true, if_false] at hq
      exact hq I frf.rf
  · have f_1 : inS e (tR (gT s)) = false := in_n no1
    refine wn_if_eq rfl (e := 11) rfl (by omega) (fun c_8 => ?_) (fun c_8 => absurd c_8 (by omega))
    refine wx_iconst (v := (-1)) rfl (e := 32) rfl (by decide) ?_
    refine wx_iret rfl rfl rfl ⟨by decide, by decide⟩ ?_
    simp only [aYear, f_1, Bool.and_true, Bool.true_and, Bool.false_and, Bool.and_false, Bool.false_eq_true, eq_self, if_true, if_false] at hq
    exact hq I frf.rf
theorem wkL_in (T : tx) (r : rw_) : ∀ c, (wkL T r c).1 = -2 ∨ ∃ b, b < c ∧ (wkL T r c).1 = nI b
  | 0 => Or.inl rfl
  | c + 1 => by
    have ih := wkL_in T r c
    rw [wkL]
    split
    · exact Or.inr ⟨c, by omega, rfl⟩
    · rcases ih with h | ⟨b, h1, h2⟩
      · exact Or.inl h
      · exact Or.inr ⟨b, by omega, h2⟩
theorem c_X10_weak {d Lx t rt : Nat} {I : Nat → Nat → Int32} {G : Nat → Nat → Int64} {Q : ab_Q} {s : gs} {n0 : Nat} (hC : CI t I s) (hg : gok n0 s) {w : Int32}  (hq : ∀ I2, frf t I I2 → Q (some (.int (aWeak s w))) (hp Lx t rt t I2 G)) : ab_call ab_MT (d + 8) 158 [.ref 0, .int w] (hp Lx t rt t I G) 0 0 Q := by
  obtain ⟨hT, hD, hS, hA, hK, hW, hB, hP⟩ := id hC
  have hu := hT.1
  obtain ⟨hC6, hR6, hP5, hH, hTf, hFn, hLx⟩ := hT.2.1
  obtain ⟨-, -, t1, t2, t3, t4, t5, t6, t7, -⟩ := id hT
  have hL := hg.1.1
  have hr := hL.2.1
  refine wx_in (M := mX10_weak) rfl rfl rfl (Nat.le_of_ble_eq_true rfl) ?_
  refine wx_iload_n rfl (e := 1) rfl rfl ?_
  refine wx_iconst (v := (nI 0)) rfl (e := 2) rfl (by decide) ?_
  refine wx_iconst (v := (nI 2)) rfl (e := 3) rfl (by decide) ?_
  refine wx_cs3 (mc := 0) (ms := 0) rfl (e := 6) rfl (Nat.le_of_ble_eq_true rfl) ⟨by decide, by decide⟩ ?_
  refine c_X10_isWithin (lo := 0) (hi := 2) (by omega) (by decide) (fun k1 a1 b1 ek1 => ?_) (fun no1 => ?_)
  · subst ek1
    have f_1 : wiS (nI k1) (0) (2) = true := wi_y a1 b1 (by omega)
    have g_1 : kS (nI k1) = k1 := kS_n (by omega)
    refine wn_if_ne rfl (e := 9) rfl (by omega) (fun c_6 => ?_) (fun c_6 => absurd c_6 (by omega))
    refine wx_aload_n rfl (e := 12) rfl rfl ?_
    refine wx_getr rfl (e := 15) rfl rfl rfl ?_
    refine wx_aload_n rfl (e := 16) rfl rfl ?_
    refine wx_getr rfl (e := 19) rfl rfl rfl ?_
    refine wx_cv1 (mc := 0) (ms := 0) rfl (e := 22) rfl rfl (Nat.le_of_ble_eq_true rfl) ⟨by decide, by decide⟩ ?_
    refine c_X0_weakest hT (s := 39) (by omega) hS hL (fun I2 f2 => ?_)
    refine wx_istore_n (L2 := [_, _, _, _]) rfl (e := 23) rfl (by decide) rfl ?_
    refine wx_iload_n rfl (e := 24) rfl rfl ?_
    refine wx_if_lt rfl (e := 27) rfl (fun c_24 => ?_) (fun c_24 => ?_)
    · rw [← nI_0] at c_24
      refine wx_iload_n rfl (e := 32) rfl rfl ?_
      refine wx_iret rfl rfl rfl ⟨by decide, by decide⟩ ?_
      simp only [aWeak, f_1, g_1, Bool.and_true, Bool.true_and, Bool.false_and, Bool.and_false, Bool.false_eq_true, eq_self, if_true, if_false] at hq
      rw [if_pos (Or.inl c_24)] at hq
      exact hq I2 f2.f
    · rw [← nI_0] at c_24
      obtain ⟨e, he, ee⟩ : ∃ b, b < tR (gT s) ∧ wkS (gT s) (gR s) = nI b := by
        rcases wkL_in (gT s) (gR s) (tR (gT s)) with h | h
        · exact absurd (show wkS (gT s) (gR s) < nI 0 from by unfold wkS; rw [h]; decide) c_24
        · exact h
      have ke : kS (wkS (gT s) (gR s)) = e := by rw [ee]; exact kS_n (by omega)
      refine wx_iload_n rfl (e := 28) rfl rfl ?_
      refine wn_if_ne rfl (e := 31) rfl (by omega) (fun c_28 => ?_) (fun c_28 => ?_)
      · rw [ee]
        refine wx_aload_n rfl (e := 34) rfl rfl ?_
        refine wx_getr rfl (e := 37) rfl rfl rfl ?_
        refine wx_aload_n rfl (e := 38) rfl rfl ?_
        refine wx_getr rfl (e := 41) rfl rfl rfl ?_
        refine wx_iload_n rfl (e := 42) rfl rfl ?_
        refine wx_cv2 (mc := 0) (ms := 0) rfl (e := 45) rfl rfl (Nat.le_of_ble_eq_true rfl) ⟨by decide, by decide⟩ ?_
        refine c_X0_bestNights (f2.T hT) (s := 39) (by omega) (f2.S hu (by omega) hS) hL he (fun I3 f3 => ?_)
        refine wx_istore_n (L2 := [_, _, _, _]) rfl (e := 46) rfl (by decide) rfl ?_
        refine wx_iload_n rfl (e := 47) rfl rfl ?_
        refine wx_iconst (v := (nI 1)) rfl (e := 48) rfl (by decide) ?_
        refine wn_ic_ne rfl (e := 51) rfl (by omega) (by omega) (fun c_48 => ?_) (fun c_48 => ?_)
        · refine wx_aload_n rfl (e := 56) rfl rfl ?_
          refine wx_getr rfl (e := 59) rfl rfl rfl ?_
          refine wx_aload_n rfl (e := 60) rfl rfl ?_
          refine wx_getr rfl (e := 63) rfl rfl rfl ?_
          refine wx_iload_n rfl (e := 64) rfl rfl ?_
          refine wx_iload_n rfl (e := 65) rfl rfl ?_
          refine wx_cv3 (mc := 0) (ms := 0) rfl (e := 68) rfl rfl (Nat.le_of_ble_eq_true rfl) ⟨by decide, by decide⟩ ?_
          refine c_X0_likely ((f2.tr f3).T hT) (s := 39) (by omega) ((f2.tr f3).S hu (by omega) hS) hL he (fun I4 f4 => ?_)
          refine wx_iret rfl rfl rfl ⟨by decide, by decide⟩ ?_
          simp only [aWeak, f_1, g_1, Bool.and_true, Bool.true_and, Bool.false_and, Bool.and_false, Bool.false_eq_true, eq_self, if_true, if_false] at hq
          rw [if_neg (fun z => z.elim c_24 c_28), if_neg c_48, ke] at hq
          exact hq I4 (f2.tr (f3.tr f4)).f
        · refine wx_iload_n rfl (e := 52) rfl rfl ?_
          refine wx_goto rfl ?_
          refine wx_iret rfl rfl rfl ⟨by decide, by decide⟩ ?_
          simp only [aWeak, f_1, g_1, Bool.and_true, Bool.true_and, Bool.false_and, Bool.and_false, Bool.false_eq_true, eq_self, if_true, if_false] at hq
          rw [if_neg (fun z => z.elim c_24 c_28), if_pos c_48, ke] at hq
          exact hq I3 (f2.tr f3).f
      · refine wx_iload_n rfl (e := 32) rfl rfl ?_
        refine wx_iret rfl rfl rfl ⟨by decide, by decide⟩ ?_
        simp only [aWeak, f_1, g_1, Bool.and_true, Bool.true_and, Bool.false_and, Bool.and_false, Bool.false_eq_true, eq_self, if_true, if_false] at hq
        rw [if_pos (Or.inr c_28)] at hq
        exact hq I2 f2.f
  · have f_1 : wiS w (0) (2) = false := wi_n no1
    refine wn_if_ne rfl (e := 9) rfl (by omega) (fun c_6 => absurd c_6 (by omega)) (fun c_6 => ?_)
    refine wx_iconst (v := (-1)) rfl (e := 10) rfl (by decide) ?_
    refine wx_iret rfl rfl rfl ⟨by decide, by decide⟩ ?_
    simp only [aWeak, f_1, Bool.and_true, Bool.true_and, Bool.false_and, Bool.and_false, Bool.false_eq_true, eq_self, if_true, if_false] at hq
    exact hq I frf.rf
theorem gdL_none {f : Nat → Option Int32} {c : Nat} (h : gdL f c = none) : ∀ n, c ≤ n → gdL f n = none
  | 0, hn => by have e0 : c = 0 := by omega
                subst e0; exact h
  | n + 1, hn => by
    by_cases z : c = n + 1
    · subst z; exact h
    · rw [gdL, gdL_none h n (by omega)]
set_option maxHeartbeats 1000000 in
theorem c_X10_guards {d Lx t rt : Nat} {I : Nat → Nat → Int32} {G : Nat → Nat → Int64} {Q : ab_Q} {s : gs} {n0 : Nat} (hC : CI t I s) (hg : gok n0 s) {p n : Int32}  (hq : ∀ I2, frf t I I2 → Q (some (.int (aGuards s p n))) (hp Lx t rt t I2 G)) : ab_call ab_MT (d + 6) 157 [.ref 0, .int p, .int n] (hp Lx t rt t I G) 0 0 Q := by
  obtain ⟨hT, hD, hS, hA, hK, hW, hB, hP⟩ := id hC
  have hu := hT.1
  obtain ⟨hC6, hR6, hP5, hH, hTf, hFn, hLx⟩ := hT.2.1
  obtain ⟨-, -, t1, t2, t3, t4, t5, t6, t7, -⟩ := id hT
  have hL := hg.1.1
  have hr := hL.2.1
  refine wx_in (M := mX10_guards) rfl rfl rfl (Nat.le_of_ble_eq_true rfl) ?_
  refine wx_iload_n rfl (e := 1) rfl rfl ?_
  refine wx_iconst (v := (nI 1)) rfl (e := 2) rfl (by decide) ?_
  refine wx_bipush (v := (nI 100)) rfl (e := 4) rfl (by decide) ?_
  refine wx_cs3 (mc := 0) (ms := 0) rfl (e := 7) rfl (Nat.le_of_ble_eq_true rfl) ⟨by decide, by decide⟩ ?_
  refine c_X10_isWithin (lo := 1) (hi := 100) (by omega) (by decide) (fun k1 a1 b1 ek1 => ?_) (fun no1 => ?_)
  · subst ek1
    have f_1 : wiS (nI k1) (1) (100) = true := wi_y a1 b1 (by omega)
    have g_1 : kS (nI k1) = k1 := kS_n (by omega)
    refine wn_if_eq rfl (e := 10) rfl (by omega) (fun c_7 => absurd c_7 (by omega)) (fun c_7 => ?_)
    refine wx_iload_n rfl (e := 11) rfl rfl ?_
    refine wx_iconst (v := (nI 1)) rfl (e := 12) rfl (by decide) ?_
    refine wx_bipush (v := (nI 9)) rfl (e := 14) rfl (by decide) ?_
    refine wx_cs3 (mc := 0) (ms := 0) rfl (e := 17) rfl (Nat.le_of_ble_eq_true rfl) ⟨by decide, by decide⟩ ?_
    refine c_X10_isWithin (lo := 1) (hi := 9) (by omega) (by decide) (fun k2 a2 b2 ek2 => ?_) (fun no2 => ?_)
    · subst ek2
      have f_2 : wiS (nI k2) (1) (9) = true := wi_y a2 b2 (by omega)
      have g_2 : kS (nI k2) = k2 := kS_n (by omega)
      refine wn_if_ne rfl (e := 20) rfl (by omega) (fun c_17 => ?_) (fun c_17 => absurd c_17 (by omega))
      refine wx_iconst (v := (nI 0)) rfl (e := 23) rfl (by decide) ?_
      refine wx_istore_n (L2 := [_, _, _, _, _, _]) rfl (e := 24) rfl (by decide) rfl ?_
      refine wx_iconst (v := (nI 0)) rfl (e := 25) rfl (by decide) ?_
      refine wx_istore (L2 := [_, _, _, _, _, _]) rfl (e := 27) rfl (by decide) rfl ?_
      simp only [aGuards, f_1, g_1, f_2, g_2, Bool.and_true, Bool.true_and, Bool.false_and, Bool.and_false, Bool.false_eq_true, eq_self, if_true, if_false] at hq
      have loop : ∀ (m c : Nat) (a : Int32) (I2 : Nat → Nat → Int32), c ≤ tC (gT s) → tC (gT s) - c < m → fr5 t I I2 → gdL (gdF (gT s) (gR s) (nI k1) k2) c = some a → ∀ x5, WP (d + 5) mX10_guards Q 27 [some (.ref 0), some (.int (nI k1)), some (.int (nI k2)), some (.int a), some (.int (nI c)), x5] [] (hp Lx t rt t I2 G) 0 0 := by
        intro m
        induction m with
        | zero => intro c a I2 h1 h2; omega
        | succ m ih =>
          intro c a I2 h1 h2 f2 ha x5
          refine wx_iload rfl (e := 29) rfl rfl ?_
          refine wx_aload_n rfl (e := 30) rfl rfl ?_
          refine wx_getr rfl (e := 33) rfl rfl rfl ?_
          refine wx_cv0 (mc := 0) (ms := 0) rfl (e := 36) rfl (sh_t hu) (Nat.le_of_ble_eq_true rfl) ⟨by decide, by decide⟩ ?_
          refine c_X7_churches hu ?_
          rw [f2 t (by omega) (by omega), t1]
          refine wn_ic_ge rfl (e := 39) rfl (by omega) (by omega) (fun c_36 => ?_) (fun c_36 => ?_)
          · refine wx_iload_n rfl (e := 91) rfl rfl ?_
            refine wx_iret rfl rfl rfl ⟨by decide, by decide⟩ ?_
            have ec : c = tC (gT s) := by omega
            subst ec
            rw [ha] at hq
            exact hq I2 f2.f
          · refine wx_aload_n rfl (e := 40) rfl rfl ?_
            refine wx_getr rfl (e := 43) rfl rfl rfl ?_
            refine wx_bipush (v := (nI 18)) rfl (e := 45) rfl (by decide) ?_
            refine wx_iload rfl (e := 47) rfl rfl ?_
            refine wn_iadd rfl (e := 48) rfl ?_
            refine wx_cv1 (mc := 0) (ms := 0) rfl (e := 51) rfl rfl (Nat.le_of_ble_eq_true rfl) ⟨by decide, by decide⟩ ?_
            refine c_X5_get (c := 39) (by omega) (by omega) ?_
            rw [(f2.S hu (Or.inl rfl) hS) _ (by omega), cst_at _ (by omega)]
            have hlt := bs_lt (atC (gR s) c)
            refine wn_if_eq rfl (e := 54) rfl (by omega) (fun c_51 => ?_) (fun c_51 => ?_)
            · refine wn_iinc (m := 1) (L2 := [_, _, _, _, _, _]) rfl (e := 87) rfl rfl (by decide) rfl ?_
              refine wx_goto rfl ?_
              have hG : gdL (gdF (gT s) (gR s) (nI k1) k2) (c + 1) = some (a + nI 0) := by rw [gdL, ha]; show (match gdF (gT s) (gR s) (nI k1) k2 c with | none => none | some b => some (a + b)) = _; unfold gdF; rw [if_pos c_51]
              have e0 : a + nI 0 = a := by rw [nI_0]; exact Int32.add_zero a
              rw [e0] at hG
              exact ih (c + 1) a I2 (by omega) (by omega) f2 hG _
            · refine wx_aload_n rfl (e := 55) rfl rfl ?_
              refine wx_getr rfl (e := 58) rfl rfl rfl ?_
              refine wx_aload_n rfl (e := 59) rfl rfl ?_
              refine wx_getr rfl (e := 62) rfl rfl rfl ?_
              refine wx_iload rfl (e := 64) rfl rfl ?_
              refine wx_iload_n rfl (e := 65) rfl rfl ?_
              refine wx_iload_n rfl (e := 66) rfl rfl ?_
              refine wx_cv4 (mc := 0) (ms := 0) rfl (e := 69) rfl rfl (Nat.le_of_ble_eq_true rfl) ⟨by decide, by decide⟩ ?_
              refine c_X0_watchersFor (f2.T hT) (s := 39) (by omega) (f2.S hu (Or.inl rfl) hS) (by omega) (fun I3 f3 => ?_)
              refine wx_istore (L2 := [_, _, _, _, _, _]) rfl (e := 71) rfl (by decide) rfl ?_
              refine wx_iload rfl (e := 73) rfl rfl ?_
              refine wx_if_ge rfl (e := 76) rfl (fun c_73 => ?_) (fun c_73 => ?_)
              · rw [← nI_0] at c_73
                refine wx_iload_n rfl (e := 80) rfl rfl ?_
                refine wx_iload rfl (e := 82) rfl rfl ?_
                refine wx_iadd rfl (e := 83) rfl ?_
                refine wx_istore_n (L2 := [_, _, _, _, _, _]) rfl (e := 84) rfl (by decide) rfl ?_
                refine wn_iinc (m := 1) (L2 := [_, _, _, _, _, _]) rfl (e := 87) rfl rfl (by decide) rfl ?_
                refine wx_goto rfl ?_
                have hG : gdL (gdF (gT s) (gR s) (nI k1) k2) (c + 1) = some (a + wfS (gT s) (gR s) c (nI k1) k2) := by rw [gdL, ha]; show (match gdF (gT s) (gR s) (nI k1) k2 c with | none => none | some b => some (a + b)) = _; unfold gdF; rw [if_neg c_51, if_neg (Int32.not_lt.mpr c_73)]
                exact ih (c + 1) _ I3 (by omega) (by omega) (f2.tr f3) hG _
              · rw [← nI_0] at c_73
                refine wx_bipush (v := (-2)) rfl (e := 78) rfl (by decide) ?_
                refine wx_iret rfl rfl rfl ⟨by decide, by decide⟩ ?_
                have hG : gdL (gdF (gT s) (gR s) (nI k1) k2) (c + 1) = none := by rw [gdL, ha]; show (match gdF (gT s) (gR s) (nI k1) k2 c with | none => none | some b => some (a + b)) = _; unfold gdF; rw [if_neg c_51, if_pos (Int32.not_le.mp c_73)]
                rw [gdL_none hG _ (show c + 1 ≤ tC (gT s) by omega)] at hq
                exact hq I3 (f2.tr f3).f
      exact loop (tC (gT s) + 1) 0 (nI 0) I (by omega) (by omega) fr5.rf rfl _
    · have f_2 : wiS n (1) (9) = false := wi_n no2
      refine wn_if_ne rfl (e := 20) rfl (by omega) (fun c_17 => absurd c_17 (by omega)) (fun c_17 => ?_)
      refine wx_iconst (v := (-1)) rfl (e := 21) rfl (by decide) ?_
      refine wx_iret rfl rfl rfl ⟨by decide, by decide⟩ ?_
      simp only [aGuards, f_1, g_1, f_2, Bool.and_true, Bool.true_and, Bool.false_and, Bool.and_false, Bool.false_eq_true, eq_self, if_true, if_false] at hq
      exact hq I frf.rf
  · have f_1 : wiS p (1) (100) = false := wi_n no1
    refine wn_if_eq rfl (e := 10) rfl (by omega) (fun c_7 => ?_) (fun c_7 => absurd c_7 (by omega))
    refine wx_iconst (v := (-1)) rfl (e := 21) rfl (by decide) ?_
    refine wx_iret rfl rfl rfl ⟨by decide, by decide⟩ ?_
    simp only [aGuards, f_1, Bool.and_true, Bool.true_and, Bool.false_and, Bool.and_false, Bool.false_eq_true, eq_self, if_true, if_false] at hq
    exact hq I frf.rf
theorem c_X10_hub {d Lx t rt : Nat} {I : Nat → Nat → Int32} {G : Nat → Nat → Int64} {Q : ab_Q} {s : gs} {n0 : Nat} (hC : CI t I s) (hg : gok n0 s) (hq : ∀ I2, frf t I I2 → Q (some (.int (aHub s))) (hp Lx t rt t I2 G)) : ab_call ab_MT (d + 2) 164 [.ref 0] (hp Lx t rt t I G) 0 0 Q := by
  obtain ⟨hT, hD, hS, hA, hK, hW, hB, hP⟩ := id hC
  have hu := hT.1
  obtain ⟨hC6, hR6, hP5, hH, hTf, hFn, hLx⟩ := hT.2.1
  obtain ⟨-, -, t1, t2, t3, t4, t5, t6, t7, -⟩ := id hT
  have hL := hg.1.1
  have hr := hL.2.1
  have inner : ∀ c, c < tC (gT s) → (∀ x5, WP (d + 1) mX10_hub Q 57 [some (.ref 0), some (.int (amn (hbF (gT s)) c).1), some (.int (amn (hbF (gT s)) c).2), some (.int (nI c)), some (.int (hbF (gT s) c)), x5] [] (hp Lx t rt t I G) 0 0) → ∀ (m j : Nat), j ≤ tC (gT s) → tC (gT s) - j < m → WP (d + 1) mX10_hub Q 24 [some (.ref 0), some (.int (amn (hbF (gT s)) c).1), some (.int (amn (hbF (gT s)) c).2), some (.int (nI c)), some (.int (sm_ (tF (gT s) c) 0 j)), some (.int (nI j))] [] (hp Lx t rt t I G) 0 0 := by
    intro c hc go m
    induction m with
    | zero => intro j h1 h2; omega
    | succ m ih =>
      intro j h1 h2
      refine wx_iload rfl (e := 26) rfl rfl ?_
      refine wx_aload_n rfl (e := 27) rfl rfl ?_
      refine wx_getr rfl (e := 30) rfl rfl rfl ?_
      refine wx_cv0 (mc := 0) (ms := 0) rfl (e := 33) rfl (sh_t hu) (Nat.le_of_ble_eq_true rfl) ⟨by decide, by decide⟩ ?_
      refine c_X7_churches hu ?_
      rw [t1]
      refine wn_ic_ge rfl (e := 36) rfl (by omega) (by omega) (fun c_33 => ?_) (fun c_33 => ?_)
      · have ej : j = tC (gT s) := by omega
        subst ej
        exact go _
      · refine wx_iload rfl (e := 38) rfl rfl ?_
        refine wx_aload_n rfl (e := 39) rfl rfl ?_
        refine wx_getr rfl (e := 42) rfl rfl rfl ?_
        refine wx_iload_n rfl (e := 43) rfl rfl ?_
        refine wx_iload rfl (e := 45) rfl rfl ?_
        refine wx_cv2 (mc := 0) (ms := 0) rfl (e := 48) rfl (sh_t hu) (Nat.le_of_ble_eq_true rfl) ⟨by decide, by decide⟩ ?_
        refine c_X7_far hu t1 hc (by omega) hC6 ?_
        rw [t6 _ _ hc (by omega)]
        refine wx_iadd rfl (e := 49) rfl ?_
        refine wx_istore (L2 := [_, _, _, _, _, _]) rfl (e := 51) rfl (by decide) rfl ?_
        refine wn_iinc (m := 1) (L2 := [_, _, _, _, _, _]) rfl (e := 54) rfl rfl (by decide) rfl ?_
        refine wx_goto rfl ?_
        have hG : sm_ (tF (gT s) c) 0 (j + 1) = sm_ (tF (gT s) c) 0 j + tF (gT s) c j := by rw [sm_, Nat.zero_add]
        have hh := ih (j + 1) (by omega) (by omega)
        rw [hG] at hh
        exact hh
  have outer : ∀ (m : Nat) (c : Nat), c ≤ tC (gT s) → tC (gT s) - c < m → ∀ x4 x5, WP (d + 1) mX10_hub Q 7 [some (.ref 0), some (.int (amn (hbF (gT s)) c).1), some (.int (amn (hbF (gT s)) c).2), some (.int (nI c)), x4, x5] [] (hp Lx t rt t I G) 0 0 := by
    intro m
    induction m with
    | zero => intro c h1 h2 x4 x5; omega
    | succ m ih =>
      intro c h1 h2 x4 x5
      refine wx_iload_n rfl (e := 8) rfl rfl ?_
      refine wx_aload_n rfl (e := 9) rfl rfl ?_
      refine wx_getr rfl (e := 12) rfl rfl rfl ?_
      refine wx_cv0 (mc := 0) (ms := 0) rfl (e := 15) rfl (sh_t hu) (Nat.le_of_ble_eq_true rfl) ⟨by decide, by decide⟩ ?_
      refine c_X7_churches hu ?_
      rw [t1]
      refine wn_ic_ge rfl (e := 18) rfl (by omega) (by omega) (fun c_15 => ?_) (fun c_15 => ?_)
      · refine wx_iload_n rfl (e := 79) rfl rfl ?_
        refine wx_iret rfl rfl rfl ⟨by decide, by decide⟩ ?_
        have ec : c = tC (gT s) := by omega
        subst ec
        exact hq I frf.rf
      · refine wx_iconst (v := (nI 0)) rfl (e := 19) rfl (by decide) ?_
        refine wx_istore (L2 := [_, _, _, _, _, _]) rfl (e := 21) rfl (by decide) rfl ?_
        refine wx_iconst (v := (nI 0)) rfl (e := 22) rfl (by decide) ?_
        refine wx_istore (L2 := [_, _, _, _, _, _]) rfl (e := 24) rfl (by decide) rfl ?_
        refine inner c (by omega) (fun x => ?_) (tC (gT s) + 1) 0 (by omega) (by omega)
        refine wx_iload_n rfl (e := 58) rfl rfl ?_
        refine wx_if_lt rfl (e := 61) rfl (fun c_58 => ?_) (fun c_58 => ?_)
        · rw [← nI_0] at c_58
          have hG : amn (hbF (gT s)) (c + 1) = (nI c, hbF (gT s) c) := by rw [amn, if_pos (Or.inl c_58)]
          refine wx_iload_n rfl (e := 68) rfl rfl ?_
          refine wx_istore_n (L2 := [_, _, _, _, _, _]) rfl (e := 69) rfl (by decide) rfl ?_
          refine wx_iload rfl (e := 71) rfl rfl ?_
          refine wx_istore_n (L2 := [_, _, _, _, _, _]) rfl (e := 72) rfl (by decide) rfl ?_
          refine wn_iinc (m := 1) (L2 := [_, _, _, _, _, _]) rfl (e := 75) rfl rfl (by decide) rfl ?_
          refine wx_goto rfl ?_
          have hh := fun x4 x5 => ih (c + 1) (by omega) (by omega) x4 x5
          rw [hG] at hh
          exact hh _ _
        · rw [← nI_0] at c_58
          refine wx_iload rfl (e := 63) rfl rfl ?_
          refine wx_iload_n rfl (e := 64) rfl rfl ?_
          refine wx_ic_ge rfl (e := 67) rfl (fun c_64 => ?_) (fun c_64 => ?_)
          · have hG : amn (hbF (gT s)) (c + 1) = amn (hbF (gT s)) c := by rw [amn, if_neg (fun z => z.elim c_58 (fun z => absurd c_64 (Int32.not_le.mpr z)))]
            refine wn_iinc (m := 1) (L2 := [_, _, _, _, _, _]) rfl (e := 75) rfl rfl (by decide) rfl ?_
            refine wx_goto rfl ?_
            have hh := fun x4 x5 => ih (c + 1) (by omega) (by omega) x4 x5
            rw [hG] at hh
            exact hh _ _
          · have hG : amn (hbF (gT s)) (c + 1) = (nI c, hbF (gT s) c) := by rw [amn, if_pos (Or.inr (Int32.not_le.mp c_64))]
            refine wx_iload_n rfl (e := 68) rfl rfl ?_
            refine wx_istore_n (L2 := [_, _, _, _, _, _]) rfl (e := 69) rfl (by decide) rfl ?_
            refine wx_iload rfl (e := 71) rfl rfl ?_
            refine wx_istore_n (L2 := [_, _, _, _, _, _]) rfl (e := 72) rfl (by decide) rfl ?_
            refine wn_iinc (m := 1) (L2 := [_, _, _, _, _, _]) rfl (e := 75) rfl rfl (by decide) rfl ?_
            refine wx_goto rfl ?_
            have hh := fun x4 x5 => ih (c + 1) (by omega) (by omega) x4 x5
            rw [hG] at hh
            exact hh _ _
  refine wx_in (M := mX10_hub) rfl rfl rfl (Nat.le_of_ble_eq_true rfl) ?_
  refine wx_bipush (v := (-2)) rfl (e := 2) rfl (by decide) ?_
  refine wx_istore_n (L2 := [_, _, _, _, _, _]) rfl (e := 3) rfl (by decide) rfl ?_
  refine wx_iconst (v := (nI 0)) rfl (e := 4) rfl (by decide) ?_
  refine wx_istore_n (L2 := [_, _, _, _, _, _]) rfl (e := 5) rfl (by decide) rfl ?_
  refine wx_iconst (v := (nI 0)) rfl (e := 6) rfl (by decide) ?_
  refine wx_istore_n (L2 := [_, _, _, _, _, _]) rfl (e := 7) rfl (by decide) rfl ?_
  exact outer (tC (gT s) + 1) 0 (by omega) (by omega) _ _
theorem cw_lt (T : tx) (r : rw_) (c : Nat) : ∀ a, cwN T r c a < 2 ^ a
  | 0 => Nat.zero_lt_one
  | a + 1 => by
    have := cw_lt T r c a
    rw [cwN, Nat.pow_succ]
    split <;> omega
theorem c_X10_crowd {d Lx t rt : Nat} {I : Nat → Nat → Int32} {G : Nat → Nat → Int64} {Q : ab_Q} {s : gs} {n0 : Nat} (hC : CI t I s) (hg : gok n0 s) {c : Int32}  (hq : ∀ I2, frf t I I2 → Q (some (.int (aCrowd s c))) (hp Lx t rt t I2 G)) : ab_call ab_MT (d + 6) 165 [.ref 0, .int c] (hp Lx t rt t I G) 0 0 Q := by
  obtain ⟨hT, hD, hS, hA, hK, hW, hB, hP⟩ := id hC
  have hu := hT.1
  obtain ⟨hC6, hR6, hP5, hH, hTf, hFn, hLx⟩ := hT.2.1
  obtain ⟨-, -, t1, t2, t3, t4, t5, t6, t7, -⟩ := id hT
  have hL := hg.1.1
  have hr := hL.2.1
  refine wx_in (M := mX10_crowd) rfl rfl rfl (Nat.le_of_ble_eq_true rfl) ?_
  refine wx_aload_n rfl (e := 1) rfl rfl ?_
  refine wx_getr rfl (e := 4) rfl rfl rfl ?_
  refine wx_iload_n rfl (e := 5) rfl rfl ?_
  refine wx_cv1 (mc := 0) (ms := 0) rfl (e := 8) rfl (sh_t hu) (Nat.le_of_ble_eq_true rfl) ⟨by decide, by decide⟩ ?_
  refine c_X7_hasChurch hu (n := tC (gT s)) t1 (by omega) (fun k1 hk1 ek1 => ?_) (fun no1 => ?_)
  · subst ek1
    have f_1 : inS (nI k1) (tC (gT s)) = true := in_y hk1 (by omega)
    have g_1 : kS (nI k1) = k1 := kS_n (by omega)
    refine wn_if_ne rfl (e := 11) rfl (by omega) (fun c_8 => ?_) (fun c_8 => absurd c_8 (by omega))
    refine wx_iconst (v := (nI 0)) rfl (e := 14) rfl (by decide) ?_
    refine wx_istore_n (L2 := [_, _, _, _]) rfl (e := 15) rfl (by decide) rfl ?_
    refine wx_iconst (v := (nI 0)) rfl (e := 16) rfl (by decide) ?_
    refine wx_istore_n (L2 := [_, _, _, _]) rfl (e := 17) rfl (by decide) rfl ?_
    simp only [aCrowd, f_1, g_1, Bool.and_true, Bool.true_and, Bool.false_and, Bool.and_false, Bool.false_eq_true, eq_self, if_true, if_false] at hq
    have loop : ∀ (m a : Nat) (I2 : Nat → Nat → Int32), a ≤ tP (gT s) → tP (gT s) - a < m → fr5 t I I2 → WP (d + 5) mX10_crowd Q 17 [some (.ref 0), some (.int (nI k1)), some (.int (nI (cwN (gT s) (gR s) k1 a))), some (.int (nI a))] [] (hp Lx t rt t I2 G) 0 0 := by
      intro m
      induction m with
      | zero => intro a I2 h1 h2; omega
      | succ m ih =>
        intro a I2 h1 h2 f2
        refine wx_iload_n rfl (e := 18) rfl rfl ?_
        refine wx_aload_n rfl (e := 19) rfl rfl ?_
        refine wx_getr rfl (e := 22) rfl rfl rfl ?_
        refine wx_cv0 (mc := 0) (ms := 0) rfl (e := 25) rfl (sh_t hu) (Nat.le_of_ble_eq_true rfl) ⟨by decide, by decide⟩ ?_
        refine c_X7_pilgrims hu ?_
        rw [f2 t (by omega) (by omega), t3]
        refine wn_ic_ge rfl (e := 28) rfl (by omega) (by omega) (fun c_25 => ?_) (fun c_25 => ?_)
        · refine wx_iload_n rfl (e := 57) rfl rfl ?_
          refine wx_iret rfl rfl rfl ⟨by decide, by decide⟩ ?_
          have ec : a = tP (gT s) := by omega
          subst ec
          exact hq I2 f2.f
        · refine wx_aload_n rfl (e := 29) rfl rfl ?_
          refine wx_getr rfl (e := 32) rfl rfl rfl ?_
          refine wx_aload_n rfl (e := 33) rfl rfl ?_
          refine wx_getr rfl (e := 36) rfl rfl rfl ?_
          refine wx_iload_n rfl (e := 37) rfl rfl ?_
          refine wx_cv2 (mc := 0) (ms := 0) rfl (e := 40) rfl rfl (Nat.le_of_ble_eq_true rfl) ⟨by decide, by decide⟩ ?_
          refine c_X0_goal (f2.T hT) (s := 39) (by omega) (f2.S hu (Or.inl rfl) hS) (by omega) (fun I3 f3 => ?_)
          refine wx_iload_n rfl (e := 41) rfl rfl ?_
          refine wx_ic_ne rfl (e := 44) rfl (fun c_41 => ?_) (fun c_41 => ?_)
          · have hG : cwN (gT s) (gR s) k1 (a + 1) = cwN (gT s) (gR s) k1 a := by rw [cwN, if_neg c_41]
            refine wn_iinc (m := 1) (L2 := [_, _, _, _]) rfl (e := 53) rfl rfl (by decide) rfl ?_
            refine wx_goto rfl ?_
            have hh := ih (a + 1) I3 (by omega) (by omega) (f2.tr f3)
            rw [hG] at hh
            exact hh
          · have hG : cwN (gT s) (gR s) k1 (a + 1) = cwN (gT s) (gR s) k1 a + 2 ^ a := by rw [cwN, if_pos c_41]
            refine wx_iload_n rfl (e := 45) rfl rfl ?_
            refine wx_iconst (v := (nI 1)) rfl (e := 46) rfl (by decide) ?_
            refine wx_iload_n rfl (e := 47) rfl rfl ?_
            refine wx_ishl rfl (e := 48) rfl ?_
            refine wx_ior rfl (e := 49) rfl ?_
            rw [or6 a (by omega) _ (cw_lt _ _ _ a)]
            refine wx_istore_n (L2 := [_, _, _, _]) rfl (e := 50) rfl (by decide) rfl ?_
            refine wn_iinc (m := 1) (L2 := [_, _, _, _]) rfl (e := 53) rfl rfl (by decide) rfl ?_
            refine wx_goto rfl ?_
            have hh := ih (a + 1) I3 (by omega) (by omega) (f2.tr f3)
            rw [hG] at hh
            exact hh
    exact loop (tP (gT s) + 1) 0 I (by omega) (by omega) fr5.rf
  · have f_1 : inS c (tC (gT s)) = false := in_n no1
    refine wn_if_ne rfl (e := 11) rfl (by omega) (fun c_8 => absurd c_8 (by omega)) (fun c_8 => ?_)
    refine wx_iconst (v := (-1)) rfl (e := 12) rfl (by decide) ?_
    refine wx_iret rfl rfl rfl ⟨by decide, by decide⟩ ?_
    simp only [aCrowd, f_1, Bool.and_true, Bool.true_and, Bool.false_and, Bool.and_false, Bool.false_eq_true, eq_self, if_true, if_false] at hq
    exact hq I frf.rf
theorem c_X10_count {d Lx t rt : Nat} {I : Nat → Nat → Int32} {G : Nat → Nat → Int64} {Q : ab_Q} {s : gs} {n0 : Nat} (hC : CI t I s) (hg : gok n0 s) {w : Int32}  (hq : ∀ I2, frf t I I2 → Q (some (.int (aCount s w))) (hp Lx t rt t I2 G)) : ab_call ab_MT (d + 3) 177 [.ref 0, .int w] (hp Lx t rt t I G) 0 0 Q := by
  obtain ⟨hT, hD, hS, hA, hK, hW, hB, hP⟩ := id hC
  have hu := hT.1
  obtain ⟨hC6, hR6, hP5, hH, hTf, hFn, hLx⟩ := hT.2.1
  obtain ⟨-, -, t1, t2, t3, t4, t5, t6, t7, -⟩ := id hT
  have hL := hg.1.1
  have hr := hL.2.1
  refine wx_in (M := mX10_count) rfl rfl rfl (Nat.le_of_ble_eq_true rfl) ?_
  refine wx_iload_n rfl (e := 1) rfl rfl ?_
  refine wx_sw rfl (fun c_1 => ?_) (List.forall_mem_cons.mpr ⟨fun c_1 => ?_, (List.forall_mem_cons.mpr ⟨fun c_1 => ?_, (List.forall_mem_cons.mpr ⟨fun c_1 => ?_, (List.forall_mem_cons.mpr ⟨fun c_1 => ?_, (List.forall_mem_cons.mpr ⟨fun c_1 => ?_, (List.forall_mem_cons.mpr ⟨fun c_1 => ?_, (List.forall_mem_cons.mpr ⟨fun c_1 => ?_, (List.forall_mem_cons.mpr ⟨fun c_1 => ?_, (List.forall_mem_cons.mpr ⟨fun c_1 => ?_, (List.forall_mem_cons.mpr ⟨fun c_1 => ?_, (List.forall_mem_cons.mpr ⟨fun c_1 => ?_, (List.forall_mem_cons.mpr ⟨fun c_1 => ?_, (List.forall_mem_cons.mpr ⟨fun c_1 => ?_, (List.forall_mem_cons.mpr ⟨fun c_1 => ?_, (List.forall_mem_cons.mpr ⟨fun c_1 => ?_, (List.forall_mem_cons.mpr ⟨fun c_1 => ?_, (fun _ h => absurd h List.not_mem_nil)⟩)⟩)⟩)⟩)⟩)⟩)⟩)⟩)⟩)⟩)⟩)⟩)⟩)⟩)⟩)⟩)
  · refine wx_iconst (v := (-1)) rfl (e := 230) rfl (by decide) ?_
    refine wx_iret rfl rfl rfl ⟨by decide, by decide⟩ ?_
    simp only [aCount, Bool.and_true, Bool.true_and, Bool.false_and, Bool.and_false, Bool.false_eq_true, eq_self, if_true, if_false] at hq
    rw [if_neg (by omega), if_neg (by omega), if_neg (by omega), if_neg (by omega), if_neg (by omega), if_neg (by omega), if_neg (by omega), if_neg (by omega), if_neg (by omega), if_neg (by omega), if_neg (by omega), if_neg (by omega), if_neg (by omega), if_neg (by omega), if_neg (by omega), if_neg (by omega)] at hq
    exact hq I frf.rf
  · have c_1 : Int32.toInt _ = 0 := c_1
    show WP _ _ _ _ _ _ _ _ _
    refine wx_aload_n rfl (e := 81) rfl rfl ?_
    refine wx_getr rfl (e := 84) rfl rfl rfl ?_
    refine wx_cv0 (mc := 0) (ms := 0) rfl (e := 87) rfl (sh_t hu) (Nat.le_of_ble_eq_true rfl) ⟨by decide, by decide⟩ ?_
    refine c_X7_churches hu ?_
    rw [t1]
    refine wx_iret rfl rfl rfl ⟨by decide, by decide⟩ ?_
    simp only [aCount, Bool.and_true, Bool.true_and, Bool.false_and, Bool.and_false, Bool.false_eq_true, eq_self, if_true, if_false] at hq
    rw [if_pos c_1] at hq
    exact hq I frf.rf
  · have c_1 : Int32.toInt _ = 1 := c_1
    show WP _ _ _ _ _ _ _ _ _
    refine wx_aload_n rfl (e := 89) rfl rfl ?_
    refine wx_getr rfl (e := 92) rfl rfl rfl ?_
    refine wx_cv0 (mc := 0) (ms := 0) rfl (e := 95) rfl (sh_t hu) (Nat.le_of_ble_eq_true rfl) ⟨by decide, by decide⟩ ?_
    refine c_X7_roads hu ?_
    rw [hD]
    refine wx_iret rfl rfl rfl ⟨by decide, by decide⟩ ?_
    simp only [aCount, Bool.and_true, Bool.true_and, Bool.false_and, Bool.and_false, Bool.false_eq_true, eq_self, if_true, if_false] at hq
    rw [if_neg (by omega), if_pos c_1] at hq
    exact hq I frf.rf
  · have c_1 : Int32.toInt _ = 2 := c_1
    show WP _ _ _ _ _ _ _ _ _
    refine wx_aload_n rfl (e := 97) rfl rfl ?_
    refine wx_getr rfl (e := 100) rfl rfl rfl ?_
    refine wx_cv0 (mc := 0) (ms := 0) rfl (e := 103) rfl (sh_t hu) (Nat.le_of_ble_eq_true rfl) ⟨by decide, by decide⟩ ?_
    refine c_X7_relics hu ?_
    rw [t2]
    refine wx_iret rfl rfl rfl ⟨by decide, by decide⟩ ?_
    simp only [aCount, Bool.and_true, Bool.true_and, Bool.false_and, Bool.and_false, Bool.false_eq_true, eq_self, if_true, if_false] at hq
    rw [if_neg (by omega), if_neg (by omega), if_pos c_1] at hq
    exact hq I frf.rf
  · have c_1 : Int32.toInt _ = 3 := c_1
    show WP _ _ _ _ _ _ _ _ _
    refine wx_aload_n rfl (e := 105) rfl rfl ?_
    refine wx_getr rfl (e := 108) rfl rfl rfl ?_
    refine wx_cv0 (mc := 0) (ms := 0) rfl (e := 111) rfl (sh_t hu) (Nat.le_of_ble_eq_true rfl) ⟨by decide, by decide⟩ ?_
    refine c_X7_pilgrims hu ?_
    rw [t3]
    refine wx_iret rfl rfl rfl ⟨by decide, by decide⟩ ?_
    simp only [aCount, Bool.and_true, Bool.true_and, Bool.false_and, Bool.and_false, Bool.false_eq_true, eq_self, if_true, if_false] at hq
    rw [if_neg (by omega), if_neg (by omega), if_neg (by omega), if_pos c_1] at hq
    exact hq I frf.rf
  · have c_1 : Int32.toInt _ = 4 := c_1
    show WP _ _ _ _ _ _ _ _ _
    refine wx_aload_n rfl (e := 113) rfl rfl ?_
    refine wx_getr rfl (e := 116) rfl rfl rfl ?_
    refine wx_bipush (v := (nI 52)) rfl (e := 118) rfl (by decide) ?_
    refine wx_cv1 (mc := 0) (ms := 0) rfl (e := 121) rfl rfl (Nat.le_of_ble_eq_true rfl) ⟨by decide, by decide⟩ ?_
    refine c_X5_get (c := 39) (by omega) (by omega) ?_
    rw [hS _ (by omega), cst_h _ (by omega)]
    refine wx_iret rfl rfl rfl ⟨by decide, by decide⟩ ?_
    simp only [aCount, Bool.and_true, Bool.true_and, Bool.false_and, Bool.and_false, Bool.false_eq_true, eq_self, if_true, if_false] at hq
    rw [if_neg (by omega), if_neg (by omega), if_neg (by omega), if_neg (by omega), if_pos c_1] at hq
    exact hq I frf.rf
  · have c_1 : Int32.toInt _ = 5 := c_1
    show WP _ _ _ _ _ _ _ _ _
    refine wx_aload_n rfl (e := 123) rfl rfl ?_
    refine wx_getr rfl (e := 126) rfl rfl rfl ?_
    refine wx_bipush (v := (nI 12)) rfl (e := 128) rfl (by decide) ?_
    refine wx_bipush (v := (nI 6)) rfl (e := 130) rfl (by decide) ?_
    refine wx_cv2 (mc := 0) (ms := 0) rfl (e := 133) rfl rfl (Nat.le_of_ble_eq_true rfl) ⟨by decide, by decide⟩ ?_
    refine c_X5_total (s := 39) (by omega) (by omega) ?_
    rw [sm_cg (g := gR s) (c := 18) 6 (fun i hi => by rw [hS _ (by omega)]; unfold cst; rw [if_neg (by omega), if_pos (by omega)]; congr 1; omega)]
    refine wx_iret rfl rfl rfl ⟨by decide, by decide⟩ ?_
    simp only [aCount, Bool.and_true, Bool.true_and, Bool.false_and, Bool.and_false, Bool.false_eq_true, eq_self, if_true, if_false] at hq
    rw [if_neg (by omega), if_neg (by omega), if_neg (by omega), if_neg (by omega), if_neg (by omega), if_pos c_1] at hq
    exact hq I frf.rf
  · have c_1 : Int32.toInt _ = 6 := c_1
    show WP _ _ _ _ _ _ _ _ _
    refine wx_aload_n rfl (e := 135) rfl rfl ?_
    refine wx_getr rfl (e := 138) rfl rfl rfl ?_
    refine wx_bipush (v := (nI 6)) rfl (e := 140) rfl (by decide) ?_
    refine wx_bipush (v := (nI 6)) rfl (e := 142) rfl (by decide) ?_
    refine wx_cv2 (mc := 0) (ms := 0) rfl (e := 145) rfl rfl (Nat.le_of_ble_eq_true rfl) ⟨by decide, by decide⟩ ?_
    refine c_X5_total (s := 39) (by omega) (by omega) ?_
    rw [sm_cg (g := gR s) (c := 12) 6 (fun i hi => by rw [hS _ (by omega)]; unfold cst; rw [if_neg (by omega), if_pos (by omega)]; congr 1; omega)]
    rw [hg.1.2.2]
    refine wx_iret rfl rfl rfl ⟨by decide, by decide⟩ ?_
    simp only [aCount, Bool.and_true, Bool.true_and, Bool.false_and, Bool.and_false, Bool.false_eq_true, eq_self, if_true, if_false] at hq
    rw [if_neg (by omega), if_neg (by omega), if_neg (by omega), if_neg (by omega), if_neg (by omega), if_neg (by omega), if_pos c_1] at hq
    exact hq I frf.rf
  · have c_1 : Int32.toInt _ = 7 := c_1
    show WP _ _ _ _ _ _ _ _ _
    refine wx_aload_n rfl (e := 147) rfl rfl ?_
    refine wx_getr rfl (e := 150) rfl rfl rfl ?_
    refine wx_bipush (v := (nI 53)) rfl (e := 152) rfl (by decide) ?_
    refine wx_cv1 (mc := 0) (ms := 0) rfl (e := 155) rfl rfl (Nat.le_of_ble_eq_true rfl) ⟨by decide, by decide⟩ ?_
    refine c_X5_get (c := 39) (by omega) (by omega) ?_
    rw [hS _ (by omega), cst_h _ (by omega)]
    refine wx_iret rfl rfl rfl ⟨by decide, by decide⟩ ?_
    simp only [aCount, Bool.and_true, Bool.true_and, Bool.false_and, Bool.and_false, Bool.false_eq_true, eq_self, if_true, if_false] at hq
    rw [if_neg (by omega), if_neg (by omega), if_neg (by omega), if_neg (by omega), if_neg (by omega), if_neg (by omega), if_neg (by omega), if_pos c_1] at hq
    exact hq I frf.rf
  · have c_1 : Int32.toInt _ = 8 := c_1
    show WP _ _ _ _ _ _ _ _ _
    refine wx_aload_n rfl (e := 157) rfl rfl ?_
    refine wx_getr rfl (e := 160) rfl rfl rfl ?_
    refine wx_bipush (v := (nI 54)) rfl (e := 162) rfl (by decide) ?_
    refine wx_cv1 (mc := 0) (ms := 0) rfl (e := 165) rfl rfl (Nat.le_of_ble_eq_true rfl) ⟨by decide, by decide⟩ ?_
    refine c_X5_get (c := 39) (by omega) (by omega) ?_
    rw [hS _ (by omega), cst_h _ (by omega)]
    refine wx_iret rfl rfl rfl ⟨by decide, by decide⟩ ?_
    simp only [aCount, Bool.and_true, Bool.true_and, Bool.false_and, Bool.and_false, Bool.false_eq_true, eq_self, if_true, if_false] at hq
    rw [if_neg (by omega), if_neg (by omega), if_neg (by omega), if_neg (by omega), if_neg (by omega), if_neg (by omega), if_neg (by omega), if_neg (by omega), if_pos c_1] at hq
    exact hq I frf.rf
  · have c_1 : Int32.toInt _ = 9 := c_1
    show WP _ _ _ _ _ _ _ _ _
    refine wx_aload_n rfl (e := 167) rfl rfl ?_
    refine wx_getr rfl (e := 170) rfl rfl rfl ?_
    refine wx_bipush (v := (nI 36)) rfl (e := 172) rfl (by decide) ?_
    refine wx_bipush (v := (nI 6)) rfl (e := 174) rfl (by decide) ?_
    refine wx_cv2 (mc := 0) (ms := 0) rfl (e := 177) rfl rfl (Nat.le_of_ble_eq_true rfl) ⟨by decide, by decide⟩ ?_
    refine c_X5_total (s := 39) (by omega) (by omega) ?_
    rw [sm_cg (g := gR s) (c := 30) 6 (fun i hi => by rw [hS _ (by omega)]; unfold cst; rw [if_neg (by omega), if_neg (by omega), if_neg (by omega), if_neg (by omega)]; congr 1; omega)]
    refine wx_iret rfl rfl rfl ⟨by decide, by decide⟩ ?_
    simp only [aCount, Bool.and_true, Bool.true_and, Bool.false_and, Bool.and_false, Bool.false_eq_true, eq_self, if_true, if_false] at hq
    rw [if_neg (by omega), if_neg (by omega), if_neg (by omega), if_neg (by omega), if_neg (by omega), if_neg (by omega), if_neg (by omega), if_neg (by omega), if_neg (by omega), if_pos c_1] at hq
    exact hq I frf.rf
  · have c_1 : Int32.toInt _ = 10 := c_1
    show WP _ _ _ _ _ _ _ _ _
    refine wx_aload_n rfl (e := 179) rfl rfl ?_
    refine wx_getr rfl (e := 182) rfl rfl rfl ?_
    refine wx_cv0 (mc := 0) (ms := 0) rfl (e := 185) rfl rfl (Nat.le_of_ble_eq_true rfl) ⟨by decide, by decide⟩ ?_
    refine c_X6_length ?_
    rw [hB.2.1]
    refine wx_iret rfl rfl rfl ⟨by decide, by decide⟩ ?_
    simp only [aCount, Bool.and_true, Bool.true_and, Bool.false_and, Bool.and_false, Bool.false_eq_true, eq_self, if_true, if_false] at hq
    rw [if_neg (by omega), if_neg (by omega), if_neg (by omega), if_neg (by omega), if_neg (by omega), if_neg (by omega), if_neg (by omega), if_neg (by omega), if_neg (by omega), if_neg (by omega), if_pos c_1] at hq
    exact hq I frf.rf
  · have c_1 : Int32.toInt _ = 11 := c_1
    show WP _ _ _ _ _ _ _ _ _
    refine wx_aload_n rfl (e := 187) rfl rfl ?_
    refine wx_getr rfl (e := 190) rfl rfl rfl ?_
    refine wx_cv0 (mc := 0) (ms := 0) rfl (e := 193) rfl rfl (Nat.le_of_ble_eq_true rfl) ⟨by decide, by decide⟩ ?_
    refine c_X3_size hA ?_
    refine wx_iret rfl rfl rfl ⟨by decide, by decide⟩ ?_
    simp only [aCount, Bool.and_true, Bool.true_and, Bool.false_and, Bool.and_false, Bool.false_eq_true, eq_self, if_true, if_false] at hq
    rw [if_neg (by omega), if_neg (by omega), if_neg (by omega), if_neg (by omega), if_neg (by omega), if_neg (by omega), if_neg (by omega), if_neg (by omega), if_neg (by omega), if_neg (by omega), if_neg (by omega), if_pos c_1] at hq
    exact hq I frf.rf
  · have c_1 : Int32.toInt _ = 12 := c_1
    show WP _ _ _ _ _ _ _ _ _
    refine wx_aload_n rfl (e := 195) rfl rfl ?_
    refine wx_getr rfl (e := 198) rfl rfl rfl ?_
    refine wx_cv0 (mc := 0) (ms := 0) rfl (e := 201) rfl rfl (Nat.le_of_ble_eq_true rfl) ⟨by decide, by decide⟩ ?_
    refine c_X9_size hW ?_
    refine wx_iret rfl rfl rfl ⟨by decide, by decide⟩ ?_
    simp only [aCount, Bool.and_true, Bool.true_and, Bool.false_and, Bool.and_false, Bool.false_eq_true, eq_self, if_true, if_false] at hq
    rw [if_neg (by omega), if_neg (by omega), if_neg (by omega), if_neg (by omega), if_neg (by omega), if_neg (by omega), if_neg (by omega), if_neg (by omega), if_neg (by omega), if_neg (by omega), if_neg (by omega), if_neg (by omega), if_pos c_1] at hq
    exact hq I frf.rf
  · have c_1 : Int32.toInt _ = 13 := c_1
    show WP _ _ _ _ _ _ _ _ _
    refine wx_aload_n rfl (e := 203) rfl rfl ?_
    refine wx_getr rfl (e := 206) rfl rfl rfl ?_
    refine wx_cv0 (mc := 0) (ms := 0) rfl (e := 209) rfl rfl (Nat.le_of_ble_eq_true rfl) ⟨by decide, by decide⟩ ?_
    refine c_X3_slotsHeld hK ?_
    refine wx_iret rfl rfl rfl ⟨by decide, by decide⟩ ?_
    simp only [aCount, Bool.and_true, Bool.true_and, Bool.false_and, Bool.and_false, Bool.false_eq_true, eq_self, if_true, if_false] at hq
    rw [if_neg (by omega), if_neg (by omega), if_neg (by omega), if_neg (by omega), if_neg (by omega), if_neg (by omega), if_neg (by omega), if_neg (by omega), if_neg (by omega), if_neg (by omega), if_neg (by omega), if_neg (by omega), if_neg (by omega), if_pos c_1] at hq
    exact hq I frf.rf
  · have c_1 : Int32.toInt _ = 14 := c_1
    show WP _ _ _ _ _ _ _ _ _
    refine wx_aload_n rfl (e := 211) rfl rfl ?_
    refine wx_getr rfl (e := 214) rfl rfl rfl ?_
    refine wx_iconst (v := (nI 0)) rfl (e := 215) rfl (by decide) ?_
    refine wx_bipush (v := (nI 6)) rfl (e := 217) rfl (by decide) ?_
    refine wx_cv2 (mc := 0) (ms := 0) rfl (e := 220) rfl rfl (Nat.le_of_ble_eq_true rfl) ⟨by decide, by decide⟩ ?_
    refine c_X5_total (s := 39) (by omega) (by omega) ?_
    rw [sm_cg (g := gR s) (c := 0) 6 (fun i hi => by rw [hS _ (by omega)]; unfold cst; rw [if_pos (by omega)])]
    refine wx_iret rfl rfl rfl ⟨by decide, by decide⟩ ?_
    simp only [aCount, Bool.and_true, Bool.true_and, Bool.false_and, Bool.and_false, Bool.false_eq_true, eq_self, if_true, if_false] at hq
    rw [if_neg (by omega), if_neg (by omega), if_neg (by omega), if_neg (by omega), if_neg (by omega), if_neg (by omega), if_neg (by omega), if_neg (by omega), if_neg (by omega), if_neg (by omega), if_neg (by omega), if_neg (by omega), if_neg (by omega), if_neg (by omega), if_pos c_1] at hq
    exact hq I frf.rf
  · have c_1 : Int32.toInt _ = 15 := c_1
    show WP _ _ _ _ _ _ _ _ _
    refine wx_aload_n rfl (e := 222) rfl rfl ?_
    refine wx_getr rfl (e := 225) rfl rfl rfl ?_
    refine wx_cv0 (mc := 0) (ms := 0) rfl (e := 228) rfl (sh_t hu) (Nat.le_of_ble_eq_true rfl) ⟨by decide, by decide⟩ ?_
    refine c_X7_trueRelics hu ?_
    rw [t5]
    refine wx_iret rfl rfl rfl ⟨by decide, by decide⟩ ?_
    simp only [aCount, Bool.and_true, Bool.true_and, Bool.false_and, Bool.and_false, Bool.false_eq_true, eq_self, if_true, if_false] at hq
    rw [if_neg (by omega), if_neg (by omega), if_neg (by omega), if_neg (by omega), if_neg (by omega), if_neg (by omega), if_neg (by omega), if_neg (by omega), if_neg (by omega), if_neg (by omega), if_neg (by omega), if_neg (by omega), if_neg (by omega), if_neg (by omega), if_neg (by omega), if_pos c_1] at hq
    exact hq I frf.rf
theorem c_X4_faultPlace {d Lx t rt u : Nat} {I : Nat → Nat → Int32} {G : Nat → Nat → Int64} {Q : ab_Q} (hq : Q (some (.int (I 33 6))) (hp Lx t rt u I G)) : ab_call ab_MT (d + 1) 54 [.ref 33] (hp Lx t rt u I G) 0 0 Q := by
  refine wx_in (M := mX4_faultPlace) rfl rfl rfl (Nat.le_of_ble_eq_true rfl) ?_
  refine wx_aload_n rfl (e := 1) rfl rfl ?_
  refine wx_geti rfl (e := 4) rfl rfl ?_
  refine wx_iret rfl rfl rfl ⟨by decide, by decide⟩ ?_
  exact hq
theorem c_X10_place {d Lx t rt : Nat} {I : Nat → Nat → Int32} {G : Nat → Nat → Int64} {Q : ab_Q} {s : gs} {n0 : Nat} (hC : CI t I s) (hg : gok n0 s) (hq : ∀ I2, frf t I I2 → Q (some (.int (gP s))) (hp Lx t rt t I2 G)) : ab_call ab_MT (d + 2) 141 [.ref 0] (hp Lx t rt t I G) 0 0 Q := by
  obtain ⟨hT, hD, hS, hA, hK, hW, hB, hP⟩ := id hC
  have hu := hT.1
  obtain ⟨hC6, hR6, hP5, hH, hTf, hFn, hLx⟩ := hT.2.1
  obtain ⟨-, -, t1, t2, t3, t4, t5, t6, t7, -⟩ := id hT
  have hL := hg.1.1
  have hr := hL.2.1
  refine wx_in (M := mX10_place) rfl rfl rfl (Nat.le_of_ble_eq_true rfl) ?_
  refine wx_aload_n rfl (e := 1) rfl rfl ?_
  refine wx_getr rfl (e := 4) rfl rfl rfl ?_
  refine wx_cv0 (mc := 0) (ms := 0) rfl (e := 7) rfl rfl (Nat.le_of_ble_eq_true rfl) ⟨by decide, by decide⟩ ?_
  refine c_X4_faultPlace ?_
  rw [hP]
  refine wx_iret rfl rfl rfl ⟨by decide, by decide⟩ ?_
  exact hq I frf.rf

/-! the calls of the class that only ask -/
theorem c_X10_church {d Lx t rt : Nat} {I : Nat → Nat → Int32} {G : Nat → Nat → Int64} {Q : ab_Q} {s : gs} {n0 : Nat} (hC : CI t I s) (hg : gok n0 s) {v w : Int32}  (hq : ∀ I2, frf t I I2 → Q (some (.int (aChurch s v w))) (hp Lx t rt t I2 G)) : ab_call ab_MT (d + 2) 142 [.ref 0, .int v, .int w] (hp Lx t rt t I G) 0 0 Q := by
  obtain ⟨hT, hD, hS, hA, hK, hW, hB, hP⟩ := id hC
  have hu := hT.1
  obtain ⟨hC6, hR6, hP5, hH, hTf, hFn, hLx⟩ := hT.2.1
  obtain ⟨-, -, t1, t2, t3, t4, t5, t6, t7, -⟩ := id hT
  have hL := hg.1.1
  have hr := hL.2.1
  refine wx_in (M := mX10_church) rfl rfl rfl (Nat.le_of_ble_eq_true rfl) ?_
  refine wx_aload_n rfl (e := 1) rfl rfl ?_
  refine wx_getr rfl (e := 4) rfl rfl rfl ?_
  refine wx_iload_n rfl (e := 5) rfl rfl ?_
  refine wx_cv1 (mc := 0) (ms := 0) rfl (e := 8) rfl (sh_t hu) (Nat.le_of_ble_eq_true rfl) ⟨by decide, by decide⟩ ?_
  refine c_X7_hasChurch hu (n := tC (gT s)) t1 (by omega) (fun k1 hk1 ek1 => ?_) (fun no1 => ?_)
  · subst ek1
    have f_1 : inS (nI k1) (tC (gT s)) = true := in_y hk1 (by omega)
    have g_1 : kS (nI k1) = k1 := kS_n (by omega)
    refine wn_if_ne rfl (e := 11) rfl (by omega) (fun c_8 => ?_) (fun c_8 => absurd c_8 (by omega))
    refine wx_iload_n rfl (e := 14) rfl rfl ?_
    refine wx_sw rfl (fun c_14 => ?_) (List.forall_mem_cons.mpr ⟨fun c_14 => ?_, (List.forall_mem_cons.mpr ⟨fun c_14 => ?_, (List.forall_mem_cons.mpr ⟨fun c_14 => ?_, (List.forall_mem_cons.mpr ⟨fun c_14 => ?_, (List.forall_mem_cons.mpr ⟨fun c_14 => ?_, (fun _ h => absurd h List.not_mem_nil)⟩)⟩)⟩)⟩)⟩)
    · refine wx_iconst (v := (-1)) rfl (e := 119) rfl (by decide) ?_
      refine wx_iret rfl rfl rfl ⟨by decide, by decide⟩ ?_
      simp only [aChurch, f_1, g_1, Bool.and_true, Bool.true_and, Bool.false_and, Bool.and_false, Bool.false_eq_true, eq_self, if_true, if_false] at hq
      rw [if_neg (by omega), if_neg (by omega), if_neg (by omega), if_neg (by omega), if_neg (by omega)] at hq
      exact hq I frf.rf
    · have c_14 : Int32.toInt _ = 0 := c_14
      show WP _ _ _ _ _ _ _ _ _
      refine wx_aload_n rfl (e := 49) rfl rfl ?_
      refine wx_getr rfl (e := 52) rfl rfl rfl ?_
      refine wx_iconst (v := (nI 0)) rfl (e := 53) rfl (by decide) ?_
      refine wx_iload_n rfl (e := 54) rfl rfl ?_
      refine wn_iadd rfl (e := 55) rfl ?_
      refine wx_cv1 (mc := 0) (ms := 0) rfl (e := 58) rfl rfl (Nat.le_of_ble_eq_true rfl) ⟨by decide, by decide⟩ ?_
      rw [Nat.zero_add]
      refine c_X5_get (c := 39) (by omega) (by omega) ?_
      rw [hS _ (by omega), cst_w _ (by omega)]
      refine wx_iret rfl rfl rfl ⟨by decide, by decide⟩ ?_
      simp only [aChurch, f_1, g_1, Bool.and_true, Bool.true_and, Bool.false_and, Bool.and_false, Bool.false_eq_true, eq_self, if_true, if_false] at hq
      rw [if_pos c_14] at hq
      exact hq I frf.rf
    · have c_14 : Int32.toInt _ = 1 := c_14
      show WP _ _ _ _ _ _ _ _ _
      refine wx_aload_n rfl (e := 60) rfl rfl ?_
      refine wx_getr rfl (e := 63) rfl rfl rfl ?_
      refine wx_bipush (v := (nI 18)) rfl (e := 65) rfl (by decide) ?_
      refine wx_iload_n rfl (e := 66) rfl rfl ?_
      refine wn_iadd rfl (e := 67) rfl ?_
      refine wx_cv1 (mc := 0) (ms := 0) rfl (e := 70) rfl rfl (Nat.le_of_ble_eq_true rfl) ⟨by decide, by decide⟩ ?_
      refine c_X5_get (c := 39) (by omega) (by omega) ?_
      rw [hS _ (by omega), cst_at _ (by omega)]
      refine wx_iret rfl rfl rfl ⟨by decide, by decide⟩ ?_
      simp only [aChurch, f_1, g_1, Bool.and_true, Bool.true_and, Bool.false_and, Bool.and_false, Bool.false_eq_true, eq_self, if_true, if_false] at hq
      rw [if_neg (by omega), if_pos c_14] at hq
      exact hq I frf.rf
    · have c_14 : Int32.toInt _ = 2 := c_14
      show WP _ _ _ _ _ _ _ _ _
      refine wx_aload_n rfl (e := 72) rfl rfl ?_
      refine wx_getr rfl (e := 75) rfl rfl rfl ?_
      refine wx_bipush (v := (nI 6)) rfl (e := 77) rfl (by decide) ?_
      refine wx_iload_n rfl (e := 78) rfl rfl ?_
      refine wn_iadd rfl (e := 79) rfl ?_
      refine wx_cv1 (mc := 0) (ms := 0) rfl (e := 82) rfl rfl (Nat.le_of_ble_eq_true rfl) ⟨by decide, by decide⟩ ?_
      refine c_X5_get (c := 39) (by omega) (by omega) ?_
      rw [hS _ (by omega), cst_m _ (by omega) (by omega), show 6 + k1 + 6 = 12 + k1 by omega]
      refine wx_iret rfl rfl rfl ⟨by decide, by decide⟩ ?_
      simp only [aChurch, f_1, g_1, Bool.and_true, Bool.true_and, Bool.false_and, Bool.and_false, Bool.false_eq_true, eq_self, if_true, if_false] at hq
      rw [if_neg (by omega), if_neg (by omega), if_pos c_14] at hq
      exact hq I frf.rf
    · have c_14 : Int32.toInt _ = 3 := c_14
      show WP _ _ _ _ _ _ _ _ _
      refine wx_aload_n rfl (e := 84) rfl rfl ?_
      refine wx_getr rfl (e := 87) rfl rfl rfl ?_
      refine wx_bipush (v := (nI 12)) rfl (e := 89) rfl (by decide) ?_
      refine wx_iload_n rfl (e := 90) rfl rfl ?_
      refine wn_iadd rfl (e := 91) rfl ?_
      refine wx_cv1 (mc := 0) (ms := 0) rfl (e := 94) rfl rfl (Nat.le_of_ble_eq_true rfl) ⟨by decide, by decide⟩ ?_
      refine c_X5_get (c := 39) (by omega) (by omega) ?_
      rw [hS _ (by omega), cst_m _ (by omega) (by omega), show 12 + k1 + 6 = 18 + k1 by omega]
      refine wx_iret rfl rfl rfl ⟨by decide, by decide⟩ ?_
      simp only [aChurch, f_1, g_1, Bool.and_true, Bool.true_and, Bool.false_and, Bool.and_false, Bool.false_eq_true, eq_self, if_true, if_false] at hq
      rw [if_neg (by omega), if_neg (by omega), if_neg (by omega), if_pos c_14] at hq
      exact hq I frf.rf
    · have c_14 : Int32.toInt _ = 4 := c_14
      show WP _ _ _ _ _ _ _ _ _
      refine wx_aload_n rfl (e := 96) rfl rfl ?_
      refine wx_getr rfl (e := 99) rfl rfl rfl ?_
      refine wx_bipush (v := (nI 18)) rfl (e := 101) rfl (by decide) ?_
      refine wx_iload_n rfl (e := 102) rfl rfl ?_
      refine wn_iadd rfl (e := 103) rfl ?_
      refine wx_cv1 (mc := 0) (ms := 0) rfl (e := 106) rfl rfl (Nat.le_of_ble_eq_true rfl) ⟨by decide, by decide⟩ ?_
      refine c_X5_get (c := 39) (by omega) (by omega) ?_
      rw [hS _ (by omega), cst_at _ (by omega)]
      refine wx_aload_n rfl (e := 107) rfl rfl ?_
      refine wx_getr rfl (e := 110) rfl rfl rfl ?_
      refine wx_cv0 (mc := 0) (ms := 0) rfl (e := 113) rfl (sh_t hu) (Nat.le_of_ble_eq_true rfl) ⟨by decide, by decide⟩ ?_
      refine c_X7_trueRelics hu ?_
      rw [t5]
      refine wx_iand rfl (e := 114) rfl ?_
      refine wx_cs1 (mc := 0) (ms := 0) rfl (e := 117) rfl (Nat.le_of_ble_eq_true rfl) ⟨by decide, by decide⟩ ?_
      rw [an_ok]
      refine c_J6_bitCount ?_
      rw [bc_ok]
      refine wx_iret rfl rfl rfl ⟨by decide, by decide⟩ ?_
      simp only [aChurch, f_1, g_1, Bool.and_true, Bool.true_and, Bool.false_and, Bool.and_false, Bool.false_eq_true, eq_self, if_true, if_false] at hq
      rw [if_neg (by omega), if_neg (by omega), if_neg (by omega), if_neg (by omega), if_pos c_14] at hq
      exact hq I frf.rf
  · have f_1 : inS v (tC (gT s)) = false := in_n no1
    refine wn_if_ne rfl (e := 11) rfl (by omega) (fun c_8 => absurd c_8 (by omega)) (fun c_8 => ?_)
    refine wx_iconst (v := (-1)) rfl (e := 12) rfl (by decide) ?_
    refine wx_iret rfl rfl rfl ⟨by decide, by decide⟩ ?_
    simp only [aChurch, f_1, Bool.and_true, Bool.true_and, Bool.false_and, Bool.and_false, Bool.false_eq_true, eq_self, if_true, if_false] at hq
    exact hq I frf.rf
theorem c_X10_relic {d Lx t rt : Nat} {I : Nat → Nat → Int32} {G : Nat → Nat → Int64} {Q : ab_Q} {s : gs} {n0 : Nat} (hC : CI t I s) (hg : gok n0 s) {v w : Int32}  (hq : ∀ I2, frf t I I2 → Q (some (.int (aRelic s v w))) (hp Lx t rt t I2 G)) : ab_call ab_MT (d + 2) 143 [.ref 0, .int v, .int w] (hp Lx t rt t I G) 0 0 Q := by
  obtain ⟨hT, hD, hS, hA, hK, hW, hB, hP⟩ := id hC
  have hu := hT.1
  obtain ⟨hC6, hR6, hP5, hH, hTf, hFn, hLx⟩ := hT.2.1
  obtain ⟨-, -, t1, t2, t3, t4, t5, t6, t7, -⟩ := id hT
  have hL := hg.1.1
  have hr := hL.2.1
  refine wx_in (M := mX10_relic) rfl rfl rfl (Nat.le_of_ble_eq_true rfl) ?_
  refine wx_aload_n rfl (e := 1) rfl rfl ?_
  refine wx_getr rfl (e := 4) rfl rfl rfl ?_
  refine wx_iload_n rfl (e := 5) rfl rfl ?_
  refine wx_cv1 (mc := 0) (ms := 0) rfl (e := 8) rfl (sh_t hu) (Nat.le_of_ble_eq_true rfl) ⟨by decide, by decide⟩ ?_
  refine c_X7_hasRelic hu (n := tR (gT s)) t2 (by omega) (fun k1 hk1 ek1 => ?_) (fun no1 => ?_)
  · subst ek1
    have f_1 : inS (nI k1) (tR (gT s)) = true := in_y hk1 (by omega)
    have g_1 : kS (nI k1) = k1 := kS_n (by omega)
    refine wn_if_ne rfl (e := 11) rfl (by omega) (fun c_8 => ?_) (fun c_8 => absurd c_8 (by omega))
    refine wx_iload_n rfl (e := 14) rfl rfl ?_
    refine wx_sw rfl (fun c_14 => ?_) (List.forall_mem_cons.mpr ⟨fun c_14 => ?_, (List.forall_mem_cons.mpr ⟨fun c_14 => ?_, (List.forall_mem_cons.mpr ⟨fun c_14 => ?_, (List.forall_mem_cons.mpr ⟨fun c_14 => ?_, (fun _ h => absurd h List.not_mem_nil)⟩)⟩)⟩)⟩)
    · refine wx_iconst (v := (-1)) rfl (e := 90) rfl (by decide) ?_
      refine wx_iret rfl rfl rfl ⟨by decide, by decide⟩ ?_
      simp only [aRelic, f_1, g_1, Bool.and_true, Bool.true_and, Bool.false_and, Bool.and_false, Bool.false_eq_true, eq_self, if_true, if_false] at hq
      rw [if_neg (by omega), if_neg (by omega), if_neg (by omega), if_neg (by omega)] at hq
      exact hq I frf.rf
    · have c_14 : Int32.toInt _ = 0 := c_14
      show WP _ _ _ _ _ _ _ _ _
      refine wx_aload_n rfl (e := 45) rfl rfl ?_
      refine wx_getr rfl (e := 48) rfl rfl rfl ?_
      refine wx_bipush (v := (nI 24)) rfl (e := 50) rfl (by decide) ?_
      refine wx_iload_n rfl (e := 51) rfl rfl ?_
      refine wn_iadd rfl (e := 52) rfl ?_
      refine wx_cv1 (mc := 0) (ms := 0) rfl (e := 55) rfl rfl (Nat.le_of_ble_eq_true rfl) ⟨by decide, by decide⟩ ?_
      refine c_X5_get (c := 39) (by omega) (by omega) ?_
      rw [hS _ (by omega), cst_r _ (by omega)]
      refine wx_iret rfl rfl rfl ⟨by decide, by decide⟩ ?_
      simp only [aRelic, f_1, g_1, Bool.and_true, Bool.true_and, Bool.false_and, Bool.and_false, Bool.false_eq_true, eq_self, if_true, if_false] at hq
      rw [if_pos c_14] at hq
      exact hq I frf.rf
    · have c_14 : Int32.toInt _ = 1 := c_14
      show WP _ _ _ _ _ _ _ _ _
      refine wx_aload_n rfl (e := 57) rfl rfl ?_
      refine wx_getr rfl (e := 60) rfl rfl rfl ?_
      refine wx_iload_n rfl (e := 61) rfl rfl ?_
      refine wx_cv1 (mc := 0) (ms := 0) rfl (e := 64) rfl (sh_t hu) (Nat.le_of_ble_eq_true rfl) ⟨by decide, by decide⟩ ?_
      refine c_X7_truth hu t2 hk1 (by omega) ?_
      rw [t5, sr_ok _ (by omega)]
      refine wx_iret rfl rfl rfl ⟨by decide, by decide⟩ ?_
      simp only [aRelic, f_1, g_1, Bool.and_true, Bool.true_and, Bool.false_and, Bool.and_false, Bool.false_eq_true, eq_self, if_true, if_false] at hq
      rw [if_neg (by omega), if_pos c_14] at hq
      exact hq I frf.rf
    · have c_14 : Int32.toInt _ = 2 := c_14
      show WP _ _ _ _ _ _ _ _ _
      refine wx_aload_n rfl (e := 66) rfl rfl ?_
      refine wx_getr rfl (e := 69) rfl rfl rfl ?_
      refine wx_bipush (v := (nI 30)) rfl (e := 71) rfl (by decide) ?_
      refine wx_iload_n rfl (e := 72) rfl rfl ?_
      refine wn_iadd rfl (e := 73) rfl ?_
      refine wx_cv1 (mc := 0) (ms := 0) rfl (e := 76) rfl rfl (Nat.le_of_ble_eq_true rfl) ⟨by decide, by decide⟩ ?_
      refine c_X5_get (c := 39) (by omega) (by omega) ?_
      rw [hS _ (by omega), cst_h _ (by omega), show 30 + k1 - 6 = 24 + k1 by omega]
      refine wx_iret rfl rfl rfl ⟨by decide, by decide⟩ ?_
      simp only [aRelic, f_1, g_1, Bool.and_true, Bool.true_and, Bool.false_and, Bool.and_false, Bool.false_eq_true, eq_self, if_true, if_false] at hq
      rw [if_neg (by omega), if_neg (by omega), if_pos c_14] at hq
      exact hq I frf.rf
    · have c_14 : Int32.toInt _ = 3 := c_14
      show WP _ _ _ _ _ _ _ _ _
      refine wx_aload_n rfl (e := 78) rfl rfl ?_
      refine wx_getr rfl (e := 81) rfl rfl rfl ?_
      refine wx_bipush (v := (nI 36)) rfl (e := 83) rfl (by decide) ?_
      refine wx_iload_n rfl (e := 84) rfl rfl ?_
      refine wn_iadd rfl (e := 85) rfl ?_
      refine wx_cv1 (mc := 0) (ms := 0) rfl (e := 88) rfl rfl (Nat.le_of_ble_eq_true rfl) ⟨by decide, by decide⟩ ?_
      refine c_X5_get (c := 39) (by omega) (by omega) ?_
      rw [hS _ (by omega), cst_h _ (by omega), show 36 + k1 - 6 = 30 + k1 by omega]
      refine wx_iret rfl rfl rfl ⟨by decide, by decide⟩ ?_
      simp only [aRelic, f_1, g_1, Bool.and_true, Bool.true_and, Bool.false_and, Bool.and_false, Bool.false_eq_true, eq_self, if_true, if_false] at hq
      rw [if_neg (by omega), if_neg (by omega), if_neg (by omega), if_pos c_14] at hq
      exact hq I frf.rf
  · have f_1 : inS v (tR (gT s)) = false := in_n no1
    refine wn_if_ne rfl (e := 11) rfl (by omega) (fun c_8 => absurd c_8 (by omega)) (fun c_8 => ?_)
    refine wx_iconst (v := (-1)) rfl (e := 12) rfl (by decide) ?_
    refine wx_iret rfl rfl rfl ⟨by decide, by decide⟩ ?_
    simp only [aRelic, f_1, Bool.and_true, Bool.true_and, Bool.false_and, Bool.and_false, Bool.false_eq_true, eq_self, if_true, if_false] at hq
    exact hq I frf.rf
theorem c_X10_pilgrim {d Lx t rt : Nat} {I : Nat → Nat → Int32} {G : Nat → Nat → Int64} {Q : ab_Q} {s : gs} {n0 : Nat} (hC : CI t I s) (hg : gok n0 s) {v w : Int32}  (hq : ∀ I2, frf t I I2 → Q (some (.int (aPilgrim s v w))) (hp Lx t rt t I2 G)) : ab_call ab_MT (d + 2) 144 [.ref 0, .int v, .int w] (hp Lx t rt t I G) 0 0 Q := by
  obtain ⟨hT, hD, hS, hA, hK, hW, hB, hP⟩ := id hC
  have hu := hT.1
  obtain ⟨hC6, hR6, hP5, hH, hTf, hFn, hLx⟩ := hT.2.1
  obtain ⟨-, -, t1, t2, t3, t4, t5, t6, t7, -⟩ := id hT
  have hL := hg.1.1
  have hr := hL.2.1
  refine wx_in (M := mX10_pilgrim) rfl rfl rfl (Nat.le_of_ble_eq_true rfl) ?_
  refine wx_aload_n rfl (e := 1) rfl rfl ?_
  refine wx_getr rfl (e := 4) rfl rfl rfl ?_
  refine wx_iload_n rfl (e := 5) rfl rfl ?_
  refine wx_cv1 (mc := 0) (ms := 0) rfl (e := 8) rfl (sh_t hu) (Nat.le_of_ble_eq_true rfl) ⟨by decide, by decide⟩ ?_
  refine c_X7_hasPilgrim hu (n := tP (gT s)) t3 (by omega) (fun k1 hk1 ek1 => ?_) (fun no1 => ?_)
  · subst ek1
    have f_1 : inS (nI k1) (tP (gT s)) = true := in_y hk1 (by omega)
    have g_1 : kS (nI k1) = k1 := kS_n (by omega)
    refine wn_if_ne rfl (e := 11) rfl (by omega) (fun c_8 => ?_) (fun c_8 => absurd c_8 (by omega))
    refine wx_iload_n rfl (e := 14) rfl rfl ?_
    refine wx_sw rfl (fun c_14 => ?_) (List.forall_mem_cons.mpr ⟨fun c_14 => ?_, (List.forall_mem_cons.mpr ⟨fun c_14 => ?_, (List.forall_mem_cons.mpr ⟨fun c_14 => ?_, (List.forall_mem_cons.mpr ⟨fun c_14 => ?_, (List.forall_mem_cons.mpr ⟨fun c_14 => ?_, (fun _ h => absurd h List.not_mem_nil)⟩)⟩)⟩)⟩)⟩)
    · refine wx_iconst (v := (-1)) rfl (e := 100) rfl (by decide) ?_
      refine wx_iret rfl rfl rfl ⟨by decide, by decide⟩ ?_
      simp only [aPilgrim, f_1, g_1, Bool.and_true, Bool.true_and, Bool.false_and, Bool.and_false, Bool.false_eq_true, eq_self, if_true, if_false] at hq
      rw [if_neg (by omega), if_neg (by omega), if_neg (by omega), if_neg (by omega), if_neg (by omega)] at hq
      exact hq I frf.rf
    · have c_14 : Int32.toInt _ = 0 := c_14
      show WP _ _ _ _ _ _ _ _ _
      refine wx_aload_n rfl (e := 49) rfl rfl ?_
      refine wx_getr rfl (e := 52) rfl rfl rfl ?_
      refine wx_iload_n rfl (e := 53) rfl rfl ?_
      refine wx_cv1 (mc := 0) (ms := 0) rfl (e := 56) rfl (sh_t hu) (Nat.le_of_ble_eq_true rfl) ⟨by decide, by decide⟩ ?_
      refine c_X7_home hu t3 hk1 (by omega) (by omega) ?_
      rw [(t7 k1 hk1).1]
      refine wx_iret rfl rfl rfl ⟨by decide, by decide⟩ ?_
      simp only [aPilgrim, f_1, g_1, Bool.and_true, Bool.true_and, Bool.false_and, Bool.and_false, Bool.false_eq_true, eq_self, if_true, if_false] at hq
      rw [if_pos c_14] at hq
      exact hq I frf.rf
    · have c_14 : Int32.toInt _ = 1 := c_14
      show WP _ _ _ _ _ _ _ _ _
      refine wx_aload_n rfl (e := 58) rfl rfl ?_
      refine wx_getr rfl (e := 61) rfl rfl rfl ?_
      refine wx_iload_n rfl (e := 62) rfl rfl ?_
      refine wx_cv1 (mc := 0) (ms := 0) rfl (e := 65) rfl (sh_t hu) (Nat.le_of_ble_eq_true rfl) ⟨by decide, by decide⟩ ?_
      refine c_X7_needOf hu t3 hk1 (by omega) (by omega) ?_
      rw [(t7 k1 hk1).2.1]
      refine wx_iret rfl rfl rfl ⟨by decide, by decide⟩ ?_
      simp only [aPilgrim, f_1, g_1, Bool.and_true, Bool.true_and, Bool.false_and, Bool.and_false, Bool.false_eq_true, eq_self, if_true, if_false] at hq
      rw [if_neg (by omega), if_pos c_14] at hq
      exact hq I frf.rf
    · have c_14 : Int32.toInt _ = 2 := c_14
      show WP _ _ _ _ _ _ _ _ _
      refine wx_aload_n rfl (e := 67) rfl rfl ?_
      refine wx_getr rfl (e := 70) rfl rfl rfl ?_
      refine wx_iload_n rfl (e := 71) rfl rfl ?_
      refine wx_cv1 (mc := 0) (ms := 0) rfl (e := 74) rfl (sh_t hu) (Nat.le_of_ble_eq_true rfl) ⟨by decide, by decide⟩ ?_
      refine c_X7_giftOf hu t3 hk1 (by omega) (by omega) ?_
      rw [(t7 k1 hk1).2.2]
      refine wx_iret rfl rfl rfl ⟨by decide, by decide⟩ ?_
      simp only [aPilgrim, f_1, g_1, Bool.and_true, Bool.true_and, Bool.false_and, Bool.and_false, Bool.false_eq_true, eq_self, if_true, if_false] at hq
      rw [if_neg (by omega), if_neg (by omega), if_pos c_14] at hq
      exact hq I frf.rf
    · have c_14 : Int32.toInt _ = 3 := c_14
      show WP _ _ _ _ _ _ _ _ _
      refine wx_aload_n rfl (e := 76) rfl rfl ?_
      refine wx_getr rfl (e := 79) rfl rfl rfl ?_
      refine wx_bipush (v := (nI 42)) rfl (e := 81) rfl (by decide) ?_
      refine wx_iload_n rfl (e := 82) rfl rfl ?_
      refine wn_iadd rfl (e := 83) rfl ?_
      refine wx_cv1 (mc := 0) (ms := 0) rfl (e := 86) rfl rfl (Nat.le_of_ble_eq_true rfl) ⟨by decide, by decide⟩ ?_
      refine c_X5_get (c := 39) (by omega) (by omega) ?_
      rw [hS _ (by omega), cst_h _ (by omega), show 42 + k1 - 6 = 36 + k1 by omega]
      refine wx_iret rfl rfl rfl ⟨by decide, by decide⟩ ?_
      simp only [aPilgrim, f_1, g_1, Bool.and_true, Bool.true_and, Bool.false_and, Bool.and_false, Bool.false_eq_true, eq_self, if_true, if_false] at hq
      rw [if_neg (by omega), if_neg (by omega), if_neg (by omega), if_pos c_14] at hq
      exact hq I frf.rf
    · have c_14 : Int32.toInt _ = 4 := c_14
      show WP _ _ _ _ _ _ _ _ _
      refine wx_aload_n rfl (e := 88) rfl rfl ?_
      refine wx_getr rfl (e := 91) rfl rfl rfl ?_
      refine wx_bipush (v := (nI 47)) rfl (e := 93) rfl (by decide) ?_
      refine wx_iload_n rfl (e := 94) rfl rfl ?_
      refine wn_iadd rfl (e := 95) rfl ?_
      refine wx_cv1 (mc := 0) (ms := 0) rfl (e := 98) rfl rfl (Nat.le_of_ble_eq_true rfl) ⟨by decide, by decide⟩ ?_
      refine c_X5_get (c := 39) (by omega) (by omega) ?_
      rw [hS _ (by omega), cst_h _ (by omega), show 47 + k1 - 6 = 41 + k1 by omega]
      refine wx_iret rfl rfl rfl ⟨by decide, by decide⟩ ?_
      simp only [aPilgrim, f_1, g_1, Bool.and_true, Bool.true_and, Bool.false_and, Bool.and_false, Bool.false_eq_true, eq_self, if_true, if_false] at hq
      rw [if_neg (by omega), if_neg (by omega), if_neg (by omega), if_neg (by omega), if_pos c_14] at hq
      exact hq I frf.rf
  · have f_1 : inS v (tP (gT s)) = false := in_n no1
    refine wn_if_ne rfl (e := 11) rfl (by omega) (fun c_8 => absurd c_8 (by omega)) (fun c_8 => ?_)
    refine wx_iconst (v := (-1)) rfl (e := 12) rfl (by decide) ?_
    refine wx_iret rfl rfl rfl ⟨by decide, by decide⟩ ?_
    simp only [aPilgrim, f_1, Bool.and_true, Bool.true_and, Bool.false_and, Bool.and_false, Bool.false_eq_true, eq_self, if_true, if_false] at hq
    exact hq I frf.rf
theorem c_X10_tells {d Lx t rt : Nat} {I : Nat → Nat → Int32} {G : Nat → Nat → Int64} {Q : ab_Q} {s : gs} {n0 : Nat} (hC : CI t I s) (hg : gok n0 s) {a c w : Int32}  (hq : ∀ I2, frf t I I2 → Q (some (.int (aTells s a c w))) (hp Lx t rt t I2 G)) : ab_call ab_MT (d + 5) 145 [.ref 0, .int a, .int c, .int w] (hp Lx t rt t I G) 0 0 Q := by
  obtain ⟨hT, hD, hS, hA, hK, hW, hB, hP⟩ := id hC
  have hu := hT.1
  obtain ⟨hC6, hR6, hP5, hH, hTf, hFn, hLx⟩ := hT.2.1
  obtain ⟨-, -, t1, t2, t3, t4, t5, t6, t7, -⟩ := id hT
  have hL := hg.1.1
  have hr := hL.2.1
  refine wx_in (M := mX10_tells) rfl rfl rfl (Nat.le_of_ble_eq_true rfl) ?_
  refine wx_aload_n rfl (e := 1) rfl rfl ?_
  refine wx_getr rfl (e := 4) rfl rfl rfl ?_
  refine wx_iload_n rfl (e := 5) rfl rfl ?_
  refine wx_cv1 (mc := 0) (ms := 0) rfl (e := 8) rfl (sh_t hu) (Nat.le_of_ble_eq_true rfl) ⟨by decide, by decide⟩ ?_
  refine c_X7_hasPilgrim hu (n := tP (gT s)) t3 (by omega) (fun k1 hk1 ek1 => ?_) (fun no1 => ?_)
  · subst ek1
    have f_1 : inS (nI k1) (tP (gT s)) = true := in_y hk1 (by omega)
    have g_1 : kS (nI k1) = k1 := kS_n (by omega)
    refine wn_if_eq rfl (e := 11) rfl (by omega) (fun c_8 => absurd c_8 (by omega)) (fun c_8 => ?_)
    refine wx_aload_n rfl (e := 12) rfl rfl ?_
    refine wx_getr rfl (e := 15) rfl rfl rfl ?_
    refine wx_iload_n rfl (e := 16) rfl rfl ?_
    refine wx_cv1 (mc := 0) (ms := 0) rfl (e := 19) rfl (sh_t hu) (Nat.le_of_ble_eq_true rfl) ⟨by decide, by decide⟩ ?_
    refine c_X7_hasChurch hu (n := tC (gT s)) t1 (by omega) (fun k2 hk2 ek2 => ?_) (fun no2 => ?_)
    · subst ek2
      have f_2 : inS (nI k2) (tC (gT s)) = true := in_y hk2 (by omega)
      have g_2 : kS (nI k2) = k2 := kS_n (by omega)
      refine wn_if_ne rfl (e := 22) rfl (by omega) (fun c_19 => ?_) (fun c_19 => absurd c_19 (by omega))
      refine wx_iload_n rfl (e := 26) rfl rfl ?_
      refine wx_sw rfl (fun c_26 => ?_) (List.forall_mem_cons.mpr ⟨fun c_26 => ?_, (List.forall_mem_cons.mpr ⟨fun c_26 => ?_, (List.forall_mem_cons.mpr ⟨fun c_26 => ?_, (fun _ h => absurd h List.not_mem_nil)⟩)⟩)⟩)
      · refine wx_ldc (v := (-100000)) rfl (e := 101) rfl (by decide) ?_
        refine wx_iret rfl rfl rfl ⟨by decide, by decide⟩ ?_
        simp only [aTells, f_1, g_1, f_2, g_2, Bool.and_true, Bool.true_and, Bool.false_and, Bool.and_false, Bool.false_eq_true, eq_self, if_true, if_false] at hq
        rw [if_neg (by omega), if_neg (by omega), if_neg (by omega)] at hq
        exact hq I frf.rf
      · have c_26 : Int32.toInt _ = 0 := c_26
        show WP _ _ _ _ _ _ _ _ _
        refine wx_aload_n rfl (e := 53) rfl rfl ?_
        refine wx_getr rfl (e := 56) rfl rfl rfl ?_
        refine wx_iconst (v := (nI 0)) rfl (e := 57) rfl (by decide) ?_
        refine wx_aload_n rfl (e := 58) rfl rfl ?_
        refine wx_getr rfl (e := 61) rfl rfl rfl ?_
        refine wx_iload_n rfl (e := 62) rfl rfl ?_
        refine wx_iload_n rfl (e := 63) rfl rfl ?_
        refine wx_cv4 (mc := 0) (ms := 0) rfl (e := 66) rfl rfl (Nat.le_of_ble_eq_true rfl) ⟨by decide, by decide⟩ ?_
        refine c_X0_draw hT (s := 39) (by omega) hS hk1 hk2 (fun I2 f2 => ?_)
        refine wx_iret rfl rfl rfl ⟨by decide, by decide⟩ ?_
        simp only [aTells, f_1, g_1, f_2, g_2, Bool.and_true, Bool.true_and, Bool.false_and, Bool.and_false, Bool.false_eq_true, eq_self, if_true, if_false] at hq
        rw [if_pos c_26] at hq
        exact hq I2 f2.f
      · have c_26 : Int32.toInt _ = 1 := c_26
        show WP _ _ _ _ _ _ _ _ _
        refine wx_aload_n rfl (e := 68) rfl rfl ?_
        refine wx_getr rfl (e := 71) rfl rfl rfl ?_
        refine wx_iconst (v := (nI 2)) rfl (e := 72) rfl (by decide) ?_
        refine wx_aload_n rfl (e := 73) rfl rfl ?_
        refine wx_getr rfl (e := 76) rfl rfl rfl ?_
        refine wx_iload_n rfl (e := 77) rfl rfl ?_
        refine wx_iload_n rfl (e := 78) rfl rfl ?_
        refine wx_cv4 (mc := 0) (ms := 0) rfl (e := 81) rfl rfl (Nat.le_of_ble_eq_true rfl) ⟨by decide, by decide⟩ ?_
        refine c_X0_give hT (s := 39) (by omega) hS hk1 hk2 (fun I2 f2 => ?_)
        refine wx_iret rfl rfl rfl ⟨by decide, by decide⟩ ?_
        simp only [aTells, f_1, g_1, f_2, g_2, Bool.and_true, Bool.true_and, Bool.false_and, Bool.and_false, Bool.false_eq_true, eq_self, if_true, if_false] at hq
        rw [if_neg (by omega), if_pos c_26] at hq
        exact hq I2 f2.f
      · have c_26 : Int32.toInt _ = 2 := c_26
        show WP _ _ _ _ _ _ _ _ _
        refine wx_aload_n rfl (e := 83) rfl rfl ?_
        refine wx_getr rfl (e := 86) rfl rfl rfl ?_
        refine wx_aload_n rfl (e := 87) rfl rfl ?_
        refine wx_getr rfl (e := 90) rfl rfl rfl ?_
        refine wx_iload_n rfl (e := 91) rfl rfl ?_
        refine wx_cv1 (mc := 0) (ms := 0) rfl (e := 94) rfl (sh_t hu) (Nat.le_of_ble_eq_true rfl) ⟨by decide, by decide⟩ ?_
        refine c_X7_home hu t3 hk1 (by omega) (by omega) ?_
        rw [(t7 k1 hk1).1]
        refine wx_iload_n rfl (e := 95) rfl rfl ?_
        refine wx_cv2 (mc := 0) (ms := 0) rfl (e := 98) rfl (sh_t hu) (Nat.le_of_ble_eq_true rfl) ⟨by decide, by decide⟩ ?_
        refine c_X7_far hu t1 (hH k1 hk1) hk2 hC6 ?_
        rw [t6 _ _ (hH k1 hk1) hk2]
        refine wx_iret rfl rfl rfl ⟨by decide, by decide⟩ ?_
        simp only [aTells, f_1, g_1, f_2, g_2, Bool.and_true, Bool.true_and, Bool.false_and, Bool.and_false, Bool.false_eq_true, eq_self, if_true, if_false] at hq
        rw [if_neg (by omega), if_neg (by omega), if_pos c_26] at hq
        exact hq I frf.rf
    · have f_2 : inS c (tC (gT s)) = false := in_n no2
      refine wn_if_ne rfl (e := 22) rfl (by omega) (fun c_19 => absurd c_19 (by omega)) (fun c_19 => ?_)
      refine wx_ldc (v := (-100000)) rfl (e := 24) rfl (by decide) ?_
      refine wx_iret rfl rfl rfl ⟨by decide, by decide⟩ ?_
      simp only [aTells, f_1, g_1, f_2, Bool.and_true, Bool.true_and, Bool.false_and, Bool.and_false, Bool.false_eq_true, eq_self, if_true, if_false] at hq
      exact hq I frf.rf
  · have f_1 : inS a (tP (gT s)) = false := in_n no1
    refine wn_if_eq rfl (e := 11) rfl (by omega) (fun c_8 => ?_) (fun c_8 => absurd c_8 (by omega))
    refine wx_ldc (v := (-100000)) rfl (e := 24) rfl (by decide) ?_
    refine wx_iret rfl rfl rfl ⟨by decide, by decide⟩ ?_
    simp only [aTells, f_1, Bool.and_true, Bool.true_and, Bool.false_and, Bool.and_false, Bool.false_eq_true, eq_self, if_true, if_false] at hq
    exact hq I frf.rf
theorem c_X10_heals {d Lx t rt : Nat} {I : Nat → Nat → Int32} {G : Nat → Nat → Int64} {Q : ab_Q} {s : gs} {n0 : Nat} (hC : CI t I s) (hg : gok n0 s) {e a : Int32}  (hq : ∀ I2, frf t I I2 → Q (some (.int (aHeals s e a))) (hp Lx t rt t I2 G)) : ab_call ab_MT (d + 5) 146 [.ref 0, .int e, .int a] (hp Lx t rt t I G) 0 0 Q := by
  obtain ⟨hT, hD, hS, hA, hK, hW, hB, hP⟩ := id hC
  have hu := hT.1
  obtain ⟨hC6, hR6, hP5, hH, hTf, hFn, hLx⟩ := hT.2.1
  obtain ⟨-, -, t1, t2, t3, t4, t5, t6, t7, -⟩ := id hT
  have hL := hg.1.1
  have hr := hL.2.1
  refine wx_in (M := mX10_heals) rfl rfl rfl (Nat.le_of_ble_eq_true rfl) ?_
  refine wx_aload_n rfl (e := 1) rfl rfl ?_
  refine wx_getr rfl (e := 4) rfl rfl rfl ?_
  refine wx_iload_n rfl (e := 5) rfl rfl ?_
  refine wx_cv1 (mc := 0) (ms := 0) rfl (e := 8) rfl (sh_t hu) (Nat.le_of_ble_eq_true rfl) ⟨by decide, by decide⟩ ?_
  refine c_X7_hasRelic hu (n := tR (gT s)) t2 (by omega) (fun k1 hk1 ek1 => ?_) (fun no1 => ?_)
  · subst ek1
    have f_1 : inS (nI k1) (tR (gT s)) = true := in_y hk1 (by omega)
    have g_1 : kS (nI k1) = k1 := kS_n (by omega)
    refine wn_if_eq rfl (e := 11) rfl (by omega) (fun c_8 => absurd c_8 (by omega)) (fun c_8 => ?_)
    refine wx_aload_n rfl (e := 12) rfl rfl ?_
    refine wx_getr rfl (e := 15) rfl rfl rfl ?_
    refine wx_iload_n rfl (e := 16) rfl rfl ?_
    refine wx_cv1 (mc := 0) (ms := 0) rfl (e := 19) rfl (sh_t hu) (Nat.le_of_ble_eq_true rfl) ⟨by decide, by decide⟩ ?_
    refine c_X7_hasPilgrim hu (n := tP (gT s)) t3 (by omega) (fun k2 hk2 ek2 => ?_) (fun no2 => ?_)
    · subst ek2
      have f_2 : inS (nI k2) (tP (gT s)) = true := in_y hk2 (by omega)
      have g_2 : kS (nI k2) = k2 := kS_n (by omega)
      refine wn_if_ne rfl (e := 22) rfl (by omega) (fun c_19 => ?_) (fun c_19 => absurd c_19 (by omega))
      refine wx_aload_n rfl (e := 25) rfl rfl ?_
      refine wx_getr rfl (e := 28) rfl rfl rfl ?_
      refine wx_aload_n rfl (e := 29) rfl rfl ?_
      refine wx_getr rfl (e := 32) rfl rfl rfl ?_
      refine wx_iload_n rfl (e := 33) rfl rfl ?_
      refine wx_iload_n rfl (e := 34) rfl rfl ?_
      refine wx_aload_n rfl (e := 35) rfl rfl ?_
      refine wx_getr rfl (e := 38) rfl rfl rfl ?_
      refine wx_iload_n rfl (e := 39) rfl rfl ?_
      refine wx_cv1 (mc := 0) (ms := 0) rfl (e := 42) rfl (sh_t hu) (Nat.le_of_ble_eq_true rfl) ⟨by decide, by decide⟩ ?_
      obtain ⟨hce, hre⟩ := hL.ch hT.2.1 hk1
      refine c_X7_truth hu t2 hk1 (by omega) ?_
      rw [t5, sr_ok _ (by omega)]
      refine wx_cv4 (mc := 0) (ms := 0) rfl (e := 45) rfl rfl (Nat.le_of_ble_eq_true rfl) ⟨by decide, by decide⟩ ?_
      refine c_X0_healing hT (s := 39) (by omega) hS (by omega) hk2 hce hre (fun I2 f2 => ?_)
      refine wx_iret rfl rfl rfl ⟨by decide, by decide⟩ ?_
      simp only [aHeals, f_1, g_1, f_2, g_2, Bool.and_true, Bool.true_and, Bool.false_and, Bool.and_false, Bool.false_eq_true, eq_self, if_true, if_false] at hq
      exact hq I2 f2.f
    · have f_2 : inS a (tP (gT s)) = false := in_n no2
      refine wn_if_ne rfl (e := 22) rfl (by omega) (fun c_19 => absurd c_19 (by omega)) (fun c_19 => ?_)
      refine wx_iconst (v := (-1)) rfl (e := 23) rfl (by decide) ?_
      refine wx_iret rfl rfl rfl ⟨by decide, by decide⟩ ?_
      simp only [aHeals, f_1, g_1, f_2, Bool.and_true, Bool.true_and, Bool.false_and, Bool.and_false, Bool.false_eq_true, eq_self, if_true, if_false] at hq
      exact hq I frf.rf
  · have f_1 : inS e (tR (gT s)) = false := in_n no1
    refine wn_if_eq rfl (e := 11) rfl (by omega) (fun c_8 => ?_) (fun c_8 => absurd c_8 (by omega))
    refine wx_iconst (v := (-1)) rfl (e := 23) rfl (by decide) ?_
    refine wx_iret rfl rfl rfl ⟨by decide, by decide⟩ ?_
    simp only [aHeals, f_1, Bool.and_true, Bool.true_and, Bool.false_and, Bool.and_false, Bool.false_eq_true, eq_self, if_true, if_false] at hq
    exact hq I frf.rf
theorem c_X10_goes {d Lx t rt : Nat} {I : Nat → Nat → Int32} {G : Nat → Nat → Int64} {Q : ab_Q} {s : gs} {n0 : Nat} (hC : CI t I s) (hg : gok n0 s) {a : Int32}  (hq : ∀ I2, frf t I I2 → Q (some (.int (aGoes s a))) (hp Lx t rt t I2 G)) : ab_call ab_MT (d + 6) 152 [.ref 0, .int a] (hp Lx t rt t I G) 0 0 Q := by
  obtain ⟨hT, hD, hS, hA, hK, hW, hB, hP⟩ := id hC
  have hu := hT.1
  obtain ⟨hC6, hR6, hP5, hH, hTf, hFn, hLx⟩ := hT.2.1
  obtain ⟨-, -, t1, t2, t3, t4, t5, t6, t7, -⟩ := id hT
  have hL := hg.1.1
  have hr := hL.2.1
  refine wx_in (M := mX10_goes) rfl rfl rfl (Nat.le_of_ble_eq_true rfl) ?_
  refine wx_aload_n rfl (e := 1) rfl rfl ?_
  refine wx_getr rfl (e := 4) rfl rfl rfl ?_
  refine wx_iload_n rfl (e := 5) rfl rfl ?_
  refine wx_cv1 (mc := 0) (ms := 0) rfl (e := 8) rfl (sh_t hu) (Nat.le_of_ble_eq_true rfl) ⟨by decide, by decide⟩ ?_
  refine c_X7_hasPilgrim hu (n := tP (gT s)) t3 (by omega) (fun k1 hk1 ek1 => ?_) (fun no1 => ?_)
  · subst ek1
    have f_1 : inS (nI k1) (tP (gT s)) = true := in_y hk1 (by omega)
    have g_1 : kS (nI k1) = k1 := kS_n (by omega)
    refine wn_if_eq rfl (e := 11) rfl (by omega) (fun c_8 => absurd c_8 (by omega)) (fun c_8 => ?_)
    refine wx_aload_n rfl (e := 12) rfl rfl ?_
    refine wx_getr rfl (e := 15) rfl rfl rfl ?_
    refine wx_aload_n rfl (e := 16) rfl rfl ?_
    refine wx_getr rfl (e := 19) rfl rfl rfl ?_
    refine wx_iload_n rfl (e := 20) rfl rfl ?_
    refine wx_cv2 (mc := 0) (ms := 0) rfl (e := 23) rfl rfl (Nat.le_of_ble_eq_true rfl) ⟨by decide, by decide⟩ ?_
    refine c_X0_goal hT (s := 39) (by omega) hS hk1 (fun I2 f2 => ?_)
    refine wx_goto rfl ?_
    refine wx_iret rfl rfl rfl ⟨by decide, by decide⟩ ?_
    simp only [aGoes, f_1, g_1, Bool.and_true, Bool.true_and, Bool.false_and, Bool.and_false, Bool.false_eq_true, eq_self, if_true, if_false] at hq
    exact hq I2 f2.f
  · have f_1 : inS a (tP (gT s)) = false := in_n no1
    refine wn_if_eq rfl (e := 11) rfl (by omega) (fun c_8 => ?_) (fun c_8 => absurd c_8 (by omega))
    refine wx_iconst (v := (-1)) rfl (e := 27) rfl (by decide) ?_
    refine wx_iret rfl rfl rfl ⟨by decide, by decide⟩ ?_
    simp only [aGoes, f_1, Bool.and_true, Bool.true_and, Bool.false_and, Bool.and_false, Bool.false_eq_true, eq_self, if_true, if_false] at hq
    exact hq I frf.rf
theorem c_X10_theft {d Lx t rt : Nat} {I : Nat → Nat → Int32} {G : Nat → Nat → Int64} {Q : ab_Q} {s : gs} {n0 : Nat} (hC : CI t I s) (hg : gok n0 s) {e n : Int32}  (hq : ∀ I2, frf t I I2 → Q (some (.int (aTheft s e n))) (hp Lx t rt t I2 G)) : ab_call ab_MT (d + 6) 153 [.ref 0, .int e, .int n] (hp Lx t rt t I G) 0 0 Q := by
  obtain ⟨hT, hD, hS, hA, hK, hW, hB, hP⟩ := id hC
  have hu := hT.1
  obtain ⟨hC6, hR6, hP5, hH, hTf, hFn, hLx⟩ := hT.2.1
  obtain ⟨-, -, t1, t2, t3, t4, t5, t6, t7, -⟩ := id hT
  have hL := hg.1.1
  have hr := hL.2.1
  refine wx_in (M := mX10_theft) rfl rfl rfl (Nat.le_of_ble_eq_true rfl) ?_
  refine wx_aload_n rfl (e := 1) rfl rfl ?_
  refine wx_getr rfl (e := 4) rfl rfl rfl ?_
  refine wx_iload_n rfl (e := 5) rfl rfl ?_
  refine wx_cv1 (mc := 0) (ms := 0) rfl (e := 8) rfl (sh_t hu) (Nat.le_of_ble_eq_true rfl) ⟨by decide, by decide⟩ ?_
  refine c_X7_hasRelic hu (n := tR (gT s)) t2 (by omega) (fun k1 hk1 ek1 => ?_) (fun no1 => ?_)
  · subst ek1
    have f_1 : inS (nI k1) (tR (gT s)) = true := in_y hk1 (by omega)
    have g_1 : kS (nI k1) = k1 := kS_n (by omega)
    refine wn_if_eq rfl (e := 11) rfl (by omega) (fun c_8 => absurd c_8 (by omega)) (fun c_8 => ?_)
    refine wx_iload_n rfl (e := 12) rfl rfl ?_
    refine wx_iconst (v := (nI 1)) rfl (e := 13) rfl (by decide) ?_
    refine wx_bipush (v := (nI 9)) rfl (e := 15) rfl (by decide) ?_
    refine wx_cs3 (mc := 0) (ms := 0) rfl (e := 18) rfl (Nat.le_of_ble_eq_true rfl) ⟨by decide, by decide⟩ ?_
    refine c_X10_isWithin (lo := 1) (hi := 9) (by omega) (by decide) (fun k2 a2 b2 ek2 => ?_) (fun no2 => ?_)
    · subst ek2
      have f_2 : wiS (nI k2) (1) (9) = true := wi_y a2 b2 (by omega)
      have g_2 : kS (nI k2) = k2 := kS_n (by omega)
      refine wn_if_ne rfl (e := 21) rfl (by omega) (fun c_18 => ?_) (fun c_18 => absurd c_18 (by omega))
      refine wx_aload_n rfl (e := 24) rfl rfl ?_
      refine wx_getr rfl (e := 27) rfl rfl rfl ?_
      refine wx_aload_n rfl (e := 28) rfl rfl ?_
      refine wx_getr rfl (e := 31) rfl rfl rfl ?_
      refine wx_iload_n rfl (e := 32) rfl rfl ?_
      refine wx_iload_n rfl (e := 33) rfl rfl ?_
      refine wx_cv3 (mc := 0) (ms := 0) rfl (e := 36) rfl rfl (Nat.le_of_ble_eq_true rfl) ⟨by decide, by decide⟩ ?_
      refine c_X0_likely hT (s := 39) (by omega) hS hL hk1 (fun I2 f2 => ?_)
      refine wx_iret rfl rfl rfl ⟨by decide, by decide⟩ ?_
      simp only [aTheft, f_1, g_1, f_2, g_2, Bool.and_true, Bool.true_and, Bool.false_and, Bool.and_false, Bool.false_eq_true, eq_self, if_true, if_false] at hq
      exact hq I2 f2.f
    · have f_2 : wiS n (1) (9) = false := wi_n no2
      refine wn_if_ne rfl (e := 21) rfl (by omega) (fun c_18 => absurd c_18 (by omega)) (fun c_18 => ?_)
      refine wx_iconst (v := (-1)) rfl (e := 22) rfl (by decide) ?_
      refine wx_iret rfl rfl rfl ⟨by decide, by decide⟩ ?_
      simp only [aTheft, f_1, g_1, f_2, Bool.and_true, Bool.true_and, Bool.false_and, Bool.and_false, Bool.false_eq_true, eq_self, if_true, if_false] at hq
      exact hq I frf.rf
  · have f_1 : inS e (tR (gT s)) = false := in_n no1
    refine wn_if_eq rfl (e := 11) rfl (by omega) (fun c_8 => ?_) (fun c_8 => absurd c_8 (by omega))
    refine wx_iconst (v := (-1)) rfl (e := 22) rfl (by decide) ?_
    refine wx_iret rfl rfl rfl ⟨by decide, by decide⟩ ?_
    simp only [aTheft, f_1, Bool.and_true, Bool.true_and, Bool.false_and, Bool.and_false, Bool.false_eq_true, eq_self, if_true, if_false] at hq
    exact hq I frf.rf
theorem c_X10_nights {d Lx t rt : Nat} {I : Nat → Nat → Int32} {G : Nat → Nat → Int64} {Q : ab_Q} {s : gs} {n0 : Nat} (hC : CI t I s) (hg : gok n0 s) {e : Int32}  (hq : ∀ I2, frf t I I2 → Q (some (.int (aNights s e))) (hp Lx t rt t I2 G)) : ab_call ab_MT (d + 7) 154 [.ref 0, .int e] (hp Lx t rt t I G) 0 0 Q := by
  obtain ⟨hT, hD, hS, hA, hK, hW, hB, hP⟩ := id hC
  have hu := hT.1
  obtain ⟨hC6, hR6, hP5, hH, hTf, hFn, hLx⟩ := hT.2.1
  obtain ⟨-, -, t1, t2, t3, t4, t5, t6, t7, -⟩ := id hT
  have hL := hg.1.1
  have hr := hL.2.1
  refine wx_in (M := mX10_nights) rfl rfl rfl (Nat.le_of_ble_eq_true rfl) ?_
  refine wx_aload_n rfl (e := 1) rfl rfl ?_
  refine wx_getr rfl (e := 4) rfl rfl rfl ?_
  refine wx_iload_n rfl (e := 5) rfl rfl ?_
  refine wx_cv1 (mc := 0) (ms := 0) rfl (e := 8) rfl (sh_t hu) (Nat.le_of_ble_eq_true rfl) ⟨by decide, by decide⟩ ?_
  refine c_X7_hasRelic hu (n := tR (gT s)) t2 (by omega) (fun k1 hk1 ek1 => ?_) (fun no1 => ?_)
  · subst ek1
    have f_1 : inS (nI k1) (tR (gT s)) = true := in_y hk1 (by omega)
    have g_1 : kS (nI k1) = k1 := kS_n (by omega)
    refine wn_if_eq rfl (e := 11) rfl (by omega) (fun c_8 => absurd c_8 (by omega)) (fun c_8 => ?_)
    refine wx_aload_n rfl (e := 12) rfl rfl ?_
    refine wx_getr rfl (e := 15) rfl rfl rfl ?_
    refine wx_aload_n rfl (e := 16) rfl rfl ?_
    refine wx_getr rfl (e := 19) rfl rfl rfl ?_
    refine wx_iload_n rfl (e := 20) rfl rfl ?_
    refine wx_cv2 (mc := 0) (ms := 0) rfl (e := 23) rfl rfl (Nat.le_of_ble_eq_true rfl) ⟨by decide, by decide⟩ ?_
    refine c_X0_bestNights hT (s := 39) (by omega) hS hL hk1 (fun I2 f2 => ?_)
    refine wx_goto rfl ?_
    refine wx_iret rfl rfl rfl ⟨by decide, by decide⟩ ?_
    simp only [aNights, f_1, g_1, Bool.and_true, Bool.true_and, Bool.false_and, Bool.and_false, Bool.false_eq_true, eq_self, if_true, if_false] at hq
    exact hq I2 f2.f
  · have f_1 : inS e (tR (gT s)) = false := in_n no1
    refine wn_if_eq rfl (e := 11) rfl (by omega) (fun c_8 => ?_) (fun c_8 => absurd c_8 (by omega))
    refine wx_iconst (v := (-1)) rfl (e := 27) rfl (by decide) ?_
    refine wx_iret rfl rfl rfl ⟨by decide, by decide⟩ ?_
    simp only [aNights, f_1, Bool.and_true, Bool.true_and, Bool.false_and, Bool.and_false, Bool.false_eq_true, eq_self, if_true, if_false] at hq
    exact hq I frf.rf
theorem c_X10_worth {d Lx t rt : Nat} {I : Nat → Nat → Int32} {G : Nat → Nat → Int64} {Q : ab_Q} {s : gs} {n0 : Nat} (hC : CI t I s) (hg : gok n0 s) {e n w : Int32}  (hq : ∀ I2, frf t I I2 → Q (some (.int (aWorth s e n w))) (hp Lx t rt t I2 G)) : ab_call ab_MT (d + 9) 155 [.ref 0, .int e, .int n, .int w] (hp Lx t rt t I G) 0 0 Q := by
  obtain ⟨hT, hD, hS, hA, hK, hW, hB, hP⟩ := id hC
  have hu := hT.1
  obtain ⟨hC6, hR6, hP5, hH, hTf, hFn, hLx⟩ := hT.2.1
  obtain ⟨-, -, t1, t2, t3, t4, t5, t6, t7, -⟩ := id hT
  have hL := hg.1.1
  have hr := hL.2.1
  refine wx_in (M := mX10_worth) rfl rfl rfl (Nat.le_of_ble_eq_true rfl) ?_
  refine wx_aload_n rfl (e := 1) rfl rfl ?_
  refine wx_getr rfl (e := 4) rfl rfl rfl ?_
  refine wx_iload_n rfl (e := 5) rfl rfl ?_
  refine wx_cv1 (mc := 0) (ms := 0) rfl (e := 8) rfl (sh_t hu) (Nat.le_of_ble_eq_true rfl) ⟨by decide, by decide⟩ ?_
  refine c_X7_hasRelic hu (n := tR (gT s)) t2 (by omega) (fun k1 hk1 ek1 => ?_) (fun no1 => ?_)
  · subst ek1
    have f_1 : inS (nI k1) (tR (gT s)) = true := in_y hk1 (by omega)
    have g_1 : kS (nI k1) = k1 := kS_n (by omega)
    refine wn_if_eq rfl (e := 11) rfl (by omega) (fun c_8 => absurd c_8 (by omega)) (fun c_8 => ?_)
    refine wx_iload_n rfl (e := 12) rfl rfl ?_
    refine wx_iconst (v := (nI 1)) rfl (e := 13) rfl (by decide) ?_
    refine wx_bipush (v := (nI 24)) rfl (e := 15) rfl (by decide) ?_
    refine wx_cs3 (mc := 0) (ms := 0) rfl (e := 18) rfl (Nat.le_of_ble_eq_true rfl) ⟨by decide, by decide⟩ ?_
    refine c_X10_isWithin (lo := 1) (hi := 24) (by omega) (by decide) (fun k2 a2 b2 ek2 => ?_) (fun no2 => ?_)
    · subst ek2
      have f_2 : wiS (nI k2) (1) (24) = true := wi_y a2 b2 (by omega)
      have g_2 : kS (nI k2) = k2 := kS_n (by omega)
      refine wn_if_eq rfl (e := 21) rfl (by omega) (fun c_18 => absurd c_18 (by omega)) (fun c_18 => ?_)
      refine wx_iload_n rfl (e := 22) rfl rfl ?_
      refine wx_iconst (v := (nI 0)) rfl (e := 23) rfl (by decide) ?_
      refine wx_iconst (v := (nI 1)) rfl (e := 24) rfl (by decide) ?_
      refine wx_cs3 (mc := 0) (ms := 0) rfl (e := 27) rfl (Nat.le_of_ble_eq_true rfl) ⟨by decide, by decide⟩ ?_
      refine c_X10_isWithin (lo := 0) (hi := 1) (by omega) (by decide) (fun k3 a3 b3 ek3 => ?_) (fun no3 => ?_)
      · subst ek3
        have f_3 : wiS (nI k3) (0) (1) = true := wi_y a3 b3 (by omega)
        have g_3 : kS (nI k3) = k3 := kS_n (by omega)
        refine wn_if_ne rfl (e := 30) rfl (by omega) (fun c_27 => ?_) (fun c_27 => absurd c_27 (by omega))
        refine wx_aload_n rfl (e := 34) rfl rfl ?_
        refine wx_getr rfl (e := 37) rfl rfl rfl ?_
        refine wx_iload_n rfl (e := 38) rfl rfl ?_
        refine wx_iload_n rfl (e := 39) rfl rfl ?_
        refine wx_iload_n rfl (e := 40) rfl rfl ?_
        refine wx_iconst (v := (nI 1)) rfl (e := 41) rfl (by decide) ?_
        refine wn_ic_ne rfl (e := 44) rfl (by omega) (by omega) (fun c_41 => ?_) (fun c_41 => ?_)
        · refine wx_iconst (v := (nI 0)) rfl (e := 49) rfl (by decide) ?_
          refine wx_cv3 (mc := 0) (ms := 0) rfl (e := 52) rfl rfl (Nat.le_of_ble_eq_true rfl) ⟨by decide, by decide⟩ ?_
          refine c_X1_bestHome hT hS hL hk1 (by omega) (fun _ I2 f2 => ?_) (fun z => absurd rfl z)
          have w1 : ¬ k3 = 1 := by omega
          refine wx_iret rfl rfl rfl ⟨by decide, by decide⟩ ?_
          simp only [aWorth, f_1, g_1, f_2, g_2, f_3, g_3, w1, Bool.and_true, Bool.true_and, Bool.false_and, Bool.and_false, Bool.false_eq_true, eq_self, if_true, if_false] at hq
          exact hq I2 f2
        · refine wx_iconst (v := (nI 1)) rfl (e := 45) rfl (by decide) ?_
          refine wx_goto rfl ?_
          refine wx_cv3 (mc := 0) (ms := 0) rfl (e := 52) rfl rfl (Nat.le_of_ble_eq_true rfl) ⟨by decide, by decide⟩ ?_
          refine c_X1_bestHome hT hS hL hk1 (by omega) (fun z => absurd z (by decide)) (fun _ I2 f2 => ?_)
          have w1 : k3 = 1 := by omega
          refine wx_iret rfl rfl rfl ⟨by decide, by decide⟩ ?_
          simp only [aWorth, f_1, g_1, f_2, g_2, f_3, g_3, w1, Bool.and_true, Bool.true_and, Bool.false_and, Bool.and_false, Bool.false_eq_true, eq_self, if_true, if_false] at hq
          exact hq I2 f2
      · have f_3 : wiS w (0) (1) = false := wi_n no3
        refine wn_if_ne rfl (e := 30) rfl (by omega) (fun c_27 => absurd c_27 (by omega)) (fun c_27 => ?_)
        refine wx_ldc (v := (-100000)) rfl (e := 32) rfl (by decide) ?_
        refine wx_iret rfl rfl rfl ⟨by decide, by decide⟩ ?_
        simp only [aWorth, f_1, g_1, f_2, g_2, f_3, Bool.and_true, Bool.true_and, Bool.false_and, Bool.and_false, Bool.false_eq_true, eq_self, if_true, if_false] at hq
        exact hq I frf.rf
    · have f_2 : wiS n (1) (24) = false := wi_n no2
      refine wn_if_eq rfl (e := 21) rfl (by omega) (fun c_18 => ?_) (fun c_18 => absurd c_18 (by omega))
      refine wx_ldc (v := (-100000)) rfl (e := 32) rfl (by decide) ?_
      refine wx_iret rfl rfl rfl ⟨by decide, by decide⟩ ?_
      simp only [aWorth, f_1, g_1, f_2, Bool.and_true, Bool.true_and, Bool.false_and, Bool.and_false, Bool.false_eq_true, eq_self, if_true, if_false] at hq
      exact hq I frf.rf
  · have f_1 : inS e (tR (gT s)) = false := in_n no1
    refine wn_if_eq rfl (e := 11) rfl (by omega) (fun c_8 => ?_) (fun c_8 => absurd c_8 (by omega))
    refine wx_ldc (v := (-100000)) rfl (e := 32) rfl (by decide) ?_
    refine wx_iret rfl rfl rfl ⟨by decide, by decide⟩ ?_
    simp only [aWorth, f_1, Bool.and_true, Bool.true_and, Bool.false_and, Bool.and_false, Bool.false_eq_true, eq_self, if_true, if_false] at hq
    exact hq I frf.rf
theorem c_X10_barter {d Lx t rt : Nat} {I : Nat → Nat → Int32} {G : Nat → Nat → Int64} {Q : ab_Q} {s : gs} {n0 : Nat} (hC : CI t I s) (hg : gok n0 s) {n w : Int32}  (hq : ∀ I2, frf t I I2 → Q (some (.int (aBarter s n w))) (hp Lx t rt t I2 G)) : ab_call ab_MT (d + 9) 159 [.ref 0, .int n, .int w] (hp Lx t rt t I G) 0 0 Q := by
  obtain ⟨hT, hD, hS, hA, hK, hW, hB, hP⟩ := id hC
  have hu := hT.1
  obtain ⟨hC6, hR6, hP5, hH, hTf, hFn, hLx⟩ := hT.2.1
  obtain ⟨-, -, t1, t2, t3, t4, t5, t6, t7, -⟩ := id hT
  have hL := hg.1.1
  have hr := hL.2.1
  refine wx_in (M := mX10_barter) rfl rfl rfl (Nat.le_of_ble_eq_true rfl) ?_
  refine wx_iload_n rfl (e := 1) rfl rfl ?_
  refine wx_iconst (v := (nI 1)) rfl (e := 2) rfl (by decide) ?_
  refine wx_bipush (v := (nI 24)) rfl (e := 4) rfl (by decide) ?_
  refine wx_cs3 (mc := 0) (ms := 0) rfl (e := 7) rfl (Nat.le_of_ble_eq_true rfl) ⟨by decide, by decide⟩ ?_
  refine c_X10_isWithin (lo := 1) (hi := 24) (by omega) (by decide) (fun k1 a1 b1 ek1 => ?_) (fun no1 => ?_)
  · subst ek1
    have f_1 : wiS (nI k1) (1) (24) = true := wi_y a1 b1 (by omega)
    have g_1 : kS (nI k1) = k1 := kS_n (by omega)
    refine wn_if_eq rfl (e := 10) rfl (by omega) (fun c_7 => absurd c_7 (by omega)) (fun c_7 => ?_)
    refine wx_iload_n rfl (e := 11) rfl rfl ?_
    refine wx_iconst (v := (nI 0)) rfl (e := 12) rfl (by decide) ?_
    refine wx_iconst (v := (nI 1)) rfl (e := 13) rfl (by decide) ?_
    refine wx_cs3 (mc := 0) (ms := 0) rfl (e := 16) rfl (Nat.le_of_ble_eq_true rfl) ⟨by decide, by decide⟩ ?_
    refine c_X10_isWithin (lo := 0) (hi := 1) (by omega) (by decide) (fun k2 a2 b2 ek2 => ?_) (fun no2 => ?_)
    · subst ek2
      have f_2 : wiS (nI k2) (0) (1) = true := wi_y a2 b2 (by omega)
      have g_2 : kS (nI k2) = k2 := kS_n (by omega)
      refine wn_if_ne rfl (e := 19) rfl (by omega) (fun c_16 => ?_) (fun c_16 => absurd c_16 (by omega))
      refine wx_aload_n rfl (e := 22) rfl rfl ?_
      refine wx_getr rfl (e := 25) rfl rfl rfl ?_
      refine wx_iload_n rfl (e := 26) rfl rfl ?_
      refine wx_iload_n rfl (e := 27) rfl rfl ?_
      refine wx_iconst (v := (nI 1)) rfl (e := 28) rfl (by decide) ?_
      refine wn_ic_ne rfl (e := 31) rfl (by omega) (by omega) (fun c_28 => ?_) (fun c_28 => ?_)
      · refine wx_iconst (v := (nI 0)) rfl (e := 36) rfl (by decide) ?_
        refine wx_cv2 (mc := 0) (ms := 0) rfl (e := 39) rfl rfl (Nat.le_of_ble_eq_true rfl) ⟨by decide, by decide⟩ ?_
        refine c_X1_barters hT hS hL (by omega) (fun _ I2 f2 => ?_) (fun z => absurd rfl z)
        have w1 : ¬ k2 = 1 := by omega
        refine wx_iret rfl rfl rfl ⟨by decide, by decide⟩ ?_
        simp only [aBarter, f_1, g_1, f_2, g_2, w1, Bool.and_true, Bool.true_and, Bool.false_and, Bool.and_false, Bool.false_eq_true, eq_self, if_true, if_false] at hq
        exact hq I2 f2
      · refine wx_iconst (v := (nI 1)) rfl (e := 32) rfl (by decide) ?_
        refine wx_goto rfl ?_
        refine wx_cv2 (mc := 0) (ms := 0) rfl (e := 39) rfl rfl (Nat.le_of_ble_eq_true rfl) ⟨by decide, by decide⟩ ?_
        refine c_X1_barters hT hS hL (by omega) (fun z => absurd z (by decide)) (fun _ I2 f2 => ?_)
        have w1 : k2 = 1 := by omega
        refine wx_iret rfl rfl rfl ⟨by decide, by decide⟩ ?_
        simp only [aBarter, f_1, g_1, f_2, g_2, w1, Bool.and_true, Bool.true_and, Bool.false_and, Bool.and_false, Bool.false_eq_true, eq_self, if_true, if_false] at hq
        exact hq I2 f2
    · have f_2 : wiS w (0) (1) = false := wi_n no2
      refine wn_if_ne rfl (e := 19) rfl (by omega) (fun c_16 => absurd c_16 (by omega)) (fun c_16 => ?_)
      refine wx_iconst (v := (-1)) rfl (e := 20) rfl (by decide) ?_
      refine wx_iret rfl rfl rfl ⟨by decide, by decide⟩ ?_
      simp only [aBarter, f_1, g_1, f_2, Bool.and_true, Bool.true_and, Bool.false_and, Bool.and_false, Bool.false_eq_true, eq_self, if_true, if_false] at hq
      exact hq I frf.rf
  · have f_1 : wiS n (1) (24) = false := wi_n no1
    refine wn_if_eq rfl (e := 10) rfl (by omega) (fun c_7 => ?_) (fun c_7 => absurd c_7 (by omega))
    refine wx_iconst (v := (-1)) rfl (e := 20) rfl (by decide) ?_
    refine wx_iret rfl rfl rfl ⟨by decide, by decide⟩ ?_
    simp only [aBarter, f_1, Bool.and_true, Bool.true_and, Bool.false_and, Bool.and_false, Bool.false_eq_true, eq_self, if_true, if_false] at hq
    exact hq I frf.rf
theorem c_X10_rich {d Lx t rt : Nat} {I : Nat → Nat → Int32} {G : Nat → Nat → Int64} {Q : ab_Q} {s : gs} {n0 : Nat} (hC : CI t I s) (hg : gok n0 s) {n w : Int32}  (hq : ∀ I2, frf t I I2 → Q (some (.int (aRich s n w))) (hp Lx t rt t I2 G)) : ab_call ab_MT (d + 9) 163 [.ref 0, .int n, .int w] (hp Lx t rt t I G) 0 0 Q := by
  obtain ⟨hT, hD, hS, hA, hK, hW, hB, hP⟩ := id hC
  have hu := hT.1
  obtain ⟨hC6, hR6, hP5, hH, hTf, hFn, hLx⟩ := hT.2.1
  obtain ⟨-, -, t1, t2, t3, t4, t5, t6, t7, -⟩ := id hT
  have hL := hg.1.1
  have hr := hL.2.1
  refine wx_in (M := mX10_rich) rfl rfl rfl (Nat.le_of_ble_eq_true rfl) ?_
  refine wx_iload_n rfl (e := 1) rfl rfl ?_
  refine wx_iconst (v := (nI 0)) rfl (e := 2) rfl (by decide) ?_
  refine wx_bipush (v := (nI 60)) rfl (e := 4) rfl (by decide) ?_
  refine wx_cs3 (mc := 0) (ms := 0) rfl (e := 7) rfl (Nat.le_of_ble_eq_true rfl) ⟨by decide, by decide⟩ ?_
  refine c_X10_isWithin (lo := 0) (hi := 60) (by omega) (by decide) (fun k1 a1 b1 ek1 => ?_) (fun no1 => ?_)
  · subst ek1
    have f_1 : wiS (nI k1) (0) (60) = true := wi_y a1 b1 (by omega)
    have g_1 : kS (nI k1) = k1 := kS_n (by omega)
    refine wn_if_eq rfl (e := 10) rfl (by omega) (fun c_7 => absurd c_7 (by omega)) (fun c_7 => ?_)
    refine wx_iload_n rfl (e := 11) rfl rfl ?_
    refine wx_iconst (v := (nI 0)) rfl (e := 12) rfl (by decide) ?_
    refine wx_iconst (v := (nI 1)) rfl (e := 13) rfl (by decide) ?_
    refine wx_cs3 (mc := 0) (ms := 0) rfl (e := 16) rfl (Nat.le_of_ble_eq_true rfl) ⟨by decide, by decide⟩ ?_
    refine c_X10_isWithin (lo := 0) (hi := 1) (by omega) (by decide) (fun k2 a2 b2 ek2 => ?_) (fun no2 => ?_)
    · subst ek2
      have f_2 : wiS (nI k2) (0) (1) = true := wi_y a2 b2 (by omega)
      have g_2 : kS (nI k2) = k2 := kS_n (by omega)
      refine wn_if_ne rfl (e := 19) rfl (by omega) (fun c_16 => ?_) (fun c_16 => absurd c_16 (by omega))
      refine wx_aload_n rfl (e := 22) rfl rfl ?_
      refine wx_getr rfl (e := 25) rfl rfl rfl ?_
      refine wx_iload_n rfl (e := 26) rfl rfl ?_
      refine wx_iload_n rfl (e := 27) rfl rfl ?_
      refine wx_iconst (v := (nI 1)) rfl (e := 28) rfl (by decide) ?_
      refine wn_ic_ne rfl (e := 31) rfl (by omega) (by omega) (fun c_28 => ?_) (fun c_28 => ?_)
      · refine wx_iconst (v := (nI 0)) rfl (e := 36) rfl (by decide) ?_
        refine wx_cv2 (mc := 0) (ms := 0) rfl (e := 39) rfl rfl (Nat.le_of_ble_eq_true rfl) ⟨by decide, by decide⟩ ?_
        refine c_X1_richest hT hS hL (by omega) (fun _ I2 f2 => ?_) (fun z => absurd rfl z)
        have w1 : ¬ k2 = 1 := by omega
        refine wx_iret rfl rfl rfl ⟨by decide, by decide⟩ ?_
        simp only [aRich, f_1, g_1, f_2, g_2, w1, Bool.and_true, Bool.true_and, Bool.false_and, Bool.and_false, Bool.false_eq_true, eq_self, if_true, if_false] at hq
        exact hq I2 f2
      · refine wx_iconst (v := (nI 1)) rfl (e := 32) rfl (by decide) ?_
        refine wx_goto rfl ?_
        refine wx_cv2 (mc := 0) (ms := 0) rfl (e := 39) rfl rfl (Nat.le_of_ble_eq_true rfl) ⟨by decide, by decide⟩ ?_
        refine c_X1_richest hT hS hL (by omega) (fun z I2 f2 => ?_) (fun _ z I2 f2 => ?_)
        · have w2 := z.resolve_left (by decide)
          refine wx_iret rfl rfl rfl ⟨by decide, by decide⟩ ?_
          simp only [aRich, f_1, g_1, f_2, g_2, Bool.and_true, Bool.true_and, Bool.false_and, Bool.and_false, Bool.false_eq_true, eq_self, if_true, if_false] at hq
          rw [if_neg (fun w => w.2 w2)] at hq
          exact hq I2 f2
        · have w2 : k2 = 1 ∧ _ := ⟨by omega, z⟩
          refine wx_iret rfl rfl rfl ⟨by decide, by decide⟩ ?_
          simp only [aRich, f_1, g_1, f_2, g_2, Bool.and_true, Bool.true_and, Bool.false_and, Bool.and_false, Bool.false_eq_true, eq_self, if_true, if_false] at hq
          rw [if_pos (show k2 = 1 ∧ ¬ (amx (rcF (gT s) (gR s) k1) (tC (gT s))).1 < 0 from w2)] at hq
          exact hq I2 f2
    · have f_2 : wiS w (0) (1) = false := wi_n no2
      refine wn_if_ne rfl (e := 19) rfl (by omega) (fun c_16 => absurd c_16 (by omega)) (fun c_16 => ?_)
      refine wx_iconst (v := (-1)) rfl (e := 20) rfl (by decide) ?_
      refine wx_iret rfl rfl rfl ⟨by decide, by decide⟩ ?_
      simp only [aRich, f_1, g_1, f_2, Bool.and_true, Bool.true_and, Bool.false_and, Bool.and_false, Bool.false_eq_true, eq_self, if_true, if_false] at hq
      exact hq I frf.rf
  · have f_1 : wiS n (0) (60) = false := wi_n no1
    refine wn_if_eq rfl (e := 10) rfl (by omega) (fun c_7 => ?_) (fun c_7 => absurd c_7 (by omega))
    refine wx_iconst (v := (-1)) rfl (e := 20) rfl (by decide) ?_
    refine wx_iret rfl rfl rfl ⟨by decide, by decide⟩ ?_
    simp only [aRich, f_1, Bool.and_true, Bool.true_and, Bool.false_and, Bool.and_false, Bool.false_eq_true, eq_self, if_true, if_false] at hq
    exact hq I frf.rf

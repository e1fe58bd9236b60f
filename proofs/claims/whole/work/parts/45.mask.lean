/-! the calls of the model that only ask -/
theorem c_X11_church {d Lx t rt u : Nat} {I : Nat → Nat → Int32} {G : Nat → Nat → Int64} {Q : ab_Q} {s : gs} {n0 lv : Nat} (hI : MI lv I s) (hg : gok n0 s) {v w : Int32}  (hq : ∀ I2, fmq I I2 → Q (some (.int (aChurch s v w))) (hp Lx t rt u I2 G)) : ab_call ab_MT (d + 3) 246 [.ref 55, .int v, .int w] (hp Lx t rt u I G) 0 0 Q := by
  obtain ⟨hM, hD1, hN, hHh, hSs, hDd, hPp, hpl⟩ := id hI
  obtain ⟨hlv, ⟨hC6, hR6, hP5, hH, hTf, hFn, hLx⟩, m18, m65, m69, m72, m76, m71, m89, m73, mL⟩ := id hM
  have hL := hg.1.1
  have hr := hL.2.1
  have hb := hg.1.2.1
  refine wx_in (M := mX11_church) rfl rfl rfl (Nat.le_of_ble_eq_true rfl) ?_
  refine wx_aload_n rfl (e := 1) rfl rfl ?_
  refine wx_iload_n rfl (e := 2) rfl rfl ?_
  refine wx_cv1 (mc := 0) (ms := 0) rfl (e := 5) rfl rfl (Nat.le_of_ble_eq_true rfl) ⟨by decide, by decide⟩ ?_
  refine c_X11_isChurch hM (fun k1 hk1 ek1 => ?_) (fun no1 => ?_)
  · subst ek1
    have f_1 : inS (nI k1) (tC (gT s)) = true := in_y hk1 (by omega)
    have g_1 : kS (nI k1) = k1 := kS_n (by omega)
    refine wn_if_ne rfl (e := 8) rfl (by omega) (fun c_5 => ?_) (fun c_5 => absurd c_5 (by omega))
    refine wx_aload_n rfl (e := 11) rfl rfl ?_
    refine wx_cv0 (mc := 0) (ms := 0) rfl (e := 14) rfl rfl (Nat.le_of_ble_eq_true rfl) ⟨by decide, by decide⟩ ?_
    refine c_cp hM hN (fun I2 f2 T2 N2 R2 h54 => ?_)
    refine wx_iload_n rfl (e := 15) rfl rfl ?_
    refine wx_sw rfl (fun c_15 => ?_) (List.forall_mem_cons.mpr ⟨fun c_15 => ?_, (List.forall_mem_cons.mpr ⟨fun c_15 => ?_, (List.forall_mem_cons.mpr ⟨fun c_15 => ?_, (List.forall_mem_cons.mpr ⟨fun c_15 => ?_, (List.forall_mem_cons.mpr ⟨fun c_15 => ?_, (fun _ h => absurd h List.not_mem_nil)⟩)⟩)⟩)⟩)⟩)
    · refine wx_iconst (v := (-1)) rfl (e := 88) rfl (by decide) ?_
      refine wx_iret rfl rfl rfl ⟨by decide, by decide⟩ ?_
      simp only [aChurch, f_1, g_1, Bool.and_true, Bool.true_and, Bool.false_and, Bool.and_false, Bool.false_eq_true, eq_self, if_true, if_false] at hq
      rw [if_neg (by omega), if_neg (by omega), if_neg (by omega), if_neg (by omega), if_neg (by omega)] at hq
      exact hq I2 f2
    · have c_15 : Int32.toInt _ = 0 := c_15
      show WP _ _ _ _ _ _ _ _ _
      refine wx_aload_n rfl (e := 49) rfl rfl ?_
      refine wx_getr rfl (e := 52) rfl rfl rfl ?_
      refine wx_iload_n rfl (e := 53) rfl rfl ?_
      refine wn_iald rfl (e := 54) rfl rfl (by omega) (by decide) ?_
      rw [R2 _ (by omega)]
      refine wx_iret rfl rfl rfl ⟨by decide, by decide⟩ ?_
      simp only [aChurch, f_1, g_1, Bool.and_true, Bool.true_and, Bool.false_and, Bool.and_false, Bool.false_eq_true, eq_self, if_true, if_false] at hq
      rw [if_pos c_15] at hq
      exact hq I2 f2
    · have c_15 : Int32.toInt _ = 1 := c_15
      show WP _ _ _ _ _ _ _ _ _
      refine wx_aload_n rfl (e := 56) rfl rfl ?_
      refine wx_iload_n rfl (e := 57) rfl rfl ?_
      refine wx_cv1 (mc := 0) (ms := 0) rfl (e := 60) rfl rfl (Nat.le_of_ble_eq_true rfl) ⟨by decide, by decide⟩ ?_
      refine c_X11_relicBits T2 R2 hr (by omega) ?_
      refine wx_iret rfl rfl rfl ⟨by decide, by decide⟩ ?_
      simp only [aChurch, f_1, g_1, Bool.and_true, Bool.true_and, Bool.false_and, Bool.and_false, Bool.false_eq_true, eq_self, if_true, if_false] at hq
      rw [if_neg (by omega), if_pos c_15] at hq
      exact hq I2 f2
    · have c_15 : Int32.toInt _ = 2 := c_15
      show WP _ _ _ _ _ _ _ _ _
      refine wx_aload_n rfl (e := 62) rfl rfl ?_
      refine wx_getr rfl (e := 65) rfl rfl rfl ?_
      refine wx_bipush (v := (nI 12)) rfl (e := 67) rfl (by decide) ?_
      refine wx_iload_n rfl (e := 68) rfl rfl ?_
      refine wn_iadd rfl (e := 69) rfl ?_
      refine wn_iald rfl (e := 70) rfl rfl (by omega) (by decide) ?_
      rw [R2 _ (by omega)]
      refine wx_iret rfl rfl rfl ⟨by decide, by decide⟩ ?_
      simp only [aChurch, f_1, g_1, Bool.and_true, Bool.true_and, Bool.false_and, Bool.and_false, Bool.false_eq_true, eq_self, if_true, if_false] at hq
      rw [if_neg (by omega), if_neg (by omega), if_pos c_15] at hq
      exact hq I2 f2
    · have c_15 : Int32.toInt _ = 3 := c_15
      show WP _ _ _ _ _ _ _ _ _
      refine wx_aload_n rfl (e := 72) rfl rfl ?_
      refine wx_getr rfl (e := 75) rfl rfl rfl ?_
      refine wx_bipush (v := (nI 18)) rfl (e := 77) rfl (by decide) ?_
      refine wx_iload_n rfl (e := 78) rfl rfl ?_
      refine wn_iadd rfl (e := 79) rfl ?_
      refine wn_iald rfl (e := 80) rfl rfl (by omega) (by decide) ?_
      rw [R2 _ (by omega)]
      refine wx_iret rfl rfl rfl ⟨by decide, by decide⟩ ?_
      simp only [aChurch, f_1, g_1, Bool.and_true, Bool.true_and, Bool.false_and, Bool.and_false, Bool.false_eq_true, eq_self, if_true, if_false] at hq
      rw [if_neg (by omega), if_neg (by omega), if_neg (by omega), if_pos c_15] at hq
      exact hq I2 f2
    · have c_15 : Int32.toInt _ = 4 := c_15
      show WP _ _ _ _ _ _ _ _ _
      refine wx_aload_n rfl (e := 82) rfl rfl ?_
      refine wx_iload_n rfl (e := 83) rfl rfl ?_
      refine wx_cv1 (mc := 0) (ms := 0) rfl (e := 86) rfl rfl (Nat.le_of_ble_eq_true rfl) ⟨by decide, by decide⟩ ?_
      refine c_X11_trueAt T2 R2 hr (by omega) ?_
      refine wx_iret rfl rfl rfl ⟨by decide, by decide⟩ ?_
      simp only [aChurch, f_1, g_1, Bool.and_true, Bool.true_and, Bool.false_and, Bool.and_false, Bool.false_eq_true, eq_self, if_true, if_false] at hq
      rw [if_neg (by omega), if_neg (by omega), if_neg (by omega), if_neg (by omega), if_pos c_15] at hq
      exact hq I2 f2
  · have f_1 : inS v (tC (gT s)) = false := in_n no1
    refine wn_if_ne rfl (e := 8) rfl (by omega) (fun c_5 => absurd c_5 (by omega)) (fun c_5 => ?_)
    refine wx_iconst (v := (-1)) rfl (e := 9) rfl (by decide) ?_
    refine wx_iret rfl rfl rfl ⟨by decide, by decide⟩ ?_
    simp only [aChurch, f_1, Bool.and_true, Bool.true_and, Bool.false_and, Bool.and_false, Bool.false_eq_true, eq_self, if_true, if_false] at hq
    exact hq I fmq.rf
theorem c_X11_relic {d Lx t rt u : Nat} {I : Nat → Nat → Int32} {G : Nat → Nat → Int64} {Q : ab_Q} {s : gs} {n0 lv : Nat} (hI : MI lv I s) (hg : gok n0 s) {v w : Int32}  (hq : ∀ I2, fmq I I2 → Q (some (.int (aRelic s v w))) (hp Lx t rt u I2 G)) : ab_call ab_MT (d + 3) 247 [.ref 55, .int v, .int w] (hp Lx t rt u I G) 0 0 Q := by
  obtain ⟨hM, hD1, hN, hHh, hSs, hDd, hPp, hpl⟩ := id hI
  obtain ⟨hlv, ⟨hC6, hR6, hP5, hH, hTf, hFn, hLx⟩, m18, m65, m69, m72, m76, m71, m89, m73, mL⟩ := id hM
  have hL := hg.1.1
  have hr := hL.2.1
  have hb := hg.1.2.1
  refine wx_in (M := mX11_relic) rfl rfl rfl (Nat.le_of_ble_eq_true rfl) ?_
  refine wx_aload_n rfl (e := 1) rfl rfl ?_
  refine wx_iload_n rfl (e := 2) rfl rfl ?_
  refine wx_cv1 (mc := 0) (ms := 0) rfl (e := 5) rfl rfl (Nat.le_of_ble_eq_true rfl) ⟨by decide, by decide⟩ ?_
  refine c_X11_isRelic hM (fun k1 hk1 ek1 => ?_) (fun no1 => ?_)
  · subst ek1
    have f_1 : inS (nI k1) (tR (gT s)) = true := in_y hk1 (by omega)
    have g_1 : kS (nI k1) = k1 := kS_n (by omega)
    refine wn_if_ne rfl (e := 8) rfl (by omega) (fun c_5 => ?_) (fun c_5 => absurd c_5 (by omega))
    refine wx_iload_n rfl (e := 11) rfl rfl ?_
    refine wx_sw rfl (fun c_11 => ?_) (List.forall_mem_cons.mpr ⟨fun c_11 => ?_, (List.forall_mem_cons.mpr ⟨fun c_11 => ?_, (List.forall_mem_cons.mpr ⟨fun c_11 => ?_, (List.forall_mem_cons.mpr ⟨fun c_11 => ?_, (fun _ h => absurd h List.not_mem_nil)⟩)⟩)⟩)⟩)
    · refine wx_iconst (v := (-1)) rfl (e := 86) rfl (by decide) ?_
      refine wx_iret rfl rfl rfl ⟨by decide, by decide⟩ ?_
      simp only [aRelic, f_1, g_1, Bool.and_true, Bool.true_and, Bool.false_and, Bool.and_false, Bool.false_eq_true, eq_self, if_true, if_false] at hq
      rw [if_neg (by omega), if_neg (by omega), if_neg (by omega), if_neg (by omega)] at hq
      exact hq I fmq.rf
    · have c_11 : Int32.toInt _ = 0 := c_11
      show WP _ _ _ _ _ _ _ _ _
      refine wx_aload_n rfl (e := 41) rfl rfl ?_
      refine wx_getr rfl (e := 44) rfl rfl rfl ?_
      refine wx_bipush (v := (nI 6)) rfl (e := 46) rfl (by decide) ?_
      refine wx_iload_n rfl (e := 47) rfl rfl ?_
      refine wn_iadd rfl (e := 48) rfl ?_
      refine wn_iald rfl (e := 49) rfl rfl (by omega) (by decide) ?_
      rw [hN _ (by omega)]
      refine wx_iret rfl rfl rfl ⟨by decide, by decide⟩ ?_
      simp only [aRelic, f_1, g_1, Bool.and_true, Bool.true_and, Bool.false_and, Bool.and_false, Bool.false_eq_true, eq_self, if_true, if_false] at hq
      rw [if_pos c_11] at hq
      exact hq I fmq.rf
    · have c_11 : Int32.toInt _ = 1 := c_11
      show WP _ _ _ _ _ _ _ _ _
      refine wx_aload_n rfl (e := 51) rfl rfl ?_
      refine wx_getr rfl (e := 54) rfl rfl rfl ?_
      refine wx_bipush (v := (nI 6)) rfl (e := 56) rfl (by decide) ?_
      refine wx_aload_n rfl (e := 57) rfl rfl ?_
      refine wx_geti rfl (e := 60) rfl rfl ?_
      rw [m18]
      refine wn_imul rfl (e := 61) rfl ?_
      refine wx_iload_n rfl (e := 62) rfl rfl ?_
      refine wn_iadd rfl (e := 63) rfl ?_
      refine wn_iald rfl (e := 64) rfl rfl (by omega) (by decide) ?_
      rw [m71 _ hk1]
      refine wx_iret rfl rfl rfl ⟨by decide, by decide⟩ ?_
      simp only [aRelic, f_1, g_1, Bool.and_true, Bool.true_and, Bool.false_and, Bool.and_false, Bool.false_eq_true, eq_self, if_true, if_false] at hq
      rw [if_neg (by omega), if_pos c_11] at hq
      exact hq I fmq.rf
    · have c_11 : Int32.toInt _ = 2 := c_11
      show WP _ _ _ _ _ _ _ _ _
      refine wx_aload_n rfl (e := 66) rfl rfl ?_
      refine wx_getr rfl (e := 69) rfl rfl rfl ?_
      refine wx_bipush (v := (nI 24)) rfl (e := 71) rfl (by decide) ?_
      refine wx_iload_n rfl (e := 72) rfl rfl ?_
      refine wn_iadd rfl (e := 73) rfl ?_
      refine wn_iald rfl (e := 74) rfl rfl (by omega) (by decide) ?_
      rw [hN _ (by omega)]
      refine wx_iret rfl rfl rfl ⟨by decide, by decide⟩ ?_
      simp only [aRelic, f_1, g_1, Bool.and_true, Bool.true_and, Bool.false_and, Bool.and_false, Bool.false_eq_true, eq_self, if_true, if_false] at hq
      rw [if_neg (by omega), if_neg (by omega), if_pos c_11] at hq
      exact hq I fmq.rf
    · have c_11 : Int32.toInt _ = 3 := c_11
      show WP _ _ _ _ _ _ _ _ _
      refine wx_aload_n rfl (e := 76) rfl rfl ?_
      refine wx_getr rfl (e := 79) rfl rfl rfl ?_
      refine wx_bipush (v := (nI 30)) rfl (e := 81) rfl (by decide) ?_
      refine wx_iload_n rfl (e := 82) rfl rfl ?_
      refine wn_iadd rfl (e := 83) rfl ?_
      refine wn_iald rfl (e := 84) rfl rfl (by omega) (by decide) ?_
      rw [hN _ (by omega)]
      refine wx_iret rfl rfl rfl ⟨by decide, by decide⟩ ?_
      simp only [aRelic, f_1, g_1, Bool.and_true, Bool.true_and, Bool.false_and, Bool.and_false, Bool.false_eq_true, eq_self, if_true, if_false] at hq
      rw [if_neg (by omega), if_neg (by omega), if_neg (by omega), if_pos c_11] at hq
      exact hq I fmq.rf
  · have f_1 : inS v (tR (gT s)) = false := in_n no1
    refine wn_if_ne rfl (e := 8) rfl (by omega) (fun c_5 => absurd c_5 (by omega)) (fun c_5 => ?_)
    refine wx_iconst (v := (-1)) rfl (e := 9) rfl (by decide) ?_
    refine wx_iret rfl rfl rfl ⟨by decide, by decide⟩ ?_
    simp only [aRelic, f_1, Bool.and_true, Bool.true_and, Bool.false_and, Bool.and_false, Bool.false_eq_true, eq_self, if_true, if_false] at hq
    exact hq I fmq.rf
theorem c_X11_pilgrim {d Lx t rt u : Nat} {I : Nat → Nat → Int32} {G : Nat → Nat → Int64} {Q : ab_Q} {s : gs} {n0 lv : Nat} (hI : MI lv I s) (hg : gok n0 s) {v w : Int32}  (hq : ∀ I2, fmq I I2 → Q (some (.int (aPilgrim s v w))) (hp Lx t rt u I2 G)) : ab_call ab_MT (d + 3) 248 [.ref 55, .int v, .int w] (hp Lx t rt u I G) 0 0 Q := by
  obtain ⟨hM, hD1, hN, hHh, hSs, hDd, hPp, hpl⟩ := id hI
  obtain ⟨hlv, ⟨hC6, hR6, hP5, hH, hTf, hFn, hLx⟩, m18, m65, m69, m72, m76, m71, m89, m73, mL⟩ := id hM
  have hL := hg.1.1
  have hr := hL.2.1
  have hb := hg.1.2.1
  refine wx_in (M := mX11_pilgrim) rfl rfl rfl (Nat.le_of_ble_eq_true rfl) ?_
  refine wx_aload_n rfl (e := 1) rfl rfl ?_
  refine wx_iload_n rfl (e := 2) rfl rfl ?_
  refine wx_cv1 (mc := 0) (ms := 0) rfl (e := 5) rfl rfl (Nat.le_of_ble_eq_true rfl) ⟨by decide, by decide⟩ ?_
  refine c_X11_isPilgrim hM (fun k1 hk1 ek1 => ?_) (fun no1 => ?_)
  · subst ek1
    have f_1 : inS (nI k1) (tP (gT s)) = true := in_y hk1 (by omega)
    have g_1 : kS (nI k1) = k1 := kS_n (by omega)
    refine wn_if_ne rfl (e := 8) rfl (by omega) (fun c_5 => ?_) (fun c_5 => absurd c_5 (by omega))
    refine wx_iload_n rfl (e := 11) rfl rfl ?_
    refine wx_sw rfl (fun c_11 => ?_) (List.forall_mem_cons.mpr ⟨fun c_11 => ?_, (List.forall_mem_cons.mpr ⟨fun c_11 => ?_, (List.forall_mem_cons.mpr ⟨fun c_11 => ?_, (List.forall_mem_cons.mpr ⟨fun c_11 => ?_, (List.forall_mem_cons.mpr ⟨fun c_11 => ?_, (fun _ h => absurd h List.not_mem_nil)⟩)⟩)⟩)⟩)⟩)
    · refine wx_iconst (v := (-1)) rfl (e := 107) rfl (by decide) ?_
      refine wx_iret rfl rfl rfl ⟨by decide, by decide⟩ ?_
      simp only [aPilgrim, f_1, g_1, Bool.and_true, Bool.true_and, Bool.false_and, Bool.and_false, Bool.false_eq_true, eq_self, if_true, if_false] at hq
      rw [if_neg (by omega), if_neg (by omega), if_neg (by omega), if_neg (by omega), if_neg (by omega)] at hq
      exact hq I fmq.rf
    · have c_11 : Int32.toInt _ = 0 := c_11
      show WP _ _ _ _ _ _ _ _ _
      refine wx_aload_n rfl (e := 45) rfl rfl ?_
      refine wx_getr rfl (e := 48) rfl rfl rfl ?_
      refine wx_iconst (v := (nI 5)) rfl (e := 49) rfl (by decide) ?_
      refine wx_aload_n rfl (e := 50) rfl rfl ?_
      refine wx_geti rfl (e := 53) rfl rfl ?_
      rw [m18]
      refine wn_imul rfl (e := 54) rfl ?_
      refine wx_iload_n rfl (e := 55) rfl rfl ?_
      refine wn_iadd rfl (e := 56) rfl ?_
      refine wn_iald rfl (e := 57) rfl rfl (by omega) (by decide) ?_
      rw [(m73 _ hk1).1]
      refine wx_iret rfl rfl rfl ⟨by decide, by decide⟩ ?_
      simp only [aPilgrim, f_1, g_1, Bool.and_true, Bool.true_and, Bool.false_and, Bool.and_false, Bool.false_eq_true, eq_self, if_true, if_false] at hq
      rw [if_pos c_11] at hq
      exact hq I fmq.rf
    · have c_11 : Int32.toInt _ = 1 := c_11
      show WP _ _ _ _ _ _ _ _ _
      refine wx_aload_n rfl (e := 59) rfl rfl ?_
      refine wx_getr rfl (e := 62) rfl rfl rfl ?_
      refine wx_iconst (v := (nI 5)) rfl (e := 63) rfl (by decide) ?_
      refine wx_aload_n rfl (e := 64) rfl rfl ?_
      refine wx_geti rfl (e := 67) rfl rfl ?_
      rw [m18]
      refine wn_imul rfl (e := 68) rfl ?_
      refine wx_iload_n rfl (e := 69) rfl rfl ?_
      refine wn_iadd rfl (e := 70) rfl ?_
      refine wn_iald rfl (e := 71) rfl rfl (by omega) (by decide) ?_
      rw [(m73 _ hk1).2.1]
      refine wx_iret rfl rfl rfl ⟨by decide, by decide⟩ ?_
      simp only [aPilgrim, f_1, g_1, Bool.and_true, Bool.true_and, Bool.false_and, Bool.and_false, Bool.false_eq_true, eq_self, if_true, if_false] at hq
      rw [if_neg (by omega), if_pos c_11] at hq
      exact hq I fmq.rf
    · have c_11 : Int32.toInt _ = 2 := c_11
      show WP _ _ _ _ _ _ _ _ _
      refine wx_aload_n rfl (e := 73) rfl rfl ?_
      refine wx_getr rfl (e := 76) rfl rfl rfl ?_
      refine wx_iconst (v := (nI 5)) rfl (e := 77) rfl (by decide) ?_
      refine wx_aload_n rfl (e := 78) rfl rfl ?_
      refine wx_geti rfl (e := 81) rfl rfl ?_
      rw [m18]
      refine wn_imul rfl (e := 82) rfl ?_
      refine wx_iload_n rfl (e := 83) rfl rfl ?_
      refine wn_iadd rfl (e := 84) rfl ?_
      refine wn_iald rfl (e := 85) rfl rfl (by omega) (by decide) ?_
      rw [(m73 _ hk1).2.2]
      refine wx_iret rfl rfl rfl ⟨by decide, by decide⟩ ?_
      simp only [aPilgrim, f_1, g_1, Bool.and_true, Bool.true_and, Bool.false_and, Bool.and_false, Bool.false_eq_true, eq_self, if_true, if_false] at hq
      rw [if_neg (by omega), if_neg (by omega), if_pos c_11] at hq
      exact hq I fmq.rf
    · have c_11 : Int32.toInt _ = 3 := c_11
      show WP _ _ _ _ _ _ _ _ _
      refine wx_aload_n rfl (e := 87) rfl rfl ?_
      refine wx_getr rfl (e := 90) rfl rfl rfl ?_
      refine wx_bipush (v := (nI 36)) rfl (e := 92) rfl (by decide) ?_
      refine wx_iload_n rfl (e := 93) rfl rfl ?_
      refine wn_iadd rfl (e := 94) rfl ?_
      refine wn_iald rfl (e := 95) rfl rfl (by omega) (by decide) ?_
      rw [hN _ (by omega)]
      refine wx_iret rfl rfl rfl ⟨by decide, by decide⟩ ?_
      simp only [aPilgrim, f_1, g_1, Bool.and_true, Bool.true_and, Bool.false_and, Bool.and_false, Bool.false_eq_true, eq_self, if_true, if_false] at hq
      rw [if_neg (by omega), if_neg (by omega), if_neg (by omega), if_pos c_11] at hq
      exact hq I fmq.rf
    · have c_11 : Int32.toInt _ = 4 := c_11
      show WP _ _ _ _ _ _ _ _ _
      refine wx_aload_n rfl (e := 97) rfl rfl ?_
      refine wx_getr rfl (e := 100) rfl rfl rfl ?_
      refine wx_bipush (v := (nI 41)) rfl (e := 102) rfl (by decide) ?_
      refine wx_iload_n rfl (e := 103) rfl rfl ?_
      refine wn_iadd rfl (e := 104) rfl ?_
      refine wn_iald rfl (e := 105) rfl rfl (by omega) (by decide) ?_
      rw [hN _ (by omega)]
      refine wx_iret rfl rfl rfl ⟨by decide, by decide⟩ ?_
      simp only [aPilgrim, f_1, g_1, Bool.and_true, Bool.true_and, Bool.false_and, Bool.and_false, Bool.false_eq_true, eq_self, if_true, if_false] at hq
      rw [if_neg (by omega), if_neg (by omega), if_neg (by omega), if_neg (by omega), if_pos c_11] at hq
      exact hq I fmq.rf
  · have f_1 : inS v (tP (gT s)) = false := in_n no1
    refine wn_if_ne rfl (e := 8) rfl (by omega) (fun c_5 => absurd c_5 (by omega)) (fun c_5 => ?_)
    refine wx_iconst (v := (-1)) rfl (e := 9) rfl (by decide) ?_
    refine wx_iret rfl rfl rfl ⟨by decide, by decide⟩ ?_
    simp only [aPilgrim, f_1, Bool.and_true, Bool.true_and, Bool.false_and, Bool.and_false, Bool.false_eq_true, eq_self, if_true, if_false] at hq
    exact hq I fmq.rf
theorem c_X11_tells {d Lx t rt u : Nat} {I : Nat → Nat → Int32} {G : Nat → Nat → Int64} {Q : ab_Q} {s : gs} {n0 lv : Nat} (hI : MI lv I s) (hg : gok n0 s) {a c w : Int32}  (hq : ∀ I2, fmq I I2 → Q (some (.int (aTells s a c w))) (hp Lx t rt u I2 G)) : ab_call ab_MT (d + 4) 249 [.ref 55, .int a, .int c, .int w] (hp Lx t rt u I G) 0 0 Q := by
  obtain ⟨hM, hD1, hN, hHh, hSs, hDd, hPp, hpl⟩ := id hI
  obtain ⟨hlv, ⟨hC6, hR6, hP5, hH, hTf, hFn, hLx⟩, m18, m65, m69, m72, m76, m71, m89, m73, mL⟩ := id hM
  have hL := hg.1.1
  have hr := hL.2.1
  have hb := hg.1.2.1
  refine wx_in (M := mX11_tells) rfl rfl rfl (Nat.le_of_ble_eq_true rfl) ?_
  refine wx_aload_n rfl (e := 1) rfl rfl ?_
  refine wx_iload_n rfl (e := 2) rfl rfl ?_
  refine wx_cv1 (mc := 0) (ms := 0) rfl (e := 5) rfl rfl (Nat.le_of_ble_eq_true rfl) ⟨by decide, by decide⟩ ?_
  refine c_X11_isPilgrim hM (fun k1 hk1 ek1 => ?_) (fun no1 => ?_)
  · subst ek1
    have f_1 : inS (nI k1) (tP (gT s)) = true := in_y hk1 (by omega)
    have g_1 : kS (nI k1) = k1 := kS_n (by omega)
    refine wn_if_eq rfl (e := 8) rfl (by omega) (fun c_5 => absurd c_5 (by omega)) (fun c_5 => ?_)
    refine wx_aload_n rfl (e := 9) rfl rfl ?_
    refine wx_iload_n rfl (e := 10) rfl rfl ?_
    refine wx_cv1 (mc := 0) (ms := 0) rfl (e := 13) rfl rfl (Nat.le_of_ble_eq_true rfl) ⟨by decide, by decide⟩ ?_
    refine c_X11_isChurch hM (fun k2 hk2 ek2 => ?_) (fun no2 => ?_)
    · subst ek2
      have f_2 : inS (nI k2) (tC (gT s)) = true := in_y hk2 (by omega)
      have g_2 : kS (nI k2) = k2 := kS_n (by omega)
      refine wn_if_ne rfl (e := 16) rfl (by omega) (fun c_13 => ?_) (fun c_13 => absurd c_13 (by omega))
      refine wx_aload_n rfl (e := 21) rfl rfl ?_
      refine wx_cv0 (mc := 0) (ms := 0) rfl (e := 24) rfl rfl (Nat.le_of_ble_eq_true rfl) ⟨by decide, by decide⟩ ?_
      refine c_cp hM hN (fun I2 f2 T2 N2 R2 h54 => ?_)
      refine wx_iload_n rfl (e := 25) rfl rfl ?_
      refine wx_sw rfl (fun c_25 => ?_) (List.forall_mem_cons.mpr ⟨fun c_25 => ?_, (List.forall_mem_cons.mpr ⟨fun c_25 => ?_, (List.forall_mem_cons.mpr ⟨fun c_25 => ?_, (fun _ h => absurd h List.not_mem_nil)⟩)⟩)⟩)
      · refine wx_ldcw (v := (-100000)) rfl (e := 76) rfl (by decide) ?_
        refine wx_iret rfl rfl rfl ⟨by decide, by decide⟩ ?_
        simp only [aTells, f_1, g_1, f_2, g_2, Bool.and_true, Bool.true_and, Bool.false_and, Bool.and_false, Bool.false_eq_true, eq_self, if_true, if_false] at hq
        rw [if_neg (by omega), if_neg (by omega), if_neg (by omega)] at hq
        exact hq I2 f2
      · have c_25 : Int32.toInt _ = 0 := c_25
        show WP _ _ _ _ _ _ _ _ _
        refine wx_aload_n rfl (e := 53) rfl rfl ?_
        refine wx_iload_n rfl (e := 54) rfl rfl ?_
        refine wx_iload_n rfl (e := 55) rfl rfl ?_
        refine wx_cv2 (mc := 0) (ms := 0) rfl (e := 58) rfl rfl (Nat.le_of_ble_eq_true rfl) ⟨by decide, by decide⟩ ?_
        refine c_X11_drawsOf T2 R2 hr hk1 hk2 (fun I3 f3 => ?_)
        refine wx_iret rfl rfl rfl ⟨by decide, by decide⟩ ?_
        simp only [aTells, f_1, g_1, f_2, g_2, Bool.and_true, Bool.true_and, Bool.false_and, Bool.and_false, Bool.false_eq_true, eq_self, if_true, if_false] at hq
        rw [if_pos c_25] at hq
        exact hq I3 (f2.tr f3.q)
      · have c_25 : Int32.toInt _ = 1 := c_25
        show WP _ _ _ _ _ _ _ _ _
        refine wx_aload_n rfl (e := 60) rfl rfl ?_
        refine wx_iload_n rfl (e := 61) rfl rfl ?_
        refine wx_iload_n rfl (e := 62) rfl rfl ?_
        refine wx_cv2 (mc := 0) (ms := 0) rfl (e := 65) rfl rfl (Nat.le_of_ble_eq_true rfl) ⟨by decide, by decide⟩ ?_
        refine c_X11_givesOf T2 R2 hr hk1 hk2 (fun I3 f3 => ?_)
        refine wx_iret rfl rfl rfl ⟨by decide, by decide⟩ ?_
        simp only [aTells, f_1, g_1, f_2, g_2, Bool.and_true, Bool.true_and, Bool.false_and, Bool.and_false, Bool.false_eq_true, eq_self, if_true, if_false] at hq
        rw [if_neg (by omega), if_pos c_25] at hq
        exact hq I3 (f2.tr f3.q)
      · have c_25 : Int32.toInt _ = 2 := c_25
        show WP _ _ _ _ _ _ _ _ _
        refine wx_aload_n rfl (e := 67) rfl rfl ?_
        refine wx_iload_n rfl (e := 68) rfl rfl ?_
        refine wx_iload_n rfl (e := 69) rfl rfl ?_
        refine wx_cv2 (mc := 0) (ms := 0) rfl (e := 72) rfl rfl (Nat.le_of_ble_eq_true rfl) ⟨by decide, by decide⟩ ?_
        refine c_X11_farFor T2 hk1 hk2 ?_
        refine wx_iret rfl rfl rfl ⟨by decide, by decide⟩ ?_
        simp only [aTells, f_1, g_1, f_2, g_2, Bool.and_true, Bool.true_and, Bool.false_and, Bool.and_false, Bool.false_eq_true, eq_self, if_true, if_false] at hq
        rw [if_neg (by omega), if_neg (by omega), if_pos c_25] at hq
        exact hq I2 f2
    · have f_2 : inS c (tC (gT s)) = false := in_n no2
      refine wn_if_ne rfl (e := 16) rfl (by omega) (fun c_13 => absurd c_13 (by omega)) (fun c_13 => ?_)
      refine wx_ldcw (v := (-100000)) rfl (e := 19) rfl (by decide) ?_
      refine wx_iret rfl rfl rfl ⟨by decide, by decide⟩ ?_
      simp only [aTells, f_1, g_1, f_2, Bool.and_true, Bool.true_and, Bool.false_and, Bool.and_false, Bool.false_eq_true, eq_self, if_true, if_false] at hq
      exact hq I fmq.rf
  · have f_1 : inS a (tP (gT s)) = false := in_n no1
    refine wn_if_eq rfl (e := 8) rfl (by omega) (fun c_5 => ?_) (fun c_5 => absurd c_5 (by omega))
    refine wx_ldcw (v := (-100000)) rfl (e := 19) rfl (by decide) ?_
    refine wx_iret rfl rfl rfl ⟨by decide, by decide⟩ ?_
    simp only [aTells, f_1, Bool.and_true, Bool.true_and, Bool.false_and, Bool.and_false, Bool.false_eq_true, eq_self, if_true, if_false] at hq
    exact hq I fmq.rf
theorem c_X11_heals {d Lx t rt u : Nat} {I : Nat → Nat → Int32} {G : Nat → Nat → Int64} {Q : ab_Q} {s : gs} {n0 lv : Nat} (hI : MI lv I s) (hg : gok n0 s) {e a : Int32}  (hq : ∀ I2, fmq I I2 → Q (some (.int (aHeals s e a))) (hp Lx t rt u I2 G)) : ab_call ab_MT (d + 5) 250 [.ref 55, .int e, .int a] (hp Lx t rt u I G) 0 0 Q := by
  obtain ⟨hM, hD1, hN, hHh, hSs, hDd, hPp, hpl⟩ := id hI
  obtain ⟨hlv, ⟨hC6, hR6, hP5, hH, hTf, hFn, hLx⟩, m18, m65, m69, m72, m76, m71, m89, m73, mL⟩ := id hM
  have hL := hg.1.1
  have hr := hL.2.1
  have hb := hg.1.2.1
  refine wx_in (M := mX11_heals) rfl rfl rfl (Nat.le_of_ble_eq_true rfl) ?_
  refine wx_aload_n rfl (e := 1) rfl rfl ?_
  refine wx_iload_n rfl (e := 2) rfl rfl ?_
  refine wx_cv1 (mc := 0) (ms := 0) rfl (e := 5) rfl rfl (Nat.le_of_ble_eq_true rfl) ⟨by decide, by decide⟩ ?_
  refine c_X11_isRelic hM (fun k1 hk1 ek1 => ?_) (fun no1 => ?_)
  · subst ek1
    have f_1 : inS (nI k1) (tR (gT s)) = true := in_y hk1 (by omega)
    have g_1 : kS (nI k1) = k1 := kS_n (by omega)
    refine wn_if_eq rfl (e := 8) rfl (by omega) (fun c_5 => absurd c_5 (by omega)) (fun c_5 => ?_)
    refine wx_aload_n rfl (e := 9) rfl rfl ?_
    refine wx_iload_n rfl (e := 10) rfl rfl ?_
    refine wx_cv1 (mc := 0) (ms := 0) rfl (e := 13) rfl rfl (Nat.le_of_ble_eq_true rfl) ⟨by decide, by decide⟩ ?_
    refine c_X11_isPilgrim hM (fun k2 hk2 ek2 => ?_) (fun no2 => ?_)
    · subst ek2
      have f_2 : inS (nI k2) (tP (gT s)) = true := in_y hk2 (by omega)
      have g_2 : kS (nI k2) = k2 := kS_n (by omega)
      refine wn_if_ne rfl (e := 16) rfl (by omega) (fun c_13 => ?_) (fun c_13 => absurd c_13 (by omega))
      refine wx_aload_n rfl (e := 19) rfl rfl ?_
      refine wx_cv0 (mc := 0) (ms := 0) rfl (e := 22) rfl rfl (Nat.le_of_ble_eq_true rfl) ⟨by decide, by decide⟩ ?_
      refine c_cp hM hN (fun I2 f2 T2 N2 R2 h54 => ?_)
      obtain ⟨hce, hre⟩ := hL.ch hM.2.1 hk1
      refine wx_aload_n rfl (e := 23) rfl rfl ?_
      refine wx_iload_n rfl (e := 24) rfl rfl ?_
      refine wx_iload_n rfl (e := 25) rfl rfl ?_
      refine wx_cv2 (mc := 0) (ms := 0) rfl (e := 28) rfl rfl (Nat.le_of_ble_eq_true rfl) ⟨by decide, by decide⟩ ?_
      refine c_X11_healsOf T2 R2 hr hk1 hk2 hce hre (fun I3 f3 => ?_)
      refine wx_iret rfl rfl rfl ⟨by decide, by decide⟩ ?_
      simp only [aHeals, f_1, g_1, f_2, g_2, Bool.and_true, Bool.true_and, Bool.false_and, Bool.and_false, Bool.false_eq_true, eq_self, if_true, if_false] at hq
      exact hq I3 (f2.tr f3.q)
    · have f_2 : inS a (tP (gT s)) = false := in_n no2
      refine wn_if_ne rfl (e := 16) rfl (by omega) (fun c_13 => absurd c_13 (by omega)) (fun c_13 => ?_)
      refine wx_iconst (v := (-1)) rfl (e := 17) rfl (by decide) ?_
      refine wx_iret rfl rfl rfl ⟨by decide, by decide⟩ ?_
      simp only [aHeals, f_1, g_1, f_2, Bool.and_true, Bool.true_and, Bool.false_and, Bool.and_false, Bool.false_eq_true, eq_self, if_true, if_false] at hq
      exact hq I fmq.rf
  · have f_1 : inS e (tR (gT s)) = false := in_n no1
    refine wn_if_eq rfl (e := 8) rfl (by omega) (fun c_5 => ?_) (fun c_5 => absurd c_5 (by omega))
    refine wx_iconst (v := (-1)) rfl (e := 17) rfl (by decide) ?_
    refine wx_iret rfl rfl rfl ⟨by decide, by decide⟩ ?_
    simp only [aHeals, f_1, Bool.and_true, Bool.true_and, Bool.false_and, Bool.and_false, Bool.false_eq_true, eq_self, if_true, if_false] at hq
    exact hq I fmq.rf
theorem c_X11_goes {d Lx t rt u : Nat} {I : Nat → Nat → Int32} {G : Nat → Nat → Int64} {Q : ab_Q} {s : gs} {n0 lv : Nat} (hI : MI lv I s) (hg : gok n0 s) {a : Int32}  (hq : ∀ I2, fmq I I2 → Q (some (.int (aGoes s a))) (hp Lx t rt u I2 G)) : ab_call ab_MT (d + 5) 259 [.ref 55, .int a] (hp Lx t rt u I G) 0 0 Q := by
  obtain ⟨hM, hD1, hN, hHh, hSs, hDd, hPp, hpl⟩ := id hI
  obtain ⟨hlv, ⟨hC6, hR6, hP5, hH, hTf, hFn, hLx⟩, m18, m65, m69, m72, m76, m71, m89, m73, mL⟩ := id hM
  have hL := hg.1.1
  have hr := hL.2.1
  have hb := hg.1.2.1
  refine wx_in (M := mX11_goes) rfl rfl rfl (Nat.le_of_ble_eq_true rfl) ?_
  refine wx_aload_n rfl (e := 1) rfl rfl ?_
  refine wx_iload_n rfl (e := 2) rfl rfl ?_
  refine wx_cv1 (mc := 0) (ms := 0) rfl (e := 5) rfl rfl (Nat.le_of_ble_eq_true rfl) ⟨by decide, by decide⟩ ?_
  refine c_X11_isPilgrim hM (fun k1 hk1 ek1 => ?_) (fun no1 => ?_)
  · subst ek1
    have f_1 : inS (nI k1) (tP (gT s)) = true := in_y hk1 (by omega)
    have g_1 : kS (nI k1) = k1 := kS_n (by omega)
    refine wn_if_ne rfl (e := 8) rfl (by omega) (fun c_5 => ?_) (fun c_5 => absurd c_5 (by omega))
    refine wx_aload_n rfl (e := 11) rfl rfl ?_
    refine wx_cv0 (mc := 0) (ms := 0) rfl (e := 14) rfl rfl (Nat.le_of_ble_eq_true rfl) ⟨by decide, by decide⟩ ?_
    refine c_cp hM hN (fun I2 f2 T2 N2 R2 h54 => ?_)
    refine wx_aload_n rfl (e := 15) rfl rfl ?_
    refine wx_iload_n rfl (e := 16) rfl rfl ?_
    refine wx_cv1 (mc := 0) (ms := 0) rfl (e := 19) rfl rfl (Nat.le_of_ble_eq_true rfl) ⟨by decide, by decide⟩ ?_
    refine c_X11_goesNow T2 R2 hr hk1 (fun I3 f3 => ?_)
    refine wx_iret rfl rfl rfl ⟨by decide, by decide⟩ ?_
    simp only [aGoes, f_1, g_1, Bool.and_true, Bool.true_and, Bool.false_and, Bool.and_false, Bool.false_eq_true, eq_self, if_true, if_false] at hq
    exact hq I3 (f2.tr f3.q)
  · have f_1 : inS a (tP (gT s)) = false := in_n no1
    refine wn_if_ne rfl (e := 8) rfl (by omega) (fun c_5 => absurd c_5 (by omega)) (fun c_5 => ?_)
    refine wx_iconst (v := (-1)) rfl (e := 9) rfl (by decide) ?_
    refine wx_iret rfl rfl rfl ⟨by decide, by decide⟩ ?_
    simp only [aGoes, f_1, Bool.and_true, Bool.true_and, Bool.false_and, Bool.and_false, Bool.false_eq_true, eq_self, if_true, if_false] at hq
    exact hq I fmq.rf
theorem c_X11_theft {d Lx t rt u : Nat} {I : Nat → Nat → Int32} {G : Nat → Nat → Int64} {Q : ab_Q} {s : gs} {n0 lv : Nat} (hI : MI lv I s) (hg : gok n0 s) {e n : Int32}  (hq : ∀ I2, fmq I I2 → Q (some (.int (aTheft s e n))) (hp Lx t rt u I2 G)) : ab_call ab_MT (d + 5) 261 [.ref 55, .int e, .int n] (hp Lx t rt u I G) 0 0 Q := by
  obtain ⟨hM, hD1, hN, hHh, hSs, hDd, hPp, hpl⟩ := id hI
  obtain ⟨hlv, ⟨hC6, hR6, hP5, hH, hTf, hFn, hLx⟩, m18, m65, m69, m72, m76, m71, m89, m73, mL⟩ := id hM
  have hL := hg.1.1
  have hr := hL.2.1
  have hb := hg.1.2.1
  refine wx_in (M := mX11_theft) rfl rfl rfl (Nat.le_of_ble_eq_true rfl) ?_
  refine wx_aload_n rfl (e := 1) rfl rfl ?_
  refine wx_iload_n rfl (e := 2) rfl rfl ?_
  refine wx_cv1 (mc := 0) (ms := 0) rfl (e := 5) rfl rfl (Nat.le_of_ble_eq_true rfl) ⟨by decide, by decide⟩ ?_
  refine c_X11_isRelic hM (fun k1 hk1 ek1 => ?_) (fun no1 => ?_)
  · subst ek1
    have f_1 : inS (nI k1) (tR (gT s)) = true := in_y hk1 (by omega)
    have g_1 : kS (nI k1) = k1 := kS_n (by omega)
    refine wn_if_eq rfl (e := 8) rfl (by omega) (fun c_5 => absurd c_5 (by omega)) (fun c_5 => ?_)
    refine wx_iload_n rfl (e := 9) rfl rfl ?_
    refine wx_cs1 (mc := 0) (ms := 0) rfl (e := 12) rfl (Nat.le_of_ble_eq_true rfl) ⟨by decide, by decide⟩ ?_
    refine c_X11_isNights (fun k2 a2 b2 ek2 => ?_) (fun no2 => ?_)
    · subst ek2
      have f_2 : wiS (nI k2) (1) (9) = true := wi_y a2 b2 (by omega)
      have g_2 : kS (nI k2) = k2 := kS_n (by omega)
      refine wn_if_ne rfl (e := 15) rfl (by omega) (fun c_12 => ?_) (fun c_12 => absurd c_12 (by omega))
      refine wx_aload_n rfl (e := 18) rfl rfl ?_
      refine wx_cv0 (mc := 0) (ms := 0) rfl (e := 21) rfl rfl (Nat.le_of_ble_eq_true rfl) ⟨by decide, by decide⟩ ?_
      refine c_cp hM hN (fun I2 f2 T2 N2 R2 h54 => ?_)
      refine wx_aload_n rfl (e := 22) rfl rfl ?_
      refine wx_iload_n rfl (e := 23) rfl rfl ?_
      refine wx_iload_n rfl (e := 24) rfl rfl ?_
      refine wx_cv2 (mc := 0) (ms := 0) rfl (e := 27) rfl rfl (Nat.le_of_ble_eq_true rfl) ⟨by decide, by decide⟩ ?_
      refine c_X11_theftNow T2 R2 hL hk1 (fun I3 f3 => ?_)
      refine wx_iret rfl rfl rfl ⟨by decide, by decide⟩ ?_
      simp only [aTheft, f_1, g_1, f_2, g_2, Bool.and_true, Bool.true_and, Bool.false_and, Bool.and_false, Bool.false_eq_true, eq_self, if_true, if_false] at hq
      exact hq I3 (f2.tr f3.q)
    · have f_2 : wiS n (1) (9) = false := wi_n no2
      refine wn_if_ne rfl (e := 15) rfl (by omega) (fun c_12 => absurd c_12 (by omega)) (fun c_12 => ?_)
      refine wx_iconst (v := (-1)) rfl (e := 16) rfl (by decide) ?_
      refine wx_iret rfl rfl rfl ⟨by decide, by decide⟩ ?_
      simp only [aTheft, f_1, g_1, f_2, Bool.and_true, Bool.true_and, Bool.false_and, Bool.and_false, Bool.false_eq_true, eq_self, if_true, if_false] at hq
      exact hq I fmq.rf
  · have f_1 : inS e (tR (gT s)) = false := in_n no1
    refine wn_if_eq rfl (e := 8) rfl (by omega) (fun c_5 => ?_) (fun c_5 => absurd c_5 (by omega))
    refine wx_iconst (v := (-1)) rfl (e := 16) rfl (by decide) ?_
    refine wx_iret rfl rfl rfl ⟨by decide, by decide⟩ ?_
    simp only [aTheft, f_1, Bool.and_true, Bool.true_and, Bool.false_and, Bool.and_false, Bool.false_eq_true, eq_self, if_true, if_false] at hq
    exact hq I fmq.rf
theorem c_X11_nights {d Lx t rt u : Nat} {I : Nat → Nat → Int32} {G : Nat → Nat → Int64} {Q : ab_Q} {s : gs} {n0 lv : Nat} (hI : MI lv I s) (hg : gok n0 s) {e : Int32}  (hq : ∀ I2, fmq I I2 → Q (some (.int (aNights s e))) (hp Lx t rt u I2 G)) : ab_call ab_MT (d + 6) 263 [.ref 55, .int e] (hp Lx t rt u I G) 0 0 Q := by
  obtain ⟨hM, hD1, hN, hHh, hSs, hDd, hPp, hpl⟩ := id hI
  obtain ⟨hlv, ⟨hC6, hR6, hP5, hH, hTf, hFn, hLx⟩, m18, m65, m69, m72, m76, m71, m89, m73, mL⟩ := id hM
  have hL := hg.1.1
  have hr := hL.2.1
  have hb := hg.1.2.1
  refine wx_in (M := mX11_nights) rfl rfl rfl (Nat.le_of_ble_eq_true rfl) ?_
  refine wx_aload_n rfl (e := 1) rfl rfl ?_
  refine wx_iload_n rfl (e := 2) rfl rfl ?_
  refine wx_cv1 (mc := 0) (ms := 0) rfl (e := 5) rfl rfl (Nat.le_of_ble_eq_true rfl) ⟨by decide, by decide⟩ ?_
  refine c_X11_isRelic hM (fun k1 hk1 ek1 => ?_) (fun no1 => ?_)
  · subst ek1
    have f_1 : inS (nI k1) (tR (gT s)) = true := in_y hk1 (by omega)
    have g_1 : kS (nI k1) = k1 := kS_n (by omega)
    refine wn_if_ne rfl (e := 8) rfl (by omega) (fun c_5 => ?_) (fun c_5 => absurd c_5 (by omega))
    refine wx_aload_n rfl (e := 11) rfl rfl ?_
    refine wx_cv0 (mc := 0) (ms := 0) rfl (e := 14) rfl rfl (Nat.le_of_ble_eq_true rfl) ⟨by decide, by decide⟩ ?_
    refine c_cp hM hN (fun I2 f2 T2 N2 R2 h54 => ?_)
    refine wx_aload_n rfl (e := 15) rfl rfl ?_
    refine wx_iload_n rfl (e := 16) rfl rfl ?_
    refine wx_cv1 (mc := 0) (ms := 0) rfl (e := 19) rfl rfl (Nat.le_of_ble_eq_true rfl) ⟨by decide, by decide⟩ ?_
    refine c_X11_nightsNow T2 R2 hL hk1 (fun I3 f3 => ?_)
    refine wx_iret rfl rfl rfl ⟨by decide, by decide⟩ ?_
    simp only [aNights, f_1, g_1, Bool.and_true, Bool.true_and, Bool.false_and, Bool.and_false, Bool.false_eq_true, eq_self, if_true, if_false] at hq
    exact hq I3 (f2.tr f3.q)
  · have f_1 : inS e (tR (gT s)) = false := in_n no1
    refine wn_if_ne rfl (e := 8) rfl (by omega) (fun c_5 => absurd c_5 (by omega)) (fun c_5 => ?_)
    refine wx_iconst (v := (-1)) rfl (e := 9) rfl (by decide) ?_
    refine wx_iret rfl rfl rfl ⟨by decide, by decide⟩ ?_
    simp only [aNights, f_1, Bool.and_true, Bool.true_and, Bool.false_and, Bool.and_false, Bool.false_eq_true, eq_self, if_true, if_false] at hq
    exact hq I fmq.rf
theorem c_X11_guard {d Lx t rt u : Nat} {I : Nat → Nat → Int32} {G : Nat → Nat → Int64} {Q : ab_Q} {s : gs} {n0 lv : Nat} (hI : MI lv I s) (hg : gok n0 s) {c p n : Int32}  (hq : ∀ I2, fmq I I2 → Q (some (.int (aGuard s c p n))) (hp Lx t rt u I2 G)) : ab_call ab_MT (d + 5) 266 [.ref 55, .int c, .int p, .int n] (hp Lx t rt u I G) 0 0 Q := by
  obtain ⟨hM, hD1, hN, hHh, hSs, hDd, hPp, hpl⟩ := id hI
  obtain ⟨hlv, ⟨hC6, hR6, hP5, hH, hTf, hFn, hLx⟩, m18, m65, m69, m72, m76, m71, m89, m73, mL⟩ := id hM
  have hL := hg.1.1
  have hr := hL.2.1
  have hb := hg.1.2.1
  refine wx_in (M := mX11_guard) rfl rfl rfl (Nat.le_of_ble_eq_true rfl) ?_
  refine wx_aload_n rfl (e := 1) rfl rfl ?_
  refine wx_iload_n rfl (e := 2) rfl rfl ?_
  refine wx_cv1 (mc := 0) (ms := 0) rfl (e := 5) rfl rfl (Nat.le_of_ble_eq_true rfl) ⟨by decide, by decide⟩ ?_
  refine c_X11_isChurch hM (fun k1 hk1 ek1 => ?_) (fun no1 => ?_)
  · subst ek1
    have f_1 : inS (nI k1) (tC (gT s)) = true := in_y hk1 (by omega)
    have g_1 : kS (nI k1) = k1 := kS_n (by omega)
    refine wn_if_eq rfl (e := 8) rfl (by omega) (fun c_5 => absurd c_5 (by omega)) (fun c_5 => ?_)
    refine wx_iload_n rfl (e := 9) rfl rfl ?_
    refine wx_cs1 (mc := 0) (ms := 0) rfl (e := 12) rfl (Nat.le_of_ble_eq_true rfl) ⟨by decide, by decide⟩ ?_
    refine c_X11_isOdds (fun k2 a2 b2 ek2 => ?_) (fun no2 => ?_)
    · subst ek2
      have f_2 : wiS (nI k2) (1) (100) = true := wi_y a2 b2 (by omega)
      have g_2 : kS (nI k2) = k2 := kS_n (by omega)
      refine wn_if_eq rfl (e := 15) rfl (by omega) (fun c_12 => absurd c_12 (by omega)) (fun c_12 => ?_)
      refine wx_iload_n rfl (e := 16) rfl rfl ?_
      refine wx_cs1 (mc := 0) (ms := 0) rfl (e := 19) rfl (Nat.le_of_ble_eq_true rfl) ⟨by decide, by decide⟩ ?_
      refine c_X11_isNights (fun k3 a3 b3 ek3 => ?_) (fun no3 => ?_)
      · subst ek3
        have f_3 : wiS (nI k3) (1) (9) = true := wi_y a3 b3 (by omega)
        have g_3 : kS (nI k3) = k3 := kS_n (by omega)
        refine wn_if_ne rfl (e := 22) rfl (by omega) (fun c_19 => ?_) (fun c_19 => absurd c_19 (by omega))
        refine wx_aload_n rfl (e := 25) rfl rfl ?_
        refine wx_cv0 (mc := 0) (ms := 0) rfl (e := 28) rfl rfl (Nat.le_of_ble_eq_true rfl) ⟨by decide, by decide⟩ ?_
        refine c_cp hM hN (fun I2 f2 T2 N2 R2 h54 => ?_)
        refine wx_aload_n rfl (e := 29) rfl rfl ?_
        refine wx_iload_n rfl (e := 30) rfl rfl ?_
        refine wx_iload_n rfl (e := 31) rfl rfl ?_
        refine wx_iload_n rfl (e := 32) rfl rfl ?_
        refine wx_cv3 (mc := 0) (ms := 0) rfl (e := 35) rfl rfl (Nat.le_of_ble_eq_true rfl) ⟨by decide, by decide⟩ ?_
        refine c_X11_guardOf T2 R2 hr hk1 (fun I3 f3 => ?_)
        refine wx_iret rfl rfl rfl ⟨by decide, by decide⟩ ?_
        simp only [aGuard, f_1, g_1, f_2, g_2, f_3, g_3, Bool.and_true, Bool.true_and, Bool.false_and, Bool.and_false, Bool.false_eq_true, eq_self, if_true, if_false] at hq
        exact hq I3 (f2.tr f3.q)
      · have f_3 : wiS n (1) (9) = false := wi_n no3
        refine wn_if_ne rfl (e := 22) rfl (by omega) (fun c_19 => absurd c_19 (by omega)) (fun c_19 => ?_)
        refine wx_iconst (v := (-1)) rfl (e := 23) rfl (by decide) ?_
        refine wx_iret rfl rfl rfl ⟨by decide, by decide⟩ ?_
        simp only [aGuard, f_1, g_1, f_2, g_2, f_3, Bool.and_true, Bool.true_and, Bool.false_and, Bool.and_false, Bool.false_eq_true, eq_self, if_true, if_false] at hq
        exact hq I fmq.rf
    · have f_2 : wiS p (1) (100) = false := wi_n no2
      refine wn_if_eq rfl (e := 15) rfl (by omega) (fun c_12 => ?_) (fun c_12 => absurd c_12 (by omega))
      refine wx_iconst (v := (-1)) rfl (e := 23) rfl (by decide) ?_
      refine wx_iret rfl rfl rfl ⟨by decide, by decide⟩ ?_
      simp only [aGuard, f_1, g_1, f_2, Bool.and_true, Bool.true_and, Bool.false_and, Bool.and_false, Bool.false_eq_true, eq_self, if_true, if_false] at hq
      exact hq I fmq.rf
  · have f_1 : inS c (tC (gT s)) = false := in_n no1
    refine wn_if_eq rfl (e := 8) rfl (by omega) (fun c_5 => ?_) (fun c_5 => absurd c_5 (by omega))
    refine wx_iconst (v := (-1)) rfl (e := 23) rfl (by decide) ?_
    refine wx_iret rfl rfl rfl ⟨by decide, by decide⟩ ?_
    simp only [aGuard, f_1, Bool.and_true, Bool.true_and, Bool.false_and, Bool.and_false, Bool.false_eq_true, eq_self, if_true, if_false] at hq
    exact hq I fmq.rf
theorem c_X11_took {d Lx t rt u : Nat} {I : Nat → Nat → Int32} {G : Nat → Nat → Int64} {Q : ab_Q} {s : gs} {n0 lv : Nat} (hI : MI lv I s) (hg : gok n0 s) {v n : Int32}  (hq : ∀ I2, fmq I I2 → Q (some (.int (aTook s v n))) (hp Lx t rt u I2 G)) : ab_call ab_MT (d + 8) 275 [.ref 55, .int v, .int n] (hp Lx t rt u I G) 0 0 Q := by
  obtain ⟨hM, hD1, hN, hHh, hSs, hDd, hPp, hpl⟩ := id hI
  obtain ⟨hlv, ⟨hC6, hR6, hP5, hH, hTf, hFn, hLx⟩, m18, m65, m69, m72, m76, m71, m89, m73, mL⟩ := id hM
  have hL := hg.1.1
  have hr := hL.2.1
  have hb := hg.1.2.1
  refine wx_in (M := mX11_took) rfl rfl rfl (Nat.le_of_ble_eq_true rfl) ?_
  refine wx_aload_n rfl (e := 1) rfl rfl ?_
  refine wx_iload_n rfl (e := 2) rfl rfl ?_
  refine wx_cv1 (mc := 0) (ms := 0) rfl (e := 5) rfl rfl (Nat.le_of_ble_eq_true rfl) ⟨by decide, by decide⟩ ?_
  refine c_X11_isChurch hM (fun k1 hk1 ek1 => ?_) (fun no1 => ?_)
  · subst ek1
    have f_1 : inS (nI k1) (tC (gT s)) = true := in_y hk1 (by omega)
    have g_1 : kS (nI k1) = k1 := kS_n (by omega)
    refine wn_if_eq rfl (e := 8) rfl (by omega) (fun c_5 => absurd c_5 (by omega)) (fun c_5 => ?_)
    refine wx_iload_n rfl (e := 9) rfl rfl ?_
    refine wx_cs1 (mc := 0) (ms := 0) rfl (e := 12) rfl (Nat.le_of_ble_eq_true rfl) ⟨by decide, by decide⟩ ?_
    refine c_X11_isLong (fun k2 a2 b2 ek2 => ?_) (fun no2 => ?_)
    · subst ek2
      have f_2 : wiS (nI k2) (0) (60) = true := wi_y a2 b2 (by omega)
      have g_2 : kS (nI k2) = k2 := kS_n (by omega)
      refine wn_if_ne rfl (e := 15) rfl (by omega) (fun c_12 => ?_) (fun c_12 => absurd c_12 (by omega))
      refine wx_aload_n rfl (e := 18) rfl rfl ?_
      refine wx_cv0 (mc := 0) (ms := 0) rfl (e := 21) rfl rfl (Nat.le_of_ble_eq_true rfl) ⟨by decide, by decide⟩ ?_
      refine c_cp hM hN (fun I2 f2 T2 N2 R2 h54 => ?_)
      refine wx_aload_n rfl (e := 22) rfl rfl ?_
      refine wx_iload_n rfl (e := 23) rfl rfl ?_
      refine wx_cv1 (mc := 0) (ms := 0) rfl (e := 26) rfl rfl (Nat.le_of_ble_eq_true rfl) ⟨by decide, by decide⟩ ?_
      refine c_X11_yearsGo T2 R2 hr (n := k2) (by omega) (fun I3 y3 R3 => ?_)
      rw [h54] at R3
      have R3 : MR I3 (yaS (gT s) (gR s) k2) := R3
      have f3 := f2.tr y3.q
      have T3 := f3.T hM
      have N3 := f3.N hN
      refine wx_aload_n rfl (e := 27) rfl rfl ?_
      refine wx_getr rfl (e := 30) rfl rfl rfl ?_
      refine wx_bipush (v := (nI 18)) rfl (e := 32) rfl (by decide) ?_
      refine wx_iload_n rfl (e := 33) rfl rfl ?_
      refine wn_iadd rfl (e := 34) rfl ?_
      refine wn_iald rfl (e := 35) rfl rfl (by omega) (by decide) ?_
      rw [R3 _ (by omega)]
      refine wx_aload_n rfl (e := 36) rfl rfl ?_
      refine wx_getr rfl (e := 39) rfl rfl rfl ?_
      refine wx_bipush (v := (nI 18)) rfl (e := 41) rfl (by decide) ?_
      refine wx_iload_n rfl (e := 42) rfl rfl ?_
      refine wn_iadd rfl (e := 43) rfl ?_
      refine wn_iald rfl (e := 44) rfl rfl (by omega) (by decide) ?_
      rw [N3 _ (by omega)]
      refine wx_isub rfl (e := 45) rfl ?_
      refine wx_iret rfl rfl rfl ⟨by decide, by decide⟩ ?_
      simp only [aTook, f_1, g_1, f_2, g_2, Bool.and_true, Bool.true_and, Bool.false_and, Bool.and_false, Bool.false_eq_true, eq_self, if_true, if_false] at hq
      exact hq I3 f3
    · have f_2 : wiS n (0) (60) = false := wi_n no2
      refine wn_if_ne rfl (e := 15) rfl (by omega) (fun c_12 => absurd c_12 (by omega)) (fun c_12 => ?_)
      refine wx_iconst (v := (-1)) rfl (e := 16) rfl (by decide) ?_
      refine wx_iret rfl rfl rfl ⟨by decide, by decide⟩ ?_
      simp only [aTook, f_1, g_1, f_2, Bool.and_true, Bool.true_and, Bool.false_and, Bool.and_false, Bool.false_eq_true, eq_self, if_true, if_false] at hq
      exact hq I fmq.rf
  · have f_1 : inS v (tC (gT s)) = false := in_n no1
    refine wn_if_eq rfl (e := 8) rfl (by omega) (fun c_5 => ?_) (fun c_5 => absurd c_5 (by omega))
    refine wx_iconst (v := (-1)) rfl (e := 16) rfl (by decide) ?_
    refine wx_iret rfl rfl rfl ⟨by decide, by decide⟩ ?_
    simp only [aTook, f_1, Bool.and_true, Bool.true_and, Bool.false_and, Bool.and_false, Bool.false_eq_true, eq_self, if_true, if_false] at hq
    exact hq I fmq.rf
theorem c_X11_wonders {d Lx t rt u : Nat} {I : Nat → Nat → Int32} {G : Nat → Nat → Int64} {Q : ab_Q} {s : gs} {n0 lv : Nat} (hI : MI lv I s) (hg : gok n0 s) {v n : Int32}  (hq : ∀ I2, fmq I I2 → Q (some (.int (aWonders s v n))) (hp Lx t rt u I2 G)) : ab_call ab_MT (d + 8) 276 [.ref 55, .int v, .int n] (hp Lx t rt u I G) 0 0 Q := by
  obtain ⟨hM, hD1, hN, hHh, hSs, hDd, hPp, hpl⟩ := id hI
  obtain ⟨hlv, ⟨hC6, hR6, hP5, hH, hTf, hFn, hLx⟩, m18, m65, m69, m72, m76, m71, m89, m73, mL⟩ := id hM
  have hL := hg.1.1
  have hr := hL.2.1
  have hb := hg.1.2.1
  refine wx_in (M := mX11_wonders) rfl rfl rfl (Nat.le_of_ble_eq_true rfl) ?_
  refine wx_aload_n rfl (e := 1) rfl rfl ?_
  refine wx_iload_n rfl (e := 2) rfl rfl ?_
  refine wx_cv1 (mc := 0) (ms := 0) rfl (e := 5) rfl rfl (Nat.le_of_ble_eq_true rfl) ⟨by decide, by decide⟩ ?_
  refine c_X11_isRelic hM (fun k1 hk1 ek1 => ?_) (fun no1 => ?_)
  · subst ek1
    have f_1 : inS (nI k1) (tR (gT s)) = true := in_y hk1 (by omega)
    have g_1 : kS (nI k1) = k1 := kS_n (by omega)
    refine wn_if_eq rfl (e := 8) rfl (by omega) (fun c_5 => absurd c_5 (by omega)) (fun c_5 => ?_)
    refine wx_iload_n rfl (e := 9) rfl rfl ?_
    refine wx_cs1 (mc := 0) (ms := 0) rfl (e := 12) rfl (Nat.le_of_ble_eq_true rfl) ⟨by decide, by decide⟩ ?_
    refine c_X11_isLong (fun k2 a2 b2 ek2 => ?_) (fun no2 => ?_)
    · subst ek2
      have f_2 : wiS (nI k2) (0) (60) = true := wi_y a2 b2 (by omega)
      have g_2 : kS (nI k2) = k2 := kS_n (by omega)
      refine wn_if_ne rfl (e := 15) rfl (by omega) (fun c_12 => ?_) (fun c_12 => absurd c_12 (by omega))
      refine wx_aload_n rfl (e := 18) rfl rfl ?_
      refine wx_cv0 (mc := 0) (ms := 0) rfl (e := 21) rfl rfl (Nat.le_of_ble_eq_true rfl) ⟨by decide, by decide⟩ ?_
      refine c_cp hM hN (fun I2 f2 T2 N2 R2 h54 => ?_)
      refine wx_aload_n rfl (e := 22) rfl rfl ?_
      refine wx_iload_n rfl (e := 23) rfl rfl ?_
      refine wx_cv1 (mc := 0) (ms := 0) rfl (e := 26) rfl rfl (Nat.le_of_ble_eq_true rfl) ⟨by decide, by decide⟩ ?_
      refine c_X11_yearsGo T2 R2 hr (n := k2) (by omega) (fun I3 y3 R3 => ?_)
      rw [h54] at R3
      have R3 : MR I3 (yaS (gT s) (gR s) k2) := R3
      have f3 := f2.tr y3.q
      have T3 := f3.T hM
      have N3 := f3.N hN
      refine wx_aload_n rfl (e := 27) rfl rfl ?_
      refine wx_getr rfl (e := 30) rfl rfl rfl ?_
      refine wx_bipush (v := (nI 24)) rfl (e := 32) rfl (by decide) ?_
      refine wx_iload_n rfl (e := 33) rfl rfl ?_
      refine wn_iadd rfl (e := 34) rfl ?_
      refine wn_iald rfl (e := 35) rfl rfl (by omega) (by decide) ?_
      rw [R3 _ (by omega)]
      refine wx_aload_n rfl (e := 36) rfl rfl ?_
      refine wx_getr rfl (e := 39) rfl rfl rfl ?_
      refine wx_bipush (v := (nI 24)) rfl (e := 41) rfl (by decide) ?_
      refine wx_iload_n rfl (e := 42) rfl rfl ?_
      refine wn_iadd rfl (e := 43) rfl ?_
      refine wn_iald rfl (e := 44) rfl rfl (by omega) (by decide) ?_
      rw [N3 _ (by omega)]
      refine wx_isub rfl (e := 45) rfl ?_
      refine wx_iret rfl rfl rfl ⟨by decide, by decide⟩ ?_
      simp only [aWonders, f_1, g_1, f_2, g_2, Bool.and_true, Bool.true_and, Bool.false_and, Bool.and_false, Bool.false_eq_true, eq_self, if_true, if_false] at hq
      exact hq I3 f3
    · have f_2 : wiS n (0) (60) = false := wi_n no2
      refine wn_if_ne rfl (e := 15) rfl (by omega) (fun c_12 => absurd c_12 (by omega)) (fun c_12 => ?_)
      refine wx_iconst (v := (-1)) rfl (e := 16) rfl (by decide) ?_
      refine wx_iret rfl rfl rfl ⟨by decide, by decide⟩ ?_
      simp only [aWonders, f_1, g_1, f_2, Bool.and_true, Bool.true_and, Bool.false_and, Bool.and_false, Bool.false_eq_true, eq_self, if_true, if_false] at hq
      exact hq I fmq.rf
  · have f_1 : inS v (tR (gT s)) = false := in_n no1
    refine wn_if_eq rfl (e := 8) rfl (by omega) (fun c_5 => ?_) (fun c_5 => absurd c_5 (by omega))
    refine wx_iconst (v := (-1)) rfl (e := 16) rfl (by decide) ?_
    refine wx_iret rfl rfl rfl ⟨by decide, by decide⟩ ?_
    simp only [aWonders, f_1, Bool.and_true, Bool.true_and, Bool.false_and, Bool.and_false, Bool.false_eq_true, eq_self, if_true, if_false] at hq
    exact hq I fmq.rf
theorem c_X11_healed {d Lx t rt u : Nat} {I : Nat → Nat → Int32} {G : Nat → Nat → Int64} {Q : ab_Q} {s : gs} {n0 lv : Nat} (hI : MI lv I s) (hg : gok n0 s) {v n : Int32}  (hq : ∀ I2, fmq I I2 → Q (some (.int (aHealed s v n))) (hp Lx t rt u I2 G)) : ab_call ab_MT (d + 8) 281 [.ref 55, .int v, .int n] (hp Lx t rt u I G) 0 0 Q := by
  obtain ⟨hM, hD1, hN, hHh, hSs, hDd, hPp, hpl⟩ := id hI
  obtain ⟨hlv, ⟨hC6, hR6, hP5, hH, hTf, hFn, hLx⟩, m18, m65, m69, m72, m76, m71, m89, m73, mL⟩ := id hM
  have hL := hg.1.1
  have hr := hL.2.1
  have hb := hg.1.2.1
  refine wx_in (M := mX11_healed) rfl rfl rfl (Nat.le_of_ble_eq_true rfl) ?_
  refine wx_aload_n rfl (e := 1) rfl rfl ?_
  refine wx_iload_n rfl (e := 2) rfl rfl ?_
  refine wx_cv1 (mc := 0) (ms := 0) rfl (e := 5) rfl rfl (Nat.le_of_ble_eq_true rfl) ⟨by decide, by decide⟩ ?_
  refine c_X11_isPilgrim hM (fun k1 hk1 ek1 => ?_) (fun no1 => ?_)
  · subst ek1
    have f_1 : inS (nI k1) (tP (gT s)) = true := in_y hk1 (by omega)
    have g_1 : kS (nI k1) = k1 := kS_n (by omega)
    refine wn_if_eq rfl (e := 8) rfl (by omega) (fun c_5 => absurd c_5 (by omega)) (fun c_5 => ?_)
    refine wx_iload_n rfl (e := 9) rfl rfl ?_
    refine wx_cs1 (mc := 0) (ms := 0) rfl (e := 12) rfl (Nat.le_of_ble_eq_true rfl) ⟨by decide, by decide⟩ ?_
    refine c_X11_isLong (fun k2 a2 b2 ek2 => ?_) (fun no2 => ?_)
    · subst ek2
      have f_2 : wiS (nI k2) (0) (60) = true := wi_y a2 b2 (by omega)
      have g_2 : kS (nI k2) = k2 := kS_n (by omega)
      refine wn_if_ne rfl (e := 15) rfl (by omega) (fun c_12 => ?_) (fun c_12 => absurd c_12 (by omega))
      refine wx_aload_n rfl (e := 18) rfl rfl ?_
      refine wx_cv0 (mc := 0) (ms := 0) rfl (e := 21) rfl rfl (Nat.le_of_ble_eq_true rfl) ⟨by decide, by decide⟩ ?_
      refine c_cp hM hN (fun I2 f2 T2 N2 R2 h54 => ?_)
      refine wx_aload_n rfl (e := 22) rfl rfl ?_
      refine wx_iload_n rfl (e := 23) rfl rfl ?_
      refine wx_cv1 (mc := 0) (ms := 0) rfl (e := 26) rfl rfl (Nat.le_of_ble_eq_true rfl) ⟨by decide, by decide⟩ ?_
      refine c_X11_yearsGo T2 R2 hr (n := k2) (by omega) (fun I3 y3 R3 => ?_)
      rw [h54] at R3
      have R3 : MR I3 (yaS (gT s) (gR s) k2) := R3
      have f3 := f2.tr y3.q
      have T3 := f3.T hM
      have N3 := f3.N hN
      refine wx_aload_n rfl (e := 27) rfl rfl ?_
      refine wx_getr rfl (e := 30) rfl rfl rfl ?_
      refine wx_bipush (v := (nI 41)) rfl (e := 32) rfl (by decide) ?_
      refine wx_iload_n rfl (e := 33) rfl rfl ?_
      refine wn_iadd rfl (e := 34) rfl ?_
      refine wn_iald rfl (e := 35) rfl rfl (by omega) (by decide) ?_
      rw [R3 _ (by omega)]
      refine wx_aload_n rfl (e := 36) rfl rfl ?_
      refine wx_getr rfl (e := 39) rfl rfl rfl ?_
      refine wx_bipush (v := (nI 41)) rfl (e := 41) rfl (by decide) ?_
      refine wx_iload_n rfl (e := 42) rfl rfl ?_
      refine wn_iadd rfl (e := 43) rfl ?_
      refine wn_iald rfl (e := 44) rfl rfl (by omega) (by decide) ?_
      rw [N3 _ (by omega)]
      refine wx_isub rfl (e := 45) rfl ?_
      refine wx_iret rfl rfl rfl ⟨by decide, by decide⟩ ?_
      simp only [aHealed, f_1, g_1, f_2, g_2, Bool.and_true, Bool.true_and, Bool.false_and, Bool.and_false, Bool.false_eq_true, eq_self, if_true, if_false] at hq
      exact hq I3 f3
    · have f_2 : wiS n (0) (60) = false := wi_n no2
      refine wn_if_ne rfl (e := 15) rfl (by omega) (fun c_12 => absurd c_12 (by omega)) (fun c_12 => ?_)
      refine wx_iconst (v := (-1)) rfl (e := 16) rfl (by decide) ?_
      refine wx_iret rfl rfl rfl ⟨by decide, by decide⟩ ?_
      simp only [aHealed, f_1, g_1, f_2, Bool.and_true, Bool.true_and, Bool.false_and, Bool.and_false, Bool.false_eq_true, eq_self, if_true, if_false] at hq
      exact hq I fmq.rf
  · have f_1 : inS v (tP (gT s)) = false := in_n no1
    refine wn_if_eq rfl (e := 8) rfl (by omega) (fun c_5 => ?_) (fun c_5 => absurd c_5 (by omega))
    refine wx_iconst (v := (-1)) rfl (e := 16) rfl (by decide) ?_
    refine wx_iret rfl rfl rfl ⟨by decide, by decide⟩ ?_
    simp only [aHealed, f_1, Bool.and_true, Bool.true_and, Bool.false_and, Bool.and_false, Bool.false_eq_true, eq_self, if_true, if_false] at hq
    exact hq I fmq.rf
theorem c_X11_goesIn {d Lx t rt u : Nat} {I : Nat → Nat → Int32} {G : Nat → Nat → Int64} {Q : ab_Q} {s : gs} {n0 lv : Nat} (hI : MI lv I s) (hg : gok n0 s) {a n : Int32}  (hq : ∀ I2, fmq I I2 → Q (some (.int (aGoesIn s a n))) (hp Lx t rt u I2 G)) : ab_call ab_MT (d + 8) 277 [.ref 55, .int a, .int n] (hp Lx t rt u I G) 0 0 Q := by
  obtain ⟨hM, hD1, hN, hHh, hSs, hDd, hPp, hpl⟩ := id hI
  obtain ⟨hlv, ⟨hC6, hR6, hP5, hH, hTf, hFn, hLx⟩, m18, m65, m69, m72, m76, m71, m89, m73, mL⟩ := id hM
  have hL := hg.1.1
  have hr := hL.2.1
  have hb := hg.1.2.1
  refine wx_in (M := mX11_goesIn) rfl rfl rfl (Nat.le_of_ble_eq_true rfl) ?_
  refine wx_aload_n rfl (e := 1) rfl rfl ?_
  refine wx_iload_n rfl (e := 2) rfl rfl ?_
  refine wx_cv1 (mc := 0) (ms := 0) rfl (e := 5) rfl rfl (Nat.le_of_ble_eq_true rfl) ⟨by decide, by decide⟩ ?_
  refine c_X11_isPilgrim hM (fun k1 hk1 ek1 => ?_) (fun no1 => ?_)
  · subst ek1
    have f_1 : inS (nI k1) (tP (gT s)) = true := in_y hk1 (by omega)
    have g_1 : kS (nI k1) = k1 := kS_n (by omega)
    refine wn_if_eq rfl (e := 8) rfl (by omega) (fun c_5 => absurd c_5 (by omega)) (fun c_5 => ?_)
    refine wx_iload_n rfl (e := 9) rfl rfl ?_
    refine wx_cs1 (mc := 0) (ms := 0) rfl (e := 12) rfl (Nat.le_of_ble_eq_true rfl) ⟨by decide, by decide⟩ ?_
    refine c_X11_isLong (fun k2 a2 b2 ek2 => ?_) (fun no2 => ?_)
    · subst ek2
      have f_2 : wiS (nI k2) (0) (60) = true := wi_y a2 b2 (by omega)
      have g_2 : kS (nI k2) = k2 := kS_n (by omega)
      refine wn_if_ne rfl (e := 15) rfl (by omega) (fun c_12 => ?_) (fun c_12 => absurd c_12 (by omega))
      refine wx_aload_n rfl (e := 18) rfl rfl ?_
      refine wx_cv0 (mc := 0) (ms := 0) rfl (e := 21) rfl rfl (Nat.le_of_ble_eq_true rfl) ⟨by decide, by decide⟩ ?_
      refine c_cp hM hN (fun I2 f2 T2 N2 R2 h54 => ?_)
      refine wx_aload_n rfl (e := 22) rfl rfl ?_
      refine wx_iload_n rfl (e := 23) rfl rfl ?_
      refine wx_cv1 (mc := 0) (ms := 0) rfl (e := 26) rfl rfl (Nat.le_of_ble_eq_true rfl) ⟨by decide, by decide⟩ ?_
      refine c_X11_yearsGo T2 R2 hr (n := k2) (by omega) (fun I3 y3 R3 => ?_)
      rw [h54] at R3
      have R3 : MR I3 (yaS (gT s) (gR s) k2) := R3
      have f3 := f2.tr y3.q
      have T3 := f3.T hM
      have N3 := f3.N hN
      refine wx_aload_n rfl (e := 27) rfl rfl ?_
      refine wx_iload_n rfl (e := 28) rfl rfl ?_
      refine wx_cv1 (mc := 0) (ms := 0) rfl (e := 31) rfl rfl (Nat.le_of_ble_eq_true rfl) ⟨by decide, by decide⟩ ?_
      refine c_X11_goesNow T3 R3 (fun e h1 h2 => (yrsS_pos _ _ _ (by omega) _).trans (hr e h1 h2)) hk1 (fun I4 f4 => ?_)
      refine wx_iret rfl rfl rfl ⟨by decide, by decide⟩ ?_
      simp only [aGoesIn, f_1, g_1, f_2, g_2, Bool.and_true, Bool.true_and, Bool.false_and, Bool.and_false, Bool.false_eq_true, eq_self, if_true, if_false] at hq
      exact hq I4 (f3.tr f4.q)
    · have f_2 : wiS n (0) (60) = false := wi_n no2
      refine wn_if_ne rfl (e := 15) rfl (by omega) (fun c_12 => absurd c_12 (by omega)) (fun c_12 => ?_)
      refine wx_iconst (v := (-1)) rfl (e := 16) rfl (by decide) ?_
      refine wx_iret rfl rfl rfl ⟨by decide, by decide⟩ ?_
      simp only [aGoesIn, f_1, g_1, f_2, Bool.and_true, Bool.true_and, Bool.false_and, Bool.and_false, Bool.false_eq_true, eq_self, if_true, if_false] at hq
      exact hq I fmq.rf
  · have f_1 : inS a (tP (gT s)) = false := in_n no1
    refine wn_if_eq rfl (e := 8) rfl (by omega) (fun c_5 => ?_) (fun c_5 => absurd c_5 (by omega))
    refine wx_iconst (v := (-1)) rfl (e := 16) rfl (by decide) ?_
    refine wx_iret rfl rfl rfl ⟨by decide, by decide⟩ ?_
    simp only [aGoesIn, f_1, Bool.and_true, Bool.true_and, Bool.false_and, Bool.and_false, Bool.false_eq_true, eq_self, if_true, if_false] at hq
    exact hq I fmq.rf
theorem bs_cn6 : ∀ a b c d e f : Bool, cn6 a b c d e f = 0 ↔ bs6 a b c d e f = 0 := by decide +kernel
theorem cn_bs (f : Nat → Bool) : cnF f = 0 ↔ bsF f = 0 := bs_cn6 _ _ _ _ _ _
theorem cn_lt6 : ∀ a b c d e f : Bool, cn6 a b c d e f < 7 := by decide +kernel
theorem cn_lt (f : Nat → Bool) : cnF f < 7 := cn_lt6 _ _ _ _ _ _
set_option maxHeartbeats 1000000 in
theorem c_X11_guards {d Lx t rt u : Nat} {I : Nat → Nat → Int32} {G : Nat → Nat → Int64} {Q : ab_Q} {s : gs} {n0 lv : Nat} (hI : MI lv I s) (hg : gok n0 s) {p n : Int32}  (hq : ∀ I2, fmq I I2 → Q (some (.int (aGuards s p n))) (hp Lx t rt u I2 G)) : ab_call ab_MT (d + 5) 267 [.ref 55, .int p, .int n] (hp Lx t rt u I G) 0 0 Q := by
  obtain ⟨hM, hD1, hN, hHh, hSs, hDd, hPp, hpl⟩ := id hI
  obtain ⟨hlv, ⟨hC6, hR6, hP5, hH, hTf, hFn, hLx⟩, m18, m65, m69, m72, m76, m71, m89, m73, mL⟩ := id hM
  have hL := hg.1.1
  have hr := hL.2.1
  have hb := hg.1.2.1
  refine wx_in (M := mX11_guards) rfl rfl rfl (Nat.le_of_ble_eq_true rfl) ?_
  refine wx_iload_n rfl (e := 1) rfl rfl ?_
  refine wx_cs1 (mc := 0) (ms := 0) rfl (e := 4) rfl (Nat.le_of_ble_eq_true rfl) ⟨by decide, by decide⟩ ?_
  refine c_X11_isOdds (fun k1 a1 b1 ek1 => ?_) (fun no1 => ?_)
  · subst ek1
    have f_1 : wiS (nI k1) (1) (100) = true := wi_y a1 b1 (by omega)
    have g_1 : kS (nI k1) = k1 := kS_n (by omega)
    refine wn_if_eq rfl (e := 7) rfl (by omega) (fun c_4 => absurd c_4 (by omega)) (fun c_4 => ?_)
    refine wx_iload_n rfl (e := 8) rfl rfl ?_
    refine wx_cs1 (mc := 0) (ms := 0) rfl (e := 11) rfl (Nat.le_of_ble_eq_true rfl) ⟨by decide, by decide⟩ ?_
    refine c_X11_isNights (fun k2 a2 b2 ek2 => ?_) (fun no2 => ?_)
    · subst ek2
      have f_2 : wiS (nI k2) (1) (9) = true := wi_y a2 b2 (by omega)
      have g_2 : kS (nI k2) = k2 := kS_n (by omega)
      refine wn_if_ne rfl (e := 14) rfl (by omega) (fun c_11 => ?_) (fun c_11 => absurd c_11 (by omega))
      refine wx_aload_n rfl (e := 17) rfl rfl ?_
      refine wx_cv0 (mc := 0) (ms := 0) rfl (e := 20) rfl rfl (Nat.le_of_ble_eq_true rfl) ⟨by decide, by decide⟩ ?_
      refine c_cp hM hN (fun I2 f2 T2 N2 R2 h54 => ?_)
      refine wx_iconst (v := (nI 0)) rfl (e := 21) rfl (by decide) ?_
      refine wx_istore_n (L2 := [_, _, _, _, _, _]) rfl (e := 22) rfl (by decide) rfl ?_
      refine wx_iconst (v := (nI 0)) rfl (e := 23) rfl (by decide) ?_
      refine wx_istore (L2 := [_, _, _, _, _, _]) rfl (e := 25) rfl (by decide) rfl ?_
      simp only [aGuards, f_1, g_1, f_2, g_2, Bool.and_true, Bool.true_and, Bool.false_and, Bool.and_false, Bool.false_eq_true, eq_self, if_true, if_false] at hq
      have loop : ∀ (m : Nat) (c : Nat) (a : Int32) (I2 : Nat → Nat → Int32), c ≤ tC (gT s) → tC (gT s) - c < m → fmq I I2 → MR I2 (gR s) → gdL (gdF (gT s) (gR s) (nI k1) k2) c = some a → ∀ x5, WP (d + 4) mX11_guards Q 25 [some (.ref 55), some (.int (nI k1)), some (.int (nI k2)), some (.int a), some (.int (nI c)), x5] [] (hp Lx t rt u I2 G) 0 0 := by
        intro m
        induction m with
        | zero => intro c a I2 h1 h2; omega
        | succ m ih =>
          intro c a I2 h1 h2 f2 R2 ha x5
          refine wx_iload rfl (e := 27) rfl rfl ?_
          refine wx_aload_n rfl (e := 28) rfl rfl ?_
          refine wx_getr rfl (e := 31) rfl rfl rfl ?_
          refine wx_aload_n rfl (e := 32) rfl rfl ?_
          refine wx_geti rfl (e := 35) rfl rfl ?_
          rw [f2.2 18 (by decide) (by decide) (by decide) (by decide), m18]
          refine wn_iald rfl (e := 36) rfl rfl (by omega) (by decide) ?_
          rw [f2.c (by omega), m65]
          refine wn_ic_ge rfl (e := 39) rfl (by omega) (by omega) (fun c_36 => ?_) (fun c_36 => ?_)
          · refine wx_iload_n rfl (e := 81) rfl rfl ?_
            refine wx_iret rfl rfl rfl ⟨by decide, by decide⟩ ?_
            have ec : c = tC (gT s) := by omega
            subst ec
            rw [ha] at hq
            exact hq I2 f2
          · refine wx_aload_n rfl (e := 40) rfl rfl ?_
            refine wx_iload rfl (e := 42) rfl rfl ?_
            refine wx_cv1 (mc := 0) (ms := 0) rfl (e := 45) rfl rfl (Nat.le_of_ble_eq_true rfl) ⟨by decide, by decide⟩ ?_
            refine c_X11_relicsAt (f2.T hM) R2 hr (by omega) ?_
            have hcl := cn_lt (atC (gR s) c)
            refine wn_if_ne rfl (e := 48) rfl (by omega) (fun c_45 => ?_) (fun c_45 => ?_)
            · refine wx_aload_n rfl (e := 52) rfl rfl ?_
              refine wx_iload rfl (e := 54) rfl rfl ?_
              refine wx_iload_n rfl (e := 55) rfl rfl ?_
              refine wx_iload_n rfl (e := 56) rfl rfl ?_
              refine wx_cv3 (mc := 0) (ms := 0) rfl (e := 59) rfl rfl (Nat.le_of_ble_eq_true rfl) ⟨by decide, by decide⟩ ?_
              refine c_X11_guardOf (f2.T hM) R2 hr (by omega) (fun I3 f3 => ?_)
              refine wx_istore (L2 := [_, _, _, _, _, _]) rfl (e := 61) rfl (by decide) rfl ?_
              refine wx_iload rfl (e := 63) rfl rfl ?_
              refine wx_if_ge rfl (e := 66) rfl (fun c_63 => ?_) (fun c_63 => ?_)
              · rw [← nI_0] at c_63
                refine wx_iload_n rfl (e := 70) rfl rfl ?_
                refine wx_iload rfl (e := 72) rfl rfl ?_
                refine wx_iadd rfl (e := 73) rfl ?_
                refine wx_istore_n (L2 := [_, _, _, _, _, _]) rfl (e := 74) rfl (by decide) rfl ?_
                refine wn_iinc (m := 1) (L2 := [_, _, _, _, _, _]) rfl (e := 77) rfl rfl (by decide) rfl ?_
                refine wx_goto rfl ?_
                have hG : gdL (gdF (gT s) (gR s) (nI k1) k2) (c + 1) = some (a + wfS (gT s) (gR s) c (nI k1) k2) := by rw [gdL, ha]; show (match gdF (gT s) (gR s) (nI k1) k2 c with | none => none | some b => some (a + b)) = _; unfold gdF; rw [if_neg (fun z => c_45 ((cn_bs _).mpr z)), if_neg (Int32.not_lt.mpr c_63)]
                exact ih (c + 1) _ I3 (by omega) (by omega) (f2.tr f3.q) (f3.R R2) hG _
              · rw [← nI_0] at c_63
                refine wx_bipush (v := (-2)) rfl (e := 68) rfl (by decide) ?_
                refine wx_iret rfl rfl rfl ⟨by decide, by decide⟩ ?_
                have hG : gdL (gdF (gT s) (gR s) (nI k1) k2) (c + 1) = none := by rw [gdL, ha]; show (match gdF (gT s) (gR s) (nI k1) k2 c with | none => none | some b => some (a + b)) = _; unfold gdF; rw [if_neg (fun z => c_45 ((cn_bs _).mpr z)), if_pos (Int32.not_le.mp c_63)]
                rw [gdL_none hG _ (show c + 1 ≤ tC (gT s) by omega)] at hq
                exact hq I3 (f2.tr f3.q)
            · refine wx_goto rfl ?_
              refine wn_iinc (m := 1) (L2 := [_, _, _, _, _, _]) rfl (e := 77) rfl rfl (by decide) rfl ?_
              refine wx_goto rfl ?_
              have hG : gdL (gdF (gT s) (gR s) (nI k1) k2) (c + 1) = some (a + nI 0) := by rw [gdL, ha]; show (match gdF (gT s) (gR s) (nI k1) k2 c with | none => none | some b => some (a + b)) = _; unfold gdF; rw [if_pos ((cn_bs _).mp (by omega))]
              have e0 : a + nI 0 = a := by rw [nI_0]; exact Int32.add_zero a
              rw [e0] at hG
              exact ih (c + 1) a I2 (by omega) (by omega) f2 R2 hG _
      exact loop (tC (gT s) + 1) 0 (nI 0) I2 (by omega) (by omega) f2 R2 rfl _
    · have f_2 : wiS n (1) (9) = false := wi_n no2
      refine wn_if_ne rfl (e := 14) rfl (by omega) (fun c_11 => absurd c_11 (by omega)) (fun c_11 => ?_)
      refine wx_iconst (v := (-1)) rfl (e := 15) rfl (by decide) ?_
      refine wx_iret rfl rfl rfl ⟨by decide, by decide⟩ ?_
      simp only [aGuards, f_1, g_1, f_2, Bool.and_true, Bool.true_and, Bool.false_and, Bool.and_false, Bool.false_eq_true, eq_self, if_true, if_false] at hq
      exact hq I fmq.rf
  · have f_1 : wiS p (1) (100) = false := wi_n no1
    refine wn_if_eq rfl (e := 7) rfl (by omega) (fun c_4 => ?_) (fun c_4 => absurd c_4 (by omega))
    refine wx_iconst (v := (-1)) rfl (e := 15) rfl (by decide) ?_
    refine wx_iret rfl rfl rfl ⟨by decide, by decide⟩ ?_
    simp only [aGuards, f_1, Bool.and_true, Bool.true_and, Bool.false_and, Bool.and_false, Bool.false_eq_true, eq_self, if_true, if_false] at hq
    exact hq I fmq.rf
theorem nI_nn {b : Nat} (hb : b < 2 ^ 31) : ¬ nI b < nI 0 := Int32.not_lt.mpr (nI_le (Nat.zero_le _) hb)
def am2 (f : Nat → Int32) (c : Nat) : Int32 × Int32 := if c = 0 then (-2, -2) else amx f c
def am1 (f : Nat → Int32) (c : Nat) : Int32 × Int32 := if c = 0 then (-1, nI 0) else amx f c
theorem am2_s (f : Nat → Int32) (c : Nat) : am2 f (c + 1) = amx f (c + 1) := if_neg (by omega)
theorem am1_s (f : Nat → Int32) (c : Nat) : am1 f (c + 1) = amx f (c + 1) := if_neg (by omega)
theorem am2_le {f : Nat → Int32} {c : Nat} (hc : c ≤ 6) (h0 : ∃ k, k < 2 ^ 31 ∧ f c = nI k) (h : f c ≤ (am2 f c).2) : am2 f (c + 1) = am2 f c := by
  rw [am2_s]
  by_cases z : c = 0
  · subst z
    obtain ⟨k, hk, ek⟩ := h0
    rw [ek] at h
    exact absurd (Int32.lt_of_lt_of_le (show (-2 : Int32) < nI 0 by decide) (Int32.le_trans (nI_le (Nat.zero_le k) hk) h)) (show ¬ (-2 : Int32) < -2 by decide)
  · unfold am2 at h ⊢
    rw [if_neg z] at h ⊢
    rw [amx, if_neg]
    rintro (h1 | h1)
    · rcases amx_in f c with h2 | ⟨b, h2, h3⟩
      · exact z h2.2
      · rw [h3] at h1; exact nI_nn (by omega) h1
    · exact absurd h (Int32.not_le.mpr h1)
theorem am2_gt {f : Nat → Int32} {c : Nat} (h : (am2 f c).2 < f c) : am2 f (c + 1) = (nI c, f c) := by
  rw [am2_s, amx]
  by_cases z : c = 0
  · subst z; exact if_pos (Or.inl (show (-2 : Int32) < nI 0 by decide))
  · unfold am2 at h
    rw [if_neg z] at h
    exact if_pos (Or.inr h)
theorem am1_le {f : Nat → Int32} {c : Nat} (h1 : ¬ (am1 f c).1 < nI 0) (h : f c ≤ (am1 f c).2) : am1 f (c + 1) = am1 f c := by
  rw [am1_s]
  by_cases z : c = 0
  · subst z; exact absurd (show (-1 : Int32) < nI 0 by decide) h1
  · unfold am1 at h h1 ⊢
    rw [if_neg z] at h h1 ⊢
    rw [amx, if_neg]
    rintro (h2 | h2)
    · exact h1 h2
    · exact absurd h (Int32.not_le.mpr h2)
theorem am1_gt {f : Nat → Int32} {c : Nat} (h : (am1 f c).1 < nI 0 ∨ (am1 f c).2 < f c) : am1 f (c + 1) = (nI c, f c) := by
  rw [am1_s, amx]
  by_cases z : c = 0
  · subst z; exact if_pos (Or.inl (show (-2 : Int32) < nI 0 by decide))
  · unfold am1 at h
    rw [if_neg z] at h
    exact if_pos h
theorem amx_val (f : Nat → Int32) : ∀ c b, b < 2 ^ 31 → c < 2 ^ 31 → (amx f c).1 = nI b → (amx f c).2 = f b
  | 0, b, hb, _, h => absurd h (by intro z; have : (-2 : Int32) < 0 := by decide
                                   rw [show (-2 : Int32) = nI b from z, ← nI_0] at this; exact nI_nn hb this)
  | c + 1, b, hb, hc, h => by
    rw [amx] at h ⊢
    split
    · rename_i hz; rw [if_pos hz] at h; rw [show b = c from ((nI_eq hb (by omega)).mp h.symm)]
    · rename_i hz; rw [if_neg hz] at h; exact amx_val f c b hb (by omega) h
theorem am2_1 (f : Nat → Int32) (c : Nat) : (am2 f c).1 = (amx f c).1 := by
  unfold am2
  by_cases z : c = 0
  · rw [if_pos z, z]; rfl
  · rw [if_neg z]
theorem amx_p {f : Nat → Int32} {c : Nat} (hc : c ≤ 6) (h : ¬ c = 0) : ¬ (amx f c).1 < 0 := by
  rcases amx_in f c with h1 | ⟨b, h1, h2⟩
  · exact absurd h1.2 h
  · rw [h2, ← nI_0]; exact nI_nn (by omega)
theorem rc_n {n0 : Nat} {T : tx} {r : rw_} (hT : tok T) (hb : ∀ k, 12 ≤ k → k < 30 → ∃ v, v ≤ 30000 * n0 ∧ r k = nI v) (h0 : n0 ≤ 512) {n c : Nat} (hn : n ≤ 60) (hc : c < 6) : ∃ k, k < 2 ^ 31 ∧ rcF T r n c = nI k := by
  obtain ⟨v, g, h3, h4, h5, h6⟩ := ya_b hT hb h0 (k := 18 + c) (by omega) (by omega) rfl hn
  refine ⟨g, by omega, ?_⟩
  unfold rcF
  rw [h6, h5, pk_sub (by omega), show v + g - v = g by omega]
theorem fm_n {n0 : Nat} {T : tx} {r : rw_} (hT : tok T) (hb : ∀ k, 12 ≤ k → k < 30 → ∃ v, v ≤ 30000 * n0 ∧ r k = nI v) (h0 : n0 ≤ 512) {n c : Nat} (hn : n ≤ 60) (hc : c < 6) : ∃ k, k < 2 ^ 31 ∧ fmF T r n c = nI k := by
  obtain ⟨v, g, h3, h4, h5, h6⟩ := ya_b hT hb h0 (k := 12 + c) (by omega) (by omega) rfl hn
  exact ⟨v + g, by omega, h6⟩
theorem c_X11_rich {d Lx t rt u : Nat} {I : Nat → Nat → Int32} {G : Nat → Nat → Int64} {Q : ab_Q} {s : gs} {n0 lv : Nat} (hI : MI lv I s) (hg : gok n0 s) {n w : Int32} (h0 : n0 ≤ 512) (hq : ∀ I2, fmq I I2 → Q (some (.int (aRich s n w))) (hp Lx t rt u I2 G)) : ab_call ab_MT (d + 8) 278 [.ref 55, .int n, .int w] (hp Lx t rt u I G) 0 0 Q := by
  obtain ⟨hM, hD1, hN, hHh, hSs, hDd, hPp, hpl⟩ := id hI
  obtain ⟨hlv, ⟨hC6, hR6, hP5, hH, hTf, hFn, hLx⟩, m18, m65, m69, m72, m76, m71, m89, m73, mL⟩ := id hM
  have hL := hg.1.1
  have hr := hL.2.1
  have hb := hg.1.2.1
  refine wx_in (M := mX11_rich) rfl rfl rfl (Nat.le_of_ble_eq_true rfl) ?_
  refine wx_iload_n rfl (e := 1) rfl rfl ?_
  refine wx_cs1 (mc := 0) (ms := 0) rfl (e := 4) rfl (Nat.le_of_ble_eq_true rfl) ⟨by decide, by decide⟩ ?_
  refine c_X11_isLong (fun k1 a1 b1 ek1 => ?_) (fun no1 => ?_)
  · subst ek1
    have f_1 : wiS (nI k1) (0) (60) = true := wi_y a1 b1 (by omega)
    have g_1 : kS (nI k1) = k1 := kS_n (by omega)
    refine wn_if_eq rfl (e := 7) rfl (by omega) (fun c_4 => absurd c_4 (by omega)) (fun c_4 => ?_)
    refine wx_iload_n rfl (e := 8) rfl rfl ?_
    refine wx_iconst (v := (nI 0)) rfl (e := 9) rfl (by decide) ?_
    refine wx_iconst (v := (nI 1)) rfl (e := 10) rfl (by decide) ?_
    refine wx_cs3 (mc := 0) (ms := 0) rfl (e := 13) rfl (Nat.le_of_ble_eq_true rfl) ⟨by decide, by decide⟩ ?_
    refine c_X11_in (lo := 0) (hi := 1) (by omega) (by omega) (fun k2 a2 b2 ek2 => ?_) (fun no2 => ?_)
    · subst ek2
      have f_2 : wiS (nI k2) (0) (1) = true := wi_y a2 b2 (by omega)
      have g_2 : kS (nI k2) = k2 := kS_n (by omega)
      refine wn_if_ne rfl (e := 16) rfl (by omega) (fun c_13 => ?_) (fun c_13 => absurd c_13 (by omega))
      refine wx_aload_n rfl (e := 19) rfl rfl ?_
      refine wx_cv0 (mc := 0) (ms := 0) rfl (e := 22) rfl rfl (Nat.le_of_ble_eq_true rfl) ⟨by decide, by decide⟩ ?_
      refine c_cp hM hN (fun I2 f2 T2 N2 R2 h54 => ?_)
      refine wx_aload_n rfl (e := 23) rfl rfl ?_
      refine wx_iload_n rfl (e := 24) rfl rfl ?_
      refine wx_cv1 (mc := 0) (ms := 0) rfl (e := 27) rfl rfl (Nat.le_of_ble_eq_true rfl) ⟨by decide, by decide⟩ ?_
      refine c_X11_yearsGo T2 R2 hr (n := k1) (by omega) (fun I3 y3 R3 => ?_)
      rw [h54] at R3
      have R3 : MR I3 (yaS (gT s) (gR s) k1) := R3
      have f3 := f2.tr y3.q
      have T3 := f3.T hM
      have N3 := f3.N hN
      refine wx_bipush (v := (-2)) rfl (e := 29) rfl (by decide) ?_
      refine wx_istore_n (L2 := [_, _, _, _, _, _, _]) rfl (e := 30) rfl (by decide) rfl ?_
      refine wx_bipush (v := (-2)) rfl (e := 32) rfl (by decide) ?_
      refine wx_istore (L2 := [_, _, _, _, _, _, _]) rfl (e := 34) rfl (by decide) rfl ?_
      refine wx_iconst (v := (nI 0)) rfl (e := 35) rfl (by decide) ?_
      refine wx_istore (L2 := [_, _, _, _, _, _, _]) rfl (e := 37) rfl (by decide) rfl ?_
      simp only [aRich, f_1, g_1, f_2, g_2, Bool.and_true, Bool.true_and, Bool.false_and, Bool.and_false, Bool.false_eq_true, eq_self, if_true, if_false] at hq
      have loop : ∀ (m : Nat) (c : Nat), c ≤ tC (gT s) → tC (gT s) - c < m → ∀ x6, WP (d + 7) mX11_rich Q 37 [some (.ref 55), some (.int (nI k1)), some (.int (nI k2)), some (.int (am2 (rcF (gT s) (gR s) k1) c).1), some (.int (am2 (rcF (gT s) (gR s) k1) c).2), some (.int (nI c)), x6] [] (hp Lx t rt u I3 G) 0 0 := by
        intro m
        induction m with
        | zero => intro c h1 h2 x6; omega
        | succ m ih =>
          intro c h1 h2 x6
          refine wx_iload rfl (e := 39) rfl rfl ?_
          refine wx_aload_n rfl (e := 40) rfl rfl ?_
          refine wx_getr rfl (e := 43) rfl rfl rfl ?_
          refine wx_aload_n rfl (e := 44) rfl rfl ?_
          refine wx_geti rfl (e := 47) rfl rfl ?_
          rw [f3.2 18 (by decide) (by decide) (by decide) (by decide), m18]
          refine wn_iald rfl (e := 48) rfl rfl (by omega) (by decide) ?_
          rw [f3.c (by omega), m65]
          refine wn_ic_ge rfl (e := 51) rfl (by omega) (by omega) (fun c_48 => ?_) (fun c_48 => ?_)
          · refine wx_iload_n rfl (e := 98) rfl rfl ?_
            refine wn_if_ne rfl (e := 101) rfl (by omega) (fun c_98 => ?_) (fun c_98 => ?_)
            · refine wx_iload rfl (e := 107) rfl rfl ?_
              refine wx_iret rfl rfl rfl ⟨by decide, by decide⟩ ?_
              have ec : c = tC (gT s) := by omega
              subst ec
              by_cases z : tC (gT s) = 0
              · rw [z] at hq ⊢
                rw [if_neg (fun z => z.2 (show (-2 : Int32) < 0 by decide))] at hq
                exact hq I3 f3
              · rw [if_pos ⟨by omega, amx_p hC6 z⟩] at hq
                unfold am2
                rw [if_neg z]
                exact hq I3 f3
            · refine wx_iload_n rfl (e := 102) rfl rfl ?_
              refine wx_goto rfl ?_
              refine wx_iret rfl rfl rfl ⟨by decide, by decide⟩ ?_
              have ec : c = tC (gT s) := by omega
              subst ec
              rw [if_neg (fun z => by have := z.1; omega)] at hq
              rw [am2_1]
              exact hq I3 f3
          · refine wx_aload_n rfl (e := 52) rfl rfl ?_
            refine wx_getr rfl (e := 55) rfl rfl rfl ?_
            refine wx_bipush (v := (nI 18)) rfl (e := 57) rfl (by decide) ?_
            refine wx_iload rfl (e := 59) rfl rfl ?_
            refine wn_iadd rfl (e := 60) rfl ?_
            refine wn_iald rfl (e := 61) rfl rfl (by omega) (by decide) ?_
            rw [R3 _ (by omega)]
            refine wx_aload_n rfl (e := 62) rfl rfl ?_
            refine wx_getr rfl (e := 65) rfl rfl rfl ?_
            refine wx_bipush (v := (nI 18)) rfl (e := 67) rfl (by decide) ?_
            refine wx_iload rfl (e := 69) rfl rfl ?_
            refine wn_iadd rfl (e := 70) rfl ?_
            refine wn_iald rfl (e := 71) rfl rfl (by omega) (by decide) ?_
            rw [N3 _ (by omega)]
            refine wx_isub rfl (e := 72) rfl ?_
            refine wx_istore (L2 := [_, _, _, _, _, _, _]) rfl (e := 74) rfl (by decide) rfl ?_
            refine wx_iload rfl (e := 76) rfl rfl ?_
            refine wx_iload rfl (e := 78) rfl rfl ?_
            refine wx_ic_gt rfl (e := 81) rfl (fun c_78 => ?_) (fun c_78 => ?_)
            · have hG : am2 (rcF (gT s) (gR s) k1) (c + 1) = (nI c, (rcF (gT s) (gR s) k1) c) := am2_gt c_78
              refine wx_iload rfl (e := 86) rfl rfl ?_
              refine wx_istore_n (L2 := [_, _, _, _, _, _, _]) rfl (e := 87) rfl (by decide) rfl ?_
              refine wx_iload rfl (e := 89) rfl rfl ?_
              refine wx_istore (L2 := [_, _, _, _, _, _, _]) rfl (e := 91) rfl (by decide) rfl ?_
              refine wn_iinc (m := 1) (L2 := [_, _, _, _, _, _, _]) rfl (e := 94) rfl rfl (by decide) rfl ?_
              refine wx_goto rfl ?_
              have hh := ih (c + 1) (by omega) (by omega)
              rw [hG] at hh
              exact hh _
            · have hG : am2 (rcF (gT s) (gR s) k1) (c + 1) = am2 (rcF (gT s) (gR s) k1) c := am2_le (by omega) (rc_n (hM.2.1) hb h0 (by omega) (by omega)) (Int32.not_lt.mp c_78)
              refine wx_goto rfl ?_
              refine wn_iinc (m := 1) (L2 := [_, _, _, _, _, _, _]) rfl (e := 94) rfl rfl (by decide) rfl ?_
              refine wx_goto rfl ?_
              have hh := ih (c + 1) (by omega) (by omega)
              rw [hG] at hh
              exact hh _
      exact loop (tC (gT s) + 1) 0 (by omega) (by omega) _
    · have f_2 : wiS w (0) (1) = false := wi_n no2
      refine wn_if_ne rfl (e := 16) rfl (by omega) (fun c_13 => absurd c_13 (by omega)) (fun c_13 => ?_)
      refine wx_iconst (v := (-1)) rfl (e := 17) rfl (by decide) ?_
      refine wx_iret rfl rfl rfl ⟨by decide, by decide⟩ ?_
      simp only [aRich, f_1, g_1, f_2, Bool.and_true, Bool.true_and, Bool.false_and, Bool.and_false, Bool.false_eq_true, eq_self, if_true, if_false] at hq
      exact hq I fmq.rf
  · have f_1 : wiS n (0) (60) = false := wi_n no1
    refine wn_if_eq rfl (e := 7) rfl (by omega) (fun c_4 => ?_) (fun c_4 => absurd c_4 (by omega))
    refine wx_iconst (v := (-1)) rfl (e := 17) rfl (by decide) ?_
    refine wx_iret rfl rfl rfl ⟨by decide, by decide⟩ ?_
    simp only [aRich, f_1, Bool.and_true, Bool.true_and, Bool.false_and, Bool.and_false, Bool.false_eq_true, eq_self, if_true, if_false] at hq
    exact hq I fmq.rf
theorem c_X11_famed {d Lx t rt u : Nat} {I : Nat → Nat → Int32} {G : Nat → Nat → Int64} {Q : ab_Q} {s : gs} {n0 lv : Nat} (hI : MI lv I s) (hg : gok n0 s) {n : Int32} (h0 : n0 ≤ 512) (hq : ∀ I2, fmq I I2 → Q (some (.int (aFamed s n))) (hp Lx t rt u I2 G)) : ab_call ab_MT (d + 8) 282 [.ref 55, .int n] (hp Lx t rt u I G) 0 0 Q := by
  obtain ⟨hM, hD1, hN, hHh, hSs, hDd, hPp, hpl⟩ := id hI
  obtain ⟨hlv, ⟨hC6, hR6, hP5, hH, hTf, hFn, hLx⟩, m18, m65, m69, m72, m76, m71, m89, m73, mL⟩ := id hM
  have hL := hg.1.1
  have hr := hL.2.1
  have hb := hg.1.2.1
  refine wx_in (M := mX11_famed) rfl rfl rfl (Nat.le_of_ble_eq_true rfl) ?_
  refine wx_iload_n rfl (e := 1) rfl rfl ?_
  refine wx_cs1 (mc := 0) (ms := 0) rfl (e := 4) rfl (Nat.le_of_ble_eq_true rfl) ⟨by decide, by decide⟩ ?_
  refine c_X11_isLong (fun k1 a1 b1 ek1 => ?_) (fun no1 => ?_)
  · subst ek1
    have f_1 : wiS (nI k1) (0) (60) = true := wi_y a1 b1 (by omega)
    have g_1 : kS (nI k1) = k1 := kS_n (by omega)
    refine wn_if_ne rfl (e := 7) rfl (by omega) (fun c_4 => ?_) (fun c_4 => absurd c_4 (by omega))
    refine wx_aload_n rfl (e := 10) rfl rfl ?_
    refine wx_cv0 (mc := 0) (ms := 0) rfl (e := 13) rfl rfl (Nat.le_of_ble_eq_true rfl) ⟨by decide, by decide⟩ ?_
    refine c_cp hM hN (fun I2 f2 T2 N2 R2 h54 => ?_)
    refine wx_aload_n rfl (e := 14) rfl rfl ?_
    refine wx_iload_n rfl (e := 15) rfl rfl ?_
    refine wx_cv1 (mc := 0) (ms := 0) rfl (e := 18) rfl rfl (Nat.le_of_ble_eq_true rfl) ⟨by decide, by decide⟩ ?_
    refine c_X11_yearsGo T2 R2 hr (n := k1) (by omega) (fun I3 y3 R3 => ?_)
    rw [h54] at R3
    have R3 : MR I3 (yaS (gT s) (gR s) k1) := R3
    have f3 := f2.tr y3.q
    have T3 := f3.T hM
    have N3 := f3.N hN
    refine wx_bipush (v := (-2)) rfl (e := 20) rfl (by decide) ?_
    refine wx_istore_n (L2 := [_, _, _, _, _]) rfl (e := 21) rfl (by decide) rfl ?_
    refine wx_bipush (v := (-2)) rfl (e := 23) rfl (by decide) ?_
    refine wx_istore_n (L2 := [_, _, _, _, _]) rfl (e := 24) rfl (by decide) rfl ?_
    refine wx_iconst (v := (nI 0)) rfl (e := 25) rfl (by decide) ?_
    refine wx_istore (L2 := [_, _, _, _, _]) rfl (e := 27) rfl (by decide) rfl ?_
    simp only [aFamed, f_1, g_1, Bool.and_true, Bool.true_and, Bool.false_and, Bool.and_false, Bool.false_eq_true, eq_self, if_true, if_false] at hq
    have loop : ∀ (m : Nat) (c : Nat), c ≤ tC (gT s) → tC (gT s) - c < m → WP (d + 7) mX11_famed Q 27 [some (.ref 55), some (.int (nI k1)), some (.int (am2 (fmF (gT s) (gR s) k1) c).1), some (.int (am2 (fmF (gT s) (gR s) k1) c).2), some (.int (nI c))] [] (hp Lx t rt u I3 G) 0 0 := by
      intro m
      induction m with
      | zero => intro c h1 h2; omega
      | succ m ih =>
        intro c h1 h2
        refine wx_iload rfl (e := 29) rfl rfl ?_
        refine wx_aload_n rfl (e := 30) rfl rfl ?_
        refine wx_getr rfl (e := 33) rfl rfl rfl ?_
        refine wx_aload_n rfl (e := 34) rfl rfl ?_
        refine wx_geti rfl (e := 37) rfl rfl ?_
        rw [f3.2 18 (by decide) (by decide) (by decide) (by decide), m18]
        refine wn_iald rfl (e := 38) rfl rfl (by omega) (by decide) ?_
        rw [f3.c (by omega), m65]
        refine wn_ic_ge rfl (e := 41) rfl (by omega) (by omega) (fun c_38 => ?_) (fun c_38 => ?_)
        · refine wx_iload_n rfl (e := 79) rfl rfl ?_
          refine wx_iret rfl rfl rfl ⟨by decide, by decide⟩ ?_
          have ec : c = tC (gT s) := by omega
          subst ec
          rw [am2_1]
          exact hq I3 f3
        · refine wx_aload_n rfl (e := 42) rfl rfl ?_
          refine wx_getr rfl (e := 45) rfl rfl rfl ?_
          refine wx_bipush (v := (nI 12)) rfl (e := 47) rfl (by decide) ?_
          refine wx_iload rfl (e := 49) rfl rfl ?_
          refine wn_iadd rfl (e := 50) rfl ?_
          refine wn_iald rfl (e := 51) rfl rfl (by omega) (by decide) ?_
          rw [R3 _ (by omega)]
          refine wx_iload_n rfl (e := 52) rfl rfl ?_
          refine wx_ic_gt rfl (e := 55) rfl (fun c_52 => ?_) (fun c_52 => ?_)
          · have hG : am2 (fmF (gT s) (gR s) k1) (c + 1) = (nI c, (fmF (gT s) (gR s) k1) c) := am2_gt c_52
            refine wx_iload rfl (e := 60) rfl rfl ?_
            refine wx_istore_n (L2 := [_, _, _, _, _]) rfl (e := 61) rfl (by decide) rfl ?_
            refine wx_aload_n rfl (e := 62) rfl rfl ?_
            refine wx_getr rfl (e := 65) rfl rfl rfl ?_
            refine wx_bipush (v := (nI 12)) rfl (e := 67) rfl (by decide) ?_
            refine wx_iload rfl (e := 69) rfl rfl ?_
            refine wn_iadd rfl (e := 70) rfl ?_
            refine wn_iald rfl (e := 71) rfl rfl (by omega) (by decide) ?_
            rw [R3 _ (by omega)]
            refine wx_istore_n (L2 := [_, _, _, _, _]) rfl (e := 72) rfl (by decide) rfl ?_
            refine wn_iinc (m := 1) (L2 := [_, _, _, _, _]) rfl (e := 75) rfl rfl (by decide) rfl ?_
            refine wx_goto rfl ?_
            have hh := ih (c + 1) (by omega) (by omega)
            rw [hG] at hh
            exact hh
          · have hG : am2 (fmF (gT s) (gR s) k1) (c + 1) = am2 (fmF (gT s) (gR s) k1) c := am2_le (by omega) (fm_n (hM.2.1) hb h0 (by omega) (by omega)) (Int32.not_lt.mp c_52)
            refine wx_goto rfl ?_
            refine wn_iinc (m := 1) (L2 := [_, _, _, _, _]) rfl (e := 75) rfl rfl (by decide) rfl ?_
            refine wx_goto rfl ?_
            have hh := ih (c + 1) (by omega) (by omega)
            rw [hG] at hh
            exact hh
    exact loop (tC (gT s) + 1) 0 (by omega) (by omega)
  · have f_1 : wiS n (0) (60) = false := wi_n no1
    refine wn_if_ne rfl (e := 7) rfl (by omega) (fun c_4 => absurd c_4 (by omega)) (fun c_4 => ?_)
    refine wx_iconst (v := (-1)) rfl (e := 8) rfl (by decide) ?_
    refine wx_iret rfl rfl rfl ⟨by decide, by decide⟩ ?_
    simp only [aFamed, f_1, Bool.and_true, Bool.true_and, Bool.false_and, Bool.and_false, Bool.false_eq_true, eq_self, if_true, if_false] at hq
    exact hq I fmq.rf
set_option maxHeartbeats 1000000 in
theorem c_X11_worth {d Lx t rt u : Nat} {I : Nat → Nat → Int32} {G : Nat → Nat → Int64} {Q : ab_Q} {s : gs} {n0 lv : Nat} (hI : MI lv I s) (hg : gok n0 s) {e n w : Int32}  (hq : ∀ I2, fmq I I2 → Q (some (.int (aWorth s e n w))) (hp Lx t rt u I2 G)) : ab_call ab_MT (d + 9) 272 [.ref 55, .int e, .int n, .int w] (hp Lx t rt u I G) 0 0 Q := by
  obtain ⟨hM, hD1, hN, hHh, hSs, hDd, hPp, hpl⟩ := id hI
  obtain ⟨hlv, ⟨hC6, hR6, hP5, hH, hTf, hFn, hLx⟩, m18, m65, m69, m72, m76, m71, m89, m73, mL⟩ := id hM
  have hL := hg.1.1
  have hr := hL.2.1
  have hb := hg.1.2.1
  refine wx_in (M := mX11_worth) rfl rfl rfl (Nat.le_of_ble_eq_true rfl) ?_
  refine wx_aload_n rfl (e := 1) rfl rfl ?_
  refine wx_iload_n rfl (e := 2) rfl rfl ?_
  refine wx_cv1 (mc := 0) (ms := 0) rfl (e := 5) rfl rfl (Nat.le_of_ble_eq_true rfl) ⟨by decide, by decide⟩ ?_
  refine c_X11_isRelic hM (fun k1 hk1 ek1 => ?_) (fun no1 => ?_)
  · subst ek1
    have f_1 : inS (nI k1) (tR (gT s)) = true := in_y hk1 (by omega)
    have g_1 : kS (nI k1) = k1 := kS_n (by omega)
    refine wn_if_eq rfl (e := 8) rfl (by omega) (fun c_5 => absurd c_5 (by omega)) (fun c_5 => ?_)
    refine wx_iload_n rfl (e := 9) rfl rfl ?_
    refine wx_cs1 (mc := 0) (ms := 0) rfl (e := 12) rfl (Nat.le_of_ble_eq_true rfl) ⟨by decide, by decide⟩ ?_
    refine c_X11_isFew (fun k2 a2 b2 ek2 => ?_) (fun no2 => ?_)
    · subst ek2
      have f_2 : wiS (nI k2) (1) (24) = true := wi_y a2 b2 (by omega)
      have g_2 : kS (nI k2) = k2 := kS_n (by omega)
      refine wn_if_eq rfl (e := 15) rfl (by omega) (fun c_12 => absurd c_12 (by omega)) (fun c_12 => ?_)
      refine wx_iload_n rfl (e := 16) rfl rfl ?_
      refine wx_iconst (v := (nI 0)) rfl (e := 17) rfl (by decide) ?_
      refine wx_iconst (v := (nI 1)) rfl (e := 18) rfl (by decide) ?_
      refine wx_cs3 (mc := 0) (ms := 0) rfl (e := 21) rfl (Nat.le_of_ble_eq_true rfl) ⟨by decide, by decide⟩ ?_
      refine c_X11_in (lo := 0) (hi := 1) (by omega) (by omega) (fun k3 a3 b3 ek3 => ?_) (fun no3 => ?_)
      · subst ek3
        have f_3 : wiS (nI k3) (0) (1) = true := wi_y a3 b3 (by omega)
        have g_3 : kS (nI k3) = k3 := kS_n (by omega)
        refine wn_if_ne rfl (e := 24) rfl (by omega) (fun c_21 => ?_) (fun c_21 => absurd c_21 (by omega))
        refine wx_iconst (v := (-1)) rfl (e := 29) rfl (by decide) ?_
        refine wx_istore (L2 := [_, _, _, _, _, _, _, _]) rfl (e := 31) rfl (by decide) rfl ?_
        refine wx_iconst (v := (nI 0)) rfl (e := 32) rfl (by decide) ?_
        refine wx_istore (L2 := [_, _, _, _, _, _, _, _]) rfl (e := 34) rfl (by decide) rfl ?_
        refine wx_iconst (v := (nI 0)) rfl (e := 35) rfl (by decide) ?_
        refine wx_istore (L2 := [_, _, _, _, _, _, _, _]) rfl (e := 37) rfl (by decide) rfl ?_
        simp only [aWorth, f_1, g_1, f_2, g_2, f_3, g_3, Bool.and_true, Bool.true_and, Bool.false_and, Bool.and_false, Bool.false_eq_true, eq_self, if_true, if_false] at hq
        obtain ⟨hce, hre⟩ := hL.ch hM.2.1 hk1
        have loop : ∀ (m : Nat) (c : Nat) (I2 : Nat → Nat → Int32), c ≤ tC (gT s) → tC (gT s) - c < m → fmq I I2 → ∀ x7, WP (d + 8) mX11_worth Q 37 [some (.ref 55), some (.int (nI k1)), some (.int (nI k2)), some (.int (nI k3)), some (.int (am1 (wdS (gT s) (gR s) k1 k2) c).1), some (.int (am1 (wdS (gT s) (gR s) k1 k2) c).2), some (.int (nI c)), x7] [] (hp Lx t rt u I2 G) 0 0 := by
          intro m
          induction m with
          | zero => intro c I2 h1 h2; omega
          | succ m ih =>
            intro c I2 h1 h2 f2 x7
            refine wx_iload rfl (e := 39) rfl rfl ?_
            refine wx_aload_n rfl (e := 40) rfl rfl ?_
            refine wx_getr rfl (e := 43) rfl rfl rfl ?_
            refine wx_aload_n rfl (e := 44) rfl rfl ?_
            refine wx_geti rfl (e := 47) rfl rfl ?_
            rw [f2.2 18 (by decide) (by decide) (by decide) (by decide), m18]
            refine wn_iald rfl (e := 48) rfl rfl (by omega) (by decide) ?_
            rw [f2.c (by omega), m65]
            refine wn_ic_ge rfl (e := 51) rfl (by omega) (by omega) (fun c_48 => ?_) (fun c_48 => ?_)
            · refine wx_iload_n rfl (e := 103) rfl rfl ?_
              refine wn_if_ne rfl (e := 106) rfl (by omega) (fun c_103 => ?_) (fun c_103 => ?_)
              · refine wx_iload rfl (e := 113) rfl rfl ?_
                refine wx_iret rfl rfl rfl ⟨by decide, by decide⟩ ?_
                have ec : c = tC (gT s) := by omega
                subst ec
                unfold am1
                rw [if_neg (by omega)]
                rw [if_pos (by omega)] at hq
                exact hq I2 f2
              · refine wx_iload rfl (e := 108) rfl rfl ?_
                refine wx_goto rfl ?_
                refine wx_iret rfl rfl rfl ⟨by decide, by decide⟩ ?_
                have ec : c = tC (gT s) := by omega
                subst ec
                unfold am1
                rw [if_neg (by omega)]
                rw [if_neg (by omega)] at hq
                exact hq I2 f2
            · refine wx_aload_n rfl (e := 52) rfl rfl ?_
              refine wx_iload_n rfl (e := 53) rfl rfl ?_
              refine wx_iload rfl (e := 55) rfl rfl ?_
              refine wx_iload rfl (e := 57) rfl rfl ?_
              refine wx_iload_n rfl (e := 58) rfl rfl ?_
              refine wx_cv4 (mc := 0) (ms := 0) rfl (e := 61) rfl rfl (Nat.le_of_ble_eq_true rfl) ⟨by decide, by decide⟩ ?_
              refine c_X11_takesWith (f2.T hM) (f2.N hN) hL hk1 (by omega) (by omega) (fun I3 f3 => ?_)
              refine wx_aload_n rfl (e := 62) rfl rfl ?_
              refine wx_iload_n rfl (e := 63) rfl rfl ?_
              refine wx_iconst (v := (-1)) rfl (e := 64) rfl (by decide) ?_
              refine wx_iload rfl (e := 66) rfl rfl ?_
              refine wx_iload_n rfl (e := 67) rfl rfl ?_
              refine wx_cv4 (mc := 0) (ms := 0) rfl (e := 70) rfl rfl (Nat.le_of_ble_eq_true rfl) ⟨by decide, by decide⟩ ?_
              refine c_X11_takesWith ((f2.tr f3).T hM) ((f2.tr f3).N hN) hL hk1 (by omega) (by omega) (fun I4 f4 => ?_)
              refine wx_isub rfl (e := 71) rfl ?_
              rw [sub3]
              refine wx_istore (L2 := [_, _, _, _, _, _, _, _]) rfl (e := 73) rfl (by decide) rfl ?_
              refine wx_iload rfl (e := 75) rfl rfl ?_
              refine wx_if_lt rfl (e := 78) rfl (fun c_75 => ?_) (fun c_75 => ?_)
              · rw [← nI_0] at c_75
                have hG : am1 (wdS (gT s) (gR s) k1 k2) (c + 1) = (nI c, (wdS (gT s) (gR s) k1 k2) c) := am1_gt (Or.inl c_75)
                refine wx_iload rfl (e := 90) rfl rfl ?_
                refine wx_istore (L2 := [_, _, _, _, _, _, _, _]) rfl (e := 92) rfl (by decide) rfl ?_
                refine wx_iload rfl (e := 94) rfl rfl ?_
                refine wx_istore (L2 := [_, _, _, _, _, _, _, _]) rfl (e := 96) rfl (by decide) rfl ?_
                refine wn_iinc (m := 1) (L2 := [_, _, _, _, _, _, _, _]) rfl (e := 99) rfl rfl (by decide) rfl ?_
                refine wx_goto rfl ?_
                have hh := ih (c + 1) I4 (by omega) (by omega) (f2.tr (f3.tr f4))
                rw [hG] at hh
                exact hh _
              · rw [← nI_0] at c_75
                refine wx_iload rfl (e := 80) rfl rfl ?_
                refine wx_iload rfl (e := 82) rfl rfl ?_
                refine wx_ic_gt rfl (e := 85) rfl (fun c_82 => ?_) (fun c_82 => ?_)
                · have hG : am1 (wdS (gT s) (gR s) k1 k2) (c + 1) = (nI c, (wdS (gT s) (gR s) k1 k2) c) := am1_gt (Or.inr c_82)
                  refine wx_iload rfl (e := 90) rfl rfl ?_
                  refine wx_istore (L2 := [_, _, _, _, _, _, _, _]) rfl (e := 92) rfl (by decide) rfl ?_
                  refine wx_iload rfl (e := 94) rfl rfl ?_
                  refine wx_istore (L2 := [_, _, _, _, _, _, _, _]) rfl (e := 96) rfl (by decide) rfl ?_
                  refine wn_iinc (m := 1) (L2 := [_, _, _, _, _, _, _, _]) rfl (e := 99) rfl rfl (by decide) rfl ?_
                  refine wx_goto rfl ?_
                  have hh := ih (c + 1) I4 (by omega) (by omega) (f2.tr (f3.tr f4))
                  rw [hG] at hh
                  exact hh _
                · have hG : am1 (wdS (gT s) (gR s) k1 k2) (c + 1) = am1 (wdS (gT s) (gR s) k1 k2) c := am1_le c_75 (Int32.not_lt.mp c_82)
                  refine wx_goto rfl ?_
                  refine wn_iinc (m := 1) (L2 := [_, _, _, _, _, _, _, _]) rfl (e := 99) rfl rfl (by decide) rfl ?_
                  refine wx_goto rfl ?_
                  have hh := ih (c + 1) I4 (by omega) (by omega) (f2.tr (f3.tr f4))
                  rw [hG] at hh
                  exact hh _
        exact loop (tC (gT s) + 1) 0 I (by omega) (by omega) fmq.rf _
      · have f_3 : wiS w (0) (1) = false := wi_n no3
        refine wn_if_ne rfl (e := 24) rfl (by omega) (fun c_21 => absurd c_21 (by omega)) (fun c_21 => ?_)
        refine wx_ldcw (v := (-100000)) rfl (e := 27) rfl (by decide) ?_
        refine wx_iret rfl rfl rfl ⟨by decide, by decide⟩ ?_
        simp only [aWorth, f_1, g_1, f_2, g_2, f_3, Bool.and_true, Bool.true_and, Bool.false_and, Bool.and_false, Bool.false_eq_true, eq_self, if_true, if_false] at hq
        exact hq I fmq.rf
    · have f_2 : wiS n (1) (24) = false := wi_n no2
      refine wn_if_eq rfl (e := 15) rfl (by omega) (fun c_12 => ?_) (fun c_12 => absurd c_12 (by omega))
      refine wx_ldcw (v := (-100000)) rfl (e := 27) rfl (by decide) ?_
      refine wx_iret rfl rfl rfl ⟨by decide, by decide⟩ ?_
      simp only [aWorth, f_1, g_1, f_2, Bool.and_true, Bool.true_and, Bool.false_and, Bool.and_false, Bool.false_eq_true, eq_self, if_true, if_false] at hq
      exact hq I fmq.rf
  · have f_1 : inS e (tR (gT s)) = false := in_n no1
    refine wn_if_eq rfl (e := 8) rfl (by omega) (fun c_5 => ?_) (fun c_5 => absurd c_5 (by omega))
    refine wx_ldcw (v := (-100000)) rfl (e := 27) rfl (by decide) ?_
    refine wx_iret rfl rfl rfl ⟨by decide, by decide⟩ ?_
    simp only [aWorth, f_1, Bool.and_true, Bool.true_and, Bool.false_and, Bool.and_false, Bool.false_eq_true, eq_self, if_true, if_false] at hq
    exact hq I fmq.rf

/-! the calls of the model: beliefs, what was told, counts -/
theorem ct_up (h1 h0 p n : Nat) : ctC h1 h0 p n = decide (p * loN (rwN h1 n n) (rwN h0 n n) ≤ 100 * upN (rwN h1 n n) (rwN h0 n n)) := by
  unfold ctC upN loN
  generalize rwN h1 n n = y
  generalize rwN h0 n n = z
  by_cases hz : y + z = 0
  · rw [if_neg (by omega), if_pos hz, if_pos hz]
  · rw [if_pos (by omega), if_neg hz, if_neg hz]
    have hg := (gcd_pos_of hz).1
    obtain ⟨a, ha⟩ := Nat.gcd_dvd_left (y + z) y
    obtain ⟨b, hb⟩ := Nat.gcd_dvd_right (y + z) y
    generalize Nat.gcd (y + z) y = g at *
    have e1 : (y + z) / g = a := by rw [ha]; exact Nat.mul_div_cancel_left a hg
    have e2 : y / g = b := by rw [hb]; exact Nat.mul_div_cancel_left b hg
    rw [e1, e2]
    have e3 : p * (y + z) = g * (p * a) := by rw [ha, Nat.mul_left_comm]
    have e4 : y * 100 = g * (100 * b) := by rw [hb, Nat.mul_assoc, Nat.mul_comm b 100]
    rw [e3, e4]
    by_cases q : p * a ≤ 100 * b
    · rw [decide_eq_true q, decide_eq_true (Nat.mul_le_mul_left g q)]
    · rw [decide_eq_false q, decide_eq_false (fun w => q (Nat.le_of_mul_le_mul_left w hg))]
theorem up_le (y z : Nat) : upN y z ≤ y + 1 ∧ loN y z ≤ y + z + 2 := by
  unfold upN loN
  by_cases hz : y + z = 0
  · rw [if_pos hz, if_pos hz]; omega
  · rw [if_neg hz, if_neg hz]
    have h1 := Nat.div_le_self y (Nat.gcd (y + z) y)
    have h2 := Nat.div_le_self (y + z) (Nat.gcd (y + z) y)
    omega
theorem bl_t (y z : Nat) : blS y z true = nI (loN y z) := by
  unfold blS loN
  by_cases hz : y + z = 0
  · rw [if_pos hz, if_pos hz]; rfl
  · rw [if_neg hz, if_neg hz]; rfl
theorem bl_f (y z : Nat) : blS y z false = nI (upN y z) := by
  unfold blS upN
  by_cases hz : y + z = 0
  · rw [if_pos hz, if_pos hz]; rfl
  · rw [if_neg hz, if_neg hz]; rfl
theorem c_X11_belief {d Lx t rt u : Nat} {I : Nat → Nat → Int32} {G : Nat → Nat → Int64} {Q : ab_Q} {s : gs} {n0 lv : Nat} (hI : MI lv I s) (hg : gok n0 s) {b : Bool} {e a n k : Int32} (hq : ∀ I2, fmq I I2 → Q (some (.int (aBelief s e a n k b))) (hp Lx t rt u I2 G)) : ab_call ab_MT (d + 5) 286 [.ref 55, .int e, .int a, .int n, .int k, .int (b1 b)] (hp Lx t rt u I G) 0 0 Q := by
  obtain ⟨hM, hD1, hNr, hHh, hSs, hDd, hPp, hpl⟩ := id hI
  obtain ⟨hlv, ⟨hC6, hR6, hP5, hH, hTf, hFn, hLx⟩, m18, m65, m69, m72, m76, m71, m89, m73, mL⟩ := id hM
  have hL := hg.1.1
  have hr := hL.2.1
  have hb := hg.1.2.1
  refine wx_in (M := mX11_belief) rfl rfl rfl (Nat.le_of_ble_eq_true rfl) ?_
  refine wx_aload_n rfl (e := 1) rfl rfl ?_
  refine wx_iload_n rfl (e := 2) rfl rfl ?_
  refine wx_cv1 (mc := 0) (ms := 0) rfl (e := 5) rfl rfl (Nat.le_of_ble_eq_true rfl) ⟨by decide, by decide⟩ ?_
  refine c_X11_isRelic hM (fun k1 hk1 ek1 => ?_) (fun no1 => ?_)
  · subst ek1
    have f_1 : inS (nI k1) (tR (gT s)) = true := in_y hk1 (by omega)
    have g_1 : kS (nI k1) = k1 := kS_n (by omega)
    refine wn_if_eq rfl (e := 8) rfl (by omega) (fun c_5 => absurd c_5 (by omega)) (fun c_5 => ?_)
    refine wx_aload_n rfl (e := 9) rfl rfl ?_
    refine wx_iload_n rfl (e := 10) rfl rfl ?_
    refine wx_cv1 (mc := 0) (ms := 0) rfl (e := 13) rfl rfl (Nat.le_of_ble_eq_true rfl) ⟨by decide, by decide⟩ ?_
    refine c_X11_isPilgrim hM (fun k2 hk2 ek2 => ?_) (fun no2 => ?_)
    · subst ek2
      have f_2 : inS (nI k2) (tP (gT s)) = true := in_y hk2 (by omega)
      have g_2 : kS (nI k2) = k2 := kS_n (by omega)
      refine wn_if_eq rfl (e := 16) rfl (by omega) (fun c_13 => absurd c_13 (by omega)) (fun c_13 => ?_)
      refine wx_iload_n rfl (e := 17) rfl rfl ?_
      refine wx_iconst (v := (nI 0)) rfl (e := 18) rfl (by decide) ?_
      refine wx_iconst (v := (nI 4)) rfl (e := 19) rfl (by decide) ?_
      refine wx_cs3 (mc := 0) (ms := 0) rfl (e := 22) rfl (Nat.le_of_ble_eq_true rfl) ⟨by decide, by decide⟩ ?_
      refine c_X11_in (lo := 0) (hi := 4) (by omega) (by omega) (fun k3 a3 b3 ek3 => ?_) (fun no3 => ?_)
      · subst ek3
        have f_3 : wiS (nI k3) (0) (4) = true := wi_y a3 b3 (by omega)
        have g_3 : kS (nI k3) = k3 := kS_n (by omega)
        refine wn_if_eq rfl (e := 25) rfl (by omega) (fun c_22 => absurd c_22 (by omega)) (fun c_22 => ?_)
        refine wx_iload rfl (e := 27) rfl rfl ?_
        refine wx_iconst (v := (nI 0)) rfl (e := 28) rfl (by decide) ?_
        refine wx_iload_n rfl (e := 29) rfl rfl ?_
        refine wx_cs3 (mc := 0) (ms := 0) rfl (e := 32) rfl (Nat.le_of_ble_eq_true rfl) ⟨by decide, by decide⟩ ?_
        refine c_X11_in (lo := 0) (hi := k3) (by omega) (by omega) (fun k4 a4 b4 ek4 => ?_) (fun no4 => ?_)
        · subst ek4
          have f_4 : wiS (nI k4) (0) (k3) = true := wi_y a4 b4 (by omega)
          have g_4 : kS (nI k4) = k4 := kS_n (by omega)
          refine wn_if_ne rfl (e := 35) rfl (by omega) (fun c_32 => ?_) (fun c_32 => absurd c_32 (by omega))
          refine wx_aload_n rfl (e := 38) rfl rfl ?_
          refine wx_iload_n rfl (e := 39) rfl rfl ?_
          refine wx_iload_n rfl (e := 40) rfl rfl ?_
          refine wx_iload_n rfl (e := 41) rfl rfl ?_
          refine wx_iload rfl (e := 43) rfl rfl ?_
          refine wx_cv4 (mc := 0) (ms := 0) rfl (e := 46) rfl rfl (Nat.le_of_ble_eq_true rfl) ⟨by decide, by decide⟩ ?_
          refine c_X11_fillsBelief hM hNr hL hk1 hk2 (by omega) (by omega) (fun I3 f3 u3 l3 => ?_)
          refine wx_iload rfl (e := 48) rfl rfl ?_
          refine wx_if_eq rfl (e := 51) rfl (fun c_48 => ?_) (fun c_48 => ?_)
          · refine wx_aload_n rfl (e := 59) rfl rfl ?_
            refine wx_geti rfl (e := 62) rfl rfl ?_
            rw [u3]
            refine wx_iret rfl rfl rfl ⟨by decide, by decide⟩ ?_
            simp only [aBelief, f_1, g_1, f_2, g_2, f_3, g_3, f_4, g_4, Bool.and_true, Bool.true_and, Bool.false_and, Bool.and_false, Bool.false_eq_true, eq_self, if_true, if_false] at hq
            rw [b1_0.mp c_48, bl_f] at hq
            exact hq I3 f3
          · refine wx_aload_n rfl (e := 52) rfl rfl ?_
            refine wx_geti rfl (e := 55) rfl rfl ?_
            rw [l3]
            refine wx_goto rfl ?_
            refine wx_iret rfl rfl rfl ⟨by decide, by decide⟩ ?_
            simp only [aBelief, f_1, g_1, f_2, g_2, f_3, g_3, f_4, g_4, Bool.and_true, Bool.true_and, Bool.false_and, Bool.and_false, Bool.false_eq_true, eq_self, if_true, if_false] at hq
            rw [b1_n0.mp c_48, bl_t] at hq
            exact hq I3 f3
        · have f_4 : wiS k (0) (k3) = false := wi_n no4
          refine wn_if_ne rfl (e := 35) rfl (by omega) (fun c_32 => absurd c_32 (by omega)) (fun c_32 => ?_)
          refine wx_iconst (v := (-1)) rfl (e := 36) rfl (by decide) ?_
          refine wx_iret rfl rfl rfl ⟨by decide, by decide⟩ ?_
          simp only [aBelief, f_1, g_1, f_2, g_2, f_3, g_3, f_4, Bool.and_true, Bool.true_and, Bool.false_and, Bool.and_false, Bool.false_eq_true, eq_self, if_true, if_false] at hq
          exact hq I fmq.rf
      · have f_3 : wiS n (0) (4) = false := wi_n no3
        refine wn_if_eq rfl (e := 25) rfl (by omega) (fun c_22 => ?_) (fun c_22 => absurd c_22 (by omega))
        refine wx_iconst (v := (-1)) rfl (e := 36) rfl (by decide) ?_
        refine wx_iret rfl rfl rfl ⟨by decide, by decide⟩ ?_
        simp only [aBelief, f_1, g_1, f_2, g_2, f_3, Bool.and_true, Bool.true_and, Bool.false_and, Bool.and_false, Bool.false_eq_true, eq_self, if_true, if_false] at hq
        exact hq I fmq.rf
    · have f_2 : inS a (tP (gT s)) = false := in_n no2
      refine wn_if_eq rfl (e := 16) rfl (by omega) (fun c_13 => ?_) (fun c_13 => absurd c_13 (by omega))
      refine wx_iconst (v := (-1)) rfl (e := 36) rfl (by decide) ?_
      refine wx_iret rfl rfl rfl ⟨by decide, by decide⟩ ?_
      simp only [aBelief, f_1, g_1, f_2, Bool.and_true, Bool.true_and, Bool.false_and, Bool.and_false, Bool.false_eq_true, eq_self, if_true, if_false] at hq
      exact hq I fmq.rf
  · have f_1 : inS e (tR (gT s)) = false := in_n no1
    refine wn_if_eq rfl (e := 8) rfl (by omega) (fun c_5 => ?_) (fun c_5 => absurd c_5 (by omega))
    refine wx_iconst (v := (-1)) rfl (e := 36) rfl (by decide) ?_
    refine wx_iret rfl rfl rfl ⟨by decide, by decide⟩ ?_
    simp only [aBelief, f_1, Bool.and_true, Bool.true_and, Bool.false_and, Bool.and_false, Bool.false_eq_true, eq_self, if_true, if_false] at hq
    exact hq I fmq.rf
set_option maxHeartbeats 1000000 in
theorem c_X11_certain {d Lx t rt u : Nat} {I : Nat → Nat → Int32} {G : Nat → Nat → Int64} {Q : ab_Q} {s : gs} {n0 lv : Nat} (hI : MI lv I s) (hg : gok n0 s) {e a p : Int32}  (hq : ∀ I2, fmq I I2 → Q (some (.int (aCertain s e a p))) (hp Lx t rt u I2 G)) : ab_call ab_MT (d + 5) 287 [.ref 55, .int e, .int a, .int p] (hp Lx t rt u I G) 0 0 Q := by
  obtain ⟨hM, hD1, hNr, hHh, hSs, hDd, hPp, hpl⟩ := id hI
  obtain ⟨hlv, ⟨hC6, hR6, hP5, hH, hTf, hFn, hLx⟩, m18, m65, m69, m72, m76, m71, m89, m73, mL⟩ := id hM
  have hL := hg.1.1
  have hr := hL.2.1
  have hb := hg.1.2.1
  refine wx_in (M := mX11_certain) rfl rfl rfl (Nat.le_of_ble_eq_true rfl) ?_
  refine wx_aload_n rfl (e := 1) rfl rfl ?_
  refine wx_iload_n rfl (e := 2) rfl rfl ?_
  refine wx_cv1 (mc := 0) (ms := 0) rfl (e := 5) rfl rfl (Nat.le_of_ble_eq_true rfl) ⟨by decide, by decide⟩ ?_
  refine c_X11_isRelic hM (fun k1 hk1 ek1 => ?_) (fun no1 => ?_)
  · subst ek1
    have f_1 : inS (nI k1) (tR (gT s)) = true := in_y hk1 (by omega)
    have g_1 : kS (nI k1) = k1 := kS_n (by omega)
    refine wn_if_eq rfl (e := 8) rfl (by omega) (fun c_5 => absurd c_5 (by omega)) (fun c_5 => ?_)
    refine wx_aload_n rfl (e := 9) rfl rfl ?_
    refine wx_iload_n rfl (e := 10) rfl rfl ?_
    refine wx_cv1 (mc := 0) (ms := 0) rfl (e := 13) rfl rfl (Nat.le_of_ble_eq_true rfl) ⟨by decide, by decide⟩ ?_
    refine c_X11_isPilgrim hM (fun k2 hk2 ek2 => ?_) (fun no2 => ?_)
    · subst ek2
      have f_2 : inS (nI k2) (tP (gT s)) = true := in_y hk2 (by omega)
      have g_2 : kS (nI k2) = k2 := kS_n (by omega)
      refine wn_if_eq rfl (e := 16) rfl (by omega) (fun c_13 => absurd c_13 (by omega)) (fun c_13 => ?_)
      refine wx_iload_n rfl (e := 17) rfl rfl ?_
      refine wx_iconst (v := (nI 0)) rfl (e := 18) rfl (by decide) ?_
      refine wx_bipush (v := (nI 100)) rfl (e := 20) rfl (by decide) ?_
      refine wx_cs3 (mc := 0) (ms := 0) rfl (e := 23) rfl (Nat.le_of_ble_eq_true rfl) ⟨by decide, by decide⟩ ?_
      refine c_X11_in (lo := 0) (hi := 100) (by omega) (by omega) (fun k3 a3 b3 ek3 => ?_) (fun no3 => ?_)
      · subst ek3
        have f_3 : wiS (nI k3) (0) (100) = true := wi_y a3 b3 (by omega)
        have g_3 : kS (nI k3) = k3 := kS_n (by omega)
        refine wn_if_ne rfl (e := 26) rfl (by omega) (fun c_23 => ?_) (fun c_23 => absurd c_23 (by omega))
        refine wx_iconst (v := (nI 0)) rfl (e := 29) rfl (by decide) ?_
        refine wx_istore (L2 := [_, _, _, _, _]) rfl (e := 31) rfl (by decide) rfl ?_
        simp only [aCertain, f_1, g_1, f_2, g_2, f_3, g_3, Bool.and_true, Bool.true_and, Bool.false_and, Bool.and_false, Bool.false_eq_true, eq_self, if_true, if_false] at hq
        have loop : ∀ (f n : Nat) (I2 : Nat → Nat → Int32), n + f = 5 → fmq I I2 → ctF (ctC (hN (gT s) (gR s) k1 k2 (nI 1)) (hN (gT s) (gR s) k1 k2 (nI 0)) k3) f n = ctF (ctC (hN (gT s) (gR s) k1 k2 (nI 1)) (hN (gT s) (gR s) k1 k2 (nI 0)) k3) 5 0 → WP (d + 4) mX11_certain Q 31 [some (.ref 55), some (.int (nI k1)), some (.int (nI k2)), some (.int (nI k3)), some (.int (nI n))] [] (hp Lx t rt u I2 G) 0 0 := by
          intro f
          induction f with
          | zero =>
            intro n I2 hn f2 hv
            refine wx_iload rfl (e := 33) rfl rfl ?_
            refine wx_iconst (v := (nI 4)) rfl (e := 34) rfl (by decide) ?_
            refine wn_ic_gt rfl (e := 37) rfl (by omega) (by omega) (fun c_34 => ?_) (fun c_34 => absurd c_34 (by omega))
            refine wx_bipush (v := (-2)) rfl (e := 79) rfl (by decide) ?_
            refine wx_iret rfl rfl rfl ⟨by decide, by decide⟩ ?_
            have e : (-2 : Int32) = _ := hv
            rw [← e] at hq
            exact hq I2 f2
          | succ f ih =>
            intro n I2 hn f2 hv
            refine wx_iload rfl (e := 33) rfl rfl ?_
            refine wx_iconst (v := (nI 4)) rfl (e := 34) rfl (by decide) ?_
            refine wn_ic_gt rfl (e := 37) rfl (by omega) (by omega) (fun c_34 => absurd c_34 (by omega)) (fun c_34 => ?_)
            refine wx_aload_n rfl (e := 38) rfl rfl ?_
            refine wx_iload_n rfl (e := 39) rfl rfl ?_
            refine wx_iload_n rfl (e := 40) rfl rfl ?_
            refine wx_iload rfl (e := 42) rfl rfl ?_
            refine wx_iload rfl (e := 44) rfl rfl ?_
            refine wx_cv4 (mc := 0) (ms := 0) rfl (e := 47) rfl rfl (Nat.le_of_ble_eq_true rfl) ⟨by decide, by decide⟩ ?_
            refine c_X11_fillsBelief (f2.T hM) (f2.N hNr) hL hk1 hk2 (by omega) (by omega) (fun I3 f3 u3 l3 => ?_)
            have hY := rw_b (k := n) (heal_n (gT s) (gR s) k1 k2 (nI 1)).1 (show n ≤ 4 by omega)
            have hZ := rw_b (k := n) (heal_n (gT s) (gR s) k1 k2 (nI 0)).1 (show n ≤ 4 by omega)
            have hU := up_le (rwN (hN (gT s) (gR s) k1 k2 (nI 1)) n n) (rwN (hN (gT s) (gR s) k1 k2 (nI 0)) n n)
            have hm := Nat.mul_le_mul (show k3 ≤ 100 by omega) (show loN (rwN (hN (gT s) (gR s) k1 k2 (nI 1)) n n) (rwN (hN (gT s) (gR s) k1 k2 (nI 0)) n n) ≤ 200000002 by omega)
            have hct := ct_up (hN (gT s) (gR s) k1 k2 (nI 1)) (hN (gT s) (gR s) k1 k2 (nI 0)) k3 n
            refine wx_ldc2 (v := 100) rfl (e := 50) rfl (by decide) ?_
            refine wx_aload_n rfl (e := 51) rfl rfl ?_
            refine wx_geti rfl (e := 54) rfl rfl ?_
            rw [u3]
            refine wx_i2l rfl (e := 55) rfl ?_
            rw [nI_l (by omega)]
            refine wx_lmul rfl (e := 56) rfl ?_
            rw [show (100 : Int64) * lN (upN (rwN (hN (gT s) (gR s) k1 k2 (nI 1)) n n) (rwN (hN (gT s) (gR s) k1 k2 (nI 0)) n n)) = lN (100 * upN (rwN (hN (gT s) (gR s) k1 k2 (nI 1)) n n) (rwN (hN (gT s) (gR s) k1 k2 (nI 0)) n n)) from lN_mul 100 _]
            refine wx_iload_n rfl (e := 57) rfl rfl ?_
            refine wx_i2l rfl (e := 58) rfl ?_
            rw [nI_l (by omega)]
            refine wx_aload_n rfl (e := 59) rfl rfl ?_
            refine wx_geti rfl (e := 62) rfl rfl ?_
            rw [l3]
            refine wx_i2l rfl (e := 63) rfl ?_
            rw [nI_l (by omega)]
            refine wx_lmul rfl (e := 64) rfl ?_
            rw [lN_mul]
            refine wx_lcmp rfl (e := 65) rfl ?_
            refine wx_if_lt rfl (e := 68) rfl (fun c_65 => ?_) (fun c_65 => ?_)
            · have hG : ¬ (ctC (hN (gT s) (gR s) k1 k2 (nI 1)) (hN (gT s) (gR s) k1 k2 (nI 0)) k3) n = true := by
                rw [hct, decide_eq_true_iff]; have := (pk_lLT (by omega) (by omega)).mp ((lg_cmp_lt _ _).mp c_65); omega
              refine wn_iinc (m := 1) (L2 := [_, _, _, _, _]) rfl (e := 74) rfl rfl (by decide) rfl ?_
              refine wx_goto rfl ?_
              rw [ctF, if_neg hG] at hv
              exact ih (n + 1) I3 (by omega) (f2.tr f3) hv
            · have hG : (ctC (hN (gT s) (gR s) k1 k2 (nI 1)) (hN (gT s) (gR s) k1 k2 (nI 0)) k3) n = true := by
                rw [hct, decide_eq_true_iff]; have := (not_congr (pk_lLT (by omega) (by omega))).mp (fun z => c_65 ((lg_cmp_lt _ _).mpr z)); omega
              refine wx_iload rfl (e := 70) rfl rfl ?_
              refine wx_iret rfl rfl rfl ⟨by decide, by decide⟩ ?_
              rw [ctF, if_pos hG] at hv
              rw [← hv] at hq
              exact hq I3 (f2.tr f3)
        exact loop 5 0 I (by omega) fmq.rf rfl
      · have f_3 : wiS p (0) (100) = false := wi_n no3
        refine wn_if_ne rfl (e := 26) rfl (by omega) (fun c_23 => absurd c_23 (by omega)) (fun c_23 => ?_)
        refine wx_iconst (v := (-1)) rfl (e := 27) rfl (by decide) ?_
        refine wx_iret rfl rfl rfl ⟨by decide, by decide⟩ ?_
        simp only [aCertain, f_1, g_1, f_2, g_2, f_3, Bool.and_true, Bool.true_and, Bool.false_and, Bool.and_false, Bool.false_eq_true, eq_self, if_true, if_false] at hq
        exact hq I fmq.rf
    · have f_2 : inS a (tP (gT s)) = false := in_n no2
      refine wn_if_eq rfl (e := 16) rfl (by omega) (fun c_13 => ?_) (fun c_13 => absurd c_13 (by omega))
      refine wx_iconst (v := (-1)) rfl (e := 27) rfl (by decide) ?_
      refine wx_iret rfl rfl rfl ⟨by decide, by decide⟩ ?_
      simp only [aCertain, f_1, g_1, f_2, Bool.and_true, Bool.true_and, Bool.false_and, Bool.and_false, Bool.false_eq_true, eq_self, if_true, if_false] at hq
      exact hq I fmq.rf
  · have f_1 : inS e (tR (gT s)) = false := in_n no1
    refine wn_if_eq rfl (e := 8) rfl (by omega) (fun c_5 => ?_) (fun c_5 => absurd c_5 (by omega))
    refine wx_iconst (v := (-1)) rfl (e := 27) rfl (by decide) ?_
    refine wx_iret rfl rfl rfl ⟨by decide, by decide⟩ ?_
    simp only [aCertain, f_1, Bool.and_true, Bool.true_and, Bool.false_and, Bool.and_false, Bool.false_eq_true, eq_self, if_true, if_false] at hq
    exact hq I fmq.rf
theorem c_X11_whose {d Lx t rt u : Nat} {I : Nat → Nat → Int32} {G : Nat → Nat → Int64} {Q : ab_Q} {s : gs} {n0 lv : Nat} (hI : MI lv I s) (hg : gok n0 s) {k w : Int32}  (hq : ∀ I2, fmq I I2 → Q (some (.int (aWhose s k w))) (hp Lx t rt u I2 G)) : ab_call ab_MT (d + 8) 292 [.ref 55, .int k, .int w] (hp Lx t rt u I G) 0 0 Q := by
  obtain ⟨hM, hD1, hNr, hHh, hSs, hDd, hPp, hpl⟩ := id hI
  obtain ⟨hlv, ⟨hC6, hR6, hP5, hH, hTf, hFn, hLx⟩, m18, m65, m69, m72, m76, m71, m89, m73, mL⟩ := id hM
  have hL := hg.1.1
  have hr := hL.2.1
  have hb := hg.1.2.1
  have hwm := hDd.1
  refine wx_in (M := mX11_whose) rfl rfl rfl (Nat.le_of_ble_eq_true rfl) ?_
  refine wx_iload_n rfl (e := 1) rfl rfl ?_
  refine wx_iconst (v := (nI 0)) rfl (e := 2) rfl (by decide) ?_
  refine wx_aload_n rfl (e := 3) rfl rfl ?_
  refine wx_geti rfl (e := 6) rfl rfl ?_
  rw [hDd.2.1]
  refine wx_cs3 (mc := 0) (ms := 0) rfl (e := 9) rfl (Nat.le_of_ble_eq_true rfl) ⟨by decide, by decide⟩ ?_
  refine c_X11_in (lo := 0) (hi := (gW s).2.2) (by omega) (by omega) (fun k1 a1 b1 ek1 => ?_) (fun no1 => ?_)
  · subst ek1
    have f_1 : wiS (nI k1) (0) ((gW s).2.2) = true := wi_y a1 b1 (by omega)
    have g_1 : kS (nI k1) = k1 := kS_n (by omega)
    refine wn_if_eq rfl (e := 12) rfl (by omega) (fun c_9 => absurd c_9 (by omega)) (fun c_9 => ?_)
    refine wx_iload_n rfl (e := 13) rfl rfl ?_
    refine wx_iconst (v := (nI 0)) rfl (e := 14) rfl (by decide) ?_
    refine wx_iconst (v := (nI 1)) rfl (e := 15) rfl (by decide) ?_
    refine wx_cs3 (mc := 0) (ms := 0) rfl (e := 18) rfl (Nat.le_of_ble_eq_true rfl) ⟨by decide, by decide⟩ ?_
    refine c_X11_in (lo := 0) (hi := 1) (by omega) (by omega) (fun k2 a2 b2 ek2 => ?_) (fun no2 => ?_)
    · subst ek2
      have f_2 : wiS (nI k2) (0) (1) = true := wi_y a2 b2 (by omega)
      have g_2 : kS (nI k2) = k2 := kS_n (by omega)
      refine wn_if_ne rfl (e := 21) rfl (by omega) (fun c_18 => ?_) (fun c_18 => absurd c_18 (by omega))
      refine wx_aload_n rfl (e := 24) rfl rfl ?_
      refine wx_iload_n rfl (e := 25) rfl rfl ?_
      refine wx_cv1 (mc := 0) (ms := 0) rfl (e := 28) rfl rfl (Nat.le_of_ble_eq_true rfl) ⟨by decide, by decide⟩ ?_
      refine c_X11_whoseBits hM hNr hL hDd (fun j hj => by have := hg.2.2.2 j hj; omega) (k := k1) (by omega) (fun I2 f2 w2 => ?_)
      show WP _ _ _ _ _ (.int (nI (bsF (rlS s k1))) :: _) _ _ _
      have hlt := bs_lt (rlS s k1)
      refine wx_istore_n (L2 := [_, _, _, _]) rfl (e := 29) rfl (by decide) rfl ?_
      refine wx_iload_n rfl (e := 30) rfl rfl ?_
      refine wn_if_ne rfl (e := 33) rfl (by omega) (fun c_30 => ?_) (fun c_30 => ?_)
      · refine wx_iload_n rfl (e := 41) rfl rfl ?_
        refine wx_iret rfl rfl rfl ⟨by decide, by decide⟩ ?_
        simp only [aWhose, f_1, g_1, f_2, g_2, Bool.and_true, Bool.true_and, Bool.false_and, Bool.and_false, Bool.false_eq_true, eq_self, if_true, if_false] at hq
        rw [if_neg c_30] at hq
        exact hq I2 f2
      · refine wx_iload_n rfl (e := 34) rfl rfl ?_
        refine wx_cs1 (mc := 0) (ms := 0) rfl (e := 37) rfl (Nat.le_of_ble_eq_true rfl) ⟨by decide, by decide⟩ ?_
        refine c_X11_bits ?_
        refine wx_goto rfl ?_
        refine wx_iret rfl rfl rfl ⟨by decide, by decide⟩ ?_
        simp only [aWhose, f_1, g_1, f_2, g_2, Bool.and_true, Bool.true_and, Bool.false_and, Bool.and_false, Bool.false_eq_true, eq_self, if_true, if_false] at hq
        rw [if_pos c_30] at hq
        exact hq I2 f2
    · have f_2 : wiS w (0) (1) = false := wi_n no2
      refine wn_if_ne rfl (e := 21) rfl (by omega) (fun c_18 => absurd c_18 (by omega)) (fun c_18 => ?_)
      refine wx_iconst (v := (-1)) rfl (e := 22) rfl (by decide) ?_
      refine wx_iret rfl rfl rfl ⟨by decide, by decide⟩ ?_
      simp only [aWhose, f_1, g_1, f_2, Bool.and_true, Bool.true_and, Bool.false_and, Bool.and_false, Bool.false_eq_true, eq_self, if_true, if_false] at hq
      exact hq I fmq.rf
  · have f_1 : wiS k (0) ((gW s).2.2) = false := wi_n no1
    refine wn_if_eq rfl (e := 12) rfl (by omega) (fun c_9 => ?_) (fun c_9 => absurd c_9 (by omega))
    refine wx_iconst (v := (-1)) rfl (e := 22) rfl (by decide) ?_
    refine wx_iret rfl rfl rfl ⟨by decide, by decide⟩ ?_
    simp only [aWhose, f_1, Bool.and_true, Bool.true_and, Bool.false_and, Bool.and_false, Bool.false_eq_true, eq_self, if_true, if_false] at hq
    exact hq I fmq.rf
set_option maxHeartbeats 2000000 in
theorem c_X11_ask {d Lx t rt u : Nat} {I : Nat → Nat → Int32} {G : Nat → Nat → Int64} {Q : ab_Q} {s : gs} {n0 lv : Nat} (hI : MI lv I s) (hg : gok n0 s) {k : Int32}  (hq : ∀ I2, fmq I I2 → Q (some (.int (aAsk s k))) (hp Lx t rt u I2 G)) : ab_call ab_MT (d + 8) 293 [.ref 55, .int k] (hp Lx t rt u I G) 0 0 Q := by
  obtain ⟨hM, hD1, hNr, hHh, hSs, hDd, hPp, hpl⟩ := id hI
  obtain ⟨hlv, ⟨hC6, hR6, hP5, hH, hTf, hFn, hLx⟩, m18, m65, m69, m72, m76, m71, m89, m73, mL⟩ := id hM
  have hL := hg.1.1
  have hr := hL.2.1
  have hb := hg.1.2.1
  have hwm := hDd.1
  refine wx_in (M := mX11_ask) rfl rfl rfl (Nat.le_of_ble_eq_true rfl) ?_
  refine wx_iload_n rfl (e := 1) rfl rfl ?_
  refine wx_iconst (v := (nI 0)) rfl (e := 2) rfl (by decide) ?_
  refine wx_aload_n rfl (e := 3) rfl rfl ?_
  refine wx_geti rfl (e := 6) rfl rfl ?_
  rw [hDd.2.1]
  refine wx_cs3 (mc := 0) (ms := 0) rfl (e := 9) rfl (Nat.le_of_ble_eq_true rfl) ⟨by decide, by decide⟩ ?_
  refine c_X11_in (lo := 0) (hi := (gW s).2.2) (by omega) (by omega) (fun k1 a1 b1 ek1 => ?_) (fun no1 => ?_)
  · subst ek1
    have f_1 : wiS (nI k1) (0) ((gW s).2.2) = true := wi_y a1 b1 (by omega)
    have g_1 : kS (nI k1) = k1 := kS_n (by omega)
    refine wn_if_ne rfl (e := 12) rfl (by omega) (fun c_9 => ?_) (fun c_9 => absurd c_9 (by omega))
    refine wx_aload_n rfl (e := 15) rfl rfl ?_
    refine wx_iload_n rfl (e := 16) rfl rfl ?_
    refine wx_cv1 (mc := 0) (ms := 0) rfl (e := 19) rfl rfl (Nat.le_of_ble_eq_true rfl) ⟨by decide, by decide⟩ ?_
    refine c_X11_whoseBits hM hNr hL hDd (fun j hj => by have := hg.2.2.2 j hj; omega) (k := k1) (by omega) (fun I2 f2 w2 => ?_)
    show WP _ _ _ _ _ (.int (nI (bsF (rlS s k1))) :: _) _ _ _
    have hlt := bs_lt (rlS s k1)
    refine wx_istore_n (L2 := [_, _, _, _, _, _, _, _]) rfl (e := 20) rfl (by decide) rfl ?_
    refine wx_bipush (v := (-2)) rfl (e := 22) rfl (by decide) ?_
    refine wx_istore_n (L2 := [_, _, _, _, _, _, _, _]) rfl (e := 23) rfl (by decide) rfl ?_
    refine wx_iconst (v := (nI 0)) rfl (e := 24) rfl (by decide) ?_
    refine wx_istore (L2 := [_, _, _, _, _, _, _, _]) rfl (e := 26) rfl (by decide) rfl ?_
    refine wx_iconst (v := (nI 0)) rfl (e := 27) rfl (by decide) ?_
    refine wx_istore (L2 := [_, _, _, _, _, _, _, _]) rfl (e := 29) rfl (by decide) rfl ?_
    simp only [aAsk, f_1, g_1, Bool.and_true, Bool.true_and, Bool.false_and, Bool.and_false, Bool.false_eq_true, eq_self, if_true, if_false] at hq
    by_cases z0 : bsF (rlS s k1) = 0
    · refine wx_iload rfl (e := 31) rfl rfl ?_
      refine wx_aload_n rfl (e := 32) rfl rfl ?_
      refine wx_getr rfl (e := 35) rfl rfl rfl ?_
      refine wx_aload_n rfl (e := 36) rfl rfl ?_
      refine wx_geti rfl (e := 39) rfl rfl ?_
      rw [f2.2 18 (by decide) (by decide) (by decide) (by decide), m18]
      refine wn_iald rfl (e := 40) rfl rfl (by omega) (by decide) ?_
      rw [f2.c (by omega), m72]
      refine wn_ic_ge rfl (e := 43) rfl (by omega) (by omega) (fun c_40 => ?_) (fun c_40 => ?_)
      · refine wx_iload_n rfl (e := 156) rfl rfl ?_
        refine wx_iret rfl rfl rfl ⟨by decide, by decide⟩ ?_
        rw [if_pos z0] at hq
        exact hq I2 f2
      · refine wx_iload_n rfl (e := 44) rfl rfl ?_
        refine wn_if_eq rfl (e := 47) rfl (by omega) (fun c_44 => ?_) (fun c_44 => absurd c_44 (by omega))
        refine wx_iload_n rfl (e := 156) rfl rfl ?_
        refine wx_iret rfl rfl rfl ⟨by decide, by decide⟩ ?_
        rw [if_pos z0] at hq
        exact hq I2 f2
    · have inner : ∀ a, a < tP (gT s) → (∀ x7, WP (d + 7) mX11_ask Q 102 [some (.ref 55), some (.int (nI k1)), some (.int (nI (bsF (rlS s k1)))), some (.int (amn (asF s k1) a).1), some (.int (amn (asF s k1) a).2), some (.int (nI a)), some (.int (nI (cnF (fun e => (rlS s k1) e && (wdF (gT s) (gR s) a) e)))), x7] [] (hp Lx t rt u I2 G) 0 0) → ∀ (m j : Nat), j ≤ tR (gT s) → tR (gT s) - j < m → WP (d + 7) mX11_ask Q 53 [some (.ref 55), some (.int (nI k1)), some (.int (nI (bsF (rlS s k1)))), some (.int (amn (asF s k1) a).1), some (.int (amn (asF s k1) a).2), some (.int (nI a)), some (.int (nI (ctN (fun e => (rlS s k1) e && (wdF (gT s) (gR s) a) e) j))), some (.int (nI j))] [] (hp Lx t rt u I2 G) 0 0 := by
        intro a ha go m
        induction m with
        | zero => intro j h1 h2; omega
        | succ m ih =>
          intro j h1 h2
          refine wx_iload rfl (e := 55) rfl rfl ?_
          refine wx_aload_n rfl (e := 56) rfl rfl ?_
          refine wx_getr rfl (e := 59) rfl rfl rfl ?_
          refine wx_aload_n rfl (e := 60) rfl rfl ?_
          refine wx_geti rfl (e := 63) rfl rfl ?_
          rw [f2.2 18 (by decide) (by decide) (by decide) (by decide), m18]
          refine wn_iald rfl (e := 64) rfl rfl (by omega) (by decide) ?_
          rw [f2.c (by omega), m69]
          refine wn_ic_ge rfl (e := 67) rfl (by omega) (by omega) (fun c_64 => ?_) (fun c_64 => ?_)
          · have ej : j = tR (gT s) := by omega
            subst ej
            rw [ctN_R hR6 (fun e h1 h2 => by show ((rlS s k1) e && _) = false; rw [show (rlS s k1) e = false from rlF_no h1 k1, Bool.false_and])]
            exact go _
          · refine wx_iload_n rfl (e := 68) rfl rfl ?_
            refine wx_iload rfl (e := 70) rfl rfl ?_
            refine wx_ishr rfl (e := 71) rfl ?_
            refine wx_iconst (v := (nI 1)) rfl (e := 72) rfl (by decide) ?_
            refine wx_iand rfl (e := 73) rfl ?_
            rw [sr_ok _ (by omega)]
            refine wx_iconst (v := (nI 1)) rfl (e := 74) rfl (by decide) ?_
            refine wx_ic_ne rfl (e := 77) rfl (fun c_74 => ?_) (fun c_74 => ?_)
            · have hG : ctN (fun e => (rlS s k1) e && (wdF (gT s) (gR s) a) e) (j + 1) = ctN (fun e => (rlS s k1) e && (wdF (gT s) (gR s) a) e) j := by rw [ctN, if_neg (fun z => c_74 (b1_nI.mpr ((Bool.and_eq_true _ _).mp z).1))]; rfl
              refine wn_iinc (m := 1) (L2 := [_, _, _, _, _, _, _, _]) rfl (e := 99) rfl rfl (by decide) rfl ?_
              refine wx_goto rfl ?_
              have hh := ih (j + 1) (by omega) (by omega)
              rw [hG] at hh
              exact hh
            · have hl := b1_nI.mp c_74
              refine wx_aload_n rfl (e := 78) rfl rfl ?_
              refine wx_getr rfl (e := 81) rfl rfl rfl ?_
              refine wx_bipush (v := (nI 6)) rfl (e := 83) rfl (by decide) ?_
              refine wx_iload rfl (e := 85) rfl rfl ?_
              refine wn_imul rfl (e := 86) rfl ?_
              refine wx_iload rfl (e := 88) rfl rfl ?_
              refine wn_iadd rfl (e := 89) rfl ?_
              refine wn_zald rfl (e := 90) rfl rfl (by omega) (by decide) ?_
              rw [w2 _ (by omega) _ (by omega)]
              refine wx_if_eq rfl (e := 93) rfl (fun c_90 => ?_) (fun c_90 => ?_)
              · have hG : ctN (fun e => (rlS s k1) e && (wdF (gT s) (gR s) a) e) (j + 1) = ctN (fun e => (rlS s k1) e && (wdF (gT s) (gR s) a) e) j := by rw [ctN, if_neg (fun z => absurd ((Bool.and_eq_true _ _).mp z).2 (by rw [b1_0.mp c_90]; decide))]; rfl
                refine wn_iinc (m := 1) (L2 := [_, _, _, _, _, _, _, _]) rfl (e := 99) rfl rfl (by decide) rfl ?_
                refine wx_goto rfl ?_
                have hh := ih (j + 1) (by omega) (by omega)
                rw [hG] at hh
                exact hh
              · have hG : ctN (fun e => (rlS s k1) e && (wdF (gT s) (gR s) a) e) (j + 1) = ctN (fun e => (rlS s k1) e && (wdF (gT s) (gR s) a) e) j + 1 := by rw [ctN, if_pos ((Bool.and_eq_true _ _).mpr ⟨hl, b1_n0.mp c_90⟩)]
                refine wn_iinc (m := 1) (L2 := [_, _, _, _, _, _, _, _]) rfl (e := 96) rfl rfl (by decide) rfl ?_
                refine wn_iinc (m := 1) (L2 := [_, _, _, _, _, _, _, _]) rfl (e := 99) rfl rfl (by decide) rfl ?_
                refine wx_goto rfl ?_
                have hh := ih (j + 1) (by omega) (by omega)
                rw [hG] at hh
                exact hh
      have outer : ∀ (m : Nat) (a : Nat), a ≤ tP (gT s) → tP (gT s) - a < m → ∀ x6 x7, WP (d + 7) mX11_ask Q 29 [some (.ref 55), some (.int (nI k1)), some (.int (nI (bsF (rlS s k1)))), some (.int (amn (asF s k1) a).1), some (.int (amn (asF s k1) a).2), some (.int (nI a)), x6, x7] [] (hp Lx t rt u I2 G) 0 0 := by
        intro m
        induction m with
        | zero => intro a h1 h2 x6 x7; omega
        | succ m ih =>
          intro a h1 h2 x6 x7
          refine wx_iload rfl (e := 31) rfl rfl ?_
          refine wx_aload_n rfl (e := 32) rfl rfl ?_
          refine wx_getr rfl (e := 35) rfl rfl rfl ?_
          refine wx_aload_n rfl (e := 36) rfl rfl ?_
          refine wx_geti rfl (e := 39) rfl rfl ?_
          rw [f2.2 18 (by decide) (by decide) (by decide) (by decide), m18]
          refine wn_iald rfl (e := 40) rfl rfl (by omega) (by decide) ?_
          rw [f2.c (by omega), m72]
          refine wn_ic_ge rfl (e := 43) rfl (by omega) (by omega) (fun c_40 => ?_) (fun c_40 => ?_)
          · refine wx_iload_n rfl (e := 156) rfl rfl ?_
            refine wx_iret rfl rfl rfl ⟨by decide, by decide⟩ ?_
            have ea : a = tP (gT s) := by omega
            subst ea
            rw [if_neg z0] at hq
            exact hq I2 f2
          · refine wx_iload_n rfl (e := 44) rfl rfl ?_
            refine wn_if_eq rfl (e := 47) rfl (by omega) (fun c_44 => absurd c_44 (by omega)) (fun c_44 => ?_)
            refine wx_iconst (v := (nI 0)) rfl (e := 48) rfl (by decide) ?_
            refine wx_istore (L2 := [_, _, _, _, _, _, _, _]) rfl (e := 50) rfl (by decide) rfl ?_
            refine wx_iconst (v := (nI 0)) rfl (e := 51) rfl (by decide) ?_
            refine wx_istore (L2 := [_, _, _, _, _, _, _, _]) rfl (e := 53) rfl (by decide) rfl ?_
            refine inner a (by omega) (fun x => ?_) (tR (gT s) + 1) 0 (by omega) (by omega)
            refine wx_iload rfl (e := 104) rfl rfl ?_
            refine wx_iload_n rfl (e := 105) rfl rfl ?_
            refine wx_cs1 (mc := 0) (ms := 0) rfl (e := 108) rfl (Nat.le_of_ble_eq_true rfl) ⟨by decide, by decide⟩ ?_
            refine c_X11_bits ?_
            have hna := cna_ok (rlS s k1) (wdF (gT s) (gR s) a)
            refine wx_iload rfl (e := 110) rfl rfl ?_
            refine wn_isub rfl (e := 111) rfl (by omega) ?_
            refine wn_ic_le rfl (e := 114) rfl (by omega) (by omega) (fun c_111 => ?_) (fun c_111 => ?_)
            · have hw : cnF (rlS s k1) - cnF (fun e => (rlS s k1) e && (wdF (gT s) (gR s) a) e) = wsN (rlS s k1) (wdF (gT s) (gR s) a) := by unfold wsN; omega
              refine wx_iload_n rfl (e := 120) rfl rfl ?_
              refine wx_cs1 (mc := 0) (ms := 0) rfl (e := 123) rfl (Nat.le_of_ble_eq_true rfl) ⟨by decide, by decide⟩ ?_
              refine c_X11_bits ?_
              refine wx_iload rfl (e := 125) rfl rfl ?_
              refine wn_isub rfl (e := 126) rfl (by omega) ?_
              rw [hw]
              refine wx_istore (L2 := [_, _, _, _, _, _, _, _]) rfl (e := 128) rfl (by decide) rfl ?_
              refine wx_iload_n rfl (e := 129) rfl rfl ?_
              refine wx_if_lt rfl (e := 132) rfl (fun c_129 => ?_) (fun c_129 => ?_)
              · rw [← nI_0] at c_129
                have hG : amn (asF s k1) (a + 1) = (nI a, nI (wsN (rlS s k1) (wdF (gT s) (gR s) a))) := by rw [amn]; exact if_pos (Or.inl c_129)
                refine wx_iload rfl (e := 144) rfl rfl ?_
                refine wx_istore_n (L2 := [_, _, _, _, _, _, _, _]) rfl (e := 145) rfl (by decide) rfl ?_
                refine wx_iload rfl (e := 147) rfl rfl ?_
                refine wx_istore (L2 := [_, _, _, _, _, _, _, _]) rfl (e := 149) rfl (by decide) rfl ?_
                refine wn_iinc (m := 1) (L2 := [_, _, _, _, _, _, _, _]) rfl (e := 152) rfl rfl (by decide) rfl ?_
                refine wx_goto rfl ?_
                have hh := fun x6 x7 => ih (a + 1) (by omega) (by omega) x6 x7
                rw [hG] at hh
                exact hh _ _
              · rw [← nI_0] at c_129
                refine wx_iload rfl (e := 134) rfl rfl ?_
                refine wx_iload rfl (e := 136) rfl rfl ?_
                refine wx_ic_lt rfl (e := 139) rfl (fun c_136 => ?_) (fun c_136 => ?_)
                · have hG : amn (asF s k1) (a + 1) = (nI a, nI (wsN (rlS s k1) (wdF (gT s) (gR s) a))) := by rw [amn]; exact if_pos (Or.inr c_136)
                  refine wx_iload rfl (e := 144) rfl rfl ?_
                  refine wx_istore_n (L2 := [_, _, _, _, _, _, _, _]) rfl (e := 145) rfl (by decide) rfl ?_
                  refine wx_iload rfl (e := 147) rfl rfl ?_
                  refine wx_istore (L2 := [_, _, _, _, _, _, _, _]) rfl (e := 149) rfl (by decide) rfl ?_
                  refine wn_iinc (m := 1) (L2 := [_, _, _, _, _, _, _, _]) rfl (e := 152) rfl rfl (by decide) rfl ?_
                  refine wx_goto rfl ?_
                  have hh := fun x6 x7 => ih (a + 1) (by omega) (by omega) x6 x7
                  rw [hG] at hh
                  exact hh _ _
                · have hG : amn (asF s k1) (a + 1) = amn (asF s k1) a := by rw [amn, if_neg (fun z => z.elim c_129 c_136)]
                  refine wx_goto rfl ?_
                  refine wn_iinc (m := 1) (L2 := [_, _, _, _, _, _, _, _]) rfl (e := 152) rfl rfl (by decide) rfl ?_
                  refine wx_goto rfl ?_
                  have hh := fun x6 x7 => ih (a + 1) (by omega) (by omega) x6 x7
                  rw [hG] at hh
                  exact hh _ _
            · have hw : cnF (fun e => (rlS s k1) e && (wdF (gT s) (gR s) a) e) = wsN (rlS s k1) (wdF (gT s) (gR s) a) := by unfold wsN; omega
              refine wx_iload rfl (e := 116) rfl rfl ?_
              rw [hw]
              refine wx_goto rfl ?_
              refine wx_istore (L2 := [_, _, _, _, _, _, _, _]) rfl (e := 128) rfl (by decide) rfl ?_
              refine wx_iload_n rfl (e := 129) rfl rfl ?_
              refine wx_if_lt rfl (e := 132) rfl (fun c_129 => ?_) (fun c_129 => ?_)
              · rw [← nI_0] at c_129
                have hG : amn (asF s k1) (a + 1) = (nI a, nI (wsN (rlS s k1) (wdF (gT s) (gR s) a))) := by rw [amn]; exact if_pos (Or.inl c_129)
                refine wx_iload rfl (e := 144) rfl rfl ?_
                refine wx_istore_n (L2 := [_, _, _, _, _, _, _, _]) rfl (e := 145) rfl (by decide) rfl ?_
                refine wx_iload rfl (e := 147) rfl rfl ?_
                refine wx_istore (L2 := [_, _, _, _, _, _, _, _]) rfl (e := 149) rfl (by decide) rfl ?_
                refine wn_iinc (m := 1) (L2 := [_, _, _, _, _, _, _, _]) rfl (e := 152) rfl rfl (by decide) rfl ?_
                refine wx_goto rfl ?_
                have hh := fun x6 x7 => ih (a + 1) (by omega) (by omega) x6 x7
                rw [hG] at hh
                exact hh _ _
              · rw [← nI_0] at c_129
                refine wx_iload rfl (e := 134) rfl rfl ?_
                refine wx_iload rfl (e := 136) rfl rfl ?_
                refine wx_ic_lt rfl (e := 139) rfl (fun c_136 => ?_) (fun c_136 => ?_)
                · have hG : amn (asF s k1) (a + 1) = (nI a, nI (wsN (rlS s k1) (wdF (gT s) (gR s) a))) := by rw [amn]; exact if_pos (Or.inr c_136)
                  refine wx_iload rfl (e := 144) rfl rfl ?_
                  refine wx_istore_n (L2 := [_, _, _, _, _, _, _, _]) rfl (e := 145) rfl (by decide) rfl ?_
                  refine wx_iload rfl (e := 147) rfl rfl ?_
                  refine wx_istore (L2 := [_, _, _, _, _, _, _, _]) rfl (e := 149) rfl (by decide) rfl ?_
                  refine wn_iinc (m := 1) (L2 := [_, _, _, _, _, _, _, _]) rfl (e := 152) rfl rfl (by decide) rfl ?_
                  refine wx_goto rfl ?_
                  have hh := fun x6 x7 => ih (a + 1) (by omega) (by omega) x6 x7
                  rw [hG] at hh
                  exact hh _ _
                · have hG : amn (asF s k1) (a + 1) = amn (asF s k1) a := by rw [amn, if_neg (fun z => z.elim c_129 c_136)]
                  refine wx_goto rfl ?_
                  refine wn_iinc (m := 1) (L2 := [_, _, _, _, _, _, _, _]) rfl (e := 152) rfl rfl (by decide) rfl ?_
                  refine wx_goto rfl ?_
                  have hh := fun x6 x7 => ih (a + 1) (by omega) (by omega) x6 x7
                  rw [hG] at hh
                  exact hh _ _
      exact outer (tP (gT s) + 1) 0 (by omega) (by omega) _ _
  · have f_1 : wiS k (0) ((gW s).2.2) = false := wi_n no1
    refine wn_if_ne rfl (e := 12) rfl (by omega) (fun c_9 => absurd c_9 (by omega)) (fun c_9 => ?_)
    refine wx_iconst (v := (-1)) rfl (e := 13) rfl (by decide) ?_
    refine wx_iret rfl rfl rfl ⟨by decide, by decide⟩ ?_
    simp only [aAsk, f_1, Bool.and_true, Bool.true_and, Bool.false_and, Bool.and_false, Bool.false_eq_true, eq_self, if_true, if_false] at hq
    exact hq I fmq.rf
set_option maxHeartbeats 1000000 in
theorem c_X11_count {d Lx t rt u : Nat} {I : Nat → Nat → Int32} {G : Nat → Nat → Int64} {Q : ab_Q} {s : gs} {n0 lv : Nat} (hI : MI lv I s) (hg : gok n0 s) {w : Int32}  (hq : ∀ I2, fmq I I2 → Q (some (.int (aCount s w))) (hp Lx t rt u I2 G)) : ab_call ab_MT (d + 2) 297 [.ref 55, .int w] (hp Lx t rt u I G) 0 0 Q := by
  obtain ⟨hM, hD1, hNr, hHh, hSs, hDd, hPp, hpl⟩ := id hI
  obtain ⟨hlv, ⟨hC6, hR6, hP5, hH, hTf, hFn, hLx⟩, m18, m65, m69, m72, m76, m71, m89, m73, mL⟩ := id hM
  have hL := hg.1.1
  have hr := hL.2.1
  have hb := hg.1.2.1
  refine wx_in (M := mX11_count) rfl rfl rfl (Nat.le_of_ble_eq_true rfl) ?_
  refine wx_iload_n rfl (e := 1) rfl rfl ?_
  refine wx_sw rfl (fun c_1 => ?_) (List.forall_mem_cons.mpr ⟨fun c_1 => ?_, (List.forall_mem_cons.mpr ⟨fun c_1 => ?_, (List.forall_mem_cons.mpr ⟨fun c_1 => ?_, (List.forall_mem_cons.mpr ⟨fun c_1 => ?_, (List.forall_mem_cons.mpr ⟨fun c_1 => ?_, (List.forall_mem_cons.mpr ⟨fun c_1 => ?_, (List.forall_mem_cons.mpr ⟨fun c_1 => ?_, (List.forall_mem_cons.mpr ⟨fun c_1 => ?_, (List.forall_mem_cons.mpr ⟨fun c_1 => ?_, (List.forall_mem_cons.mpr ⟨fun c_1 => ?_, (List.forall_mem_cons.mpr ⟨fun c_1 => ?_, (List.forall_mem_cons.mpr ⟨fun c_1 => ?_, (List.forall_mem_cons.mpr ⟨fun c_1 => ?_, (List.forall_mem_cons.mpr ⟨fun c_1 => ?_, (List.forall_mem_cons.mpr ⟨fun c_1 => ?_, (List.forall_mem_cons.mpr ⟨fun c_1 => ?_, (fun _ h => absurd h List.not_mem_nil)⟩)⟩)⟩)⟩)⟩)⟩)⟩)⟩)⟩)⟩)⟩)⟩)⟩)⟩)⟩)⟩)
  · refine wx_iconst (v := (-1)) rfl (e := 281) rfl (by decide) ?_
    refine wx_iret rfl rfl rfl ⟨by decide, by decide⟩ ?_
    simp only [aCount, Bool.and_true, Bool.true_and, Bool.false_and, Bool.and_false, Bool.false_eq_true, eq_self, if_true, if_false] at hq
    rw [if_neg (by omega), if_neg (by omega), if_neg (by omega), if_neg (by omega), if_neg (by omega), if_neg (by omega), if_neg (by omega), if_neg (by omega), if_neg (by omega), if_neg (by omega), if_neg (by omega), if_neg (by omega), if_neg (by omega), if_neg (by omega), if_neg (by omega), if_neg (by omega)] at hq
    exact hq I fmq.rf
  · have c_1 : Int32.toInt _ = 0 := c_1
    show WP _ _ _ _ _ _ _ _ _
    refine wx_aload_n rfl (e := 81) rfl rfl ?_
    refine wx_getr rfl (e := 84) rfl rfl rfl ?_
    refine wx_aload_n rfl (e := 85) rfl rfl ?_
    refine wx_geti rfl (e := 88) rfl rfl ?_
    rw [m18]
    refine wn_iald rfl (e := 89) rfl rfl (by omega) (by decide) ?_
    rw [m65]
    refine wx_iret rfl rfl rfl ⟨by decide, by decide⟩ ?_
    simp only [aCount, Bool.and_true, Bool.true_and, Bool.false_and, Bool.and_false, Bool.false_eq_true, eq_self, if_true, if_false] at hq
    rw [if_pos c_1] at hq
    exact hq I fmq.rf
  · have c_1 : Int32.toInt _ = 1 := c_1
    show WP _ _ _ _ _ _ _ _ _
    refine wx_aload_n rfl (e := 91) rfl rfl ?_
    refine wx_getr rfl (e := 94) rfl rfl rfl ?_
    refine wx_aload_n rfl (e := 95) rfl rfl ?_
    refine wx_geti rfl (e := 98) rfl rfl ?_
    rw [m18]
    refine wn_iald rfl (e := 99) rfl rfl (by omega) (by decide) ?_
    rw [hD1]
    refine wx_iret rfl rfl rfl ⟨by decide, by decide⟩ ?_
    simp only [aCount, Bool.and_true, Bool.true_and, Bool.false_and, Bool.and_false, Bool.false_eq_true, eq_self, if_true, if_false] at hq
    rw [if_neg (by omega), if_pos c_1] at hq
    exact hq I fmq.rf
  · have c_1 : Int32.toInt _ = 2 := c_1
    show WP _ _ _ _ _ _ _ _ _
    refine wx_aload_n rfl (e := 101) rfl rfl ?_
    refine wx_getr rfl (e := 104) rfl rfl rfl ?_
    refine wx_aload_n rfl (e := 105) rfl rfl ?_
    refine wx_geti rfl (e := 108) rfl rfl ?_
    rw [m18]
    refine wn_iald rfl (e := 109) rfl rfl (by omega) (by decide) ?_
    rw [m69]
    refine wx_iret rfl rfl rfl ⟨by decide, by decide⟩ ?_
    simp only [aCount, Bool.and_true, Bool.true_and, Bool.false_and, Bool.and_false, Bool.false_eq_true, eq_self, if_true, if_false] at hq
    rw [if_neg (by omega), if_neg (by omega), if_pos c_1] at hq
    exact hq I fmq.rf
  · have c_1 : Int32.toInt _ = 3 := c_1
    show WP _ _ _ _ _ _ _ _ _
    refine wx_aload_n rfl (e := 111) rfl rfl ?_
    refine wx_getr rfl (e := 114) rfl rfl rfl ?_
    refine wx_aload_n rfl (e := 115) rfl rfl ?_
    refine wx_geti rfl (e := 118) rfl rfl ?_
    rw [m18]
    refine wn_iald rfl (e := 119) rfl rfl (by omega) (by decide) ?_
    rw [m72]
    refine wx_iret rfl rfl rfl ⟨by decide, by decide⟩ ?_
    simp only [aCount, Bool.and_true, Bool.true_and, Bool.false_and, Bool.and_false, Bool.false_eq_true, eq_self, if_true, if_false] at hq
    rw [if_neg (by omega), if_neg (by omega), if_neg (by omega), if_pos c_1] at hq
    exact hq I fmq.rf
  · have c_1 : Int32.toInt _ = 4 := c_1
    show WP _ _ _ _ _ _ _ _ _
    refine wx_aload_n rfl (e := 121) rfl rfl ?_
    refine wx_getr rfl (e := 124) rfl rfl rfl ?_
    refine wx_bipush (v := (nI 46)) rfl (e := 126) rfl (by decide) ?_
    refine wn_iald rfl (e := 127) rfl rfl (by omega) (by decide) ?_
    rw [hNr _ (by omega)]
    refine wx_iret rfl rfl rfl ⟨by decide, by decide⟩ ?_
    simp only [aCount, Bool.and_true, Bool.true_and, Bool.false_and, Bool.and_false, Bool.false_eq_true, eq_self, if_true, if_false] at hq
    rw [if_neg (by omega), if_neg (by omega), if_neg (by omega), if_neg (by omega), if_pos c_1] at hq
    exact hq I fmq.rf
  · have c_1 : Int32.toInt _ = 5 := c_1
    show WP _ _ _ _ _ _ _ _ _
    refine wx_aload_n rfl (e := 129) rfl rfl ?_
    refine wx_bipush (v := (nI 18)) rfl (e := 131) rfl (by decide) ?_
    refine wx_cv1 (mc := 0) (ms := 0) rfl (e := 134) rfl rfl (Nat.le_of_ble_eq_true rfl) ⟨by decide, by decide⟩ ?_
    refine c_X11_sumNow hNr (by omega) ?_
    refine wx_iret rfl rfl rfl ⟨by decide, by decide⟩ ?_
    simp only [aCount, Bool.and_true, Bool.true_and, Bool.false_and, Bool.and_false, Bool.false_eq_true, eq_self, if_true, if_false] at hq
    rw [if_neg (by omega), if_neg (by omega), if_neg (by omega), if_neg (by omega), if_neg (by omega), if_pos c_1] at hq
    exact hq I fmq.rf
  · have c_1 : Int32.toInt _ = 6 := c_1
    show WP _ _ _ _ _ _ _ _ _
    refine wx_aload_n rfl (e := 136) rfl rfl ?_
    refine wx_bipush (v := (nI 24)) rfl (e := 138) rfl (by decide) ?_
    refine wx_cv1 (mc := 0) (ms := 0) rfl (e := 141) rfl rfl (Nat.le_of_ble_eq_true rfl) ⟨by decide, by decide⟩ ?_
    refine c_X11_sumNow hNr (by omega) ?_
    refine wx_iret rfl rfl rfl ⟨by decide, by decide⟩ ?_
    simp only [aCount, Bool.and_true, Bool.true_and, Bool.false_and, Bool.and_false, Bool.false_eq_true, eq_self, if_true, if_false] at hq
    rw [if_neg (by omega), if_neg (by omega), if_neg (by omega), if_neg (by omega), if_neg (by omega), if_neg (by omega), if_pos c_1] at hq
    exact hq I fmq.rf
  · have c_1 : Int32.toInt _ = 7 := c_1
    show WP _ _ _ _ _ _ _ _ _
    refine wx_aload_n rfl (e := 143) rfl rfl ?_
    refine wx_getr rfl (e := 146) rfl rfl rfl ?_
    refine wx_bipush (v := (nI 47)) rfl (e := 148) rfl (by decide) ?_
    refine wn_iald rfl (e := 149) rfl rfl (by omega) (by decide) ?_
    rw [hNr _ (by omega)]
    refine wx_iret rfl rfl rfl ⟨by decide, by decide⟩ ?_
    simp only [aCount, Bool.and_true, Bool.true_and, Bool.false_and, Bool.and_false, Bool.false_eq_true, eq_self, if_true, if_false] at hq
    rw [if_neg (by omega), if_neg (by omega), if_neg (by omega), if_neg (by omega), if_neg (by omega), if_neg (by omega), if_neg (by omega), if_pos c_1] at hq
    exact hq I fmq.rf
  · have c_1 : Int32.toInt _ = 8 := c_1
    show WP _ _ _ _ _ _ _ _ _
    refine wx_aload_n rfl (e := 151) rfl rfl ?_
    refine wx_getr rfl (e := 154) rfl rfl rfl ?_
    refine wx_bipush (v := (nI 48)) rfl (e := 156) rfl (by decide) ?_
    refine wn_iald rfl (e := 157) rfl rfl (by omega) (by decide) ?_
    rw [hNr _ (by omega)]
    refine wx_iret rfl rfl rfl ⟨by decide, by decide⟩ ?_
    simp only [aCount, Bool.and_true, Bool.true_and, Bool.false_and, Bool.and_false, Bool.false_eq_true, eq_self, if_true, if_false] at hq
    rw [if_neg (by omega), if_neg (by omega), if_neg (by omega), if_neg (by omega), if_neg (by omega), if_neg (by omega), if_neg (by omega), if_neg (by omega), if_pos c_1] at hq
    exact hq I fmq.rf
  · have c_1 : Int32.toInt _ = 9 := c_1
    show WP _ _ _ _ _ _ _ _ _
    refine wx_aload_n rfl (e := 159) rfl rfl ?_
    refine wx_bipush (v := (nI 30)) rfl (e := 161) rfl (by decide) ?_
    refine wx_cv1 (mc := 0) (ms := 0) rfl (e := 164) rfl rfl (Nat.le_of_ble_eq_true rfl) ⟨by decide, by decide⟩ ?_
    refine c_X11_sumNow hNr (by omega) ?_
    refine wx_iret rfl rfl rfl ⟨by decide, by decide⟩ ?_
    simp only [aCount, Bool.and_true, Bool.true_and, Bool.false_and, Bool.and_false, Bool.false_eq_true, eq_self, if_true, if_false] at hq
    rw [if_neg (by omega), if_neg (by omega), if_neg (by omega), if_neg (by omega), if_neg (by omega), if_neg (by omega), if_neg (by omega), if_neg (by omega), if_neg (by omega), if_pos c_1] at hq
    exact hq I fmq.rf
  · have c_1 : Int32.toInt _ = 10 := c_1
    show WP _ _ _ _ _ _ _ _ _
    refine wx_aload_n rfl (e := 166) rfl rfl ?_
    refine wx_geti rfl (e := 169) rfl rfl ?_
    rw [hPp.2.1]
    refine wx_iret rfl rfl rfl ⟨by decide, by decide⟩ ?_
    simp only [aCount, Bool.and_true, Bool.true_and, Bool.false_and, Bool.and_false, Bool.false_eq_true, eq_self, if_true, if_false] at hq
    rw [if_neg (by omega), if_neg (by omega), if_neg (by omega), if_neg (by omega), if_neg (by omega), if_neg (by omega), if_neg (by omega), if_neg (by omega), if_neg (by omega), if_neg (by omega), if_pos c_1] at hq
    exact hq I fmq.rf
  · have c_1 : Int32.toInt _ = 11 := c_1
    show WP _ _ _ _ _ _ _ _ _
    refine wx_aload_n rfl (e := 171) rfl rfl ?_
    refine wx_geti rfl (e := 174) rfl rfl ?_
    rw [hHh.2.1]
    refine wx_iret rfl rfl rfl ⟨by decide, by decide⟩ ?_
    simp only [aCount, Bool.and_true, Bool.true_and, Bool.false_and, Bool.and_false, Bool.false_eq_true, eq_self, if_true, if_false] at hq
    rw [if_neg (by omega), if_neg (by omega), if_neg (by omega), if_neg (by omega), if_neg (by omega), if_neg (by omega), if_neg (by omega), if_neg (by omega), if_neg (by omega), if_neg (by omega), if_neg (by omega), if_pos c_1] at hq
    exact hq I fmq.rf
  · have c_1 : Int32.toInt _ = 12 := c_1
    show WP _ _ _ _ _ _ _ _ _
    refine wx_aload_n rfl (e := 176) rfl rfl ?_
    refine wx_geti rfl (e := 179) rfl rfl ?_
    rw [hDd.2.1]
    refine wx_iret rfl rfl rfl ⟨by decide, by decide⟩ ?_
    simp only [aCount, Bool.and_true, Bool.true_and, Bool.false_and, Bool.and_false, Bool.false_eq_true, eq_self, if_true, if_false] at hq
    rw [if_neg (by omega), if_neg (by omega), if_neg (by omega), if_neg (by omega), if_neg (by omega), if_neg (by omega), if_neg (by omega), if_neg (by omega), if_neg (by omega), if_neg (by omega), if_neg (by omega), if_neg (by omega), if_pos c_1] at hq
    exact hq I fmq.rf
  · have c_1 : Int32.toInt _ = 13 := c_1
    show WP _ _ _ _ _ _ _ _ _
    refine wx_aload_n rfl (e := 181) rfl rfl ?_
    refine wx_getr rfl (e := 184) rfl rfl rfl ?_
    refine wx_iconst (v := (nI 0)) rfl (e := 185) rfl (by decide) ?_
    refine wn_zald rfl (e := 186) rfl rfl (by omega) (by decide) ?_
    rw [(hSs 0 (by omega)).1]
    refine wx_if_eq rfl (e := 189) rfl (fun c_186 => ?_) (fun c_186 => ?_)
    · refine wx_iconst (v := (nI 0)) rfl (e := 194) rfl (by decide) ?_
      refine wx_aload_n rfl (e := 195) rfl rfl ?_
      refine wx_getr rfl (e := 198) rfl rfl rfl ?_
      refine wx_iconst (v := (nI 1)) rfl (e := 199) rfl (by decide) ?_
      refine wn_zald rfl (e := 200) rfl rfl (by omega) (by decide) ?_
      rw [(hSs 1 (by omega)).1]
      refine wx_if_eq rfl (e := 203) rfl (fun c_200 => ?_) (fun c_200 => ?_)
      · refine wx_iconst (v := (nI 0)) rfl (e := 208) rfl (by decide) ?_
        refine wn_iadd rfl (e := 209) rfl ?_
        refine wx_aload_n rfl (e := 210) rfl rfl ?_
        refine wx_getr rfl (e := 213) rfl rfl rfl ?_
        refine wx_iconst (v := (nI 2)) rfl (e := 214) rfl (by decide) ?_
        refine wn_zald rfl (e := 215) rfl rfl (by omega) (by decide) ?_
        rw [(hSs 2 (by omega)).1]
        refine wx_if_eq rfl (e := 218) rfl (fun c_215 => ?_) (fun c_215 => ?_)
        · refine wx_iconst (v := (nI 0)) rfl (e := 223) rfl (by decide) ?_
          refine wn_iadd rfl (e := 224) rfl ?_
          refine wx_iret rfl rfl rfl ⟨by decide, by decide⟩ ?_
          simp only [aCount, Bool.and_true, Bool.true_and, Bool.false_and, Bool.and_false, Bool.false_eq_true, eq_self, if_true, if_false] at hq
          rw [if_neg (by omega), if_neg (by omega), if_neg (by omega), if_neg (by omega), if_neg (by omega), if_neg (by omega), if_neg (by omega), if_neg (by omega), if_neg (by omega), if_neg (by omega), if_neg (by omega), if_neg (by omega), if_neg (by omega), if_pos c_1] at hq
          have q0 := b1_0.mp c_186
          have q1 := b1_0.mp c_200
          have q2 := b1_0.mp c_215
          rw [show cntS (gK s).1 3 = 0 from by simp [cntS, q0, q1, q2]] at hq
          exact hq I fmq.rf
        · refine wx_iconst (v := (nI 1)) rfl (e := 219) rfl (by decide) ?_
          refine wx_goto rfl ?_
          refine wn_iadd rfl (e := 224) rfl ?_
          refine wx_iret rfl rfl rfl ⟨by decide, by decide⟩ ?_
          simp only [aCount, Bool.and_true, Bool.true_and, Bool.false_and, Bool.and_false, Bool.false_eq_true, eq_self, if_true, if_false] at hq
          rw [if_neg (by omega), if_neg (by omega), if_neg (by omega), if_neg (by omega), if_neg (by omega), if_neg (by omega), if_neg (by omega), if_neg (by omega), if_neg (by omega), if_neg (by omega), if_neg (by omega), if_neg (by omega), if_neg (by omega), if_pos c_1] at hq
          have q0 := b1_0.mp c_186
          have q1 := b1_0.mp c_200
          have q2 := b1_n0.mp c_215
          rw [show cntS (gK s).1 3 = 1 from by simp [cntS, q0, q1, q2]] at hq
          exact hq I fmq.rf
      · refine wx_iconst (v := (nI 1)) rfl (e := 204) rfl (by decide) ?_
        refine wx_goto rfl ?_
        refine wn_iadd rfl (e := 209) rfl ?_
        refine wx_aload_n rfl (e := 210) rfl rfl ?_
        refine wx_getr rfl (e := 213) rfl rfl rfl ?_
        refine wx_iconst (v := (nI 2)) rfl (e := 214) rfl (by decide) ?_
        refine wn_zald rfl (e := 215) rfl rfl (by omega) (by decide) ?_
        rw [(hSs 2 (by omega)).1]
        refine wx_if_eq rfl (e := 218) rfl (fun c_215 => ?_) (fun c_215 => ?_)
        · refine wx_iconst (v := (nI 0)) rfl (e := 223) rfl (by decide) ?_
          refine wn_iadd rfl (e := 224) rfl ?_
          refine wx_iret rfl rfl rfl ⟨by decide, by decide⟩ ?_
          simp only [aCount, Bool.and_true, Bool.true_and, Bool.false_and, Bool.and_false, Bool.false_eq_true, eq_self, if_true, if_false] at hq
          rw [if_neg (by omega), if_neg (by omega), if_neg (by omega), if_neg (by omega), if_neg (by omega), if_neg (by omega), if_neg (by omega), if_neg (by omega), if_neg (by omega), if_neg (by omega), if_neg (by omega), if_neg (by omega), if_neg (by omega), if_pos c_1] at hq
          have q0 := b1_0.mp c_186
          have q1 := b1_n0.mp c_200
          have q2 := b1_0.mp c_215
          rw [show cntS (gK s).1 3 = 1 from by simp [cntS, q0, q1, q2]] at hq
          exact hq I fmq.rf
        · refine wx_iconst (v := (nI 1)) rfl (e := 219) rfl (by decide) ?_
          refine wx_goto rfl ?_
          refine wn_iadd rfl (e := 224) rfl ?_
          refine wx_iret rfl rfl rfl ⟨by decide, by decide⟩ ?_
          simp only [aCount, Bool.and_true, Bool.true_and, Bool.false_and, Bool.and_false, Bool.false_eq_true, eq_self, if_true, if_false] at hq
          rw [if_neg (by omega), if_neg (by omega), if_neg (by omega), if_neg (by omega), if_neg (by omega), if_neg (by omega), if_neg (by omega), if_neg (by omega), if_neg (by omega), if_neg (by omega), if_neg (by omega), if_neg (by omega), if_neg (by omega), if_pos c_1] at hq
          have q0 := b1_0.mp c_186
          have q1 := b1_n0.mp c_200
          have q2 := b1_n0.mp c_215
          rw [show cntS (gK s).1 3 = 2 from by simp [cntS, q0, q1, q2]] at hq
          exact hq I fmq.rf
    · refine wx_iconst (v := (nI 1)) rfl (e := 190) rfl (by decide) ?_
      refine wx_goto rfl ?_
      refine wx_aload_n rfl (e := 195) rfl rfl ?_
      refine wx_getr rfl (e := 198) rfl rfl rfl ?_
      refine wx_iconst (v := (nI 1)) rfl (e := 199) rfl (by decide) ?_
      refine wn_zald rfl (e := 200) rfl rfl (by omega) (by decide) ?_
      rw [(hSs 1 (by omega)).1]
      refine wx_if_eq rfl (e := 203) rfl (fun c_200 => ?_) (fun c_200 => ?_)
      · refine wx_iconst (v := (nI 0)) rfl (e := 208) rfl (by decide) ?_
        refine wn_iadd rfl (e := 209) rfl ?_
        refine wx_aload_n rfl (e := 210) rfl rfl ?_
        refine wx_getr rfl (e := 213) rfl rfl rfl ?_
        refine wx_iconst (v := (nI 2)) rfl (e := 214) rfl (by decide) ?_
        refine wn_zald rfl (e := 215) rfl rfl (by omega) (by decide) ?_
        rw [(hSs 2 (by omega)).1]
        refine wx_if_eq rfl (e := 218) rfl (fun c_215 => ?_) (fun c_215 => ?_)
        · refine wx_iconst (v := (nI 0)) rfl (e := 223) rfl (by decide) ?_
          refine wn_iadd rfl (e := 224) rfl ?_
          refine wx_iret rfl rfl rfl ⟨by decide, by decide⟩ ?_
          simp only [aCount, Bool.and_true, Bool.true_and, Bool.false_and, Bool.and_false, Bool.false_eq_true, eq_self, if_true, if_false] at hq
          rw [if_neg (by omega), if_neg (by omega), if_neg (by omega), if_neg (by omega), if_neg (by omega), if_neg (by omega), if_neg (by omega), if_neg (by omega), if_neg (by omega), if_neg (by omega), if_neg (by omega), if_neg (by omega), if_neg (by omega), if_pos c_1] at hq
          have q0 := b1_n0.mp c_186
          have q1 := b1_0.mp c_200
          have q2 := b1_0.mp c_215
          rw [show cntS (gK s).1 3 = 1 from by simp [cntS, q0, q1, q2]] at hq
          exact hq I fmq.rf
        · refine wx_iconst (v := (nI 1)) rfl (e := 219) rfl (by decide) ?_
          refine wx_goto rfl ?_
          refine wn_iadd rfl (e := 224) rfl ?_
          refine wx_iret rfl rfl rfl ⟨by decide, by decide⟩ ?_
          simp only [aCount, Bool.and_true, Bool.true_and, Bool.false_and, Bool.and_false, Bool.false_eq_true, eq_self, if_true, if_false] at hq
          rw [if_neg (by omega), if_neg (by omega), if_neg (by omega), if_neg (by omega), if_neg (by omega), if_neg (by omega), if_neg (by omega), if_neg (by omega), if_neg (by omega), if_neg (by omega), if_neg (by omega), if_neg (by omega), if_neg (by omega), if_pos c_1] at hq
          have q0 := b1_n0.mp c_186
          have q1 := b1_0.mp c_200
          have q2 := b1_n0.mp c_215
          rw [show cntS (gK s).1 3 = 2 from by simp [cntS, q0, q1, q2]] at hq
          exact hq I fmq.rf
      · refine wx_iconst (v := (nI 1)) rfl (e := 204) rfl (by decide) ?_
        refine wx_goto rfl ?_
        refine wn_iadd rfl (e := 209) rfl ?_
        refine wx_aload_n rfl (e := 210) rfl rfl ?_
        refine wx_getr rfl (e := 213) rfl rfl rfl ?_
        refine wx_iconst (v := (nI 2)) rfl (e := 214) rfl (by decide) ?_
        refine wn_zald rfl (e := 215) rfl rfl (by omega) (by decide) ?_
        rw [(hSs 2 (by omega)).1]
        refine wx_if_eq rfl (e := 218) rfl (fun c_215 => ?_) (fun c_215 => ?_)
        · refine wx_iconst (v := (nI 0)) rfl (e := 223) rfl (by decide) ?_
          refine wn_iadd rfl (e := 224) rfl ?_
          refine wx_iret rfl rfl rfl ⟨by decide, by decide⟩ ?_
          simp only [aCount, Bool.and_true, Bool.true_and, Bool.false_and, Bool.and_false, Bool.false_eq_true, eq_self, if_true, if_false] at hq
          rw [if_neg (by omega), if_neg (by omega), if_neg (by omega), if_neg (by omega), if_neg (by omega), if_neg (by omega), if_neg (by omega), if_neg (by omega), if_neg (by omega), if_neg (by omega), if_neg (by omega), if_neg (by omega), if_neg (by omega), if_pos c_1] at hq
          have q0 := b1_n0.mp c_186
          have q1 := b1_n0.mp c_200
          have q2 := b1_0.mp c_215
          rw [show cntS (gK s).1 3 = 2 from by simp [cntS, q0, q1, q2]] at hq
          exact hq I fmq.rf
        · refine wx_iconst (v := (nI 1)) rfl (e := 219) rfl (by decide) ?_
          refine wx_goto rfl ?_
          refine wn_iadd rfl (e := 224) rfl ?_
          refine wx_iret rfl rfl rfl ⟨by decide, by decide⟩ ?_
          simp only [aCount, Bool.and_true, Bool.true_and, Bool.false_and, Bool.and_false, Bool.false_eq_true, eq_self, if_true, if_false] at hq
          rw [if_neg (by omega), if_neg (by omega), if_neg (by omega), if_neg (by omega), if_neg (by omega), if_neg (by omega), if_neg (by omega), if_neg (by omega), if_neg (by omega), if_neg (by omega), if_neg (by omega), if_neg (by omega), if_neg (by omega), if_pos c_1] at hq
          have q0 := b1_n0.mp c_186
          have q1 := b1_n0.mp c_200
          have q2 := b1_n0.mp c_215
          rw [show cntS (gK s).1 3 = 3 from by simp [cntS, q0, q1, q2]] at hq
          exact hq I fmq.rf
  · have c_1 : Int32.toInt _ = 14 := c_1
    show WP _ _ _ _ _ _ _ _ _
    refine wx_aload_n rfl (e := 226) rfl rfl ?_
    refine wx_iconst (v := (nI 0)) rfl (e := 227) rfl (by decide) ?_
    refine wx_cv1 (mc := 0) (ms := 0) rfl (e := 230) rfl rfl (Nat.le_of_ble_eq_true rfl) ⟨by decide, by decide⟩ ?_
    refine c_X11_sumNow hNr (by omega) ?_
    refine wx_iret rfl rfl rfl ⟨by decide, by decide⟩ ?_
    simp only [aCount, Bool.and_true, Bool.true_and, Bool.false_and, Bool.and_false, Bool.false_eq_true, eq_self, if_true, if_false] at hq
    rw [if_neg (by omega), if_neg (by omega), if_neg (by omega), if_neg (by omega), if_neg (by omega), if_neg (by omega), if_neg (by omega), if_neg (by omega), if_neg (by omega), if_neg (by omega), if_neg (by omega), if_neg (by omega), if_neg (by omega), if_neg (by omega), if_pos c_1] at hq
    exact hq I fmq.rf
  · have c_1 : Int32.toInt _ = 15 := c_1
    show WP _ _ _ _ _ _ _ _ _
    refine wx_iconst (v := (nI 0)) rfl (e := 232) rfl (by decide) ?_
    refine wx_istore_n (L2 := [_, _, _, _]) rfl (e := 233) rfl (by decide) rfl ?_
    refine wx_iconst (v := (nI 0)) rfl (e := 234) rfl (by decide) ?_
    refine wx_istore_n (L2 := [_, _, _, _]) rfl (e := 235) rfl (by decide) rfl ?_
    unfold aCount at hq
    rw [if_neg (by omega), if_neg (by omega), if_neg (by omega), if_neg (by omega), if_neg (by omega), if_neg (by omega), if_neg (by omega), if_neg (by omega), if_neg (by omega), if_neg (by omega), if_neg (by omega), if_neg (by omega), if_neg (by omega), if_neg (by omega), if_neg (by omega), if_pos c_1] at hq
    have loop : ∀ (m : Nat) (e : Nat), e ≤ tR (gT s) → tR (gT s) - e < m → WP (d + 1) mX11_count Q 235 [some (.ref 55), some (.int w), some (.int (nI (btN (tT (gT s)) e))), some (.int (nI e))] [] (hp Lx t rt u I G) 0 0 := by
      intro m
      induction m with
      | zero => intro e h1 h2; omega
      | succ m ih =>
        intro e h1 h2
        refine wx_iload_n rfl (e := 236) rfl rfl ?_
        refine wx_aload_n rfl (e := 237) rfl rfl ?_
        refine wx_getr rfl (e := 240) rfl rfl rfl ?_
        refine wx_aload_n rfl (e := 241) rfl rfl ?_
        refine wx_geti rfl (e := 244) rfl rfl ?_
        rw [m18]
        refine wn_iald rfl (e := 245) rfl rfl (by omega) (by decide) ?_
        rw [m69]
        refine wn_ic_ge rfl (e := 248) rfl (by omega) (by omega) (fun c_245 => ?_) (fun c_245 => ?_)
        · refine wx_iload_n rfl (e := 279) rfl rfl ?_
          refine wx_iret rfl rfl rfl ⟨by decide, by decide⟩ ?_
          have ee : e = tR (gT s) := by omega
          subst ee
          rw [btN_R hR6 (fun e h1 h2 => hTf e h1)]
          exact hq I fmq.rf
        · refine wx_aload_n rfl (e := 249) rfl rfl ?_
          refine wx_getr rfl (e := 252) rfl rfl rfl ?_
          refine wx_bipush (v := (nI 6)) rfl (e := 254) rfl (by decide) ?_
          refine wx_aload_n rfl (e := 255) rfl rfl ?_
          refine wx_geti rfl (e := 258) rfl rfl ?_
          rw [m18]
          refine wn_imul rfl (e := 259) rfl ?_
          refine wx_iload_n rfl (e := 260) rfl rfl ?_
          refine wn_iadd rfl (e := 261) rfl ?_
          refine wn_iald rfl (e := 262) rfl rfl (by omega) (by decide) ?_
          rw [m71 _ (by omega)]
          refine wx_iconst (v := (nI 1)) rfl (e := 263) rfl (by decide) ?_
          refine wx_ic_ne rfl (e := 266) rfl (fun c_263 => ?_) (fun c_263 => ?_)
          · have hG : btN (tT (gT s)) (e + 1) = btN (tT (gT s)) e := by rw [btN, if_neg (fun z => c_263 (b1_nI.mpr z))]; rfl
            refine wn_iinc (m := 1) (L2 := [_, _, _, _]) rfl (e := 275) rfl rfl (by decide) rfl ?_
            refine wx_goto rfl ?_
            have hh := ih (e + 1) (by omega) (by omega)
            rw [hG] at hh
            exact hh
          · have hG : btN (tT (gT s)) (e + 1) = btN (tT (gT s)) e + 2 ^ e := by rw [btN, if_pos (b1_nI.mp c_263)]
            refine wx_iload_n rfl (e := 267) rfl rfl ?_
            refine wx_iconst (v := (nI 1)) rfl (e := 268) rfl (by decide) ?_
            refine wx_iload_n rfl (e := 269) rfl rfl ?_
            refine wx_ishl rfl (e := 270) rfl ?_
            refine wx_ior rfl (e := 271) rfl ?_
            rw [or6 e (by omega) _ (btN_lt _ e)]
            refine wx_istore_n (L2 := [_, _, _, _]) rfl (e := 272) rfl (by decide) rfl ?_
            refine wn_iinc (m := 1) (L2 := [_, _, _, _]) rfl (e := 275) rfl rfl (by decide) rfl ?_
            refine wx_goto rfl ?_
            have hh := ih (e + 1) (by omega) (by omega)
            rw [hG] at hh
            exact hh
    exact loop (tR (gT s) + 1) 0 (by omega) (by omega)
theorem c_X11_place {d Lx t rt u : Nat} {I : Nat → Nat → Int32} {G : Nat → Nat → Int64} {Q : ab_Q} {s : gs} {n0 lv : Nat} (hI : MI lv I s) (hg : gok n0 s) (hq : ∀ I2, fmq I I2 → Q (some (.int (gP s))) (hp Lx t rt u I2 G)) : ab_call ab_MT (d + 1) 201 [.ref 55] (hp Lx t rt u I G) 0 0 Q := by
  obtain ⟨hM, hD1, hNr, hHh, hSs, hDd, hPp, hpl⟩ := id hI
  obtain ⟨hlv, ⟨hC6, hR6, hP5, hH, hTf, hFn, hLx⟩, m18, m65, m69, m72, m76, m71, m89, m73, mL⟩ := id hM
  have hL := hg.1.1
  have hr := hL.2.1
  have hb := hg.1.2.1
  refine wx_in (M := mX11_place) rfl rfl rfl (Nat.le_of_ble_eq_true rfl) ?_
  refine wx_aload_n rfl (e := 1) rfl rfl ?_
  refine wx_geti rfl (e := 4) rfl rfl ?_
  rw [hpl]
  refine wx_iret rfl rfl rfl ⟨by decide, by decide⟩ ?_
  exact hq I fmq.rf

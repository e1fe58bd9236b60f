/-! the class: laws and texts cleared; the reader begins -/
def CLP (o : Nat) (I : Nat → Nat → Int32) (L : Nat → (Nat → Int32) → Int32) (x K : Nat) : Prop := I (o + 1) 5 = nI x ∧ x ≤ 420 ∧ (∀ j, j < x → I (o + 2) j = nI 2 → ∃ m, m ≤ 420 ∧ I (o + 3) j = nI m) ∧ ∀ k, k < K → ∃ s, s ≤ x ∧ I (o + 4) k = nI s ∧ ∀ st ar : Nat → Int32, (∀ i, i < x → st i = I (o + 2) i ∧ ar i = I (o + 3) i) → ∀ us, x ≤ us → us ≤ 420 → ∀ vs, cev us st ar vs 421 s 0 (fun _ => nI 0) = L k vs
theorem CLP.gen {o x K : Nat} (ho : o = 1 ∨ o = 16) {I J : Nat → Nat → Int32} {L : Nat → (Nat → Int32) → Int32} {w : rpn} (h : CLP o I L x K) (hw : rwg w 0 1) (hx : x + w.length + 1 ≤ 420) (f : fre o x (wr I (o + 1 + 3) K (I (o + 1) 5)) J) (hl : lsK o x w J) (hL : ∀ vs, L K vs = lwL vs w []) : CLP o (emW o J (x + w.length) (nI 3) (nI 0)) L (x + w.length + 1) (K + 1) := by
  obtain ⟨q1, q2, q3, q4⟩ := h
  have e2 : ∀ i, emW o J (x + w.length) (nI 3) (nI 0) (o + 2) i = if i = x + w.length then nI 3 else J (o + 2) i := fun i => by
    unfold emW; rw [wr_other _ _ _ _ (by omega), wr_other _ _ _ _ (by omega), wr_at, if_pos rfl]
  have e3 : ∀ i, i < x + w.length → emW o J (x + w.length) (nI 3) (nI 0) (o + 3) i = J (o + 3) i := fun i hi => by
    unfold emW; rw [wr_other _ _ _ _ (by omega), wr_at, if_pos rfl, if_neg (by omega), wr_other _ _ _ _ (by omega)]
  have hb : ∀ i, i < x → emW o J (x + w.length) (nI 3) (nI 0) (o + 2) i = I (o + 2) i ∧ emW o J (x + w.length) (nI 3) (nI 0) (o + 3) i = I (o + 3) i := fun i hi => by
    have y := f.2.2 i hi
    rw [wr_other _ _ _ _ (by omega), wr_other _ _ _ _ (by omega)] at y
    rw [e2, if_neg (by omega), e3 i (by omega)]; exact y
  have e4 : ∀ j, emW o J (x + w.length) (nI 3) (nI 0) (o + 4) j = if j = K then nI x else I (o + 4) j := fun j => by
    unfold emW; rw [wr_other _ _ _ _ (by omega), wr_other _ _ _ _ (by omega), wr_other _ _ _ _ (by omega), f.1 (o + 4) (by omega) (by omega) (by omega) (by omega), wr_at, if_pos rfl, q1]
  have hK : KLw (emW o J (x + w.length) (nI 3) (nI 0) (o + 2)) (emW o J (x + w.length) (nI 3) (nI 0) (o + 3)) w (x + w.length + 1) x [] := ⟨hl.2.kept _ (fun i hi => ⟨by rw [e2, if_neg (by omega)], e3 i hi⟩), by rw [e2, if_pos rfl], rfl, hw⟩
  refine ⟨by unfold emW; rw [wr_eq], hx, fun j h1 h2 => ?_, fun j h1 => ?_⟩
  · by_cases c : j < x
    · rw [(hb j c).1] at h2; rw [(hb j c).2]; exact q3 j c h2
    · by_cases c2 : j < x + w.length
      · rw [e2, if_neg (by omega)] at h2; exact absurd h2 (hl.2.no2 _ j (by omega) c2)
      · rw [e2, if_pos (by omega)] at h2; exact absurd h2 (by decide)
  · by_cases c : j = K
    · subst c
      refine ⟨x, by omega, by rw [e4, if_pos rfl], fun st ar hst us hu1 hu2 vs => ?_⟩
      rw [hL]
      exact cev_law hu2 hu1 [] x 421 _ (hK.kept [] (fun i hi => hst i hi)) (by omega)
    · obtain ⟨s, g1, g2, g3⟩ := q4 j (by omega)
      refine ⟨s, by omega, by rw [e4, if_neg c]; exact g2, fun st ar hst us hu1 hu2 vs => ?_⟩
      exact g3 st ar (fun i hi => ⟨(hst i (by omega)).1.trans (hb i hi).1, (hst i (by omega)).2.trans (hb i hi).2⟩) us (by omega) hu2 vs
def frw (o : Nat) (I I2 : Nat → Nat → Int32) : Prop := ∀ q, q ≠ o + 1 → q ≠ o + 2 → q ≠ o + 3 → q ≠ o + 4 → I2 q = I q
theorem frw.tr {o : Nat} {I I2 I3 : Nat → Nat → Int32} (h1 : frw o I I2) (h2 : frw o I2 I3) : frw o I I3 := fun q a b c d => (h2 q a b c d).trans (h1 q a b c d)
theorem frw.e {o x : Nat} {I : Nat → Nat → Int32} {k v : Int32} : frw o I (emW o I x k v) := fun q h1 h2 h3 h4 => by
  unfold emW; rw [wr_other _ _ _ _ h1, wr_other _ _ _ _ (by omega), wr_other _ _ _ _ (by omega)]
theorem frw.b {o k : Nat} {I : Nat → Nat → Int32} {v : Int32} : frw o I (wr I (o + 1 + 3) k v) := fun q _ _ _ h4 => wr_other _ _ _ _ h4
theorem varS_n {vs : Nat → Int32} {j : Nat} (hj : j < 9) : varS vs (nI j) = vs j := by
  unfold varS
  rw [if_pos ⟨nI_nn (by omega), (nI_ltI (by omega) (by omega)).mpr hj⟩, nI_clamp (by omega)]
theorem lw_1 {vs : Nat → Int32} {j : Nat} (hj : j < 9) : lwL vs [(1, nI j)] [] = vs j := by
  show (rvl vs [(1, nI j)]).getD (nI 0) = _
  unfold rvl
  rw [rev_1 rfl, varS_n hj]; rfl
theorem lw_t {vs : Nat → Int32} {j f : Nat} (hj : j < 9) : lwL vs [(1, nI j), (0, nI f), (4, nI 0)] [] = vs j * nI f := by
  show (rvl vs [(1, nI j), (0, nI f), (4, nI 0)]).getD (nI 0) = _
  unfold rvl
  rw [rev_1 rfl, varS_n hj, rev_0 rfl, rev_o (show ¬ 4 < 2 by decide) (fun h => absurd h.1 (show ¬ 4 = 5 by decide))]; rfl
theorem rw_1 {j : Nat} (hj : j < 9) : rwg [(1, nI j)] 0 1 := by
  rw [rwg, if_pos (show 1 < 2 by decide)]; exact ⟨by decide, fun _ => ⟨j, hj, rfl⟩, rfl⟩
theorem rw_t {j f : Nat} (hj : j < 9) : rwg [(1, nI j), (0, nI f), (4, nI 0)] 0 1 := by
  rw [rwg, if_pos (show 1 < 2 by decide), rwg, if_pos (show 0 < 2 by decide), rwg, if_neg (show ¬ 4 < 2 by decide)]
  exact ⟨by decide, fun _ => ⟨j, hj, rfl⟩, by decide, fun h => absurd h (show ¬ 0 = 1 by decide), (by decide : 4 ≤ 5), by decide, rfl⟩
set_option maxHeartbeats 1000000 in
theorem c_X2_beginTimes {d Lx tt rt u : Nat} {I : Nat → Nat → Int32} {G : Nat → Nat → Int64} {Q : ab_Q} {o x K : Nat} {L : Nat → (Nat → Int32) → Int32} (ho : o = 1 ∨ o = 16) (hP : CLP o I L x K) (hK : K < 5) (hx : x + 4 ≤ 420) {j f : Nat} (hj : j < 9) (hL : ∀ vs, L K vs = vs j * nI f) (hq : ∀ I2, frw o I I2 → CLP o I2 L (x + 4) (K + 1) → Q none (hp Lx tt rt u I2 G)) : ab_call ab_MT (d + 2) 36 [.ref (o + 1), .int (nI K), .int (nI j), .int (nI f)] (hp Lx tt rt u I G) 0 0 Q := by
  refine wx_in (M := mX2_beginTimes) rfl rfl rfl (Nat.le_of_ble_eq_true rfl) ?_
  refine wx_aload_n rfl (e := 1) rfl rfl ?_
  refine wx_iload_n rfl (e := 2) rfl rfl ?_
  refine wx_cv1 (mc := 0) (ms := 0) rfl (e := 5) rfl (sh_l ho) (Nat.le_of_ble_eq_true rfl) ⟨by decide, by decide⟩ ?_
  refine c_X2_begin (w := o + 1) (by omega) (k := K) hK ?_
  have L0 : lsK o x [] (wr I (o + 1 + 3) K (I (o + 1) 5)) := ⟨by rw [wr_other _ _ _ _ (by omega)]; exact hP.1, True.intro⟩
  refine wx_aload_n rfl (e := 6) rfl rfl ?_
  refine wx_iconst (v := (nI 1)) rfl (e := 7) rfl (by decide) ?_
  refine wx_iload_n rfl (e := 8) rfl rfl ?_
  refine wx_cv2 (mc := 0) (ms := 0) rfl (e := 11) rfl (sh_l ho) (Nat.le_of_ble_eq_true rfl) ⟨by decide, by decide⟩ ?_
  refine c_X2_emit (w := o + 1) (by omega) (x := x) (L0.1) (by omega) ?_
  show WP _ _ _ _ _ _ (hp Lx tt rt u (emW o (wr I (o + 1 + 3) K (I (o + 1) 5)) (x) (nI 1) (nI j)) G) _ _
  have L1 : lsK o x [(1, nI j)] (emW o (wr I (o + 1 + 3) K (I (o + 1) 5)) x (nI 1) (nI j)) := emW.s ho L0 rfl (fun _ => rfl)
  refine wx_pop rfl (e := 12) rfl rfl ?_
  refine wx_aload_n rfl (e := 13) rfl rfl ?_
  refine wx_iconst (v := (nI 0)) rfl (e := 14) rfl (by decide) ?_
  refine wx_iload_n rfl (e := 15) rfl rfl ?_
  refine wx_cv2 (mc := 0) (ms := 0) rfl (e := 18) rfl (sh_l ho) (Nat.le_of_ble_eq_true rfl) ⟨by decide, by decide⟩ ?_
  refine c_X2_emit (w := o + 1) (by omega) (x := x + 1) (L1.1) (by omega) ?_
  show WP _ _ _ _ _ _ (hp Lx tt rt u (emW o (emW o (wr I (o + 1 + 3) K (I (o + 1) 5)) x (nI 1) (nI j)) (x + 1) (nI 0) (nI f)) G) _ _
  have L2 : lsK o x [(1, nI j), (0, nI f)] (emW o (emW o (wr I (o + 1 + 3) K (I (o + 1) 5)) x (nI 1) (nI j)) (x + 1) (nI 0) (nI f)) := emW.s ho L1 rfl (fun _ => rfl)
  refine wx_pop rfl (e := 19) rfl rfl ?_
  refine wx_aload_n rfl (e := 20) rfl rfl ?_
  refine wx_bipush (v := (nI 42)) rfl (e := 22) rfl (by decide) ?_
  refine wx_iconst (v := (nI 0)) rfl (e := 23) rfl (by decide) ?_
  refine wx_cv2 (mc := 0) (ms := 0) rfl (e := 26) rfl (sh_l ho) (Nat.le_of_ble_eq_true rfl) ⟨by decide, by decide⟩ ?_
  refine c_X2_emit (w := o + 1) (by omega) (x := x + 2) (L2.1) (by omega) ?_
  show WP _ _ _ _ _ _ (hp Lx tt rt u (emW o (emW o (emW o (wr I (o + 1 + 3) K (I (o + 1) 5)) x (nI 1) (nI j)) (x + 1) (nI 0) (nI f)) (x + 2) (nI 42) (nI 0)) G) _ _
  have L3 : lsK o x [(1, nI j), (0, nI f), (4, nI 0)] (emW o (emW o (emW o (wr I (o + 1 + 3) K (I (o + 1) 5)) x (nI 1) (nI j)) (x + 1) (nI 0) (nI f)) (x + 2) (nI 42) (nI 0)) := emW.s ho L2 rfl (fun w => absurd w (by decide))
  refine wx_pop rfl (e := 27) rfl rfl ?_
  refine wx_aload_n rfl (e := 28) rfl rfl ?_
  refine wx_iconst (v := (nI 3)) rfl (e := 29) rfl (by decide) ?_
  refine wx_iconst (v := (nI 0)) rfl (e := 30) rfl (by decide) ?_
  refine wx_cv2 (mc := 0) (ms := 0) rfl (e := 33) rfl (sh_l ho) (Nat.le_of_ble_eq_true rfl) ⟨by decide, by decide⟩ ?_
  refine c_X2_emit (w := o + 1) (by omega) (x := x + 3) (L3.1) (by omega) ?_
  show WP _ _ _ _ _ _ (hp Lx tt rt u (emW o (emW o (emW o (emW o (wr I (o + 1 + 3) K (I (o + 1) 5)) x (nI 1) (nI j)) (x + 1) (nI 0) (nI f)) (x + 2) (nI 42) (nI 0)) (x + 3) (nI 3) (nI 0)) G) _ _
  refine wx_pop rfl (e := 34) rfl rfl ?_
  refine wx_ret rfl rfl ⟨by decide, by decide⟩ ?_
  exact hq _ (frw.b.tr (frw.e.tr (frw.e.tr (frw.e.tr frw.e)))) (hP.gen ho (rw_t hj) (by show x + 3 + 1 ≤ 420; omega) ((emW.f ho (by omega)).tr ((emW.f ho (by omega)).tr (emW.f ho (by omega)))) L3 (fun vs => by rw [hL, lw_t hj]))
set_option maxHeartbeats 2000000 in
theorem c_X2_clear {d Lx tt rt u : Nat} {I : Nat → Nat → Int32} {G : Nat → Nat → Int64} {Q : ab_Q} {o : Nat} (ho : o = 1 ∨ o = 16) (hq : ∀ I2, frw o I I2 → CLW o I2 plS 16 → Q none (hp Lx tt rt u I2 G)) : ab_call ab_MT (d + 3) 35 [.ref (o + 1)] (hp Lx tt rt u I G) 0 0 Q := by
  refine wx_in (M := mX2_clear) rfl rfl rfl (Nat.le_of_ble_eq_true rfl) ?_
  refine wx_aload_n rfl (e := 1) rfl rfl ?_
  refine wx_iconst (v := (nI 0)) rfl (e := 2) rfl (by decide) ?_
  refine wx_puti rfl (e := 5) rfl (sh_l ho) (by omega) ?_
  have P0 : CLP o (wr I (o + 1) 5 (nI 0)) plS 0 0 := ⟨wr_eq _ _ _ _, by decide, fun j hj => absurd hj (Nat.not_lt_zero _), fun j hj => absurd hj (Nat.not_lt_zero _)⟩
  have F0 : frw o I (wr I (o + 1) 5 (nI 0)) := fun q h _ _ _ => wr_other _ _ _ _ h
  refine wx_aload_n rfl (e := 6) rfl rfl ?_
  refine wx_iconst (v := (nI 0)) rfl (e := 7) rfl (by decide) ?_
  refine wx_cv1 (mc := 0) (ms := 0) rfl (e := 10) rfl (sh_l ho) (Nat.le_of_ble_eq_true rfl) ⟨by decide, by decide⟩ ?_
  refine c_X2_begin (w := o + 1) (by omega) (k := 0) (by decide) ?_
  have L0 : lsK o 0 [] (wr (wr I (o + 1) 5 (nI 0)) (o + 1 + 3) 0 ((wr I (o + 1) 5 (nI 0)) (o + 1) 5)) := ⟨by rw [wr_other _ _ _ _ (by omega)]; exact P0.1, True.intro⟩
  refine wx_aload_n rfl (e := 11) rfl rfl ?_
  refine wx_iconst (v := (nI 1)) rfl (e := 12) rfl (by decide) ?_
  refine wx_iconst (v := (nI 0)) rfl (e := 13) rfl (by decide) ?_
  refine wx_cv2 (mc := 0) (ms := 0) rfl (e := 16) rfl (sh_l ho) (Nat.le_of_ble_eq_true rfl) ⟨by decide, by decide⟩ ?_
  refine c_X2_emit (w := o + 1) (by omega) (x := 0) (L0.1) (by omega) ?_
  show WP _ _ _ _ _ _ (hp Lx tt rt u (emW o (wr (wr I (o + 1) 5 (nI 0)) (o + 1 + 3) 0 ((wr I (o + 1) 5 (nI 0)) (o + 1) 5)) (0) (nI 1) (nI 0)) G) _ _
  have L1 : lsK o 0 [(1, nI 0)] (emW o (wr (wr I (o + 1) 5 (nI 0)) (o + 1 + 3) 0 ((wr I (o + 1) 5 (nI 0)) (o + 1) 5)) 0 (nI 1) (nI 0)) := emW.s ho L0 rfl (fun _ => rfl)
  refine wx_pop rfl (e := 17) rfl rfl ?_
  refine wx_aload_n rfl (e := 18) rfl rfl ?_
  refine wx_iconst (v := (nI 3)) rfl (e := 19) rfl (by decide) ?_
  refine wx_iconst (v := (nI 0)) rfl (e := 20) rfl (by decide) ?_
  refine wx_cv2 (mc := 0) (ms := 0) rfl (e := 23) rfl (sh_l ho) (Nat.le_of_ble_eq_true rfl) ⟨by decide, by decide⟩ ?_
  refine c_X2_emit (w := o + 1) (by omega) (x := 1) (L1.1) (by omega) ?_
  show WP _ _ _ _ _ _ (hp Lx tt rt u (emW o (emW o (wr (wr I (o + 1) 5 (nI 0)) (o + 1 + 3) 0 ((wr I (o + 1) 5 (nI 0)) (o + 1) 5)) 0 (nI 1) (nI 0)) (1) (nI 3) (nI 0)) G) _ _
  have P1 : CLP o (emW o (emW o (wr (wr I (o + 1) 5 (nI 0)) (o + 1 + 3) 0 ((wr I (o + 1) 5 (nI 0)) (o + 1) 5)) 0 (nI 1) (nI 0)) 1 (nI 3) (nI 0)) plS 2 1 := P0.gen ho (rw_1 (by decide)) (by decide) (emW.f ho (by omega)) L1 (fun vs => by rw [lw_1 (by decide)]; rfl)
  have F1 : frw o I (emW o (emW o (wr (wr I (o + 1) 5 (nI 0)) (o + 1 + 3) 0 ((wr I (o + 1) 5 (nI 0)) (o + 1) 5)) 0 (nI 1) (nI 0)) 1 (nI 3) (nI 0)) := F0.tr (frw.b.tr (frw.e.tr frw.e))
  refine wx_pop rfl (e := 24) rfl rfl ?_
  refine wx_aload_n rfl (e := 25) rfl rfl ?_
  refine wx_iconst (v := (nI 1)) rfl (e := 26) rfl (by decide) ?_
  refine wx_bipush (v := (nI 8)) rfl (e := 28) rfl (by decide) ?_
  refine wx_bipush (v := (nI 50)) rfl (e := 30) rfl (by decide) ?_
  refine wx_cv3 (mc := 0) (ms := 0) rfl (e := 33) rfl (sh_l ho) (Nat.le_of_ble_eq_true rfl) ⟨by decide, by decide⟩ ?_
  refine c_X2_beginTimes ho P1 (by decide) (by decide) (j := 8) (f := 50) (by decide) (fun vs => rfl) (fun I2 f2 P2 => ?_)
  have F2 := F1.tr f2
  refine wx_aload_n rfl (e := 34) rfl rfl ?_
  refine wx_iconst (v := (nI 2)) rfl (e := 35) rfl (by decide) ?_
  refine wx_cv1 (mc := 0) (ms := 0) rfl (e := 38) rfl (sh_l ho) (Nat.le_of_ble_eq_true rfl) ⟨by decide, by decide⟩ ?_
  refine c_X2_begin (w := o + 1) (by omega) (k := 2) (by decide) ?_
  have L0 : lsK o 6 [] (wr I2 (o + 1 + 3) 2 (I2 (o + 1) 5)) := ⟨by rw [wr_other _ _ _ _ (by omega)]; exact P2.1, True.intro⟩
  refine wx_aload_n rfl (e := 39) rfl rfl ?_
  refine wx_iconst (v := (nI 1)) rfl (e := 40) rfl (by decide) ?_
  refine wx_iconst (v := (nI 4)) rfl (e := 41) rfl (by decide) ?_
  refine wx_cv2 (mc := 0) (ms := 0) rfl (e := 44) rfl (sh_l ho) (Nat.le_of_ble_eq_true rfl) ⟨by decide, by decide⟩ ?_
  refine c_X2_emit (w := o + 1) (by omega) (x := 6) (L0.1) (by omega) ?_
  show WP _ _ _ _ _ _ (hp Lx tt rt u (emW o (wr I2 (o + 1 + 3) 2 (I2 (o + 1) 5)) (6) (nI 1) (nI 4)) G) _ _
  have L1 : lsK o 6 [(1, nI 4)] (emW o (wr I2 (o + 1 + 3) 2 (I2 (o + 1) 5)) 6 (nI 1) (nI 4)) := emW.s ho L0 rfl (fun _ => rfl)
  refine wx_pop rfl (e := 45) rfl rfl ?_
  refine wx_aload_n rfl (e := 46) rfl rfl ?_
  refine wx_iconst (v := (nI 3)) rfl (e := 47) rfl (by decide) ?_
  refine wx_iconst (v := (nI 0)) rfl (e := 48) rfl (by decide) ?_
  refine wx_cv2 (mc := 0) (ms := 0) rfl (e := 51) rfl (sh_l ho) (Nat.le_of_ble_eq_true rfl) ⟨by decide, by decide⟩ ?_
  refine c_X2_emit (w := o + 1) (by omega) (x := 7) (L1.1) (by omega) ?_
  show WP _ _ _ _ _ _ (hp Lx tt rt u (emW o (emW o (wr I2 (o + 1 + 3) 2 (I2 (o + 1) 5)) 6 (nI 1) (nI 4)) (7) (nI 3) (nI 0)) G) _ _
  have P3 : CLP o (emW o (emW o (wr I2 (o + 1 + 3) 2 (I2 (o + 1) 5)) 6 (nI 1) (nI 4)) 7 (nI 3) (nI 0)) plS 8 3 := P2.gen ho (rw_1 (by decide)) (by decide) (emW.f ho (by omega)) L1 (fun vs => by rw [lw_1 (by decide)]; rfl)
  have F3 : frw o I (emW o (emW o (wr I2 (o + 1 + 3) 2 (I2 (o + 1) 5)) 6 (nI 1) (nI 4)) 7 (nI 3) (nI 0)) := F2.tr (frw.b.tr (frw.e.tr frw.e))
  refine wx_pop rfl (e := 52) rfl rfl ?_
  refine wx_aload_n rfl (e := 53) rfl rfl ?_
  refine wx_iconst (v := (nI 3)) rfl (e := 54) rfl (by decide) ?_
  refine wx_iconst (v := (nI 5)) rfl (e := 55) rfl (by decide) ?_
  refine wx_bipush (v := (nI 10)) rfl (e := 57) rfl (by decide) ?_
  refine wx_cv3 (mc := 0) (ms := 0) rfl (e := 60) rfl (sh_l ho) (Nat.le_of_ble_eq_true rfl) ⟨by decide, by decide⟩ ?_
  refine c_X2_beginTimes ho P3 (by decide) (by decide) (j := 5) (f := 10) (by decide) (fun vs => rfl) (fun I4 f4 P4 => ?_)
  have F4 := F3.tr f4
  refine wx_aload_n rfl (e := 61) rfl rfl ?_
  refine wx_iconst (v := (nI 4)) rfl (e := 62) rfl (by decide) ?_
  refine wx_bipush (v := (nI 6)) rfl (e := 64) rfl (by decide) ?_
  refine wx_bipush (v := (nI 10)) rfl (e := 66) rfl (by decide) ?_
  refine wx_cv3 (mc := 0) (ms := 0) rfl (e := 69) rfl (sh_l ho) (Nat.le_of_ble_eq_true rfl) ⟨by decide, by decide⟩ ?_
  refine c_X2_beginTimes ho P4 (by decide) (by decide) (j := 6) (f := 10) (by decide) (fun vs => rfl) (fun I5 f5 P5 => ?_)
  refine wx_ret rfl rfl ⟨by decide, by decide⟩ ?_
  exact hq I5 (F4.tr f5) P5
set_option maxHeartbeats 4000000 in
theorem c_X7_clear_1 {d Lx t rt u : Nat} {I : Nat → Nat → Int32} {G : Nat → Nat → Int64} {Q : ab_Q} (hq : ∀ I2, (∀ q, ¬ (1 ≤ q ∧ q ≤ 5) → q ≠ 11 → I2 q = I q) → (∀ k, 9 ≤ k → k ≤ 15 → I2 1 k = nI 0) → CLW 1 I2 plS 16 → (∀ k, k < 36 → I2 11 k = if k / 6 = k % 6 then nI 0 else nI 999) → Q none (hp Lx t rt u I2 G)) : ab_call ab_MT (d + 4) 90 [.ref 1] (hp Lx t rt u I G) 0 0 Q := by
  refine wx_in (M := mX7_clear) rfl rfl rfl (Nat.le_of_ble_eq_true rfl) ?_
  refine wx_aload_n rfl (e := 1) rfl rfl ?_
  refine wx_getr rfl (e := 4) rfl rfl rfl ?_
  refine wx_cv0 (mc := 0) (ms := 0) rfl (e := 7) rfl rfl (Nat.le_of_ble_eq_true rfl) ⟨by decide, by decide⟩ ?_
  refine c_X2_clear (o := 1) (by decide) (fun I3 f3 W3 => ?_)
  have f3 : ∀ q, q ≠ 2 → q ≠ 3 → q ≠ 4 → q ≠ 5 → I3 q = I q := f3
  refine wx_aload_n rfl (e := 8) rfl rfl ?_
  refine wx_iconst (v := (nI 0)) rfl (e := 9) rfl (by decide) ?_
  refine wx_puti rfl (e := 12) rfl rfl (by decide) ?_
  refine wx_aload_n rfl (e := 13) rfl rfl ?_
  refine wx_iconst (v := (nI 0)) rfl (e := 14) rfl (by decide) ?_
  refine wx_puti rfl (e := 17) rfl rfl (by decide) ?_
  refine wx_aload_n rfl (e := 18) rfl rfl ?_
  refine wx_iconst (v := (nI 0)) rfl (e := 19) rfl (by decide) ?_
  refine wx_puti rfl (e := 22) rfl rfl (by decide) ?_
  refine wx_aload_n rfl (e := 23) rfl rfl ?_
  refine wx_iconst (v := (nI 0)) rfl (e := 24) rfl (by decide) ?_
  refine wx_puti rfl (e := 27) rfl rfl (by decide) ?_
  refine wx_aload_n rfl (e := 28) rfl rfl ?_
  refine wx_iconst (v := (nI 0)) rfl (e := 29) rfl (by decide) ?_
  refine wx_puti rfl (e := 32) rfl rfl (by decide) ?_
  refine wx_aload_n rfl (e := 33) rfl rfl ?_
  refine wx_iconst (v := (nI 0)) rfl (e := 34) rfl (by decide) ?_
  refine wx_puti rfl (e := 37) rfl rfl (by decide) ?_
  refine wx_aload_n rfl (e := 38) rfl rfl ?_
  refine wx_iconst (v := (nI 0)) rfl (e := 39) rfl (by decide) ?_
  refine wx_puti rfl (e := 42) rfl rfl (by decide) ?_
  refine wx_iconst (v := (nI 0)) rfl (e := 43) rfl (by decide) ?_
  refine wx_istore_n (L2 := [_, _]) rfl (e := 44) rfl (by decide) rfl ?_
  have fin : ∀ I2, (∀ q, q ≠ 11 → I2 q = (wr (wr (wr (wr (wr (wr (wr I3 1 9 (nI 0)) 1 10 (nI 0)) 1 11 (nI 0)) 1 12 (nI 0)) 1 13 (nI 0)) 1 14 (nI 0)) 1 15 (nI 0)) q) → (∀ k, k < 36 → I2 11 k = if k / 6 = k % 6 then nI 0 else nI 999) → Q none (hp Lx t rt u I2 G) := by
    intro I2 g2 j2
    refine hq I2 (fun q h1 h2 => ?_) (fun k h1 h2 => ?_) (W3.kept ?_ ?_ ?_ ?_) j2
    · rw [g2 q (by omega), wr_other _ _ _ _ (by omega), wr_other _ _ _ _ (by omega), wr_other _ _ _ _ (by omega), wr_other _ _ _ _ (by omega), wr_other _ _ _ _ (by omega), wr_other _ _ _ _ (by omega), wr_other _ _ _ _ (by omega)]; exact f3 q (by omega) (by omega) (by omega) (by omega)
    · rw [g2 1 (by decide)]; rcases (show k = 9 ∨ k = 10 ∨ k = 11 ∨ k = 12 ∨ k = 13 ∨ k = 14 ∨ k = 15 by omega) with h | h | h | h | h | h | h <;> subst h <;> simp [wr_at]
    · rw [g2 2 (by decide), wr_other _ _ _ _ (by decide), wr_other _ _ _ _ (by decide), wr_other _ _ _ _ (by decide), wr_other _ _ _ _ (by decide), wr_other _ _ _ _ (by decide), wr_other _ _ _ _ (by decide), wr_other _ _ _ _ (by decide)]
    · rw [g2 3 (by decide), wr_other _ _ _ _ (by decide), wr_other _ _ _ _ (by decide), wr_other _ _ _ _ (by decide), wr_other _ _ _ _ (by decide), wr_other _ _ _ _ (by decide), wr_other _ _ _ _ (by decide), wr_other _ _ _ _ (by decide)]
    · rw [g2 4 (by decide), wr_other _ _ _ _ (by decide), wr_other _ _ _ _ (by decide), wr_other _ _ _ _ (by decide), wr_other _ _ _ _ (by decide), wr_other _ _ _ _ (by decide), wr_other _ _ _ _ (by decide), wr_other _ _ _ _ (by decide)]
    · rw [g2 5 (by decide), wr_other _ _ _ _ (by decide), wr_other _ _ _ _ (by decide), wr_other _ _ _ _ (by decide), wr_other _ _ _ _ (by decide), wr_other _ _ _ _ (by decide), wr_other _ _ _ _ (by decide), wr_other _ _ _ _ (by decide)]
  have loop : ∀ (m_ : Nat) (i : Nat) (I2 : Nat → Nat → Int32), i ≤ 36 → 36 - i < m_ → (∀ q, q ≠ 11 → I2 q = (wr (wr (wr (wr (wr (wr (wr I3 1 9 (nI 0)) 1 10 (nI 0)) 1 11 (nI 0)) 1 12 (nI 0)) 1 13 (nI 0)) 1 14 (nI 0)) 1 15 (nI 0)) q) → (∀ k, k < i → I2 11 k = if k / 6 = k % 6 then nI 0 else nI 999) → WP (d + 3) mX7_clear Q 44 [some (.ref 1), some (.int (nI i))] [] (hp Lx t rt u I2 G) 0 0 := by
    intro m_
    induction m_ with
    | zero => intro i I2 h1 h2; omega
    | succ m_ ih =>
      intro i I2 h1 h2 g2 j2
      refine wx_iload_n rfl (e := 45) rfl rfl ?_
      refine wx_aload_n rfl (e := 46) rfl rfl ?_
      refine wx_getr rfl (e := 49) rfl rfl rfl ?_
      refine wx_alen rfl (e := 50) rfl rfl (by decide) rfl ?_
      refine wn_ic_ge rfl (e := 53) rfl (by omega) (by omega) (fun c_50 => ?_) (fun c_50 => ?_)
      · refine wx_ret rfl rfl ⟨by decide, by decide⟩ ?_
        have ei : i = 36 := by omega
        subst ei
        exact fin I2 g2 j2
      · refine wx_aload_n rfl (e := 54) rfl rfl ?_
        refine wx_getr rfl (e := 57) rfl rfl rfl ?_
        refine wx_iload_n rfl (e := 58) rfl rfl ?_
        refine wx_iload_n rfl (e := 59) rfl rfl ?_
        refine wx_bipush (v := (nI 6)) rfl (e := 61) rfl (by decide) ?_
        refine wx_idiv rfl (e := 62) rfl (by decide) ?_
        rw [pk_div (by omega) (by omega) (by omega)]
        refine wx_iload_n rfl (e := 63) rfl rfl ?_
        refine wx_bipush (v := (nI 6)) rfl (e := 65) rfl (by decide) ?_
        refine wx_irem rfl (e := 66) rfl (by decide) ?_
        rw [pk_rem (by omega) (by omega) (by omega)]
        refine wn_ic_ne rfl (e := 69) rfl (by omega) (by omega) (fun c_66 => ?_) (fun c_66 => ?_)
        · refine wx_sipush (v := (nI 999)) rfl (e := 76) rfl (by decide) ?_
          refine wn_iast rfl (e := 77) rfl rfl (by decide) (by omega) (by decide) ?_
          refine wn_iinc (m := 1) (L2 := [_, _]) rfl (e := 80) rfl rfl (by decide) rfl ?_
          refine wx_goto rfl ?_
          refine ih (i + 1) _ (by omega) (by omega) (fun q h => by rw [wr_other _ _ _ _ h]; exact g2 q h) (fun k hk => ?_)
          by_cases zz : k = i
          · rw [zz, wr_eq, if_neg c_66]
          · rw [wr_ne _ _ _ _ zz]; exact j2 k (by omega)
        · refine wx_iconst (v := (nI 0)) rfl (e := 70) rfl (by decide) ?_
          refine wx_goto rfl ?_
          refine wn_iast rfl (e := 77) rfl rfl (by decide) (by omega) (by decide) ?_
          refine wn_iinc (m := 1) (L2 := [_, _]) rfl (e := 80) rfl rfl (by decide) rfl ?_
          refine wx_goto rfl ?_
          refine ih (i + 1) _ (by omega) (by omega) (fun q h => by rw [wr_other _ _ _ _ h]; exact g2 q h) (fun k hk => ?_)
          by_cases zz : k = i
          · rw [zz, wr_eq, if_pos c_66]
          · rw [wr_ne _ _ _ _ zz]; exact j2 k (by omega)
  exact loop 37 0 _ (by omega) (by omega) (fun _ _ => rfl) (fun k hk => absurd hk (Nat.not_lt_zero _))
set_option maxHeartbeats 4000000 in
theorem c_X7_clear_16 {d Lx t rt u : Nat} {I : Nat → Nat → Int32} {G : Nat → Nat → Int64} {Q : ab_Q} (hq : ∀ I2, (∀ q, ¬ (16 ≤ q ∧ q ≤ 20) → q ≠ 26 → I2 q = I q) → (∀ k, 9 ≤ k → k ≤ 15 → I2 16 k = nI 0) → CLW 16 I2 plS 16 → (∀ k, k < 36 → I2 26 k = if k / 6 = k % 6 then nI 0 else nI 999) → Q none (hp Lx t rt u I2 G)) : ab_call ab_MT (d + 4) 90 [.ref 16] (hp Lx t rt u I G) 0 0 Q := by
  refine wx_in (M := mX7_clear) rfl rfl rfl (Nat.le_of_ble_eq_true rfl) ?_
  refine wx_aload_n rfl (e := 1) rfl rfl ?_
  refine wx_getr rfl (e := 4) rfl rfl rfl ?_
  refine wx_cv0 (mc := 0) (ms := 0) rfl (e := 7) rfl rfl (Nat.le_of_ble_eq_true rfl) ⟨by decide, by decide⟩ ?_
  refine c_X2_clear (o := 16) (by decide) (fun I3 f3 W3 => ?_)
  have f3 : ∀ q, q ≠ 17 → q ≠ 18 → q ≠ 19 → q ≠ 20 → I3 q = I q := f3
  refine wx_aload_n rfl (e := 8) rfl rfl ?_
  refine wx_iconst (v := (nI 0)) rfl (e := 9) rfl (by decide) ?_
  refine wx_puti rfl (e := 12) rfl rfl (by decide) ?_
  refine wx_aload_n rfl (e := 13) rfl rfl ?_
  refine wx_iconst (v := (nI 0)) rfl (e := 14) rfl (by decide) ?_
  refine wx_puti rfl (e := 17) rfl rfl (by decide) ?_
  refine wx_aload_n rfl (e := 18) rfl rfl ?_
  refine wx_iconst (v := (nI 0)) rfl (e := 19) rfl (by decide) ?_
  refine wx_puti rfl (e := 22) rfl rfl (by decide) ?_
  refine wx_aload_n rfl (e := 23) rfl rfl ?_
  refine wx_iconst (v := (nI 0)) rfl (e := 24) rfl (by decide) ?_
  refine wx_puti rfl (e := 27) rfl rfl (by decide) ?_
  refine wx_aload_n rfl (e := 28) rfl rfl ?_
  refine wx_iconst (v := (nI 0)) rfl (e := 29) rfl (by decide) ?_
  refine wx_puti rfl (e := 32) rfl rfl (by decide) ?_
  refine wx_aload_n rfl (e := 33) rfl rfl ?_
  refine wx_iconst (v := (nI 0)) rfl (e := 34) rfl (by decide) ?_
  refine wx_puti rfl (e := 37) rfl rfl (by decide) ?_
  refine wx_aload_n rfl (e := 38) rfl rfl ?_
  refine wx_iconst (v := (nI 0)) rfl (e := 39) rfl (by decide) ?_
  refine wx_puti rfl (e := 42) rfl rfl (by decide) ?_
  refine wx_iconst (v := (nI 0)) rfl (e := 43) rfl (by decide) ?_
  refine wx_istore_n (L2 := [_, _]) rfl (e := 44) rfl (by decide) rfl ?_
  have fin : ∀ I2, (∀ q, q ≠ 26 → I2 q = (wr (wr (wr (wr (wr (wr (wr I3 16 9 (nI 0)) 16 10 (nI 0)) 16 11 (nI 0)) 16 12 (nI 0)) 16 13 (nI 0)) 16 14 (nI 0)) 16 15 (nI 0)) q) → (∀ k, k < 36 → I2 26 k = if k / 6 = k % 6 then nI 0 else nI 999) → Q none (hp Lx t rt u I2 G) := by
    intro I2 g2 j2
    refine hq I2 (fun q h1 h2 => ?_) (fun k h1 h2 => ?_) (W3.kept ?_ ?_ ?_ ?_) j2
    · rw [g2 q (by omega), wr_other _ _ _ _ (by omega), wr_other _ _ _ _ (by omega), wr_other _ _ _ _ (by omega), wr_other _ _ _ _ (by omega), wr_other _ _ _ _ (by omega), wr_other _ _ _ _ (by omega), wr_other _ _ _ _ (by omega)]; exact f3 q (by omega) (by omega) (by omega) (by omega)
    · rw [g2 16 (by decide)]; rcases (show k = 9 ∨ k = 10 ∨ k = 11 ∨ k = 12 ∨ k = 13 ∨ k = 14 ∨ k = 15 by omega) with h | h | h | h | h | h | h <;> subst h <;> simp [wr_at]
    · rw [g2 17 (by decide), wr_other _ _ _ _ (by decide), wr_other _ _ _ _ (by decide), wr_other _ _ _ _ (by decide), wr_other _ _ _ _ (by decide), wr_other _ _ _ _ (by decide), wr_other _ _ _ _ (by decide), wr_other _ _ _ _ (by decide)]
    · rw [g2 18 (by decide), wr_other _ _ _ _ (by decide), wr_other _ _ _ _ (by decide), wr_other _ _ _ _ (by decide), wr_other _ _ _ _ (by decide), wr_other _ _ _ _ (by decide), wr_other _ _ _ _ (by decide), wr_other _ _ _ _ (by decide)]
    · rw [g2 19 (by decide), wr_other _ _ _ _ (by decide), wr_other _ _ _ _ (by decide), wr_other _ _ _ _ (by decide), wr_other _ _ _ _ (by decide), wr_other _ _ _ _ (by decide), wr_other _ _ _ _ (by decide), wr_other _ _ _ _ (by decide)]
    · rw [g2 20 (by decide), wr_other _ _ _ _ (by decide), wr_other _ _ _ _ (by decide), wr_other _ _ _ _ (by decide), wr_other _ _ _ _ (by decide), wr_other _ _ _ _ (by decide), wr_other _ _ _ _ (by decide), wr_other _ _ _ _ (by decide)]
  have loop : ∀ (m_ : Nat) (i : Nat) (I2 : Nat → Nat → Int32), i ≤ 36 → 36 - i < m_ → (∀ q, q ≠ 26 → I2 q = (wr (wr (wr (wr (wr (wr (wr I3 16 9 (nI 0)) 16 10 (nI 0)) 16 11 (nI 0)) 16 12 (nI 0)) 16 13 (nI 0)) 16 14 (nI 0)) 16 15 (nI 0)) q) → (∀ k, k < i → I2 26 k = if k / 6 = k % 6 then nI 0 else nI 999) → WP (d + 3) mX7_clear Q 44 [some (.ref 16), some (.int (nI i))] [] (hp Lx t rt u I2 G) 0 0 := by
    intro m_
    induction m_ with
    | zero => intro i I2 h1 h2; omega
    | succ m_ ih =>
      intro i I2 h1 h2 g2 j2
      refine wx_iload_n rfl (e := 45) rfl rfl ?_
      refine wx_aload_n rfl (e := 46) rfl rfl ?_
      refine wx_getr rfl (e := 49) rfl rfl rfl ?_
      refine wx_alen rfl (e := 50) rfl rfl (by decide) rfl ?_
      refine wn_ic_ge rfl (e := 53) rfl (by omega) (by omega) (fun c_50 => ?_) (fun c_50 => ?_)
      · refine wx_ret rfl rfl ⟨by decide, by decide⟩ ?_
        have ei : i = 36 := by omega
        subst ei
        exact fin I2 g2 j2
      · refine wx_aload_n rfl (e := 54) rfl rfl ?_
        refine wx_getr rfl (e := 57) rfl rfl rfl ?_
        refine wx_iload_n rfl (e := 58) rfl rfl ?_
        refine wx_iload_n rfl (e := 59) rfl rfl ?_
        refine wx_bipush (v := (nI 6)) rfl (e := 61) rfl (by decide) ?_
        refine wx_idiv rfl (e := 62) rfl (by decide) ?_
        rw [pk_div (by omega) (by omega) (by omega)]
        refine wx_iload_n rfl (e := 63) rfl rfl ?_
        refine wx_bipush (v := (nI 6)) rfl (e := 65) rfl (by decide) ?_
        refine wx_irem rfl (e := 66) rfl (by decide) ?_
        rw [pk_rem (by omega) (by omega) (by omega)]
        refine wn_ic_ne rfl (e := 69) rfl (by omega) (by omega) (fun c_66 => ?_) (fun c_66 => ?_)
        · refine wx_sipush (v := (nI 999)) rfl (e := 76) rfl (by decide) ?_
          refine wn_iast rfl (e := 77) rfl rfl (by decide) (by omega) (by decide) ?_
          refine wn_iinc (m := 1) (L2 := [_, _]) rfl (e := 80) rfl rfl (by decide) rfl ?_
          refine wx_goto rfl ?_
          refine ih (i + 1) _ (by omega) (by omega) (fun q h => by rw [wr_other _ _ _ _ h]; exact g2 q h) (fun k hk => ?_)
          by_cases zz : k = i
          · rw [zz, wr_eq, if_neg c_66]
          · rw [wr_ne _ _ _ _ zz]; exact j2 k (by omega)
        · refine wx_iconst (v := (nI 0)) rfl (e := 70) rfl (by decide) ?_
          refine wx_goto rfl ?_
          refine wn_iast rfl (e := 77) rfl rfl (by decide) (by omega) (by decide) ?_
          refine wn_iinc (m := 1) (L2 := [_, _]) rfl (e := 80) rfl rfl (by decide) rfl ?_
          refine wx_goto rfl ?_
          refine ih (i + 1) _ (by omega) (by omega) (fun q h => by rw [wr_other _ _ _ _ h]; exact g2 q h) (fun k hk => ?_)
          by_cases zz : k = i
          · rw [zz, wr_eq, if_pos c_66]
          · rw [wr_ne _ _ _ _ zz]; exact j2 k (by omega)
  exact loop 37 0 _ (by omega) (by omega) (fun _ _ => rfl) (fun k hk => absurd hk (Nat.not_lt_zero _))
theorem c_X7_clear {d Lx t rt u : Nat} {I : Nat → Nat → Int32} {G : Nat → Nat → Int64} {Q : ab_Q} {o : Nat} (ho : o = 1 ∨ o = 16) (hq : ∀ I2, (∀ q, ¬ (o ≤ q ∧ q ≤ (o + 4)) → q ≠ (o + 10) → I2 q = I q) → (∀ k, 9 ≤ k → k ≤ 15 → I2 o k = nI 0) → CLW o I2 plS 16 → (∀ k, k < 36 → I2 (o + 10) k = if k / 6 = k % 6 then nI 0 else nI 999) → Q none (hp Lx t rt u I2 G)) : ab_call ab_MT (d + 4) 90 [.ref o] (hp Lx t rt u I G) 0 0 Q := by
  rcases ho with rfl | rfl
  · exact c_X7_clear_1 hq
  · exact c_X7_clear_16 hq

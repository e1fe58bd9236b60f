/-! contracts again, over part of the cells -/
abbrev h16 (Lx : Nat) (l : List (Nat × Nat × Nat)) (I : Nat → Nat → Int32) (G : Nat → Nat → Int64) : ab_H := (16, SK Lx 16, I, G, PU ((1, 8, 15) :: (1, 7, 14) :: (1, 6, 13) :: (1, 5, 12) :: (1, 4, 11) :: (1, 3, 10) :: (1, 2, 9) :: (1, 1, 8) :: (1, 0, 2) :: (2, 4, 7) :: (2, 3, 6) :: (2, 2, 5) :: (2, 1, 4) :: (2, 0, 3) :: l))
theorem c_X2_begin_2_h16 {d Lx : Nat} {l : List (Nat × Nat × Nat)} {I : Nat → Nat → Int32} {G : Nat → Nat → Int64} {Q : ab_Q} {k : Nat} (hk : k < 5) (hq : Q none (h16 Lx l (wr I 5 k (I 2 5)) G)) : ab_call ab_MT (d + 1) 37 [.ref 2, .int (nI k)] (h16 Lx l I G) 0 0 Q := by
  refine wx_in (M := mX2_begin) rfl rfl rfl (Nat.le_of_ble_eq_true rfl) ?_
  refine wx_iload_n rfl (e := 1) rfl rfl ?_
  refine wn_if_lt rfl (e := 4) rfl (by omega) ?_
  refine wx_iload_n rfl (e := 5) rfl rfl ?_
  refine wx_iconst (v := (nI 5)) rfl (e := 6) rfl (by decide) ?_
  refine wn_ic_ge rfl (e := 9) rfl (by omega) (by omega) (fun c_6 => absurd c_6 (by omega)) (fun c_6 => ?_)
  refine wx_aload_n rfl (e := 10) rfl rfl ?_
  refine wx_getr rfl (e := 13) rfl rfl rfl ?_
  refine wx_iload_n rfl (e := 14) rfl rfl ?_
  refine wx_aload_n rfl (e := 15) rfl rfl ?_
  refine wx_geti rfl (e := 18) rfl rfl ?_
  refine wn_iast rfl (e := 19) rfl rfl (by decide) (by omega) (by decide) ?_
  refine wx_ret rfl rfl ⟨by decide, by decide⟩ ?_
  exact hq
theorem c_X2_emit_2_h16 {d Lx : Nat} {l : List (Nat × Nat × Nat)} {I : Nat → Nat → Int32} {G : Nat → Nat → Int64} {Q : ab_Q} {x : Nat} (hx : I 2 5 = nI x) (hx2 : x < 420) {k v : Int32} (hq : Q (some (.int (nI x))) (h16 Lx l (wr (wr (wr I 3 x k) 4 x v) 2 5 (nI (x + 1))) G)) : ab_call ab_MT (d + 1) 38 [.ref 2, .int k, .int v] (h16 Lx l I G) 0 0 Q := by
  refine wx_in (M := mX2_emit) rfl rfl rfl (Nat.le_of_ble_eq_true rfl) ?_
  refine wx_aload_n rfl (e := 1) rfl rfl ?_
  refine wx_geti rfl (e := 4) rfl rfl ?_
  rw [hx]
  refine wn_if_lt rfl (e := 7) rfl (by omega) ?_
  refine wx_aload_n rfl (e := 8) rfl rfl ?_
  refine wx_geti rfl (e := 11) rfl rfl ?_
  rw [hx]
  refine wx_sipush (v := (nI 420)) rfl (e := 14) rfl (by decide) ?_
  refine wn_ic_lt rfl (e := 17) rfl (by omega) (by omega) (fun c_14 => ?_) (fun c_14 => absurd c_14 (by omega))
  refine wx_aload_n rfl (e := 20) rfl rfl ?_
  refine wx_getr rfl (e := 23) rfl rfl rfl ?_
  refine wx_aload_n rfl (e := 24) rfl rfl ?_
  refine wx_geti rfl (e := 27) rfl rfl ?_
  rw [hx]
  refine wx_iload_n rfl (e := 28) rfl rfl ?_
  refine wn_iast rfl (e := 29) rfl rfl (by decide) (by omega) (by decide) ?_
  refine wx_aload_n rfl (e := 30) rfl rfl ?_
  refine wx_getr rfl (e := 33) rfl rfl rfl ?_
  refine wx_aload_n rfl (e := 34) rfl rfl ?_
  refine wx_geti rfl (e := 37) rfl rfl ?_
  rw [wr_other _ _ _ _ (by decide), hx]
  refine wx_iload_n rfl (e := 38) rfl rfl ?_
  refine wn_iast rfl (e := 39) rfl rfl (by decide) (by omega) (by decide) ?_
  refine wx_aload_n rfl (e := 40) rfl rfl ?_
  refine wx_dup rfl (e := 41) rfl rfl ?_
  refine wx_geti rfl (e := 44) rfl rfl ?_
  rw [wr_other _ _ _ _ (by decide), wr_other _ _ _ _ (by decide), hx]
  refine wx_iconst (v := (nI 1)) rfl (e := 45) rfl (by decide) ?_
  refine wn_iadd rfl (e := 46) rfl ?_
  refine wx_puti rfl (e := 49) rfl rfl (by decide) ?_
  refine wx_aload_n rfl (e := 50) rfl rfl ?_
  refine wx_geti rfl (e := 53) rfl rfl ?_
  rw [wr_eq]
  refine wx_iconst (v := (nI 1)) rfl (e := 54) rfl (by decide) ?_
  refine wn_isub rfl (e := 55) rfl (by omega) ?_
  rw [show x + 1 - 1 = x by omega]
  refine wx_iret rfl rfl rfl ⟨by decide, by decide⟩ ?_
  exact hq
set_option maxHeartbeats 1000000 in
theorem c_X2_beginTimes_h16 {d Lx : Nat} {l : List (Nat × Nat × Nat)} {I : Nat → Nat → Int32} {G : Nat → Nat → Int64} {Q : ab_Q} {x K : Nat} {L : Nat → (Nat → Int32) → Int32} (hP : CLP 1 I L x K) (hK : K < 5) (hx : x + 4 ≤ 420) {j f : Nat} (hj : j < 9) (hL : ∀ vs, L K vs = vs j * nI f) (hq : ∀ I2, frw 1 I I2 → CLP 1 I2 L (x + 4) (K + 1) → Q none (h16 Lx l I2 G)) : ab_call ab_MT (d + 2) 36 [.ref (1 + 1), .int (nI K), .int (nI j), .int (nI f)] (h16 Lx l I G) 0 0 Q := by
  refine wx_in (M := mX2_beginTimes) rfl rfl rfl (Nat.le_of_ble_eq_true rfl) ?_
  refine wx_aload_n rfl (e := 1) rfl rfl ?_
  refine wx_iload_n rfl (e := 2) rfl rfl ?_
  refine wx_cv1 (mc := 0) (ms := 0) rfl (e := 5) rfl rfl (Nat.le_of_ble_eq_true rfl) ⟨by decide, by decide⟩ ?_
  refine c_X2_begin_2_h16 (k := K) hK ?_
  have L0 : lsK 1 x [] (wr I (1 + 1 + 3) K (I (1 + 1) 5)) := ⟨by rw [wr_other _ _ _ _ (by omega)]; exact hP.1, True.intro⟩
  refine wx_aload_n rfl (e := 6) rfl rfl ?_
  refine wx_iconst (v := (nI 1)) rfl (e := 7) rfl (by decide) ?_
  refine wx_iload_n rfl (e := 8) rfl rfl ?_
  refine wx_cv2 (mc := 0) (ms := 0) rfl (e := 11) rfl rfl (Nat.le_of_ble_eq_true rfl) ⟨by decide, by decide⟩ ?_
  refine c_X2_emit_2_h16 (x := x) (L0.1) (by omega) ?_
  show WP _ _ _ _ _ _ (h16 Lx l (emW 1 (wr I (1 + 1 + 3) K (I (1 + 1) 5)) (x) (nI 1) (nI j)) G) _ _
  have L1 : lsK 1 x [(1, nI j)] (emW 1 (wr I (1 + 1 + 3) K (I (1 + 1) 5)) x (nI 1) (nI j)) := emW.s (by decide) L0 rfl (fun _ => rfl)
  refine wx_pop rfl (e := 12) rfl rfl ?_
  refine wx_aload_n rfl (e := 13) rfl rfl ?_
  refine wx_iconst (v := (nI 0)) rfl (e := 14) rfl (by decide) ?_
  refine wx_iload_n rfl (e := 15) rfl rfl ?_
  refine wx_cv2 (mc := 0) (ms := 0) rfl (e := 18) rfl rfl (Nat.le_of_ble_eq_true rfl) ⟨by decide, by decide⟩ ?_
  refine c_X2_emit_2_h16 (x := x + 1) (L1.1) (by omega) ?_
  show WP _ _ _ _ _ _ (h16 Lx l (emW 1 (emW 1 (wr I (1 + 1 + 3) K (I (1 + 1) 5)) x (nI 1) (nI j)) (x + 1) (nI 0) (nI f)) G) _ _
  have L2 : lsK 1 x [(1, nI j), (0, nI f)] (emW 1 (emW 1 (wr I (1 + 1 + 3) K (I (1 + 1) 5)) x (nI 1) (nI j)) (x + 1) (nI 0) (nI f)) := emW.s (by decide) L1 rfl (fun _ => rfl)
  refine wx_pop rfl (e := 19) rfl rfl ?_
  refine wx_aload_n rfl (e := 20) rfl rfl ?_
  refine wx_bipush (v := (nI 42)) rfl (e := 22) rfl (by decide) ?_
  refine wx_iconst (v := (nI 0)) rfl (e := 23) rfl (by decide) ?_
  refine wx_cv2 (mc := 0) (ms := 0) rfl (e := 26) rfl rfl (Nat.le_of_ble_eq_true rfl) ⟨by decide, by decide⟩ ?_
  refine c_X2_emit_2_h16 (x := x + 2) (L2.1) (by omega) ?_
  show WP _ _ _ _ _ _ (h16 Lx l (emW 1 (emW 1 (emW 1 (wr I (1 + 1 + 3) K (I (1 + 1) 5)) x (nI 1) (nI j)) (x + 1) (nI 0) (nI f)) (x + 2) (nI 42) (nI 0)) G) _ _
  have L3 : lsK 1 x [(1, nI j), (0, nI f), (4, nI 0)] (emW 1 (emW 1 (emW 1 (wr I (1 + 1 + 3) K (I (1 + 1) 5)) x (nI 1) (nI j)) (x + 1) (nI 0) (nI f)) (x + 2) (nI 42) (nI 0)) := emW.s (by decide) L2 rfl (fun w => absurd w (by decide))
  refine wx_pop rfl (e := 27) rfl rfl ?_
  refine wx_aload_n rfl (e := 28) rfl rfl ?_
  refine wx_iconst (v := (nI 3)) rfl (e := 29) rfl (by decide) ?_
  refine wx_iconst (v := (nI 0)) rfl (e := 30) rfl (by decide) ?_
  refine wx_cv2 (mc := 0) (ms := 0) rfl (e := 33) rfl rfl (Nat.le_of_ble_eq_true rfl) ⟨by decide, by decide⟩ ?_
  refine c_X2_emit_2_h16 (x := x + 3) (L3.1) (by omega) ?_
  show WP _ _ _ _ _ _ (h16 Lx l (emW 1 (emW 1 (emW 1 (emW 1 (wr I (1 + 1 + 3) K (I (1 + 1) 5)) x (nI 1) (nI j)) (x + 1) (nI 0) (nI f)) (x + 2) (nI 42) (nI 0)) (x + 3) (nI 3) (nI 0)) G) _ _
  refine wx_pop rfl (e := 34) rfl rfl ?_
  refine wx_ret rfl rfl ⟨by decide, by decide⟩ ?_
  exact hq _ (frw.b.tr (frw.e.tr (frw.e.tr (frw.e.tr frw.e)))) (hP.gen (by decide) (rw_t hj) (by show x + 3 + 1 ≤ 420; omega) ((emW.f (by decide) (by omega)).tr ((emW.f (by decide) (by omega)).tr (emW.f (by decide) (by omega)))) L3 (fun vs => by rw [hL, lw_t hj]))
set_option maxHeartbeats 2000000 in
theorem c_X2_clear_h16 {d Lx : Nat} {l : List (Nat × Nat × Nat)} {I : Nat → Nat → Int32} {G : Nat → Nat → Int64} {Q : ab_Q} (hq : ∀ I2, frw 1 I I2 → CLW 1 I2 plS 16 → Q none (h16 Lx l I2 G)) : ab_call ab_MT (d + 3) 35 [.ref (1 + 1)] (h16 Lx l I G) 0 0 Q := by
  refine wx_in (M := mX2_clear) rfl rfl rfl (Nat.le_of_ble_eq_true rfl) ?_
  refine wx_aload_n rfl (e := 1) rfl rfl ?_
  refine wx_iconst (v := (nI 0)) rfl (e := 2) rfl (by decide) ?_
  refine wx_puti rfl (e := 5) rfl rfl (by omega) ?_
  have P0 : CLP 1 (wr I (1 + 1) 5 (nI 0)) plS 0 0 := ⟨wr_eq _ _ _ _, by decide, fun j hj => absurd hj (Nat.not_lt_zero _), fun j hj => absurd hj (Nat.not_lt_zero _)⟩
  have F0 : frw 1 I (wr I (1 + 1) 5 (nI 0)) := fun q h _ _ _ => wr_other _ _ _ _ h
  refine wx_aload_n rfl (e := 6) rfl rfl ?_
  refine wx_iconst (v := (nI 0)) rfl (e := 7) rfl (by decide) ?_
  refine wx_cv1 (mc := 0) (ms := 0) rfl (e := 10) rfl rfl (Nat.le_of_ble_eq_true rfl) ⟨by decide, by decide⟩ ?_
  refine c_X2_begin_2_h16 (k := 0) (by decide) ?_
  have L0 : lsK 1 0 [] (wr (wr I (1 + 1) 5 (nI 0)) (1 + 1 + 3) 0 ((wr I (1 + 1) 5 (nI 0)) (1 + 1) 5)) := ⟨by rw [wr_other _ _ _ _ (by omega)]; exact P0.1, True.intro⟩
  refine wx_aload_n rfl (e := 11) rfl rfl ?_
  refine wx_iconst (v := (nI 1)) rfl (e := 12) rfl (by decide) ?_
  refine wx_iconst (v := (nI 0)) rfl (e := 13) rfl (by decide) ?_
  refine wx_cv2 (mc := 0) (ms := 0) rfl (e := 16) rfl rfl (Nat.le_of_ble_eq_true rfl) ⟨by decide, by decide⟩ ?_
  refine c_X2_emit_2_h16 (x := 0) (L0.1) (by omega) ?_
  show WP _ _ _ _ _ _ (h16 Lx l (emW 1 (wr (wr I (1 + 1) 5 (nI 0)) (1 + 1 + 3) 0 ((wr I (1 + 1) 5 (nI 0)) (1 + 1) 5)) (0) (nI 1) (nI 0)) G) _ _
  have L1 : lsK 1 0 [(1, nI 0)] (emW 1 (wr (wr I (1 + 1) 5 (nI 0)) (1 + 1 + 3) 0 ((wr I (1 + 1) 5 (nI 0)) (1 + 1) 5)) 0 (nI 1) (nI 0)) := emW.s (by decide) L0 rfl (fun _ => rfl)
  refine wx_pop rfl (e := 17) rfl rfl ?_
  refine wx_aload_n rfl (e := 18) rfl rfl ?_
  refine wx_iconst (v := (nI 3)) rfl (e := 19) rfl (by decide) ?_
  refine wx_iconst (v := (nI 0)) rfl (e := 20) rfl (by decide) ?_
  refine wx_cv2 (mc := 0) (ms := 0) rfl (e := 23) rfl rfl (Nat.le_of_ble_eq_true rfl) ⟨by decide, by decide⟩ ?_
  refine c_X2_emit_2_h16 (x := 1) (L1.1) (by omega) ?_
  show WP _ _ _ _ _ _ (h16 Lx l (emW 1 (emW 1 (wr (wr I (1 + 1) 5 (nI 0)) (1 + 1 + 3) 0 ((wr I (1 + 1) 5 (nI 0)) (1 + 1) 5)) 0 (nI 1) (nI 0)) (1) (nI 3) (nI 0)) G) _ _
  have P1 : CLP 1 (emW 1 (emW 1 (wr (wr I (1 + 1) 5 (nI 0)) (1 + 1 + 3) 0 ((wr I (1 + 1) 5 (nI 0)) (1 + 1) 5)) 0 (nI 1) (nI 0)) 1 (nI 3) (nI 0)) plS 2 1 := P0.gen (by decide) (rw_1 (by decide)) (by decide) (emW.f (by decide) (by omega)) L1 (fun vs => by rw [lw_1 (by decide)]; rfl)
  have F1 : frw 1 I (emW 1 (emW 1 (wr (wr I (1 + 1) 5 (nI 0)) (1 + 1 + 3) 0 ((wr I (1 + 1) 5 (nI 0)) (1 + 1) 5)) 0 (nI 1) (nI 0)) 1 (nI 3) (nI 0)) := F0.tr (frw.b.tr (frw.e.tr frw.e))
  refine wx_pop rfl (e := 24) rfl rfl ?_
  refine wx_aload_n rfl (e := 25) rfl rfl ?_
  refine wx_iconst (v := (nI 1)) rfl (e := 26) rfl (by decide) ?_
  refine wx_bipush (v := (nI 8)) rfl (e := 28) rfl (by decide) ?_
  refine wx_bipush (v := (nI 50)) rfl (e := 30) rfl (by decide) ?_
  refine wx_cv3 (mc := 0) (ms := 0) rfl (e := 33) rfl rfl (Nat.le_of_ble_eq_true rfl) ⟨by decide, by decide⟩ ?_
  refine c_X2_beginTimes_h16 P1 (by decide) (by decide) (j := 8) (f := 50) (by decide) (fun vs => rfl) (fun I2 f2 P2 => ?_)
  have F2 := F1.tr f2
  refine wx_aload_n rfl (e := 34) rfl rfl ?_
  refine wx_iconst (v := (nI 2)) rfl (e := 35) rfl (by decide) ?_
  refine wx_cv1 (mc := 0) (ms := 0) rfl (e := 38) rfl rfl (Nat.le_of_ble_eq_true rfl) ⟨by decide, by decide⟩ ?_
  refine c_X2_begin_2_h16 (k := 2) (by decide) ?_
  have L0 : lsK 1 6 [] (wr I2 (1 + 1 + 3) 2 (I2 (1 + 1) 5)) := ⟨by rw [wr_other _ _ _ _ (by omega)]; exact P2.1, True.intro⟩
  refine wx_aload_n rfl (e := 39) rfl rfl ?_
  refine wx_iconst (v := (nI 1)) rfl (e := 40) rfl (by decide) ?_
  refine wx_iconst (v := (nI 4)) rfl (e := 41) rfl (by decide) ?_
  refine wx_cv2 (mc := 0) (ms := 0) rfl (e := 44) rfl rfl (Nat.le_of_ble_eq_true rfl) ⟨by decide, by decide⟩ ?_
  refine c_X2_emit_2_h16 (x := 6) (L0.1) (by omega) ?_
  show WP _ _ _ _ _ _ (h16 Lx l (emW 1 (wr I2 (1 + 1 + 3) 2 (I2 (1 + 1) 5)) (6) (nI 1) (nI 4)) G) _ _
  have L1 : lsK 1 6 [(1, nI 4)] (emW 1 (wr I2 (1 + 1 + 3) 2 (I2 (1 + 1) 5)) 6 (nI 1) (nI 4)) := emW.s (by decide) L0 rfl (fun _ => rfl)
  refine wx_pop rfl (e := 45) rfl rfl ?_
  refine wx_aload_n rfl (e := 46) rfl rfl ?_
  refine wx_iconst (v := (nI 3)) rfl (e := 47) rfl (by decide) ?_
  refine wx_iconst (v := (nI 0)) rfl (e := 48) rfl (by decide) ?_
  refine wx_cv2 (mc := 0) (ms := 0) rfl (e := 51) rfl rfl (Nat.le_of_ble_eq_true rfl) ⟨by decide, by decide⟩ ?_
  refine c_X2_emit_2_h16 (x := 7) (L1.1) (by omega) ?_
  show WP _ _ _ _ _ _ (h16 Lx l (emW 1 (emW 1 (wr I2 (1 + 1 + 3) 2 (I2 (1 + 1) 5)) 6 (nI 1) (nI 4)) (7) (nI 3) (nI 0)) G) _ _
  have P3 : CLP 1 (emW 1 (emW 1 (wr I2 (1 + 1 + 3) 2 (I2 (1 + 1) 5)) 6 (nI 1) (nI 4)) 7 (nI 3) (nI 0)) plS 8 3 := P2.gen (by decide) (rw_1 (by decide)) (by decide) (emW.f (by decide) (by omega)) L1 (fun vs => by rw [lw_1 (by decide)]; rfl)
  have F3 : frw 1 I (emW 1 (emW 1 (wr I2 (1 + 1 + 3) 2 (I2 (1 + 1) 5)) 6 (nI 1) (nI 4)) 7 (nI 3) (nI 0)) := F2.tr (frw.b.tr (frw.e.tr frw.e))
  refine wx_pop rfl (e := 52) rfl rfl ?_
  refine wx_aload_n rfl (e := 53) rfl rfl ?_
  refine wx_iconst (v := (nI 3)) rfl (e := 54) rfl (by decide) ?_
  refine wx_iconst (v := (nI 5)) rfl (e := 55) rfl (by decide) ?_
  refine wx_bipush (v := (nI 10)) rfl (e := 57) rfl (by decide) ?_
  refine wx_cv3 (mc := 0) (ms := 0) rfl (e := 60) rfl rfl (Nat.le_of_ble_eq_true rfl) ⟨by decide, by decide⟩ ?_
  refine c_X2_beginTimes_h16 P3 (by decide) (by decide) (j := 5) (f := 10) (by decide) (fun vs => rfl) (fun I4 f4 P4 => ?_)
  have F4 := F3.tr f4
  refine wx_aload_n rfl (e := 61) rfl rfl ?_
  refine wx_iconst (v := (nI 4)) rfl (e := 62) rfl (by decide) ?_
  refine wx_bipush (v := (nI 6)) rfl (e := 64) rfl (by decide) ?_
  refine wx_bipush (v := (nI 10)) rfl (e := 66) rfl (by decide) ?_
  refine wx_cv3 (mc := 0) (ms := 0) rfl (e := 69) rfl rfl (Nat.le_of_ble_eq_true rfl) ⟨by decide, by decide⟩ ?_
  refine c_X2_beginTimes_h16 P4 (by decide) (by decide) (j := 6) (f := 10) (by decide) (fun vs => rfl) (fun I5 f5 P5 => ?_)
  refine wx_ret rfl rfl ⟨by decide, by decide⟩ ?_
  exact hq I5 (F4.tr f5) P5
set_option maxHeartbeats 4000000 in
theorem c_X7_clear_1_h16 {d Lx : Nat} {l : List (Nat × Nat × Nat)} {I : Nat → Nat → Int32} {G : Nat → Nat → Int64} {Q : ab_Q} (hq : ∀ I2, (∀ q, ¬ (1 ≤ q ∧ q ≤ 5) → q ≠ 11 → I2 q = I q) → (∀ k, 9 ≤ k → k ≤ 15 → I2 1 k = nI 0) → CLW 1 I2 plS 16 → (∀ k, k < 36 → I2 11 k = if k / 6 = k % 6 then nI 0 else nI 999) → Q none (h16 Lx l I2 G)) : ab_call ab_MT (d + 4) 90 [.ref 1] (h16 Lx l I G) 0 0 Q := by
  refine wx_in (M := mX7_clear) rfl rfl rfl (Nat.le_of_ble_eq_true rfl) ?_
  refine wx_aload_n rfl (e := 1) rfl rfl ?_
  refine wx_getr rfl (e := 4) rfl rfl rfl ?_
  refine wx_cv0 (mc := 0) (ms := 0) rfl (e := 7) rfl rfl (Nat.le_of_ble_eq_true rfl) ⟨by decide, by decide⟩ ?_
  refine c_X2_clear_h16 (fun I3 f3 W3 => ?_)
  have f3 : ∀ q, q ≠ 2 → q ≠ 3 → q ≠ 4 → q ≠ 5 → I3 q = I q := f3
  refine wx_aload_n rfl (e := 8) rfl rfl ?_
  refine wx_iconst (v := (nI 0)) rfl (e := 9) rfl (by decide) ?_
  refine wx_puti rfl (e := 12) rfl rfl (by decide) ?_
  refine wx_aload_n rfl (e := 13) rfl rfl ?_
  refine wx_iconst (v := (nI 0)) rfl (e := 14) rfl (by decide) ?_
  refine wx_puti rfl (e := 17) rfl rfl (by decide) ?_
  refine wx_aload_n rfl (e := 18) rfl rfl ?_
  refine wx_iconst (v := (nI 0)) rfl (e := 19) rfl (by decide) ?_
  refine wx_puti rfl (e := 22) rfl rfl (by decide) ?_
  refine wx_aload_n rfl (e := 23) rfl rfl ?_
  refine wx_iconst (v := (nI 0)) rfl (e := 24) rfl (by decide) ?_
  refine wx_puti rfl (e := 27) rfl rfl (by decide) ?_
  refine wx_aload_n rfl (e := 28) rfl rfl ?_
  refine wx_iconst (v := (nI 0)) rfl (e := 29) rfl (by decide) ?_
  refine wx_puti rfl (e := 32) rfl rfl (by decide) ?_
  refine wx_aload_n rfl (e := 33) rfl rfl ?_
  refine wx_iconst (v := (nI 0)) rfl (e := 34) rfl (by decide) ?_
  refine wx_puti rfl (e := 37) rfl rfl (by decide) ?_
  refine wx_aload_n rfl (e := 38) rfl rfl ?_
  refine wx_iconst (v := (nI 0)) rfl (e := 39) rfl (by decide) ?_
  refine wx_puti rfl (e := 42) rfl rfl (by decide) ?_
  refine wx_iconst (v := (nI 0)) rfl (e := 43) rfl (by decide) ?_
  refine wx_istore_n (L2 := [_, _]) rfl (e := 44) rfl (by decide) rfl ?_
  have fin : ∀ I2, (∀ q, q ≠ 11 → I2 q = (wr (wr (wr (wr (wr (wr (wr I3 1 9 (nI 0)) 1 10 (nI 0)) 1 11 (nI 0)) 1 12 (nI 0)) 1 13 (nI 0)) 1 14 (nI 0)) 1 15 (nI 0)) q) → (∀ k, k < 36 → I2 11 k = if k / 6 = k % 6 then nI 0 else nI 999) → Q none (h16 Lx l I2 G) := by
    intro I2 g2 j2
    refine hq I2 (fun q h1 h2 => ?_) (fun k h1 h2 => ?_) (W3.kept ?_ ?_ ?_ ?_) j2
    · rw [g2 q (by omega), wr_other _ _ _ _ (by omega), wr_other _ _ _ _ (by omega), wr_other _ _ _ _ (by omega), wr_other _ _ _ _ (by omega), wr_other _ _ _ _ (by omega), wr_other _ _ _ _ (by omega), wr_other _ _ _ _ (by omega)]; exact f3 q (by omega) (by omega) (by omega) (by omega)
    · rw [g2 1 (by decide)]; rcases (show k = 9 ∨ k = 10 ∨ k = 11 ∨ k = 12 ∨ k = 13 ∨ k = 14 ∨ k = 15 by omega) with h | h | h | h | h | h | h <;> subst h <;> simp [wr_at]
    · rw [g2 2 (by decide), wr_other _ _ _ _ (by decide), wr_other _ _ _ _ (by decide), wr_other _ _ _ _ (by decide), wr_other _ _ _ _ (by decide), wr_other _ _ _ _ (by decide), wr_other _ _ _ _ (by decide), wr_other _ _ _ _ (by decide)]
    · rw [g2 3 (by decide), wr_other _ _ _ _ (by decide), wr_other _ _ _ _ (by decide), wr_other _ _ _ _ (by decide), wr_other _ _ _ _ (by decide), wr_other _ _ _ _ (by decide), wr_other _ _ _ _ (by decide), wr_other _ _ _ _ (by decide)]
    · rw [g2 4 (by decide), wr_other _ _ _ _ (by decide), wr_other _ _ _ _ (by decide), wr_other _ _ _ _ (by decide), wr_other _ _ _ _ (by decide), wr_other _ _ _ _ (by decide), wr_other _ _ _ _ (by decide), wr_other _ _ _ _ (by decide)]
    · rw [g2 5 (by decide), wr_other _ _ _ _ (by decide), wr_other _ _ _ _ (by decide), wr_other _ _ _ _ (by decide), wr_other _ _ _ _ (by decide), wr_other _ _ _ _ (by decide), wr_other _ _ _ _ (by decide), wr_other _ _ _ _ (by decide)]
  have loop : ∀ (m_ : Nat) (i : Nat) (I2 : Nat → Nat → Int32), i ≤ 36 → 36 - i < m_ → (∀ q, q ≠ 11 → I2 q = (wr (wr (wr (wr (wr (wr (wr I3 1 9 (nI 0)) 1 10 (nI 0)) 1 11 (nI 0)) 1 12 (nI 0)) 1 13 (nI 0)) 1 14 (nI 0)) 1 15 (nI 0)) q) → (∀ k, k < i → I2 11 k = if k / 6 = k % 6 then nI 0 else nI 999) → WP (d + 3) mX7_clear Q 44 [some (.ref 1), some (.int (nI i))] [] (h16 Lx l I2 G) 0 0 := by
    intro m_
    induction m_ with
    | zero => intro i I2 h1 h2; omega
    | succ m_ ih =>
      intro i I2 h1 h2 g2 j2
      refine wx_iload_n rfl (e := 45) rfl rfl ?_
      refine wx_aload_n rfl (e := 46) rfl rfl ?_
      refine wx_getr rfl (e := 49) rfl rfl rfl ?_
      refine wx_alen rfl (e := 50) rfl rfl (by decide) rfl ?_
      refine wn_ic_ge rfl (e := 53) rfl (by omega) (by omega) (fun c_50 => ?_) (fun c_50 => ?_)
      · refine wx_ret rfl rfl ⟨by decide, by decide⟩ ?_
        have ei : i = 36 := by omega
        subst ei
        exact fin I2 g2 j2
      · refine wx_aload_n rfl (e := 54) rfl rfl ?_
        refine wx_getr rfl (e := 57) rfl rfl rfl ?_
        refine wx_iload_n rfl (e := 58) rfl rfl ?_
        refine wx_iload_n rfl (e := 59) rfl rfl ?_
        refine wx_bipush (v := (nI 6)) rfl (e := 61) rfl (by decide) ?_
        refine wx_idiv rfl (e := 62) rfl (by decide) ?_
        rw [pk_div (by omega) (by omega) (by omega)]
        refine wx_iload_n rfl (e := 63) rfl rfl ?_
        refine wx_bipush (v := (nI 6)) rfl (e := 65) rfl (by decide) ?_
        refine wx_irem rfl (e := 66) rfl (by decide) ?_
        rw [pk_rem (by omega) (by omega) (by omega)]
        refine wn_ic_ne rfl (e := 69) rfl (by omega) (by omega) (fun c_66 => ?_) (fun c_66 => ?_)
        · refine wx_sipush (v := (nI 999)) rfl (e := 76) rfl (by decide) ?_
          refine wn_iast rfl (e := 77) rfl rfl (by decide) (by omega) (by decide) ?_
          refine wn_iinc (m := 1) (L2 := [_, _]) rfl (e := 80) rfl rfl (by decide) rfl ?_
          refine wx_goto rfl ?_
          refine ih (i + 1) _ (by omega) (by omega) (fun q h => by rw [wr_other _ _ _ _ h]; exact g2 q h) (fun k hk => ?_)
          by_cases zz : k = i
          · rw [zz, wr_eq, if_neg c_66]
          · rw [wr_ne _ _ _ _ zz]; exact j2 k (by omega)
        · refine wx_iconst (v := (nI 0)) rfl (e := 70) rfl (by decide) ?_
          refine wx_goto rfl ?_
          refine wn_iast rfl (e := 77) rfl rfl (by decide) (by omega) (by decide) ?_
          refine wn_iinc (m := 1) (L2 := [_, _]) rfl (e := 80) rfl rfl (by decide) rfl ?_
          refine wx_goto rfl ?_
          refine ih (i + 1) _ (by omega) (by omega) (fun q h => by rw [wr_other _ _ _ _ h]; exact g2 q h) (fun k hk => ?_)
          by_cases zz : k = i
          · rw [zz, wr_eq, if_pos c_66]
          · rw [wr_ne _ _ _ _ zz]; exact j2 k (by omega)
  exact loop 37 0 _ (by omega) (by omega) (fun _ _ => rfl) (fun k hk => absurd hk (Nat.not_lt_zero _))
abbrev h31 (Lx : Nat) (l : List (Nat × Nat × Nat)) (I : Nat → Nat → Int32) (G : Nat → Nat → Int64) : ab_H := (31, SK Lx 31, I, G, PU ((16, 8, 30) :: (16, 7, 29) :: (16, 6, 28) :: (16, 5, 27) :: (16, 4, 26) :: (16, 3, 25) :: (16, 2, 24) :: (16, 1, 23) :: (16, 0, 17) :: (17, 4, 22) :: (17, 3, 21) :: (17, 2, 20) :: (17, 1, 19) :: (17, 0, 18) :: l))
theorem c_X2_begin_17_h31 {d Lx : Nat} {l : List (Nat × Nat × Nat)} {I : Nat → Nat → Int32} {G : Nat → Nat → Int64} {Q : ab_Q} {k : Nat} (hk : k < 5) (hq : Q none (h31 Lx l (wr I 20 k (I 17 5)) G)) : ab_call ab_MT (d + 1) 37 [.ref 17, .int (nI k)] (h31 Lx l I G) 0 0 Q := by
  refine wx_in (M := mX2_begin) rfl rfl rfl (Nat.le_of_ble_eq_true rfl) ?_
  refine wx_iload_n rfl (e := 1) rfl rfl ?_
  refine wn_if_lt rfl (e := 4) rfl (by omega) ?_
  refine wx_iload_n rfl (e := 5) rfl rfl ?_
  refine wx_iconst (v := (nI 5)) rfl (e := 6) rfl (by decide) ?_
  refine wn_ic_ge rfl (e := 9) rfl (by omega) (by omega) (fun c_6 => absurd c_6 (by omega)) (fun c_6 => ?_)
  refine wx_aload_n rfl (e := 10) rfl rfl ?_
  refine wx_getr rfl (e := 13) rfl rfl rfl ?_
  refine wx_iload_n rfl (e := 14) rfl rfl ?_
  refine wx_aload_n rfl (e := 15) rfl rfl ?_
  refine wx_geti rfl (e := 18) rfl rfl ?_
  refine wn_iast rfl (e := 19) rfl rfl (by decide) (by omega) (by decide) ?_
  refine wx_ret rfl rfl ⟨by decide, by decide⟩ ?_
  exact hq
theorem c_X2_emit_17_h31 {d Lx : Nat} {l : List (Nat × Nat × Nat)} {I : Nat → Nat → Int32} {G : Nat → Nat → Int64} {Q : ab_Q} {x : Nat} (hx : I 17 5 = nI x) (hx2 : x < 420) {k v : Int32} (hq : Q (some (.int (nI x))) (h31 Lx l (wr (wr (wr I 18 x k) 19 x v) 17 5 (nI (x + 1))) G)) : ab_call ab_MT (d + 1) 38 [.ref 17, .int k, .int v] (h31 Lx l I G) 0 0 Q := by
  refine wx_in (M := mX2_emit) rfl rfl rfl (Nat.le_of_ble_eq_true rfl) ?_
  refine wx_aload_n rfl (e := 1) rfl rfl ?_
  refine wx_geti rfl (e := 4) rfl rfl ?_
  rw [hx]
  refine wn_if_lt rfl (e := 7) rfl (by omega) ?_
  refine wx_aload_n rfl (e := 8) rfl rfl ?_
  refine wx_geti rfl (e := 11) rfl rfl ?_
  rw [hx]
  refine wx_sipush (v := (nI 420)) rfl (e := 14) rfl (by decide) ?_
  refine wn_ic_lt rfl (e := 17) rfl (by omega) (by omega) (fun c_14 => ?_) (fun c_14 => absurd c_14 (by omega))
  refine wx_aload_n rfl (e := 20) rfl rfl ?_
  refine wx_getr rfl (e := 23) rfl rfl rfl ?_
  refine wx_aload_n rfl (e := 24) rfl rfl ?_
  refine wx_geti rfl (e := 27) rfl rfl ?_
  rw [hx]
  refine wx_iload_n rfl (e := 28) rfl rfl ?_
  refine wn_iast rfl (e := 29) rfl rfl (by decide) (by omega) (by decide) ?_
  refine wx_aload_n rfl (e := 30) rfl rfl ?_
  refine wx_getr rfl (e := 33) rfl rfl rfl ?_
  refine wx_aload_n rfl (e := 34) rfl rfl ?_
  refine wx_geti rfl (e := 37) rfl rfl ?_
  rw [wr_other _ _ _ _ (by decide), hx]
  refine wx_iload_n rfl (e := 38) rfl rfl ?_
  refine wn_iast rfl (e := 39) rfl rfl (by decide) (by omega) (by decide) ?_
  refine wx_aload_n rfl (e := 40) rfl rfl ?_
  refine wx_dup rfl (e := 41) rfl rfl ?_
  refine wx_geti rfl (e := 44) rfl rfl ?_
  rw [wr_other _ _ _ _ (by decide), wr_other _ _ _ _ (by decide), hx]
  refine wx_iconst (v := (nI 1)) rfl (e := 45) rfl (by decide) ?_
  refine wn_iadd rfl (e := 46) rfl ?_
  refine wx_puti rfl (e := 49) rfl rfl (by decide) ?_
  refine wx_aload_n rfl (e := 50) rfl rfl ?_
  refine wx_geti rfl (e := 53) rfl rfl ?_
  rw [wr_eq]
  refine wx_iconst (v := (nI 1)) rfl (e := 54) rfl (by decide) ?_
  refine wn_isub rfl (e := 55) rfl (by omega) ?_
  rw [show x + 1 - 1 = x by omega]
  refine wx_iret rfl rfl rfl ⟨by decide, by decide⟩ ?_
  exact hq
set_option maxHeartbeats 1000000 in
theorem c_X2_beginTimes_h31 {d Lx : Nat} {l : List (Nat × Nat × Nat)} {I : Nat → Nat → Int32} {G : Nat → Nat → Int64} {Q : ab_Q} {x K : Nat} {L : Nat → (Nat → Int32) → Int32} (hP : CLP 16 I L x K) (hK : K < 5) (hx : x + 4 ≤ 420) {j f : Nat} (hj : j < 9) (hL : ∀ vs, L K vs = vs j * nI f) (hq : ∀ I2, frw 16 I I2 → CLP 16 I2 L (x + 4) (K + 1) → Q none (h31 Lx l I2 G)) : ab_call ab_MT (d + 2) 36 [.ref (16 + 1), .int (nI K), .int (nI j), .int (nI f)] (h31 Lx l I G) 0 0 Q := by
  refine wx_in (M := mX2_beginTimes) rfl rfl rfl (Nat.le_of_ble_eq_true rfl) ?_
  refine wx_aload_n rfl (e := 1) rfl rfl ?_
  refine wx_iload_n rfl (e := 2) rfl rfl ?_
  refine wx_cv1 (mc := 0) (ms := 0) rfl (e := 5) rfl rfl (Nat.le_of_ble_eq_true rfl) ⟨by decide, by decide⟩ ?_
  refine c_X2_begin_17_h31 (k := K) hK ?_
  have L0 : lsK 16 x [] (wr I (16 + 1 + 3) K (I (16 + 1) 5)) := ⟨by rw [wr_other _ _ _ _ (by omega)]; exact hP.1, True.intro⟩
  refine wx_aload_n rfl (e := 6) rfl rfl ?_
  refine wx_iconst (v := (nI 1)) rfl (e := 7) rfl (by decide) ?_
  refine wx_iload_n rfl (e := 8) rfl rfl ?_
  refine wx_cv2 (mc := 0) (ms := 0) rfl (e := 11) rfl rfl (Nat.le_of_ble_eq_true rfl) ⟨by decide, by decide⟩ ?_
  refine c_X2_emit_17_h31 (x := x) (L0.1) (by omega) ?_
  show WP _ _ _ _ _ _ (h31 Lx l (emW 16 (wr I (16 + 1 + 3) K (I (16 + 1) 5)) (x) (nI 1) (nI j)) G) _ _
  have L1 : lsK 16 x [(1, nI j)] (emW 16 (wr I (16 + 1 + 3) K (I (16 + 1) 5)) x (nI 1) (nI j)) := emW.s (by decide) L0 rfl (fun _ => rfl)
  refine wx_pop rfl (e := 12) rfl rfl ?_
  refine wx_aload_n rfl (e := 13) rfl rfl ?_
  refine wx_iconst (v := (nI 0)) rfl (e := 14) rfl (by decide) ?_
  refine wx_iload_n rfl (e := 15) rfl rfl ?_
  refine wx_cv2 (mc := 0) (ms := 0) rfl (e := 18) rfl rfl (Nat.le_of_ble_eq_true rfl) ⟨by decide, by decide⟩ ?_
  refine c_X2_emit_17_h31 (x := x + 1) (L1.1) (by omega) ?_
  show WP _ _ _ _ _ _ (h31 Lx l (emW 16 (emW 16 (wr I (16 + 1 + 3) K (I (16 + 1) 5)) x (nI 1) (nI j)) (x + 1) (nI 0) (nI f)) G) _ _
  have L2 : lsK 16 x [(1, nI j), (0, nI f)] (emW 16 (emW 16 (wr I (16 + 1 + 3) K (I (16 + 1) 5)) x (nI 1) (nI j)) (x + 1) (nI 0) (nI f)) := emW.s (by decide) L1 rfl (fun _ => rfl)
  refine wx_pop rfl (e := 19) rfl rfl ?_
  refine wx_aload_n rfl (e := 20) rfl rfl ?_
  refine wx_bipush (v := (nI 42)) rfl (e := 22) rfl (by decide) ?_
  refine wx_iconst (v := (nI 0)) rfl (e := 23) rfl (by decide) ?_
  refine wx_cv2 (mc := 0) (ms := 0) rfl (e := 26) rfl rfl (Nat.le_of_ble_eq_true rfl) ⟨by decide, by decide⟩ ?_
  refine c_X2_emit_17_h31 (x := x + 2) (L2.1) (by omega) ?_
  show WP _ _ _ _ _ _ (h31 Lx l (emW 16 (emW 16 (emW 16 (wr I (16 + 1 + 3) K (I (16 + 1) 5)) x (nI 1) (nI j)) (x + 1) (nI 0) (nI f)) (x + 2) (nI 42) (nI 0)) G) _ _
  have L3 : lsK 16 x [(1, nI j), (0, nI f), (4, nI 0)] (emW 16 (emW 16 (emW 16 (wr I (16 + 1 + 3) K (I (16 + 1) 5)) x (nI 1) (nI j)) (x + 1) (nI 0) (nI f)) (x + 2) (nI 42) (nI 0)) := emW.s (by decide) L2 rfl (fun w => absurd w (by decide))
  refine wx_pop rfl (e := 27) rfl rfl ?_
  refine wx_aload_n rfl (e := 28) rfl rfl ?_
  refine wx_iconst (v := (nI 3)) rfl (e := 29) rfl (by decide) ?_
  refine wx_iconst (v := (nI 0)) rfl (e := 30) rfl (by decide) ?_
  refine wx_cv2 (mc := 0) (ms := 0) rfl (e := 33) rfl rfl (Nat.le_of_ble_eq_true rfl) ⟨by decide, by decide⟩ ?_
  refine c_X2_emit_17_h31 (x := x + 3) (L3.1) (by omega) ?_
  show WP _ _ _ _ _ _ (h31 Lx l (emW 16 (emW 16 (emW 16 (emW 16 (wr I (16 + 1 + 3) K (I (16 + 1) 5)) x (nI 1) (nI j)) (x + 1) (nI 0) (nI f)) (x + 2) (nI 42) (nI 0)) (x + 3) (nI 3) (nI 0)) G) _ _
  refine wx_pop rfl (e := 34) rfl rfl ?_
  refine wx_ret rfl rfl ⟨by decide, by decide⟩ ?_
  exact hq _ (frw.b.tr (frw.e.tr (frw.e.tr (frw.e.tr frw.e)))) (hP.gen (by decide) (rw_t hj) (by show x + 3 + 1 ≤ 420; omega) ((emW.f (by decide) (by omega)).tr ((emW.f (by decide) (by omega)).tr (emW.f (by decide) (by omega)))) L3 (fun vs => by rw [hL, lw_t hj]))
set_option maxHeartbeats 2000000 in
theorem c_X2_clear_h31 {d Lx : Nat} {l : List (Nat × Nat × Nat)} {I : Nat → Nat → Int32} {G : Nat → Nat → Int64} {Q : ab_Q} (hq : ∀ I2, frw 16 I I2 → CLW 16 I2 plS 16 → Q none (h31 Lx l I2 G)) : ab_call ab_MT (d + 3) 35 [.ref (16 + 1)] (h31 Lx l I G) 0 0 Q := by
  refine wx_in (M := mX2_clear) rfl rfl rfl (Nat.le_of_ble_eq_true rfl) ?_
  refine wx_aload_n rfl (e := 1) rfl rfl ?_
  refine wx_iconst (v := (nI 0)) rfl (e := 2) rfl (by decide) ?_
  refine wx_puti rfl (e := 5) rfl rfl (by omega) ?_
  have P0 : CLP 16 (wr I (16 + 1) 5 (nI 0)) plS 0 0 := ⟨wr_eq _ _ _ _, by decide, fun j hj => absurd hj (Nat.not_lt_zero _), fun j hj => absurd hj (Nat.not_lt_zero _)⟩
  have F0 : frw 16 I (wr I (16 + 1) 5 (nI 0)) := fun q h _ _ _ => wr_other _ _ _ _ h
  refine wx_aload_n rfl (e := 6) rfl rfl ?_
  refine wx_iconst (v := (nI 0)) rfl (e := 7) rfl (by decide) ?_
  refine wx_cv1 (mc := 0) (ms := 0) rfl (e := 10) rfl rfl (Nat.le_of_ble_eq_true rfl) ⟨by decide, by decide⟩ ?_
  refine c_X2_begin_17_h31 (k := 0) (by decide) ?_
  have L0 : lsK 16 0 [] (wr (wr I (16 + 1) 5 (nI 0)) (16 + 1 + 3) 0 ((wr I (16 + 1) 5 (nI 0)) (16 + 1) 5)) := ⟨by rw [wr_other _ _ _ _ (by omega)]; exact P0.1, True.intro⟩
  refine wx_aload_n rfl (e := 11) rfl rfl ?_
  refine wx_iconst (v := (nI 1)) rfl (e := 12) rfl (by decide) ?_
  refine wx_iconst (v := (nI 0)) rfl (e := 13) rfl (by decide) ?_
  refine wx_cv2 (mc := 0) (ms := 0) rfl (e := 16) rfl rfl (Nat.le_of_ble_eq_true rfl) ⟨by decide, by decide⟩ ?_
  refine c_X2_emit_17_h31 (x := 0) (L0.1) (by omega) ?_
  show WP _ _ _ _ _ _ (h31 Lx l (emW 16 (wr (wr I (16 + 1) 5 (nI 0)) (16 + 1 + 3) 0 ((wr I (16 + 1) 5 (nI 0)) (16 + 1) 5)) (0) (nI 1) (nI 0)) G) _ _
  have L1 : lsK 16 0 [(1, nI 0)] (emW 16 (wr (wr I (16 + 1) 5 (nI 0)) (16 + 1 + 3) 0 ((wr I (16 + 1) 5 (nI 0)) (16 + 1) 5)) 0 (nI 1) (nI 0)) := emW.s (by decide) L0 rfl (fun _ => rfl)
  refine wx_pop rfl (e := 17) rfl rfl ?_
  refine wx_aload_n rfl (e := 18) rfl rfl ?_
  refine wx_iconst (v := (nI 3)) rfl (e := 19) rfl (by decide) ?_
  refine wx_iconst (v := (nI 0)) rfl (e := 20) rfl (by decide) ?_
  refine wx_cv2 (mc := 0) (ms := 0) rfl (e := 23) rfl rfl (Nat.le_of_ble_eq_true rfl) ⟨by decide, by decide⟩ ?_
  refine c_X2_emit_17_h31 (x := 1) (L1.1) (by omega) ?_
  show WP _ _ _ _ _ _ (h31 Lx l (emW 16 (emW 16 (wr (wr I (16 + 1) 5 (nI 0)) (16 + 1 + 3) 0 ((wr I (16 + 1) 5 (nI 0)) (16 + 1) 5)) 0 (nI 1) (nI 0)) (1) (nI 3) (nI 0)) G) _ _
  have P1 : CLP 16 (emW 16 (emW 16 (wr (wr I (16 + 1) 5 (nI 0)) (16 + 1 + 3) 0 ((wr I (16 + 1) 5 (nI 0)) (16 + 1) 5)) 0 (nI 1) (nI 0)) 1 (nI 3) (nI 0)) plS 2 1 := P0.gen (by decide) (rw_1 (by decide)) (by decide) (emW.f (by decide) (by omega)) L1 (fun vs => by rw [lw_1 (by decide)]; rfl)
  have F1 : frw 16 I (emW 16 (emW 16 (wr (wr I (16 + 1) 5 (nI 0)) (16 + 1 + 3) 0 ((wr I (16 + 1) 5 (nI 0)) (16 + 1) 5)) 0 (nI 1) (nI 0)) 1 (nI 3) (nI 0)) := F0.tr (frw.b.tr (frw.e.tr frw.e))
  refine wx_pop rfl (e := 24) rfl rfl ?_
  refine wx_aload_n rfl (e := 25) rfl rfl ?_
  refine wx_iconst (v := (nI 1)) rfl (e := 26) rfl (by decide) ?_
  refine wx_bipush (v := (nI 8)) rfl (e := 28) rfl (by decide) ?_
  refine wx_bipush (v := (nI 50)) rfl (e := 30) rfl (by decide) ?_
  refine wx_cv3 (mc := 0) (ms := 0) rfl (e := 33) rfl rfl (Nat.le_of_ble_eq_true rfl) ⟨by decide, by decide⟩ ?_
  refine c_X2_beginTimes_h31 P1 (by decide) (by decide) (j := 8) (f := 50) (by decide) (fun vs => rfl) (fun I2 f2 P2 => ?_)
  have F2 := F1.tr f2
  refine wx_aload_n rfl (e := 34) rfl rfl ?_
  refine wx_iconst (v := (nI 2)) rfl (e := 35) rfl (by decide) ?_
  refine wx_cv1 (mc := 0) (ms := 0) rfl (e := 38) rfl rfl (Nat.le_of_ble_eq_true rfl) ⟨by decide, by decide⟩ ?_
  refine c_X2_begin_17_h31 (k := 2) (by decide) ?_
  have L0 : lsK 16 6 [] (wr I2 (16 + 1 + 3) 2 (I2 (16 + 1) 5)) := ⟨by rw [wr_other _ _ _ _ (by omega)]; exact P2.1, True.intro⟩
  refine wx_aload_n rfl (e := 39) rfl rfl ?_
  refine wx_iconst (v := (nI 1)) rfl (e := 40) rfl (by decide) ?_
  refine wx_iconst (v := (nI 4)) rfl (e := 41) rfl (by decide) ?_
  refine wx_cv2 (mc := 0) (ms := 0) rfl (e := 44) rfl rfl (Nat.le_of_ble_eq_true rfl) ⟨by decide, by decide⟩ ?_
  refine c_X2_emit_17_h31 (x := 6) (L0.1) (by omega) ?_
  show WP _ _ _ _ _ _ (h31 Lx l (emW 16 (wr I2 (16 + 1 + 3) 2 (I2 (16 + 1) 5)) (6) (nI 1) (nI 4)) G) _ _
  have L1 : lsK 16 6 [(1, nI 4)] (emW 16 (wr I2 (16 + 1 + 3) 2 (I2 (16 + 1) 5)) 6 (nI 1) (nI 4)) := emW.s (by decide) L0 rfl (fun _ => rfl)
  refine wx_pop rfl (e := 45) rfl rfl ?_
  refine wx_aload_n rfl (e := 46) rfl rfl ?_
  refine wx_iconst (v := (nI 3)) rfl (e := 47) rfl (by decide) ?_
  refine wx_iconst (v := (nI 0)) rfl (e := 48) rfl (by decide) ?_
  refine wx_cv2 (mc := 0) (ms := 0) rfl (e := 51) rfl rfl (Nat.le_of_ble_eq_true rfl) ⟨by decide, by decide⟩ ?_
  refine c_X2_emit_17_h31 (x := 7) (L1.1) (by omega) ?_
  show WP _ _ _ _ _ _ (h31 Lx l (emW 16 (emW 16 (wr I2 (16 + 1 + 3) 2 (I2 (16 + 1) 5)) 6 (nI 1) (nI 4)) (7) (nI 3) (nI 0)) G) _ _
  have P3 : CLP 16 (emW 16 (emW 16 (wr I2 (16 + 1 + 3) 2 (I2 (16 + 1) 5)) 6 (nI 1) (nI 4)) 7 (nI 3) (nI 0)) plS 8 3 := P2.gen (by decide) (rw_1 (by decide)) (by decide) (emW.f (by decide) (by omega)) L1 (fun vs => by rw [lw_1 (by decide)]; rfl)
  have F3 : frw 16 I (emW 16 (emW 16 (wr I2 (16 + 1 + 3) 2 (I2 (16 + 1) 5)) 6 (nI 1) (nI 4)) 7 (nI 3) (nI 0)) := F2.tr (frw.b.tr (frw.e.tr frw.e))
  refine wx_pop rfl (e := 52) rfl rfl ?_
  refine wx_aload_n rfl (e := 53) rfl rfl ?_
  refine wx_iconst (v := (nI 3)) rfl (e := 54) rfl (by decide) ?_
  refine wx_iconst (v := (nI 5)) rfl (e := 55) rfl (by decide) ?_
  refine wx_bipush (v := (nI 10)) rfl (e := 57) rfl (by decide) ?_
  refine wx_cv3 (mc := 0) (ms := 0) rfl (e := 60) rfl rfl (Nat.le_of_ble_eq_true rfl) ⟨by decide, by decide⟩ ?_
  refine c_X2_beginTimes_h31 P3 (by decide) (by decide) (j := 5) (f := 10) (by decide) (fun vs => rfl) (fun I4 f4 P4 => ?_)
  have F4 := F3.tr f4
  refine wx_aload_n rfl (e := 61) rfl rfl ?_
  refine wx_iconst (v := (nI 4)) rfl (e := 62) rfl (by decide) ?_
  refine wx_bipush (v := (nI 6)) rfl (e := 64) rfl (by decide) ?_
  refine wx_bipush (v := (nI 10)) rfl (e := 66) rfl (by decide) ?_
  refine wx_cv3 (mc := 0) (ms := 0) rfl (e := 69) rfl rfl (Nat.le_of_ble_eq_true rfl) ⟨by decide, by decide⟩ ?_
  refine c_X2_beginTimes_h31 P4 (by decide) (by decide) (j := 6) (f := 10) (by decide) (fun vs => rfl) (fun I5 f5 P5 => ?_)
  refine wx_ret rfl rfl ⟨by decide, by decide⟩ ?_
  exact hq I5 (F4.tr f5) P5
set_option maxHeartbeats 4000000 in
theorem c_X7_clear_16_h31 {d Lx : Nat} {l : List (Nat × Nat × Nat)} {I : Nat → Nat → Int32} {G : Nat → Nat → Int64} {Q : ab_Q} (hq : ∀ I2, (∀ q, ¬ (16 ≤ q ∧ q ≤ 20) → q ≠ 26 → I2 q = I q) → (∀ k, 9 ≤ k → k ≤ 15 → I2 16 k = nI 0) → CLW 16 I2 plS 16 → (∀ k, k < 36 → I2 26 k = if k / 6 = k % 6 then nI 0 else nI 999) → Q none (h31 Lx l I2 G)) : ab_call ab_MT (d + 4) 90 [.ref 16] (h31 Lx l I G) 0 0 Q := by
  refine wx_in (M := mX7_clear) rfl rfl rfl (Nat.le_of_ble_eq_true rfl) ?_
  refine wx_aload_n rfl (e := 1) rfl rfl ?_
  refine wx_getr rfl (e := 4) rfl rfl rfl ?_
  refine wx_cv0 (mc := 0) (ms := 0) rfl (e := 7) rfl rfl (Nat.le_of_ble_eq_true rfl) ⟨by decide, by decide⟩ ?_
  refine c_X2_clear_h31 (fun I3 f3 W3 => ?_)
  have f3 : ∀ q, q ≠ 17 → q ≠ 18 → q ≠ 19 → q ≠ 20 → I3 q = I q := f3
  refine wx_aload_n rfl (e := 8) rfl rfl ?_
  refine wx_iconst (v := (nI 0)) rfl (e := 9) rfl (by decide) ?_
  refine wx_puti rfl (e := 12) rfl rfl (by decide) ?_
  refine wx_aload_n rfl (e := 13) rfl rfl ?_
  refine wx_iconst (v := (nI 0)) rfl (e := 14) rfl (by decide) ?_
  refine wx_puti rfl (e := 17) rfl rfl (by decide) ?_
  refine wx_aload_n rfl (e := 18) rfl rfl ?_
  refine wx_iconst (v := (nI 0)) rfl (e := 19) rfl (by decide) ?_
  refine wx_puti rfl (e := 22) rfl rfl (by decide) ?_
  refine wx_aload_n rfl (e := 23) rfl rfl ?_
  refine wx_iconst (v := (nI 0)) rfl (e := 24) rfl (by decide) ?_
  refine wx_puti rfl (e := 27) rfl rfl (by decide) ?_
  refine wx_aload_n rfl (e := 28) rfl rfl ?_
  refine wx_iconst (v := (nI 0)) rfl (e := 29) rfl (by decide) ?_
  refine wx_puti rfl (e := 32) rfl rfl (by decide) ?_
  refine wx_aload_n rfl (e := 33) rfl rfl ?_
  refine wx_iconst (v := (nI 0)) rfl (e := 34) rfl (by decide) ?_
  refine wx_puti rfl (e := 37) rfl rfl (by decide) ?_
  refine wx_aload_n rfl (e := 38) rfl rfl ?_
  refine wx_iconst (v := (nI 0)) rfl (e := 39) rfl (by decide) ?_
  refine wx_puti rfl (e := 42) rfl rfl (by decide) ?_
  refine wx_iconst (v := (nI 0)) rfl (e := 43) rfl (by decide) ?_
  refine wx_istore_n (L2 := [_, _]) rfl (e := 44) rfl (by decide) rfl ?_
  have fin : ∀ I2, (∀ q, q ≠ 26 → I2 q = (wr (wr (wr (wr (wr (wr (wr I3 16 9 (nI 0)) 16 10 (nI 0)) 16 11 (nI 0)) 16 12 (nI 0)) 16 13 (nI 0)) 16 14 (nI 0)) 16 15 (nI 0)) q) → (∀ k, k < 36 → I2 26 k = if k / 6 = k % 6 then nI 0 else nI 999) → Q none (h31 Lx l I2 G) := by
    intro I2 g2 j2
    refine hq I2 (fun q h1 h2 => ?_) (fun k h1 h2 => ?_) (W3.kept ?_ ?_ ?_ ?_) j2
    · rw [g2 q (by omega), wr_other _ _ _ _ (by omega), wr_other _ _ _ _ (by omega), wr_other _ _ _ _ (by omega), wr_other _ _ _ _ (by omega), wr_other _ _ _ _ (by omega), wr_other _ _ _ _ (by omega), wr_other _ _ _ _ (by omega)]; exact f3 q (by omega) (by omega) (by omega) (by omega)
    · rw [g2 16 (by decide)]; rcases (show k = 9 ∨ k = 10 ∨ k = 11 ∨ k = 12 ∨ k = 13 ∨ k = 14 ∨ k = 15 by omega) with h | h | h | h | h | h | h <;> subst h <;> simp [wr_at]
    · rw [g2 17 (by decide), wr_other _ _ _ _ (by decide), wr_other _ _ _ _ (by decide), wr_other _ _ _ _ (by decide), wr_other _ _ _ _ (by decide), wr_other _ _ _ _ (by decide), wr_other _ _ _ _ (by decide), wr_other _ _ _ _ (by decide)]
    · rw [g2 18 (by decide), wr_other _ _ _ _ (by decide), wr_other _ _ _ _ (by decide), wr_other _ _ _ _ (by decide), wr_other _ _ _ _ (by decide), wr_other _ _ _ _ (by decide), wr_other _ _ _ _ (by decide), wr_other _ _ _ _ (by decide)]
    · rw [g2 19 (by decide), wr_other _ _ _ _ (by decide), wr_other _ _ _ _ (by decide), wr_other _ _ _ _ (by decide), wr_other _ _ _ _ (by decide), wr_other _ _ _ _ (by decide), wr_other _ _ _ _ (by decide), wr_other _ _ _ _ (by decide)]
    · rw [g2 20 (by decide), wr_other _ _ _ _ (by decide), wr_other _ _ _ _ (by decide), wr_other _ _ _ _ (by decide), wr_other _ _ _ _ (by decide), wr_other _ _ _ _ (by decide), wr_other _ _ _ _ (by decide), wr_other _ _ _ _ (by decide)]
  have loop : ∀ (m_ : Nat) (i : Nat) (I2 : Nat → Nat → Int32), i ≤ 36 → 36 - i < m_ → (∀ q, q ≠ 26 → I2 q = (wr (wr (wr (wr (wr (wr (wr I3 16 9 (nI 0)) 16 10 (nI 0)) 16 11 (nI 0)) 16 12 (nI 0)) 16 13 (nI 0)) 16 14 (nI 0)) 16 15 (nI 0)) q) → (∀ k, k < i → I2 26 k = if k / 6 = k % 6 then nI 0 else nI 999) → WP (d + 3) mX7_clear Q 44 [some (.ref 16), some (.int (nI i))] [] (h31 Lx l I2 G) 0 0 := by
    intro m_
    induction m_ with
    | zero => intro i I2 h1 h2; omega
    | succ m_ ih =>
      intro i I2 h1 h2 g2 j2
      refine wx_iload_n rfl (e := 45) rfl rfl ?_
      refine wx_aload_n rfl (e := 46) rfl rfl ?_
      refine wx_getr rfl (e := 49) rfl rfl rfl ?_
      refine wx_alen rfl (e := 50) rfl rfl (by decide) rfl ?_
      refine wn_ic_ge rfl (e := 53) rfl (by omega) (by omega) (fun c_50 => ?_) (fun c_50 => ?_)
      · refine wx_ret rfl rfl ⟨by decide, by decide⟩ ?_
        have ei : i = 36 := by omega
        subst ei
        exact fin I2 g2 j2
      · refine wx_aload_n rfl (e := 54) rfl rfl ?_
        refine wx_getr rfl (e := 57) rfl rfl rfl ?_
        refine wx_iload_n rfl (e := 58) rfl rfl ?_
        refine wx_iload_n rfl (e := 59) rfl rfl ?_
        refine wx_bipush (v := (nI 6)) rfl (e := 61) rfl (by decide) ?_
        refine wx_idiv rfl (e := 62) rfl (by decide) ?_
        rw [pk_div (by omega) (by omega) (by omega)]
        refine wx_iload_n rfl (e := 63) rfl rfl ?_
        refine wx_bipush (v := (nI 6)) rfl (e := 65) rfl (by decide) ?_
        refine wx_irem rfl (e := 66) rfl (by decide) ?_
        rw [pk_rem (by omega) (by omega) (by omega)]
        refine wn_ic_ne rfl (e := 69) rfl (by omega) (by omega) (fun c_66 => ?_) (fun c_66 => ?_)
        · refine wx_sipush (v := (nI 999)) rfl (e := 76) rfl (by decide) ?_
          refine wn_iast rfl (e := 77) rfl rfl (by decide) (by omega) (by decide) ?_
          refine wn_iinc (m := 1) (L2 := [_, _]) rfl (e := 80) rfl rfl (by decide) rfl ?_
          refine wx_goto rfl ?_
          refine ih (i + 1) _ (by omega) (by omega) (fun q h => by rw [wr_other _ _ _ _ h]; exact g2 q h) (fun k hk => ?_)
          by_cases zz : k = i
          · rw [zz, wr_eq, if_neg c_66]
          · rw [wr_ne _ _ _ _ zz]; exact j2 k (by omega)
        · refine wx_iconst (v := (nI 0)) rfl (e := 70) rfl (by decide) ?_
          refine wx_goto rfl ?_
          refine wn_iast rfl (e := 77) rfl rfl (by decide) (by omega) (by decide) ?_
          refine wn_iinc (m := 1) (L2 := [_, _]) rfl (e := 80) rfl rfl (by decide) rfl ?_
          refine wx_goto rfl ?_
          refine ih (i + 1) _ (by omega) (by omega) (fun q h => by rw [wr_other _ _ _ _ h]; exact g2 q h) (fun k hk => ?_)
          by_cases zz : k = i
          · rw [zz, wr_eq, if_pos c_66]
          · rw [wr_ne _ _ _ _ zz]; exact j2 k (by omega)
  exact loop 37 0 _ (by omega) (by omega) (fun _ _ => rfl) (fun k hk => absurd hk (Nat.not_lt_zero _))
theorem c_X5_get_h55 {d Lx t rt u : Nat} {I : Nat → Nat → Int32} {G : Nat → Nat → Int64} {Q : ab_Q} {c j : Nat} (hc : c = 39 ∨ c = 45) (hj : j < 55) (hq : Q (some (.int (I (c + 1) j))) (h55 Lx t rt u I G)) : ab_call ab_MT (d + 1) 74 [.ref c, .int (nI j)] (h55 Lx t rt u I G) 0 0 Q := by
  rcases hc with rfl | rfl
  all_goals
    refine wx_in (M := mX5_get) rfl rfl rfl (Nat.le_of_ble_eq_true rfl) ?_
    refine wx_iload_n rfl (e := 1) rfl rfl ?_
    refine wn_if_lt rfl (e := 4) rfl (by omega) ?_
    refine wx_iload_n rfl (e := 5) rfl rfl ?_
    refine wx_bipush (v := (nI 55)) rfl (e := 7) rfl (by decide) ?_
    first | refine wn_ic_ge rfl (e := 10) rfl (by omega) (by omega) (fun c_7 => absurd c_7 (by omega)) (fun c_7 => ?_) | refine wx_ic_ge rfl (e := 10) rfl (fun c_7 => absurd c_7 (by omega)) (fun c_7 => ?_)
    refine wx_aload_n rfl (e := 11) rfl rfl ?_
    refine wx_getr rfl (e := 14) rfl rfl rfl ?_
    refine wx_iload_n rfl (e := 15) rfl rfl ?_
    first | refine wn_iald rfl (e := 16) rfl rfl (by omega) (by decide) ?_ | refine wx_iald rfl (e := 16) rfl rfl (by assumption) ?_
    refine wx_goto rfl ?_
    refine wx_iret rfl rfl rfl ⟨by decide, by decide⟩ ?_
    exact hq
theorem c_X5_set_h55 {d Lx t rt u : Nat} {I : Nat → Nat → Int32} {G : Nat → Nat → Int64} {Q : ab_Q} {c j : Nat} {v : Int32} (hc : c = 39 ∨ c = 45) (hj : j < 55) (hq : Q none (h55 Lx t rt u (wr I (c + 1) j v) G)) : ab_call ab_MT (d + 1) 75 [.ref c, .int (nI j), .int v] (h55 Lx t rt u I G) 0 0 Q := by
  rcases hc with rfl | rfl
  all_goals
    refine wx_in (M := mX5_set) rfl rfl rfl (Nat.le_of_ble_eq_true rfl) ?_
    refine wx_iload_n rfl (e := 1) rfl rfl ?_
    refine wn_if_lt rfl (e := 4) rfl (by omega) ?_
    refine wx_iload_n rfl (e := 5) rfl rfl ?_
    refine wx_bipush (v := (nI 55)) rfl (e := 7) rfl (by decide) ?_
    first | refine wn_ic_ge rfl (e := 10) rfl (by omega) (by omega) (fun c_7 => absurd c_7 (by omega)) (fun c_7 => ?_) | refine wx_ic_ge rfl (e := 10) rfl (fun c_7 => absurd c_7 (by omega)) (fun c_7 => ?_)
    refine wx_aload_n rfl (e := 11) rfl rfl ?_
    refine wx_getr rfl (e := 14) rfl rfl rfl ?_
    refine wx_iload_n rfl (e := 15) rfl rfl ?_
    refine wx_iload_n rfl (e := 16) rfl rfl ?_
    first | refine wn_iast rfl (e := 17) rfl rfl (by decide) (by omega) (by decide) ?_ | refine wx_iast rfl (e := 17) rfl rfl (by decide) (by assumption) ?_
    refine wx_ret rfl rfl ⟨by decide, by decide⟩ ?_
    exact hq
theorem c_X7_churchOf_h55 {d Lx t rt u : Nat} {I : Nat → Nat → Int32} {G : Nat → Nat → Int64} {Q : ab_Q} {o n k : Nat} (ho : o = 1 ∨ o = 16) (hn : I o 12 = nI n) (hb : n ≤ 6) (hk : k < 6) (hq : k < n → Q (some (.int (I (o + 11) k))) (h55 Lx t rt u I G)) (hq2 : n ≤ k → Q (some (.int (-1))) (h55 Lx t rt u I G)) : ab_call ab_MT (d + 1) 103 [.ref o, .int (nI k)] (h55 Lx t rt u I G) 0 0 Q := by
  rcases ho with rfl | rfl
  all_goals
    refine wx_in (M := mX7_churchOf) rfl rfl rfl (Nat.le_of_ble_eq_true rfl) ?_
    refine wx_iload_n rfl (e := 1) rfl rfl ?_
    refine wn_if_lt rfl (e := 4) rfl (by omega) ?_
    refine wx_iload_n rfl (e := 5) rfl rfl ?_
    refine wx_aload_n rfl (e := 6) rfl rfl ?_
    refine wx_geti rfl (e := 9) rfl rfl ?_
    rw [hn]
    first | refine wn_ic_ge rfl (e := 12) rfl (by omega) (by omega) (fun c_9 => ?_) (fun c_9 => ?_) | refine wx_ic_ge rfl (e := 12) rfl (fun c_9 => ?_) (fun c_9 => ?_)
    · refine wx_iconst (v := (-1)) rfl (e := 22) rfl (by decide) ?_
      refine wx_iret rfl rfl rfl ⟨by decide, by decide⟩ ?_
      first | exact hq (by omega) | exact hq2 (by omega)
    · refine wx_aload_n rfl (e := 13) rfl rfl ?_
      refine wx_getr rfl (e := 16) rfl rfl rfl ?_
      refine wx_iload_n rfl (e := 17) rfl rfl ?_
      first | refine wn_iald rfl (e := 18) rfl rfl (by omega) (by decide) ?_ | refine wx_iald rfl (e := 18) rfl rfl (by assumption) ?_
      refine wx_goto rfl ?_
      refine wx_iret rfl rfl rfl ⟨by decide, by decide⟩ ?_
      first | exact hq (by omega) | exact hq2 (by omega)
theorem c_X7_watchersOf2_h55 {d Lx t rt u : Nat} {I : Nat → Nat → Int32} {G : Nat → Nat → Int64} {Q : ab_Q} {o n k : Nat} (ho : o = 1 ∨ o = 16) (hn : I o 10 = nI n) (hb : n ≤ 6) (hk : k < 6) (hq : k < n → Q (some (.int (I (o + 9) k))) (h55 Lx t rt u I G)) (hq2 : n ≤ k → Q (some (.int (nI 0))) (h55 Lx t rt u I G)) : ab_call ab_MT (d + 1) 102 [.ref o, .int (nI k)] (h55 Lx t rt u I G) 0 0 Q := by
  rcases ho with rfl | rfl
  all_goals
    refine wx_in (M := mX7_watchersOf) rfl rfl rfl (Nat.le_of_ble_eq_true rfl) ?_
    refine wx_iload_n rfl (e := 1) rfl rfl ?_
    refine wn_if_lt rfl (e := 4) rfl (by omega) ?_
    refine wx_iload_n rfl (e := 5) rfl rfl ?_
    refine wx_aload_n rfl (e := 6) rfl rfl ?_
    refine wx_geti rfl (e := 9) rfl rfl ?_
    rw [hn]
    first | refine wn_ic_ge rfl (e := 12) rfl (by omega) (by omega) (fun c_9 => ?_) (fun c_9 => ?_) | refine wx_ic_ge rfl (e := 12) rfl (fun c_9 => ?_) (fun c_9 => ?_)
    · refine wx_iconst (v := (nI 0)) rfl (e := 22) rfl (by decide) ?_
      refine wx_iret rfl rfl rfl ⟨by decide, by decide⟩ ?_
      first | exact hq (by omega) | exact hq2 (by omega)
    · refine wx_aload_n rfl (e := 13) rfl rfl ?_
      refine wx_getr rfl (e := 16) rfl rfl rfl ?_
      refine wx_iload_n rfl (e := 17) rfl rfl ?_
      first | refine wn_iald rfl (e := 18) rfl rfl (by omega) (by decide) ?_ | refine wx_iald rfl (e := 18) rfl rfl (by assumption) ?_
      refine wx_goto rfl ?_
      refine wx_iret rfl rfl rfl ⟨by decide, by decide⟩ ?_
      first | exact hq (by omega) | exact hq2 (by omega)
theorem sh_t_h55 {Lx o : Nat} (h : o = 1 ∨ o = 16) : SK Lx 55 o = .inl 7 := by rcases h with rfl | rfl <;> rfl
theorem sh_s_h55 {Lx s : Nat} (h : s = 39 ∨ s = 45) : SK Lx 55 s = .inl 5 := by rcases h with rfl | rfl <;> rfl
theorem c_X5_move0_h55 {d Lx t rt u : Nat} {I : Nat → Nat → Int32} {G : Nat → Nat → Int64} {Q : ab_Q}  {s e : Nat} {v : Int32} (hs : s = 39 ∨ s = 45) (he : e < 6) (hm : I (s + 1) (24 + e) = -1) (h1 : ∀ ct, ct < 6 → v = nI ct → Q none (h55 Lx t rt u (wr (wr I (s + 1) (18 + ct) (I (s + 1) (18 + ct) ||| (nI 1 <<< (nI e &&& 31)))) (s + 1) (24 + e) v) G)) (h0 : (∀ ct, ct < 6 → v ≠ nI ct) → Q none (h55 Lx t rt u (wr I (s + 1) (24 + e) v) G)) : ab_call ab_MT (d + 2) 78 [.ref s, .int (nI e), .int v] (h55 Lx t rt u I G) 0 0 Q := by
  refine wx_in (M := mX5_move) rfl rfl rfl (Nat.le_of_ble_eq_true rfl) ?_
  refine wx_iconst (v := (nI 1)) rfl (e := 1) rfl (by decide) ?_
  refine wx_iload_n rfl (e := 2) rfl rfl ?_
  refine wx_ishl rfl (e := 3) rfl ?_
  refine wx_istore_n (L2 := [_, _, _, _, _]) rfl (e := 4) rfl (by decide) rfl ?_
  refine wx_aload_n rfl (e := 5) rfl rfl ?_
  refine wx_bipush (v := (nI 24)) rfl (e := 7) rfl (by decide) ?_
  refine wx_iload_n rfl (e := 8) rfl rfl ?_
  refine wn_iadd rfl (e := 9) rfl ?_
  refine wx_cv1 (mc := 0) (ms := 0) rfl (e := 12) rfl (sh_s_h55 hs) (Nat.le_of_ble_eq_true rfl) ⟨by decide, by decide⟩ ?_
  refine c_X5_get_h55 hs (by omega) ?_
  rw [hm]
  refine wx_istore (L2 := [_, _, _, _, _]) rfl (e := 14) rfl (by decide) rfl ?_
  refine wx_iload rfl (e := 16) rfl rfl ?_
  refine wx_iconst (v := (nI 0)) rfl (e := 17) rfl (by decide) ?_
  refine wx_iconst (v := (nI 5)) rfl (e := 18) rfl (by decide) ?_
  refine wx_cs3 (mc := 0) (ms := 0) rfl (e := 21) rfl (Nat.le_of_ble_eq_true rfl) ⟨by decide, by decide⟩ ?_
  refine c_X10_isWithin (by decide) (by decide) (fun cf h1 h2 ecf => absurd ecf (nI_m1 (by omega))) (fun hnf => ?_)
  · refine wn_if_eq rfl (e := 24) rfl (by omega) (fun c_21 => ?_) (fun c_21 => absurd c_21 (by omega))
    refine wx_iload_n rfl (e := 47) rfl rfl ?_
    refine wx_iconst (v := (nI 0)) rfl (e := 48) rfl (by decide) ?_
    refine wx_iconst (v := (nI 5)) rfl (e := 49) rfl (by decide) ?_
    refine wx_cs3 (mc := 0) (ms := 0) rfl (e := 52) rfl (Nat.le_of_ble_eq_true rfl) ⟨by decide, by decide⟩ ?_
    refine c_X10_isWithin (by decide) (by decide) (fun ct h1 h2 ect => ?_) (fun hnt => ?_)
    · have hct : ct < 6 := by omega
      subst ect
      refine wn_if_eq rfl (e := 55) rfl (by omega) (fun c_52 => absurd c_52 (by omega)) (fun c_52 => ?_)
      refine wx_aload_n rfl (e := 56) rfl rfl ?_
      refine wx_bipush (v := (nI 18)) rfl (e := 58) rfl (by decide) ?_
      refine wx_iload_n rfl (e := 59) rfl rfl ?_
      refine wn_iadd rfl (e := 60) rfl ?_
      refine wx_aload_n rfl (e := 61) rfl rfl ?_
      refine wx_bipush (v := (nI 18)) rfl (e := 63) rfl (by decide) ?_
      refine wx_iload_n rfl (e := 64) rfl rfl ?_
      refine wn_iadd rfl (e := 65) rfl ?_
      refine wx_cv1 (mc := 0) (ms := 0) rfl (e := 68) rfl (sh_s_h55 hs) (Nat.le_of_ble_eq_true rfl) ⟨by decide, by decide⟩ ?_
      refine c_X5_get_h55 hs (by omega) ?_
      refine wx_iload_n rfl (e := 69) rfl rfl ?_
      refine wx_ior rfl (e := 70) rfl ?_
      refine wx_cv2 (mc := 0) (ms := 0) rfl (e := 73) rfl (sh_s_h55 hs) (Nat.le_of_ble_eq_true rfl) ⟨by decide, by decide⟩ ?_
      refine c_X5_set_h55 hs (by omega) ?_
      refine wx_aload_n rfl (e := 74) rfl rfl ?_
      refine wx_bipush (v := (nI 24)) rfl (e := 76) rfl (by decide) ?_
      refine wx_iload_n rfl (e := 77) rfl rfl ?_
      refine wn_iadd rfl (e := 78) rfl ?_
      refine wx_iload_n rfl (e := 79) rfl rfl ?_
      refine wx_cv2 (mc := 0) (ms := 0) rfl (e := 82) rfl (sh_s_h55 hs) (Nat.le_of_ble_eq_true rfl) ⟨by decide, by decide⟩ ?_
      refine c_X5_set_h55 hs (by omega) ?_
      refine wx_ret rfl rfl ⟨by decide, by decide⟩ ?_
      exact h1 ct hct rfl
    · refine wn_if_eq rfl (e := 55) rfl (by omega) (fun c_52 => ?_) (fun c_52 => absurd c_52 (by omega))
      refine wx_aload_n rfl (e := 74) rfl rfl ?_
      refine wx_bipush (v := (nI 24)) rfl (e := 76) rfl (by decide) ?_
      refine wx_iload_n rfl (e := 77) rfl rfl ?_
      refine wn_iadd rfl (e := 78) rfl ?_
      refine wx_iload_n rfl (e := 79) rfl rfl ?_
      refine wx_cv2 (mc := 0) (ms := 0) rfl (e := 82) rfl (sh_s_h55 hs) (Nat.le_of_ble_eq_true rfl) ⟨by decide, by decide⟩ ?_
      refine c_X5_set_h55 hs (by omega) ?_
      refine wx_ret rfl rfl ⟨by decide, by decide⟩ ?_
      exact h0 (fun ct hc => hnt ct (Nat.zero_le _) (by omega))
set_option maxHeartbeats 1000000 in
theorem c_X5_begin_h55 {d Lx t rt u : Nat} {I : Nat → Nat → Int32} {G : Nat → Nat → Int64} {Q : ab_Q}  {o C R : Nat} (ho : o = 1 ∨ o = 16) (h10 : I o 10 = nI C) (h12 : I o 12 = nI R) (hC : C ≤ 6) (hR : R ≤ 6) (hq : ∀ I2, (∀ q, q ≠ 40 → I2 q = I q) → CS 39 I2 (bgS (I (o + 9)) (I (o + 11)) C R) → Q none (h55 Lx t rt u I2 G)) : ab_call ab_MT (d + 3) 80 [.ref 39, .ref o] (h55 Lx t rt u I G) 0 0 Q := by
  have loop3 : ∀ (n : Nat) (i : Nat) (I2 : Nat → Nat → Int32), i ≤ 6 → 6 - i < n → (∀ q, q ≠ 40 → I2 q = I q) → (∀ k, k < 55 → I2 40 k = bgC (I (o + 9)) (I (o + 11)) C R i k) → WP (d + 2) mX5_begin Q 50 [some (.ref 39), some (.ref o), some (.int (nI i))] [] (h55 Lx t rt u I2 G) 0 0 := by
    intro n
    induction n with
    | zero => intro i I2 hi hn f2 g2; omega
    | succ n ih =>
      intro i I2 hi hn f2 g2
      refine wx_iload_n rfl (e := 51) rfl rfl ?_
      refine wx_bipush (v := (nI 6)) rfl (e := 53) rfl (by decide) ?_
      refine wn_ic_ge rfl (e := 56) rfl (by omega) (by omega) (fun c_53 => ?_) (fun c_53 => ?_)
      · refine wx_ret rfl rfl ⟨by decide, by decide⟩ ?_
        have e6 : i = 6 := by omega
        subst e6
        exact hq I2 f2 (fun k hk => (g2 k hk).trans (bgC_end _ _ _ _ hk))
      · refine wx_aload_n rfl (e := 57) rfl rfl ?_
        refine wx_getr rfl (e := 60) rfl rfl rfl ?_
        refine wx_bipush (v := (nI 24)) rfl (e := 62) rfl (by decide) ?_
        refine wx_iload_n rfl (e := 63) rfl rfl ?_
        refine wn_iadd rfl (e := 64) rfl ?_
        refine wx_iconst (v := (-1)) rfl (e := 65) rfl (by decide) ?_
        refine wn_iast rfl (e := 66) rfl rfl (by decide) (by omega) (by decide) ?_
        refine wx_aload_n rfl (e := 67) rfl rfl ?_
        refine wx_iload_n rfl (e := 68) rfl rfl ?_
        refine wx_aload_n rfl (e := 69) rfl rfl ?_
        refine wx_iload_n rfl (e := 70) rfl rfl ?_
        refine wx_cv1 (mc := 0) (ms := 0) rfl (e := 73) rfl (sh_t_h55 ho) (Nat.le_of_ble_eq_true rfl) ⟨by decide, by decide⟩ ?_
        refine c_X7_churchOf_h55 ho (n := R) (by rw [wr_other _ _ _ _ (by omega), f2 o (by omega)]; exact h12) hR (by omega) (fun hlt => ?_) (fun hge => ?_)
        · have hv : wr I2 40 (24 + i) (-1) (o + 11) i = bgS (I (o + 9)) (I (o + 11)) C R (6 + i) := by
            rw [wr_other _ _ _ _ (by omega), f2 (o + 11) (by omega)]; unfold bgS; rw [if_neg (by omega), if_pos (by omega), if_pos (by omega), show 6 + i - 6 = i by omega]
          rw [hv]
          refine wx_cv2 (mc := 0) (ms := 0) rfl (e := 76) rfl rfl (Nat.le_of_ble_eq_true rfl) ⟨by decide, by decide⟩ ?_
          refine c_X5_move0_h55 (s := 39) (by omega) (by omega) (by rw [wr_at, if_pos rfl, if_pos rfl]) (fun ct hct ect => ?_) (fun hno => ?_)
          · have nx := bgC_step (I2 := wr (wr (wr I2 40 (24 + i) (-1)) 40 (18 + ct) (wr I2 40 (24 + i) (-1) 40 (18 + ct) ||| (nI 1 <<< (nI i &&& 31)))) 40 (24 + i) (bgS (I (o + 9)) (I (o + 11)) C R (6 + i)) 40) (by omega) g2 (by rw [wr_at, if_pos rfl, if_pos rfl]) (fun c hc ec => by rw [wr_at, if_pos rfl, if_neg (by omega), wr_at, if_pos rfl]; have e1 : c = ct := (nI6 hc hct).mp (ec.symm.trans ect); rw [if_pos (by omega), wr_at, if_pos rfl, if_neg (by omega), g2 _ (by omega)]; unfold bgC; rw [if_neg (by omega), if_neg (by omega), if_pos (by omega), show 18 + ct - 18 = c by omega]) (fun k hk hne hnn => by rw [wr_at, if_pos rfl, if_neg hne, wr_at, if_pos rfl, if_neg (hnn ct hct ect), wr_at, if_pos rfl, if_neg hne])
            have fx : ∀ q, q ≠ 40 → wr (wr (wr I2 40 (24 + i) (-1)) 40 (18 + ct) (wr I2 40 (24 + i) (-1) 40 (18 + ct) ||| (nI 1 <<< (nI i &&& 31)))) 40 (24 + i) (bgS (I (o + 9)) (I (o + 11)) C R (6 + i)) q = I q := fun q h => by rw [wr_other _ _ _ _ h, wr_other _ _ _ _ h, wr_other _ _ _ _ h]; exact f2 q h
            refine wn_iinc (m := 1) (L2 := [_, _, _]) rfl (e := 79) rfl rfl (by decide) rfl ?_
            refine wx_goto rfl ?_
            exact ih (i + 1) _ (by omega) (by omega) fx nx
          · have nx := bgC_step (I2 := wr (wr I2 40 (24 + i) (-1)) 40 (24 + i) (bgS (I (o + 9)) (I (o + 11)) C R (6 + i)) 40) (by omega) g2 (by rw [wr_at, if_pos rfl, if_pos rfl]) (fun c hc ec => absurd ec (hno c hc)) (fun k hk hne hnn => by rw [wr_at, if_pos rfl, if_neg hne, wr_at, if_pos rfl, if_neg hne])
            have fx : ∀ q, q ≠ 40 → wr (wr I2 40 (24 + i) (-1)) 40 (24 + i) (bgS (I (o + 9)) (I (o + 11)) C R (6 + i)) q = I q := fun q h => by rw [wr_other _ _ _ _ h, wr_other _ _ _ _ h]; exact f2 q h
            refine wn_iinc (m := 1) (L2 := [_, _, _]) rfl (e := 79) rfl rfl (by decide) rfl ?_
            refine wx_goto rfl ?_
            exact ih (i + 1) _ (by omega) (by omega) fx nx
        · have hv : (-1 : Int32) = bgS (I (o + 9)) (I (o + 11)) C R (6 + i) := by
            unfold bgS; rw [if_neg (by omega), if_pos (by omega), if_neg (by omega)]
          refine wx_cv2 (mc := 0) (ms := 0) rfl (e := 76) rfl rfl (Nat.le_of_ble_eq_true rfl) ⟨by decide, by decide⟩ ?_
          refine c_X5_move0_h55 (s := 39) (by omega) (by omega) (by rw [wr_at, if_pos rfl, if_pos rfl]) (fun ct hct ect => absurd ect (nI_m1 hct)) (fun hno => ?_)
          · have nx := bgC_step (I2 := wr (wr I2 40 (24 + i) (-1)) 40 (24 + i) (-1) 40) (by omega) g2 (by rw [wr_at, if_pos rfl, if_pos rfl]; exact hv) (fun c hc ec => absurd (hv.trans ec) (hno c hc)) (fun k hk hne hnn => by rw [wr_at, if_pos rfl, if_neg hne, wr_at, if_pos rfl, if_neg hne])
            have fx : ∀ q, q ≠ 40 → wr (wr I2 40 (24 + i) (-1)) 40 (24 + i) (-1) q = I q := fun q h => by rw [wr_other _ _ _ _ h, wr_other _ _ _ _ h]; exact f2 q h
            refine wn_iinc (m := 1) (L2 := [_, _, _]) rfl (e := 79) rfl rfl (by decide) rfl ?_
            refine wx_goto rfl ?_
            exact ih (i + 1) _ (by omega) (by omega) fx nx
  have go3 : ∀ (I2 : Nat → Nat → Int32), (∀ q, q ≠ 40 → I2 q = I q) → (∀ k, k < 55 → I2 40 k = bgC (I (o + 9)) (I (o + 11)) C R 0 k) → ∀ i : Nat, WP (d + 2) mX5_begin Q 48 [some (.ref 39), some (.ref o), some (.int (nI i))] [] (h55 Lx t rt u I2 G) 0 0 := by
    intro I2 f2 g2 i
    refine wx_iconst (v := (nI 0)) rfl (e := 49) rfl (by decide) ?_
    refine wx_istore_n (L2 := [_, _, _]) rfl (e := 50) rfl (by decide) rfl ?_
    exact loop3 7 0 _ (by omega) (by omega) f2 g2
  have loop2 : ∀ (n : Nat) (i : Nat) (I2 : Nat → Nat → Int32), i ≤ 6 → 6 - i < n → (∀ q, q ≠ 40 → I2 q = I q) → (∀ k, k < 55 → I2 40 k = if k < i then bgS (I (o + 9)) (I (o + 11)) C R k else nI 0) → WP (d + 2) mX5_begin Q 23 [some (.ref 39), some (.ref o), some (.int (nI i))] [] (h55 Lx t rt u I2 G) 0 0 := by
    intro n
    induction n with
    | zero => intro i I2 hi hn f2 g2; omega
    | succ n ih =>
      intro i I2 hi hn f2 g2
      refine wx_iload_n rfl (e := 24) rfl rfl ?_
      refine wx_bipush (v := (nI 6)) rfl (e := 26) rfl (by decide) ?_
      refine wn_ic_ge rfl (e := 29) rfl (by omega) (by omega) (fun c_26 => ?_) (fun c_26 => ?_)
      · exact go3 I2 f2 (fun k hk => by rw [g2 k hk]; unfold bgC; by_cases z : k < 6; (· rw [if_pos (show k < i by omega), if_pos z]); (· rw [if_neg (show ¬ k < i by omega), if_neg z]; by_cases z2 : k < 18; (· rw [if_pos z2]); (· rw [if_neg z2]; by_cases z3 : k < 24; (· rw [if_pos z3]; rfl); (· rw [if_neg z3, if_neg (by omega)])))) _
      · refine wx_aload_n rfl (e := 30) rfl rfl ?_
        refine wx_getr rfl (e := 33) rfl rfl rfl ?_
        refine wx_iconst (v := (nI 0)) rfl (e := 34) rfl (by decide) ?_
        refine wx_iload_n rfl (e := 35) rfl rfl ?_
        refine wn_iadd rfl (e := 36) rfl ?_
        refine wx_aload_n rfl (e := 37) rfl rfl ?_
        refine wx_iload_n rfl (e := 38) rfl rfl ?_
        refine wx_cv1 (mc := 0) (ms := 0) rfl (e := 41) rfl (sh_t_h55 ho) (Nat.le_of_ble_eq_true rfl) ⟨by decide, by decide⟩ ?_
        refine c_X7_watchersOf2_h55 ho (n := C) (by rw [f2 o (by omega)]; exact h10) hC (by omega) (fun hlt => ?_) (fun hge => ?_)
        · have hv : I2 (o + 9) i = bgS (I (o + 9)) (I (o + 11)) C R i := by
            rw [f2 (o + 9) (by omega)]; unfold bgS; rw [if_pos (by omega), if_pos hlt]
          rw [hv]
          refine wn_iast rfl (e := 42) rfl rfl (by decide) (by omega) (by decide) ?_
          rw [Nat.zero_add]
          refine wn_iinc (m := 1) (L2 := [_, _, _]) rfl (e := 45) rfl rfl (by decide) rfl ?_
          refine wx_goto rfl ?_
          refine ih (i + 1) _ (by omega) (by omega) (fun q h => (wr_other _ _ _ _ h).trans (f2 q h)) (fun k hk => ?_)
          rw [wr_at, if_pos rfl]
          by_cases z : k = i
          · subst z; rw [if_pos rfl, if_pos (by omega)]
          · rw [if_neg z, g2 k hk]
            by_cases z2 : k < i
            · rw [if_pos z2, if_pos (by omega)]
            · rw [if_neg z2, if_neg (by omega)]
        · have hv : nI 0 = bgS (I (o + 9)) (I (o + 11)) C R i := by
            unfold bgS; rw [if_pos (by omega), if_neg (by omega)]
          rw [hv]
          refine wn_iast rfl (e := 42) rfl rfl (by decide) (by omega) (by decide) ?_
          rw [Nat.zero_add]
          refine wn_iinc (m := 1) (L2 := [_, _, _]) rfl (e := 45) rfl rfl (by decide) rfl ?_
          refine wx_goto rfl ?_
          refine ih (i + 1) _ (by omega) (by omega) (fun q h => (wr_other _ _ _ _ h).trans (f2 q h)) (fun k hk => ?_)
          rw [wr_at, if_pos rfl]
          by_cases z : k = i
          · subst z; rw [if_pos rfl, if_pos (by omega)]
          · rw [if_neg z, g2 k hk]
            by_cases z2 : k < i
            · rw [if_pos z2, if_pos (by omega)]
            · rw [if_neg z2, if_neg (by omega)]
  have go2 : ∀ (I2 : Nat → Nat → Int32), (∀ q, q ≠ 40 → I2 q = I q) → (∀ k, k < 55 → I2 40 k = nI 0) → ∀ i : Nat, WP (d + 2) mX5_begin Q 21 [some (.ref 39), some (.ref o), some (.int (nI i))] [] (h55 Lx t rt u I2 G) 0 0 := by
    intro I2 f2 g2 i
    refine wx_iconst (v := (nI 0)) rfl (e := 22) rfl (by decide) ?_
    refine wx_istore_n (L2 := [_, _, _]) rfl (e := 23) rfl (by decide) rfl ?_
    exact loop2 7 0 _ (by omega) (by omega) f2 (fun k hk => by rw [if_neg (by omega)]; exact g2 k hk)
  have loop1 : ∀ (n : Nat) (i : Nat) (I2 : Nat → Nat → Int32), i ≤ 55 → 55 - i < n → (∀ q, q ≠ 40 → I2 q = I q) → (∀ k, k < i → I2 40 k = nI 0) → WP (d + 2) mX5_begin Q 2 [some (.ref 39), some (.ref o), some (.int (nI i))] [] (h55 Lx t rt u I2 G) 0 0 := by
    intro n
    induction n with
    | zero => intro i I2 hi hn f2 g2; omega
    | succ n ih =>
      intro i I2 hi hn f2 g2
      refine wx_iload_n rfl (e := 3) rfl rfl ?_
      refine wx_bipush (v := (nI 55)) rfl (e := 5) rfl (by decide) ?_
      refine wn_ic_ge rfl (e := 8) rfl (by omega) (by omega) (fun c_5 => ?_) (fun c_5 => ?_)
      · exact go2 I2 f2 (fun k hk => g2 k (by omega)) _
      · refine wx_aload_n rfl (e := 9) rfl rfl ?_
        refine wx_getr rfl (e := 12) rfl rfl rfl ?_
        refine wx_iload_n rfl (e := 13) rfl rfl ?_
        refine wx_iconst (v := (nI 0)) rfl (e := 14) rfl (by decide) ?_
        refine wn_iast rfl (e := 15) rfl rfl (by decide) (by omega) (by decide) ?_
        refine wn_iinc (m := 1) (L2 := [_, _, _]) rfl (e := 18) rfl rfl (by decide) rfl ?_
        refine wx_goto rfl ?_
        refine ih (i + 1) _ (by omega) (by omega) (fun q h => (wr_other _ _ _ _ h).trans (f2 q h)) (wr_ext rfl (fun k hk hne => g2 k (by omega)))
  refine wx_in (M := mX5_begin) rfl rfl rfl (Nat.le_of_ble_eq_true rfl) ?_
  refine wx_iconst (v := (nI 0)) rfl (e := 1) rfl (by decide) ?_
  refine wx_istore_n (L2 := [_, _, _]) rfl (e := 2) rfl (by decide) rfl ?_
  exact loop1 56 0 I (by omega) (by omega) (fun _ _ => rfl) (fun k hk => absurd hk (Nat.not_lt_zero _))
theorem c_X3_clear_h55 {d Lx t rt u : Nat} {I : Nat → Nat → Int32} {G : Nat → Nat → Int64} {Q : ab_Q} {x : Nat} (hx : x < 40) (ex : I 48 3 = nI x) (hq : ∀ I2, (∀ q, q ≠ 48 → q ≠ 51 → I2 q = I q) → PA I2 (fun _ _ => nI 0) 0 → PS I2 (fun _ => false) (fun _ _ => nI 0) → Q none (h55 Lx t rt u I2 G)) : ab_call ab_MT (d + 1) 46 [.ref 48] (h55 Lx t rt u I G) 0 0 Q := by
  have loop : ∀ (n : Nat) (i : Nat) (I2 : Nat → Nat → Int32), i ≤ 3 → 3 - i < n → (∀ q, q ≠ 48 → q ≠ 51 → I2 q = I q) → (∀ k, k < i → I2 51 k = nI 0) → I2 48 = wr I 48 4 (nI 0) 48 → WP d mX3_clear Q 7 [some (.ref 48), some (.int (nI i))] [] (h55 Lx t rt u I2 G) 0 0 := by
    intro n
    induction n with
    | zero => intro i I2 hi hn f2 g2 k2; omega
    | succ n ih =>
      intro i I2 hi hn f2 g2 k2
      refine wx_iload_n rfl (e := 8) rfl rfl ?_
      refine wx_iconst (v := (nI 3)) rfl (e := 9) rfl (by decide) ?_
      refine wn_ic_ge rfl (e := 12) rfl (by omega) (by omega) (fun c_9 => ?_) (fun c_9 => ?_)
      · refine wx_ret rfl rfl ⟨by decide, by decide⟩ ?_
        exact hq I2 f2 ⟨by omega, x, hx, (congrFun k2 3).trans ((wr_at _ _ _ _ _ _).trans ((if_pos rfl).trans ((if_neg (by decide)).trans ex))), (congrFun k2 4).trans ((wr_at _ _ _ _ _ _).trans ((if_pos rfl).trans (if_pos rfl))), fun j hj => absurd hj (Nat.not_lt_zero _)⟩ (fun s hs => ⟨g2 s (by omega), fun z => by cases z⟩)
      · refine wx_aload_n rfl (e := 13) rfl rfl ?_
        refine wx_getr rfl (e := 16) rfl rfl rfl ?_
        refine wx_iload_n rfl (e := 17) rfl rfl ?_
        refine wx_iconst (v := (nI 0)) rfl (e := 18) rfl (by decide) ?_
        refine wn_zast rfl (e := 19) rfl rfl (by decide) (by omega) (by decide) ?_
        refine wn_iinc (m := 1) (L2 := [_, _]) rfl (e := 22) rfl rfl (by decide) rfl ?_
        refine wx_goto rfl ?_
        refine ih (i + 1) _ (by omega) (by omega) (fun q h h2 => (wr_other _ _ _ _ h2).trans (f2 q h h2)) (wr_ext rfl (fun k hk hne => g2 k (by omega))) ((wr_other _ _ _ _ (by decide)).trans k2)
  refine wx_in (M := mX3_clear) rfl rfl rfl (Nat.le_of_ble_eq_true rfl) ?_
  refine wx_aload_n rfl (e := 1) rfl rfl ?_
  refine wx_iconst (v := (nI 0)) rfl (e := 2) rfl (by decide) ?_
  refine wx_puti rfl (e := 5) rfl rfl (by decide) ?_
  refine wx_iconst (v := (nI 0)) rfl (e := 6) rfl (by decide) ?_
  refine wx_istore_n (L2 := [_, _]) rfl (e := 7) rfl (by decide) rfl ?_
  exact loop 4 0 _ (by omega) (by omega) (fun q h _ => wr_other _ _ _ _ h) (fun k hk => absurd hk (Nat.not_lt_zero _)) rfl
theorem c_X9_clear_h55 {d Lx t rt u : Nat} {I : Nat → Nat → Int32} {G : Nat → Nat → Int64} {Q : ab_Q} (hq : ∀ I2, (∀ q, q ≠ 52 → I2 q = I q) → TD I2 (fun _ => 0) (fun _ => false) 0 → Q none (h55 Lx t rt u I2 G)) : ab_call ab_MT (d + 1) 131 [.ref 52] (h55 Lx t rt u I G) 0 0 Q := by
  refine wx_in (M := mX9_clear) rfl rfl rfl (Nat.le_of_ble_eq_true rfl) ?_
  refine wx_aload_n rfl (e := 1) rfl rfl ?_
  refine wx_iconst (v := (nI 0)) rfl (e := 2) rfl (by decide) ?_
  refine wx_puti rfl (e := 5) rfl rfl (by decide) ?_
  refine wx_ret rfl rfl ⟨by decide, by decide⟩ ?_
  exact hq _ (fun q h => wr_other _ _ _ _ h) ⟨by omega, by rw [wr_at, if_pos rfl, if_pos rfl], fun j hj => absurd hj (Nat.not_lt_zero _)⟩
theorem c_X7_laws3_1_h55 {d Lx t rt u : Nat} {I : Nat → Nat → Int32} {G : Nat → Nat → Int64} {Q : ab_Q} (hq : Q (some (.ref 2)) (55, SK Lx 55, I, G, wq (PF5 t rt u) 41 2 (some 1))) : ab_call ab_MT (d + 1) 91 [.ref 1] (55, SK Lx 55, I, G, wq (PF5 t rt u) 41 2 (some 1)) 0 0 Q := by
  refine wx_in (M := mX7_laws) rfl rfl rfl (Nat.le_of_ble_eq_true rfl) ?_
  refine wx_aload_n rfl (e := 1) rfl rfl ?_
  refine wx_getr rfl (e := 4) rfl rfl rfl ?_
  refine wx_aret rfl rfl (by decide) ⟨by decide, by decide⟩ ?_
  exact hq
theorem c_X7_laws3_16_h55 {d Lx t rt u : Nat} {I : Nat → Nat → Int32} {G : Nat → Nat → Int64} {Q : ab_Q} (hq : Q (some (.ref 17)) (55, SK Lx 55, I, G, wq (PF5 t rt u) 41 2 (some 16))) : ab_call ab_MT (d + 1) 91 [.ref 16] (55, SK Lx 55, I, G, wq (PF5 t rt u) 41 2 (some 16)) 0 0 Q := by
  refine wx_in (M := mX7_laws) rfl rfl rfl (Nat.le_of_ble_eq_true rfl) ?_
  refine wx_aload_n rfl (e := 1) rfl rfl ?_
  refine wx_getr rfl (e := 4) rfl rfl rfl ?_
  refine wx_aret rfl rfl (by decide) ⟨by decide, by decide⟩ ?_
  exact hq
theorem c_X7_laws3_h55 {d Lx t rt u : Nat} {I : Nat → Nat → Int32} {G : Nat → Nat → Int64} {Q : ab_Q} {o : Nat} (ho : o = 1 ∨ o = 16) (hq : Q (some (.ref (o + 1))) (55, SK Lx 55, I, G, wq (PF5 t rt u) 41 2 (some o))) : ab_call ab_MT (d + 1) 91 [.ref o] (55, SK Lx 55, I, G, wq (PF5 t rt u) 41 2 (some o)) 0 0 Q := by
  rcases ho with rfl | rfl
  · exact c_X7_laws3_1_h55 hq
  · exact c_X7_laws3_16_h55 hq
theorem c_X0_turnTo_h55 {d Lx t rt u : Nat} {I : Nat → Nat → Int32} {G : Nat → Nat → Int64} {Q : ab_Q} {o : Nat} (ho : o = 1 ∨ o = 16) (hq : Q none (h55 Lx t rt o I G)) : ab_call ab_MT (d + 2) 1 [.ref 41, .ref o] (h55 Lx t rt u I G) 0 0 Q := by
  refine wx_in (M := mX0_turnTo) rfl rfl rfl (Nat.le_of_ble_eq_true rfl) ?_
  refine wx_aload_n rfl (e := 1) rfl rfl ?_
  refine wx_aload_n rfl (e := 2) rfl rfl ?_
  refine wx_putr rfl (e := 5) rfl rfl (by decide) (by omega) ?_
  refine wx_aload_n rfl (e := 6) rfl rfl ?_
  refine wx_aload_n rfl (e := 7) rfl rfl ?_
  refine wx_cv0 (mc := 0) (ms := 0) rfl (e := 10) rfl (sh_t_h55 ho) (Nat.le_of_ble_eq_true rfl) ⟨by decide, by decide⟩ ?_
  refine c_X7_laws3_h55 ho ?_
  refine wx_putr rfl (e := 13) rfl rfl (by decide) (by omega) ?_
  rw [pf5_cr]
  refine wx_ret rfl rfl ⟨by decide, by decide⟩ ?_
  exact hq
theorem c_X10_startText_h55 {d Lx t rt u : Nat} {I : Nat → Nat → Int32} {G : Nat → Nat → Int64} {Q : ab_Q} (ht : t = 1 ∨ t = 16) {C R x : Nat} (h10 : I t 10 = nI C) (h12 : I t 12 = nI R) (hC6 : C ≤ 6) (hR6 : R ≤ 6) (hx : x < 40) (ex : I 48 3 = nI x) (hq : ∀ I2, (∀ q, q ≠ 40 → q ≠ 48 → q ≠ 51 → q ≠ 52 → I2 q = I q) → CS 39 I2 (bgS (I (t + 9)) (I (t + 11)) C R) → PA I2 (fun _ _ => nI 0) 0 → PS I2 (fun _ => false) (fun _ _ => nI 0) → TD I2 (fun _ => 0) (fun _ => false) 0 → Q none (h55 Lx t rt t I2 G)) : ab_call ab_MT (d + 4) 140 [.ref 0] (h55 Lx t rt u I G) 0 0 Q := by
  refine wx_in (M := mX10_startText) rfl rfl rfl (Nat.le_of_ble_eq_true rfl) ?_
  refine wx_aload_n rfl (e := 1) rfl rfl ?_
  refine wx_getr rfl (e := 4) rfl rfl rfl ?_
  refine wx_aload_n rfl (e := 5) rfl rfl ?_
  refine wx_getr rfl (e := 8) rfl rfl rfl ?_
  refine wx_cv1 (mc := 0) (ms := 0) rfl (e := 11) rfl rfl (Nat.le_of_ble_eq_true rfl) ⟨by decide, by decide⟩ ?_
  refine c_X5_begin_h55 ht h10 h12 hC6 hR6 (fun I1 f1 S1 => ?_)
  refine wx_aload_n rfl (e := 12) rfl rfl ?_
  refine wx_getr rfl (e := 15) rfl rfl rfl ?_
  refine wx_aload_n rfl (e := 16) rfl rfl ?_
  refine wx_getr rfl (e := 19) rfl rfl rfl ?_
  refine wx_cv1 (mc := 0) (ms := 0) rfl (e := 22) rfl rfl (Nat.le_of_ble_eq_true rfl) ⟨by decide, by decide⟩ ?_
  refine c_X0_turnTo_h55 ht ?_
  refine wx_aload_n rfl (e := 23) rfl rfl ?_
  refine wx_getr rfl (e := 26) rfl rfl rfl ?_
  refine wx_cv0 (mc := 0) (ms := 0) rfl (e := 29) rfl rfl (Nat.le_of_ble_eq_true rfl) ⟨by decide, by decide⟩ ?_
  refine c_X3_clear_h55 (x := x) hx (by rw [f1 48 (by decide)]; exact ex) (fun I2 f2 A2 P2 => ?_)
  refine wx_aload_n rfl (e := 30) rfl rfl ?_
  refine wx_getr rfl (e := 33) rfl rfl rfl ?_
  refine wx_cv0 (mc := 0) (ms := 0) rfl (e := 36) rfl rfl (Nat.le_of_ble_eq_true rfl) ⟨by decide, by decide⟩ ?_
  refine c_X9_clear_h55 (fun I3 f3 D3 => ?_)
  refine wx_ret rfl rfl ⟨by decide, by decide⟩ ?_
  exact hq I3 (fun q y1 y2 y3 y4 => by rw [f3 q y4, f2 q y2 y3, f1 q y1]) (S1.kept (by rw [f3 40 (by decide), f2 40 (by decide) (by decide)])) (A2.kept (f3 48 (by decide)) (f3 49 (by decide))) (P2.kept (f3 50 (by decide)) (f3 51 (by decide))) D3

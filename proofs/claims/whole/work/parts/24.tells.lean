/-! the course: draws, gives, heals, leave, caught -/
theorem CS.kept {s : Nat} {I I2 : Nat → Nat → Int32} {r : rw_} (h : CS s I r) (hk : I2 (s + 1) = I (s + 1)) : CS s I2 r := fun k h2 => by rw [hk]; exact h k h2
/-- but for the rows that laws look at and count on -/
def fr5 (u : Nat) (I I2 : Nat → Nat → Int32) : Prop := ∀ q, q ≠ u + 5 → q ≠ u + 6 → I2 q = I q
theorem fr5.rf {u : Nat} {I : Nat → Nat → Int32} : fr5 u I I := fun _ _ _ => rfl
theorem fr5.tr {u : Nat} {I I2 I3 : Nat → Nat → Int32} (h1 : fr5 u I I2) (h2 : fr5 u I2 I3) : fr5 u I I3 := fun q a b => (h2 q a b).trans (h1 q a b)
theorem fr5.T {u : Nat} {I I2 : Nat → Nat → Int32} {T : tx} (h : fr5 u I I2) (hT : CT u I T) : CT u I2 T := hT.kept (fun c _ _ c5 c6 => h c c5 c6)
theorem fr5.S {u s : Nat} {I I2 : Nat → Nat → Int32} {r : rw_} (h : fr5 u I I2) (hu : u = 1 ∨ u = 16) (hs : s = 39 ∨ s = 45) (hS : CS s I r) : CS s I2 r := hS.kept (h (s + 1) (by omega) (by omega))
theorem fr5.w {u : Nat} {I : Nat → Nat → Int32} (j : Nat) (v : Int32) : fr5 u I (wr I (u + 5) j v) := fun _ a _ => wr_other _ _ _ _ a
theorem c_val {d Lx t rt u : Nat} {I : Nat → Nat → Int32} {G : Nat → Nat → Int64} {Q : ab_Q} {T : tx} {k : Nat} {vs : Nat → Int32} (hT : CT u I T) (hk : k < 5) (hv : ∀ j, j < 9 → I (u + 5) j = vs j) (hq : ∀ I2, fr5 u I I2 → Q (some (.int (tL T k vs))) (hp Lx t rt u I2 G)) : ab_call ab_MT (d + 2) 43 [.ref (u + 1), .int (nI k)] (hp Lx t rt u I G) 0 0 Q := by
  have hu := hT.1
  have hx := hT.2.1.2.2.2.2.2.2
  obtain ⟨-, -, -, -, -, -, -, -, -, us, ss, hok, hc⟩ := id hT
  refine c_X2_value (l_of hu) hok hk (fun I2 h2 => ?_)
  have e := hc k hk (I (u + 1 + 4))
  rw [hx k (I (u + 1 + 4)) vs (fun j hj => hv j hj)] at e
  rw [e]
  exact hq I2 (fun q _ h => h2 q h)
theorem c_X0_draw {d Lx t rt u : Nat} {I : Nat → Nat → Int32} {G : Nat → Nat → Int64} {Q : ab_Q} {T : tx} {r : rw_} {s : Nat} (hT : CT u I T) (hs : s = 39 ∨ s = 45) (hS : CS s I r) {a c : Nat} (ha : a < tP T) (hc : c < tC T) (hq : ∀ I2, fr5 u I I2 → Q (some (.int (drawS T r a c))) (hp Lx t rt u I2 G)) : ab_call ab_MT (d + 4) 9 [.ref 41, .int (nI 0), .ref s, .int (nI a), .int (nI c)] (hp Lx t rt u I G) 0 0 Q := by
  have hu := hT.1
  obtain ⟨hC6, hR6, hP5, hH, hTf, hFn, hLx⟩ := hT.2.1
  obtain ⟨-, -, t1, t2, t3, t4, t5, t6, t7, -⟩ := id hT
  refine wx_in (M := mX0_visitValue) rfl rfl rfl (Nat.le_of_ble_eq_true rfl) ?_
  refine wx_aload_n rfl (e := 1) rfl rfl ?_
  refine wx_aload_n rfl (e := 2) rfl rfl ?_
  refine wx_iload rfl (e := 4) rfl rfl ?_
  refine wx_cv2 (mc := 0) (ms := 0) rfl (e := 7) rfl rfl (Nat.le_of_ble_eq_true rfl) ⟨by decide, by decide⟩ ?_
  refine c_X0_lookAt hT hs hS hc (fun I2 h2 v2 => ?_)
  have f2 : fr5 u I I2 := fun q a _ => h2 q a
  have T2 := f2.T hT
  have S2 := f2.S hu hs hS
  refine wx_aload_n rfl (e := 8) rfl rfl ?_
  refine wx_aload_n rfl (e := 9) rfl rfl ?_
  refine wx_iload_n rfl (e := 10) rfl rfl ?_
  refine wx_iload rfl (e := 12) rfl rfl ?_
  refine wx_cv3 (mc := 0) (ms := 0) rfl (e := 15) rfl rfl (Nat.le_of_ble_eq_true rfl) ⟨by decide, by decide⟩ ?_
  refine c_X0_lookAtPilgrim T2 hs S2 ha hc v2 (fun I3 h3 v3 => ?_)
  have f3 : fr5 u I I3 := f2.tr (fun q a _ => h3 q a)
  have T3 := f3.T hT
  have S3 := f3.S hu hs hS
  refine wx_aload_n rfl (e := 16) rfl rfl ?_
  refine wx_getr rfl (e := 19) rfl rfl rfl ?_
  refine wx_bipush (v := (nI 6)) rfl (e := 21) rfl (by decide) ?_
  refine wx_aload_n rfl (e := 22) rfl rfl ?_
  refine wx_iconst (v := (nI 0)) rfl (e := 23) rfl (by decide) ?_
  refine wx_iload rfl (e := 25) rfl rfl ?_
  first | refine wn_iadd rfl (e := 26) rfl ?_ | refine wx_iadd rfl (e := 26) rfl ?_
  refine wx_cv1 (mc := 0) (ms := 0) rfl (e := 29) rfl (sh_s hs) (Nat.le_of_ble_eq_true rfl) ⟨by decide, by decide⟩ ?_
  rw [show nI (0 + c) = nI c by rw [Nat.zero_add]]
  refine c_X5_get hs (by omega) ?_
  rw [S3 _ (by omega), cst_w r (by omega)]
  refine wx_cv2 (mc := 0) (ms := 0) rfl (e := 32) rfl (sh_l hu) (Nat.le_of_ble_eq_true rfl) ⟨by decide, by decide⟩ ?_
  refine c_X2_setVar (l_of hu) (by decide) ?_
  refine wx_aload_n rfl (e := 33) rfl rfl ?_
  refine wx_getr rfl (e := 36) rfl rfl rfl ?_
  refine wx_bipush (v := (nI 8)) rfl (e := 38) rfl (by decide) ?_
  refine wx_aload_n rfl (e := 39) rfl rfl ?_
  refine wx_bipush (v := (nI 18)) rfl (e := 41) rfl (by decide) ?_
  refine wx_iload rfl (e := 43) rfl rfl ?_
  first | refine wn_iadd rfl (e := 44) rfl ?_ | refine wx_iadd rfl (e := 44) rfl ?_
  refine wx_cv1 (mc := 0) (ms := 0) rfl (e := 47) rfl (sh_s hs) (Nat.le_of_ble_eq_true rfl) ⟨by decide, by decide⟩ ?_
  refine c_X5_get hs (by omega) ?_
  rw [wr_other _ _ _ _ (show s + 1 ≠ u + 1 + 4 by omega), S3 _ (by omega), cst_at r (by omega)]
  refine wx_aload_n rfl (e := 48) rfl rfl ?_
  refine wx_getr rfl (e := 51) rfl rfl rfl ?_
  refine wx_cv0 (mc := 0) (ms := 0) rfl (e := 54) rfl (sh_t hu) (Nat.le_of_ble_eq_true rfl) ⟨by decide, by decide⟩ ?_
  refine c_X7_trueRelics hu ?_
  rw [wr_other _ _ _ _ (show u ≠ u + 1 + 4 by omega), h3 u (by omega), h2 u (by omega), t5]
  refine wx_iand rfl (e := 55) rfl ?_
  refine wx_cs1 (mc := 0) (ms := 0) rfl (e := 58) rfl (Nat.le_of_ble_eq_true rfl) ⟨by decide, by decide⟩ ?_
  rw [an_ok]
  refine c_J6_bitCount ?_
  rw [bc_ok]
  refine wx_cv2 (mc := 0) (ms := 0) rfl (e := 61) rfl (sh_l hu) (Nat.le_of_ble_eq_true rfl) ⟨by decide, by decide⟩ ?_
  refine c_X2_setVar (l_of hu) (by decide) ?_
  refine wx_aload_n rfl (e := 62) rfl rfl ?_
  refine wx_getr rfl (e := 65) rfl rfl rfl ?_
  refine wx_iload_n rfl (e := 66) rfl rfl ?_
  refine wx_cv1 (mc := 0) (ms := 0) rfl (e := 69) rfl (sh_l hu) (Nat.le_of_ble_eq_true rfl) ⟨by decide, by decide⟩ ?_
  have f4 : fr5 u I (wr (wr I3 (u + 1 + 4) 6 (r c)) (u + 1 + 4) 8 (nI (cnF (fun e => atC r c e && tT T e)))) := f3.tr ((fr5.w _ _).tr (fr5.w _ _))
  refine c_val (vs := vsV T r a c) (f4.T hT) (by decide) (fun j hj => ?_) (fun I5 f5 => ?_)
  · show wr (wr I3 (u + 5) 6 _) (u + 5) 8 _ (u + 5) j = _
    simp only [wr_at, if_true, v3 j hj]
    unfold vsV
    by_cases g8 : j = 8
    · subst g8; simp
    · by_cases g6 : j = 6
      · subst g6; simp
      · simp [g6, g8]
  refine wx_istore (L2 := [_, _, _, _, _, _]) rfl (e := 71) rfl (by decide) rfl ?_
  refine wx_iload_n rfl (e := 72) rfl rfl ?_
  refine wx_iconst (v := (nI 2)) rfl (e := 73) rfl (by decide) ?_
  first | refine wn_ic_ne rfl (e := 76) rfl (by omega) (by omega) (fun c_73 => ?_) (fun c_73 => absurd c_73 (by omega)) | refine wx_ic_ne rfl (e := 76) rfl (fun c_73 => ?_) (fun c_73 => absurd c_73 (by omega))
  refine wx_iload rfl (e := 88) rfl rfl ?_
  refine wx_iret rfl rfl rfl ⟨by decide, by decide⟩ ?_
  exact hq I5 (f4.tr f5)
theorem c_X0_give {d Lx t rt u : Nat} {I : Nat → Nat → Int32} {G : Nat → Nat → Int64} {Q : ab_Q} {T : tx} {r : rw_} {s : Nat} (hT : CT u I T) (hs : s = 39 ∨ s = 45) (hS : CS s I r) {a c : Nat} (ha : a < tP T) (hc : c < tC T) (hq : ∀ I2, fr5 u I I2 → Q (some (.int (giveS T r a c))) (hp Lx t rt u I2 G)) : ab_call ab_MT (d + 4) 9 [.ref 41, .int (nI 2), .ref s, .int (nI a), .int (nI c)] (hp Lx t rt u I G) 0 0 Q := by
  have hu := hT.1
  obtain ⟨hC6, hR6, hP5, hH, hTf, hFn, hLx⟩ := hT.2.1
  obtain ⟨-, -, t1, t2, t3, t4, t5, t6, t7, -⟩ := id hT
  refine wx_in (M := mX0_visitValue) rfl rfl rfl (Nat.le_of_ble_eq_true rfl) ?_
  refine wx_aload_n rfl (e := 1) rfl rfl ?_
  refine wx_aload_n rfl (e := 2) rfl rfl ?_
  refine wx_iload rfl (e := 4) rfl rfl ?_
  refine wx_cv2 (mc := 0) (ms := 0) rfl (e := 7) rfl rfl (Nat.le_of_ble_eq_true rfl) ⟨by decide, by decide⟩ ?_
  refine c_X0_lookAt hT hs hS hc (fun I2 h2 v2 => ?_)
  have f2 : fr5 u I I2 := fun q a _ => h2 q a
  have T2 := f2.T hT
  have S2 := f2.S hu hs hS
  refine wx_aload_n rfl (e := 8) rfl rfl ?_
  refine wx_aload_n rfl (e := 9) rfl rfl ?_
  refine wx_iload_n rfl (e := 10) rfl rfl ?_
  refine wx_iload rfl (e := 12) rfl rfl ?_
  refine wx_cv3 (mc := 0) (ms := 0) rfl (e := 15) rfl rfl (Nat.le_of_ble_eq_true rfl) ⟨by decide, by decide⟩ ?_
  refine c_X0_lookAtPilgrim T2 hs S2 ha hc v2 (fun I3 h3 v3 => ?_)
  have f3 : fr5 u I I3 := f2.tr (fun q a _ => h3 q a)
  have T3 := f3.T hT
  have S3 := f3.S hu hs hS
  refine wx_aload_n rfl (e := 16) rfl rfl ?_
  refine wx_getr rfl (e := 19) rfl rfl rfl ?_
  refine wx_bipush (v := (nI 6)) rfl (e := 21) rfl (by decide) ?_
  refine wx_aload_n rfl (e := 22) rfl rfl ?_
  refine wx_iconst (v := (nI 0)) rfl (e := 23) rfl (by decide) ?_
  refine wx_iload rfl (e := 25) rfl rfl ?_
  first | refine wn_iadd rfl (e := 26) rfl ?_ | refine wx_iadd rfl (e := 26) rfl ?_
  refine wx_cv1 (mc := 0) (ms := 0) rfl (e := 29) rfl (sh_s hs) (Nat.le_of_ble_eq_true rfl) ⟨by decide, by decide⟩ ?_
  rw [show nI (0 + c) = nI c by rw [Nat.zero_add]]
  refine c_X5_get hs (by omega) ?_
  rw [S3 _ (by omega), cst_w r (by omega)]
  refine wx_cv2 (mc := 0) (ms := 0) rfl (e := 32) rfl (sh_l hu) (Nat.le_of_ble_eq_true rfl) ⟨by decide, by decide⟩ ?_
  refine c_X2_setVar (l_of hu) (by decide) ?_
  refine wx_aload_n rfl (e := 33) rfl rfl ?_
  refine wx_getr rfl (e := 36) rfl rfl rfl ?_
  refine wx_bipush (v := (nI 8)) rfl (e := 38) rfl (by decide) ?_
  refine wx_aload_n rfl (e := 39) rfl rfl ?_
  refine wx_bipush (v := (nI 18)) rfl (e := 41) rfl (by decide) ?_
  refine wx_iload rfl (e := 43) rfl rfl ?_
  first | refine wn_iadd rfl (e := 44) rfl ?_ | refine wx_iadd rfl (e := 44) rfl ?_
  refine wx_cv1 (mc := 0) (ms := 0) rfl (e := 47) rfl (sh_s hs) (Nat.le_of_ble_eq_true rfl) ⟨by decide, by decide⟩ ?_
  refine c_X5_get hs (by omega) ?_
  rw [wr_other _ _ _ _ (show s + 1 ≠ u + 1 + 4 by omega), S3 _ (by omega), cst_at r (by omega)]
  refine wx_aload_n rfl (e := 48) rfl rfl ?_
  refine wx_getr rfl (e := 51) rfl rfl rfl ?_
  refine wx_cv0 (mc := 0) (ms := 0) rfl (e := 54) rfl (sh_t hu) (Nat.le_of_ble_eq_true rfl) ⟨by decide, by decide⟩ ?_
  refine c_X7_trueRelics hu ?_
  rw [wr_other _ _ _ _ (show u ≠ u + 1 + 4 by omega), h3 u (by omega), h2 u (by omega), t5]
  refine wx_iand rfl (e := 55) rfl ?_
  refine wx_cs1 (mc := 0) (ms := 0) rfl (e := 58) rfl (Nat.le_of_ble_eq_true rfl) ⟨by decide, by decide⟩ ?_
  rw [an_ok]
  refine c_J6_bitCount ?_
  rw [bc_ok]
  refine wx_cv2 (mc := 0) (ms := 0) rfl (e := 61) rfl (sh_l hu) (Nat.le_of_ble_eq_true rfl) ⟨by decide, by decide⟩ ?_
  refine c_X2_setVar (l_of hu) (by decide) ?_
  refine wx_aload_n rfl (e := 62) rfl rfl ?_
  refine wx_getr rfl (e := 65) rfl rfl rfl ?_
  refine wx_iload_n rfl (e := 66) rfl rfl ?_
  refine wx_cv1 (mc := 0) (ms := 0) rfl (e := 69) rfl (sh_l hu) (Nat.le_of_ble_eq_true rfl) ⟨by decide, by decide⟩ ?_
  have f4 : fr5 u I (wr (wr I3 (u + 1 + 4) 6 (r c)) (u + 1 + 4) 8 (nI (cnF (fun e => atC r c e && tT T e)))) := f3.tr ((fr5.w _ _).tr (fr5.w _ _))
  refine c_val (vs := vsV T r a c) (f4.T hT) (by decide) (fun j hj => ?_) (fun I5 f5 => ?_)
  · show wr (wr I3 (u + 5) 6 _) (u + 5) 8 _ (u + 5) j = _
    simp only [wr_at, if_true, v3 j hj]
    unfold vsV
    by_cases g8 : j = 8
    · subst g8; simp
    · by_cases g6 : j = 6
      · subst g6; simp
      · simp [g6, g8]
  refine wx_istore (L2 := [_, _, _, _, _, _]) rfl (e := 71) rfl (by decide) rfl ?_
  refine wx_iload_n rfl (e := 72) rfl rfl ?_
  refine wx_iconst (v := (nI 2)) rfl (e := 73) rfl (by decide) ?_
  first | refine wn_ic_ne rfl (e := 76) rfl (by omega) (by omega) (fun c_73 => absurd c_73 (by omega)) (fun c_73 => ?_) | refine wx_ic_ne rfl (e := 76) rfl (fun c_73 => absurd c_73 (by omega)) (fun c_73 => ?_)
  refine wx_iload rfl (e := 78) rfl rfl ?_
  refine wx_bipush (v := (nI 99)) rfl (e := 80) rfl (by decide) ?_
  refine wx_cs2 (mc := 0) (ms := 0) rfl (e := 83) rfl (Nat.le_of_ble_eq_true rfl) ⟨by decide, by decide⟩ ?_
  refine c_X10_heldTo (by decide) ?_
  refine wx_goto rfl ?_
  refine wx_iret rfl rfl rfl ⟨by decide, by decide⟩ ?_
  exact hq I5 (f4.tr f5)
theorem c_X0_healing {d Lx t rt u : Nat} {I : Nat → Nat → Int32} {G : Nat → Nat → Int64} {Q : ab_Q} {T : tx} {r : rw_} {s : Nat} (hT : CT u I T) (hs : s = 39 ∨ s = 45) (hS : CS s I r) {e a c : Nat} {tr : Int32} (he : e < 6) (ha : a < tP T) (hc : c < tC T) (hec : r (6 + e) = nI c) (hq : ∀ I2, fr5 u I I2 → Q (some (.int (healS T r c a tr))) (hp Lx t rt u I2 G)) : ab_call ab_MT (d + 4) 10 [.ref 41, .ref s, .int (nI e), .int (nI a), .int tr] (hp Lx t rt u I G) 0 0 Q := by
  have hu := hT.1
  obtain ⟨hC6, hR6, hP5, hH, hTf, hFn, hLx⟩ := hT.2.1
  obtain ⟨-, -, t1, t2, t3, t4, t5, t6, t7, -⟩ := id hT
  refine wx_in (M := mX0_healing) rfl rfl rfl (Nat.le_of_ble_eq_true rfl) ?_
  refine wx_aload_n rfl (e := 1) rfl rfl ?_
  refine wx_bipush (v := (nI 24)) rfl (e := 3) rfl (by decide) ?_
  refine wx_iload_n rfl (e := 4) rfl rfl ?_
  first | refine wn_iadd rfl (e := 5) rfl ?_ | refine wx_iadd rfl (e := 5) rfl ?_
  refine wx_cv1 (mc := 0) (ms := 0) rfl (e := 8) rfl (sh_s hs) (Nat.le_of_ble_eq_true rfl) ⟨by decide, by decide⟩ ?_
  refine c_X5_get hs (by omega) ?_
  rw [hS _ (by omega), cst_r r he, hec]
  refine wx_istore (L2 := [_, _, _, _, _, _]) rfl (e := 10) rfl (by decide) rfl ?_
  refine wx_aload_n rfl (e := 11) rfl rfl ?_
  refine wx_aload_n rfl (e := 12) rfl rfl ?_
  refine wx_iload rfl (e := 14) rfl rfl ?_
  refine wx_cv2 (mc := 0) (ms := 0) rfl (e := 17) rfl rfl (Nat.le_of_ble_eq_true rfl) ⟨by decide, by decide⟩ ?_
  refine c_X0_lookAt hT hs hS hc (fun I2 h2 v2 => ?_)
  have f2 : fr5 u I I2 := fun q a _ => h2 q a
  have T2 := f2.T hT
  have S2 := f2.S hu hs hS
  refine wx_aload_n rfl (e := 18) rfl rfl ?_
  refine wx_aload_n rfl (e := 19) rfl rfl ?_
  refine wx_iload_n rfl (e := 20) rfl rfl ?_
  refine wx_iload rfl (e := 22) rfl rfl ?_
  refine wx_cv3 (mc := 0) (ms := 0) rfl (e := 25) rfl rfl (Nat.le_of_ble_eq_true rfl) ⟨by decide, by decide⟩ ?_
  refine c_X0_lookAtPilgrim T2 hs S2 ha hc v2 (fun I3 h3 v3 => ?_)
  have f3 : fr5 u I I3 := f2.tr (fun q a _ => h3 q a)
  have T3 := f3.T hT
  have S3 := f3.S hu hs hS
  refine wx_aload_n rfl (e := 26) rfl rfl ?_
  refine wx_getr rfl (e := 29) rfl rfl rfl ?_
  refine wx_bipush (v := (nI 8)) rfl (e := 31) rfl (by decide) ?_
  refine wx_iload rfl (e := 33) rfl rfl ?_
  refine wx_cv2 (mc := 0) (ms := 0) rfl (e := 36) rfl (sh_l hu) (Nat.le_of_ble_eq_true rfl) ⟨by decide, by decide⟩ ?_
  refine c_X2_setVar (l_of hu) (by decide) ?_
  refine wx_aload_n rfl (e := 37) rfl rfl ?_
  refine wx_getr rfl (e := 40) rfl rfl rfl ?_
  refine wx_iconst (v := (nI 1)) rfl (e := 41) rfl (by decide) ?_
  refine wx_cv1 (mc := 0) (ms := 0) rfl (e := 44) rfl (sh_l hu) (Nat.le_of_ble_eq_true rfl) ⟨by decide, by decide⟩ ?_
  have f4 : fr5 u I (wr I3 (u + 1 + 4) 8 tr) := f3.tr (fr5.w _ _)
  refine c_val (vs := fun k => if k = 8 then tr else vsP T r a c k) (f4.T hT) (by decide) (fun j hj => ?_) (fun I5 f5 => ?_)
  · show wr I3 (u + 5) 8 _ (u + 5) j = _
    simp only [wr_at, if_true, v3 j hj]
  refine wx_bipush (v := (nI 100)) rfl (e := 46) rfl (by decide) ?_
  refine wx_cs2 (mc := 0) (ms := 0) rfl (e := 49) rfl (Nat.le_of_ble_eq_true rfl) ⟨by decide, by decide⟩ ?_
  refine c_X10_heldTo (by decide) ?_
  refine wx_iret rfl rfl rfl ⟨by decide, by decide⟩ ?_
  exact hq I5 (f4.tr f5)
theorem c_X0_leaving {d Lx t rt u : Nat} {I : Nat → Nat → Int32} {G : Nat → Nat → Int64} {Q : ab_Q} {T : tx} {r : rw_} {s : Nat} (hT : CT u I T) (hs : s = 39 ∨ s = 45) (hS : CS s I r) {e c n : Nat} (he : e < tR T) (hc : c < tC T) (hec : r (6 + e) = nI c) (hq : ∀ I2, fr5 u I I2 → Q (some (.int (leavS T r c e n))) (hp Lx t rt u I2 G)) : ab_call ab_MT (d + 4) 11 [.ref 41, .ref s, .int (nI e), .int (nI n)] (hp Lx t rt u I G) 0 0 Q := by
  have hu := hT.1
  obtain ⟨hC6, hR6, hP5, hH, hTf, hFn, hLx⟩ := hT.2.1
  obtain ⟨-, -, t1, t2, t3, t4, t5, t6, t7, -⟩ := id hT
  refine wx_in (M := mX0_leaving) rfl rfl rfl (Nat.le_of_ble_eq_true rfl) ?_
  refine wx_aload_n rfl (e := 1) rfl rfl ?_
  refine wx_bipush (v := (nI 24)) rfl (e := 3) rfl (by decide) ?_
  refine wx_iload_n rfl (e := 4) rfl rfl ?_
  first | refine wn_iadd rfl (e := 5) rfl ?_ | refine wx_iadd rfl (e := 5) rfl ?_
  refine wx_cv1 (mc := 0) (ms := 0) rfl (e := 8) rfl (sh_s hs) (Nat.le_of_ble_eq_true rfl) ⟨by decide, by decide⟩ ?_
  refine c_X5_get hs (by omega) ?_
  rw [hS _ (by omega), cst_r r (by omega), hec]
  refine wx_istore (L2 := [_, _, _, _, _]) rfl (e := 10) rfl (by decide) rfl ?_
  refine wx_aload_n rfl (e := 11) rfl rfl ?_
  refine wx_aload_n rfl (e := 12) rfl rfl ?_
  refine wx_iload rfl (e := 14) rfl rfl ?_
  refine wx_cv2 (mc := 0) (ms := 0) rfl (e := 17) rfl rfl (Nat.le_of_ble_eq_true rfl) ⟨by decide, by decide⟩ ?_
  refine c_X0_lookAt hT hs hS hc (fun I2 h2 v2 => ?_)
  have f2 : fr5 u I I2 := fun q a _ => h2 q a
  have T2 := f2.T hT
  have S2 := f2.S hu hs hS
  refine wx_aload_n rfl (e := 18) rfl rfl ?_
  refine wx_getr rfl (e := 21) rfl rfl rfl ?_
  refine wx_iconst (v := (nI 1)) rfl (e := 22) rfl (by decide) ?_
  refine wx_aload_n rfl (e := 23) rfl rfl ?_
  refine wx_bipush (v := (nI 6)) rfl (e := 25) rfl (by decide) ?_
  refine wx_iload rfl (e := 27) rfl rfl ?_
  first | refine wn_iadd rfl (e := 28) rfl ?_ | refine wx_iadd rfl (e := 28) rfl ?_
  refine wx_cv1 (mc := 0) (ms := 0) rfl (e := 31) rfl (sh_s hs) (Nat.le_of_ble_eq_true rfl) ⟨by decide, by decide⟩ ?_
  refine c_X5_get hs (by omega) ?_
  rw [S2 _ (by omega), cst_m r (by omega) (by omega), show 6 + c + 6 = 12 + c by omega]
  refine wx_cv2 (mc := 0) (ms := 0) rfl (e := 34) rfl (sh_l hu) (Nat.le_of_ble_eq_true rfl) ⟨by decide, by decide⟩ ?_
  refine c_X2_setVar (l_of hu) (by decide) ?_
  refine wx_aload_n rfl (e := 35) rfl rfl ?_
  refine wx_getr rfl (e := 38) rfl rfl rfl ?_
  refine wx_iconst (v := (nI 5)) rfl (e := 39) rfl (by decide) ?_
  refine wx_iload_n rfl (e := 40) rfl rfl ?_
  refine wx_cv2 (mc := 0) (ms := 0) rfl (e := 43) rfl (sh_l hu) (Nat.le_of_ble_eq_true rfl) ⟨by decide, by decide⟩ ?_
  refine c_X2_setVar (l_of hu) (by decide) ?_
  refine wx_aload_n rfl (e := 44) rfl rfl ?_
  refine wx_getr rfl (e := 47) rfl rfl rfl ?_
  refine wx_bipush (v := (nI 8)) rfl (e := 49) rfl (by decide) ?_
  refine wx_aload_n rfl (e := 50) rfl rfl ?_
  refine wx_getr rfl (e := 53) rfl rfl rfl ?_
  refine wx_iload_n rfl (e := 54) rfl rfl ?_
  refine wx_cv1 (mc := 0) (ms := 0) rfl (e := 57) rfl (sh_t hu) (Nat.le_of_ble_eq_true rfl) ⟨by decide, by decide⟩ ?_
  refine c_X7_truth hu (n := tR T) (by rw [wr_other _ _ _ _ (show u ≠ u + 1 + 4 by omega), wr_other _ _ _ _ (show u ≠ u + 1 + 4 by omega), h2 u (by omega)]; exact t2) he (by omega) ?_
  rw [wr_other _ _ _ _ (show u ≠ u + 1 + 4 by omega), wr_other _ _ _ _ (show u ≠ u + 1 + 4 by omega), h2 u (by omega), t5, sr_ok _ (by omega)]
  refine wx_cv2 (mc := 0) (ms := 0) rfl (e := 60) rfl (sh_l hu) (Nat.le_of_ble_eq_true rfl) ⟨by decide, by decide⟩ ?_
  refine c_X2_setVar (l_of hu) (by decide) ?_
  refine wx_aload_n rfl (e := 61) rfl rfl ?_
  refine wx_getr rfl (e := 64) rfl rfl rfl ?_
  refine wx_iconst (v := (nI 3)) rfl (e := 65) rfl (by decide) ?_
  refine wx_cv1 (mc := 0) (ms := 0) rfl (e := 68) rfl (sh_l hu) (Nat.le_of_ble_eq_true rfl) ⟨by decide, by decide⟩ ?_
  have f4 : fr5 u I (wr (wr (wr I2 (u + 1 + 4) 1 (r (12 + c))) (u + 1 + 4) 5 (nI n)) (u + 1 + 4) 8 (b1 (tT T e))) := f2.tr ((fr5.w _ _).tr ((fr5.w _ _).tr (fr5.w _ _)))
  refine c_val (vs := fun k => if k = 8 then b1 (tT T e) else if k = 5 then nI n else if k = 1 then r (12 + c) else vs0 r c k) (f4.T hT) (by decide) (fun j hj => ?_) (fun I5 f5 => ?_)
  · show wr (wr (wr I2 (u + 5) 1 _) (u + 5) 5 _) (u + 5) 8 _ (u + 5) j = _
    simp only [wr_at, if_true, v2 j hj]
  refine wx_bipush (v := (nI 100)) rfl (e := 70) rfl (by decide) ?_
  refine wx_cs2 (mc := 0) (ms := 0) rfl (e := 73) rfl (Nat.le_of_ble_eq_true rfl) ⟨by decide, by decide⟩ ?_
  refine c_X10_heldTo (by decide) ?_
  refine wx_iret rfl rfl rfl ⟨by decide, by decide⟩ ?_
  exact hq I5 (f4.tr f5)
theorem c_X0_catching {d Lx t rt u : Nat} {I : Nat → Nat → Int32} {G : Nat → Nat → Int64} {Q : ab_Q} {T : tx} {r : rw_} {s : Nat} (hT : CT u I T) (hs : s = 39 ∨ s = 45) (hS : CS s I r) {c n : Nat} {w : Int32} (hc : c < tC T) (hq : ∀ I2, fr5 u I I2 → Q (some (.int (caugS T r c w n))) (hp Lx t rt u I2 G)) : ab_call ab_MT (d + 4) 12 [.ref 41, .ref s, .int (nI c), .int w, .int (nI n)] (hp Lx t rt u I G) 0 0 Q := by
  have hu := hT.1
  obtain ⟨hC6, hR6, hP5, hH, hTf, hFn, hLx⟩ := hT.2.1
  obtain ⟨-, -, t1, t2, t3, t4, t5, t6, t7, -⟩ := id hT
  refine wx_in (M := mX0_catching) rfl rfl rfl (Nat.le_of_ble_eq_true rfl) ?_
  refine wx_aload_n rfl (e := 1) rfl rfl ?_
  refine wx_aload_n rfl (e := 2) rfl rfl ?_
  refine wx_iload_n rfl (e := 3) rfl rfl ?_
  refine wx_cv2 (mc := 0) (ms := 0) rfl (e := 6) rfl rfl (Nat.le_of_ble_eq_true rfl) ⟨by decide, by decide⟩ ?_
  refine c_X0_lookAt hT hs hS hc (fun I2 h2 v2 => ?_)
  have f2 : fr5 u I I2 := fun q a _ => h2 q a
  have T2 := f2.T hT
  have S2 := f2.S hu hs hS
  refine wx_aload_n rfl (e := 7) rfl rfl ?_
  refine wx_getr rfl (e := 10) rfl rfl rfl ?_
  refine wx_iconst (v := (nI 5)) rfl (e := 11) rfl (by decide) ?_
  refine wx_iload rfl (e := 13) rfl rfl ?_
  refine wx_cv2 (mc := 0) (ms := 0) rfl (e := 16) rfl (sh_l hu) (Nat.le_of_ble_eq_true rfl) ⟨by decide, by decide⟩ ?_
  refine c_X2_setVar (l_of hu) (by decide) ?_
  refine wx_aload_n rfl (e := 17) rfl rfl ?_
  refine wx_getr rfl (e := 20) rfl rfl rfl ?_
  refine wx_bipush (v := (nI 6)) rfl (e := 22) rfl (by decide) ?_
  refine wx_iload_n rfl (e := 23) rfl rfl ?_
  refine wx_cv2 (mc := 0) (ms := 0) rfl (e := 26) rfl (sh_l hu) (Nat.le_of_ble_eq_true rfl) ⟨by decide, by decide⟩ ?_
  refine c_X2_setVar (l_of hu) (by decide) ?_
  refine wx_aload_n rfl (e := 27) rfl rfl ?_
  refine wx_getr rfl (e := 30) rfl rfl rfl ?_
  refine wx_iconst (v := (nI 4)) rfl (e := 31) rfl (by decide) ?_
  refine wx_cv1 (mc := 0) (ms := 0) rfl (e := 34) rfl (sh_l hu) (Nat.le_of_ble_eq_true rfl) ⟨by decide, by decide⟩ ?_
  have f4 : fr5 u I (wr (wr I2 (u + 1 + 4) 5 (nI n)) (u + 1 + 4) 6 w) := f2.tr ((fr5.w _ _).tr (fr5.w _ _))
  refine c_val (vs := fun k => if k = 6 then w else if k = 5 then nI n else vs0 r c k) (f4.T hT) (by decide) (fun j hj => ?_) (fun I5 f5 => ?_)
  · show wr (wr I2 (u + 5) 5 _) (u + 5) 6 _ (u + 5) j = _
    simp only [wr_at, if_true, v2 j hj]
  refine wx_bipush (v := (nI 100)) rfl (e := 36) rfl (by decide) ?_
  refine wx_cs2 (mc := 0) (ms := 0) rfl (e := 39) rfl (Nat.le_of_ble_eq_true rfl) ⟨by decide, by decide⟩ ?_
  refine c_X10_heldTo (by decide) ?_
  refine wx_iret rfl rfl rfl ⟨by decide, by decide⟩ ?_
  exact hq I5 (f4.tr f5)

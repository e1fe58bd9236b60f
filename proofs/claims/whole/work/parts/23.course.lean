/-! the course: what laws look at, and what they tell of a row -/
/-- the text at o is T -/
def CT (o : Nat) (I : Nat → Nat → Int32) (T : tx) : Prop := (o = 1 ∨ o = 16) ∧ tok T ∧ I o 10 = nI (tC T) ∧ I o 12 = nI (tR T) ∧ I o 14 = nI (tP T) ∧ I o 15 = tS T ∧ I o 13 = nI (bsF (tT T)) ∧ (∀ a b, a < tC T → b < tC T → I (o + 10) (a * 6 + b) = tF T a b) ∧ (∀ a, a < tP T → I (o + 12) a = nI (tH T a) ∧ I (o + 13) a = tN T a ∧ I (o + 14) a = tG T a) ∧ ∃ us ss, lwok I (o + 1) us ss ∧ ∀ k, k < 5 → ∀ vs, cev us (I (o + 2)) (I (o + 3)) vs 421 (ss k) 0 (fun _ => nI 0) = tL T k vs
/-- the state at s is the row r -/
def CS (s : Nat) (I : Nat → Nat → Int32) (r : rw_) : Prop := ∀ k, k < 55 → I (s + 1) k = cst r k
theorem CT.kept {o : Nat} {I I2 : Nat → Nat → Int32} {T : tx} (h : CT o I T) (hk : ∀ c, o ≤ c → c ≤ o + 14 → c ≠ o + 5 → c ≠ o + 6 → I2 c = I c) : CT o I2 T := by
  obtain ⟨h1, h2, h3, h4, h5, h6, h7, h8, h9, us, ss, ⟨q1, q2, q3, q4⟩, q5⟩ := h
  have e0 := hk o (by omega) (by omega) (by omega) (by omega)
  have e1 := hk (o + 1) (by omega) (by omega) (by omega) (by omega)
  have e2 := hk (o + 2) (by omega) (by omega) (by omega) (by omega)
  have e3 := hk (o + 3) (by omega) (by omega) (by omega) (by omega)
  have e4 := hk (o + 4) (by omega) (by omega) (by omega) (by omega)
  have e10 := hk (o + 10) (by omega) (by omega) (by omega) (by omega)
  have e12 := hk (o + 12) (by omega) (by omega) (by omega) (by omega)
  have e13 := hk (o + 13) (by omega) (by omega) (by omega) (by omega)
  have e14 := hk (o + 14) (by omega) (by omega) (by omega) (by omega)
  refine ⟨h1, h2, by rw [e0]; exact h3, by rw [e0]; exact h4, by rw [e0]; exact h5, by rw [e0]; exact h6, by rw [e0]; exact h7, by rw [e10]; exact h8, by rw [e12, e13, e14]; exact h9, us, ss, ⟨q1, by rw [e1]; exact q2, by show ∀ k, k < 5 → _ ∧ I2 (o + 4) k = _; rw [e4]; exact q3, ?_⟩, by rw [e2, e3]; exact q5⟩
  show ∀ j, j < us → I2 (o + 2) j = nI 2 → ∃ m, m ≤ 420 ∧ I2 (o + 3) j = nI m
  rw [e2, e3]
  exact q4
theorem sh_t {Lx o : Nat} (h : o = 1 ∨ o = 16) : SH Lx o = .inl 7 := by rcases h with rfl | rfl <;> rfl
theorem sh_l {Lx o : Nat} (h : o = 1 ∨ o = 16) : SH Lx (o + 1) = .inl 2 := by rcases h with rfl | rfl <;> rfl
theorem sh_s {Lx s : Nat} (h : s = 39 ∨ s = 45) : SH Lx s = .inl 5 := by rcases h with rfl | rfl <;> rfl
theorem l_of {o : Nat} (h : o = 1 ∨ o = 16) : o + 1 = 2 ∨ o + 1 = 17 := by omega
theorem bc6 : ∀ a b c d e f : Bool, bcS (nI (bs6 a b c d e f)) = nI (cn6 a b c d e f) := by decide +kernel
theorem bc_ok (f : Nat → Bool) : bcS (nI (bsF f)) = nI (cnF f) := bc6 _ _ _ _ _ _
theorem an6 : ∀ a b c d e f a2 b2 c2 d2 e2 f2 : Bool, nI (bs6 a b c d e f) &&& nI (bs6 a2 b2 c2 d2 e2 f2) = nI (bs6 (a && a2) (b && b2) (c && c2) (d && d2) (e && e2) (f && f2)) := by decide +kernel
theorem an_ok (f g : Nat → Bool) : nI (bsF f) &&& nI (bsF g) = nI (bsF (fun e => f e && g e)) := an6 _ _ _ _ _ _ _ _ _ _ _ _
theorem sr6 : ∀ a b c d e f : Bool, (nI (bs6 a b c d e f) >>> (nI 0 &&& 31)) &&& nI 1 = b1 a ∧ (nI (bs6 a b c d e f) >>> (nI 1 &&& 31)) &&& nI 1 = b1 b ∧ (nI (bs6 a b c d e f) >>> (nI 2 &&& 31)) &&& nI 1 = b1 c ∧ (nI (bs6 a b c d e f) >>> (nI 3 &&& 31)) &&& nI 1 = b1 d ∧ (nI (bs6 a b c d e f) >>> (nI 4 &&& 31)) &&& nI 1 = b1 e ∧ (nI (bs6 a b c d e f) >>> (nI 5 &&& 31)) &&& nI 1 = b1 f := by decide +kernel
theorem sr_ok (f : Nat → Bool) {e : Nat} (h : e < 6) : (nI (bsF f) >>> (nI e &&& 31)) &&& nI 1 = b1 (f e) := by
  obtain ⟨h0, h1, h2, h3, h4, h5⟩ := sr6 (f 0) (f 1) (f 2) (f 3) (f 4) (f 5)
  rcases (show e = 0 ∨ e = 1 ∨ e = 2 ∨ e = 3 ∨ e = 4 ∨ e = 5 by omega) with rfl | rfl | rfl | rfl | rfl | rfl
  · exact h0
  · exact h1
  · exact h2
  · exact h3
  · exact h4
  · exact h5
theorem cst_at (r : rw_) {c : Nat} (h : c < 6) : cst r (18 + c) = nI (bsF (atC r c)) := by
  unfold cst
  rw [if_neg (by omega), if_neg (by omega), if_pos (by omega), Nat.add_sub_cancel_left]
theorem cst_w (r : rw_) {c : Nat} (h : c < 6) : cst r c = r c := by
  unfold cst
  rw [if_pos h]
theorem cst_m (r : rw_) {c : Nat} (h : 6 ≤ c) (h2 : c < 18) : cst r c = r (c + 6) := by
  unfold cst
  rw [if_neg (by omega), if_pos h2]
theorem cst_h (r : rw_) {c : Nat} (h : 30 ≤ c) : cst r c = r (c - 6) := by
  unfold cst
  rw [if_neg (by omega), if_neg (by omega), if_neg (by omega), if_neg (by omega)]
theorem cst_r (r : rw_) {e : Nat} (h : e < 6) : cst r (24 + e) = r (6 + e) := by
  unfold cst
  rw [if_neg (by omega), if_neg (by omega), if_neg (by omega), if_pos (by omega)]
  congr 1
  omega
theorem c_X0_lookAt {d Lx t rt u : Nat} {I : Nat → Nat → Int32} {G : Nat → Nat → Int64} {Q : ab_Q} {T : tx} {r : rw_} {s : Nat} (hT : CT u I T) (hs : s = 39 ∨ s = 45) (hS : CS s I r) {c : Nat} (hc : c < tC T) (hq : ∀ I2, (∀ q, q ≠ u + 5 → I2 q = I q) → (∀ j, j < 9 → I2 (u + 5) j = vs0 r c j) → Q none (hp Lx t rt u I2 G)) : ab_call ab_MT (d + 2) 7 [.ref 41, .ref s, .int (nI c)] (hp Lx t rt u I G) 0 0 Q := by
  have hu := hT.1
  obtain ⟨hC6, hR6, hP5, hH, hTf, hFn, hLx⟩ := hT.2.1
  refine wx_in (M := mX0_lookAt) rfl rfl rfl (Nat.le_of_ble_eq_true rfl) ?_
  refine wx_aload_n rfl (e := 1) rfl rfl ?_
  refine wx_getr rfl (e := 4) rfl rfl rfl ?_
  refine wx_cv0 (mc := 0) (ms := 0) rfl (e := 7) rfl (sh_l hu) (Nat.le_of_ble_eq_true rfl) ⟨by decide, by decide⟩ ?_
  refine c_X2_clearVars (l_of hu) (fun I2 hI2 => ?_)
  have h0 : ∀ q, q ≠ u + 5 → I2 q = I q := fun q hq => by funext k; rw [hI2, if_neg (by omega)]
  refine wx_aload_n rfl (e := 8) rfl rfl ?_
  refine wx_getr rfl (e := 11) rfl rfl rfl ?_
  refine wx_iconst (v := (nI 0)) rfl (e := 12) rfl (by decide) ?_
  refine wx_aload_n rfl (e := 13) rfl rfl ?_
  refine wx_bipush (v := (nI 18)) rfl (e := 15) rfl (by decide) ?_
  refine wx_iload_n rfl (e := 16) rfl rfl ?_
  first | refine wn_iadd rfl (e := 17) rfl ?_ | refine wx_iadd rfl (e := 17) rfl ?_
  refine wx_cv1 (mc := 0) (ms := 0) rfl (e := 20) rfl (sh_s hs) (Nat.le_of_ble_eq_true rfl) ⟨by decide, by decide⟩ ?_
  refine c_X5_get hs (by omega) ?_
  rw [h0 (s + 1) (by omega), hS _ (by omega), cst_at r (by omega)]
  refine wx_cs1 (mc := 0) (ms := 0) rfl (e := 23) rfl (Nat.le_of_ble_eq_true rfl) ⟨by decide, by decide⟩ ?_
  refine c_J6_bitCount ?_
  rw [bc_ok]
  refine wx_cv2 (mc := 0) (ms := 0) rfl (e := 26) rfl (sh_l hu) (Nat.le_of_ble_eq_true rfl) ⟨by decide, by decide⟩ ?_
  refine c_X2_setVar (l_of hu) (by decide) ?_
  refine wx_aload_n rfl (e := 27) rfl rfl ?_
  refine wx_getr rfl (e := 30) rfl rfl rfl ?_
  refine wx_bipush (v := (nI 7)) rfl (e := 32) rfl (by decide) ?_
  refine wx_aload_n rfl (e := 33) rfl rfl ?_
  refine wx_bipush (v := (nI 52)) rfl (e := 35) rfl (by decide) ?_
  refine wx_cv1 (mc := 0) (ms := 0) rfl (e := 38) rfl (sh_s hs) (Nat.le_of_ble_eq_true rfl) ⟨by decide, by decide⟩ ?_
  refine c_X5_get hs (by omega) ?_
  rw [wr_other _ _ _ _ (show s + 1 ≠ u + 1 + 4 by omega), h0 (s + 1) (by omega), hS _ (by omega), cst_h r (by omega)]
  refine wx_cv2 (mc := 0) (ms := 0) rfl (e := 41) rfl (sh_l hu) (Nat.le_of_ble_eq_true rfl) ⟨by decide, by decide⟩ ?_
  refine c_X2_setVar (l_of hu) (by decide) ?_
  refine wx_ret rfl rfl ⟨by decide, by decide⟩ ?_
  refine hq _ (fun q hq => by rw [wr_other _ _ _ _ hq, wr_other _ _ _ _ hq]; exact h0 q hq) (fun j hj => ?_)
  show wr (wr I2 (u + 5) 0 _) (u + 5) 7 _ (u + 5) j = _
  rw [wr_at, if_pos rfl, wr_at, if_pos rfl, hI2]
  unfold vs0
  by_cases h7 : j = 7
  · subst h7; simp
  · by_cases h8 : j = 0
    · subst h8; simp
    · simp [h7, h8, hj]
theorem c_X0_lookAtPilgrim {d Lx t rt u : Nat} {I : Nat → Nat → Int32} {G : Nat → Nat → Int64} {Q : ab_Q} {T : tx} {r : rw_} {s : Nat} (hT : CT u I T) (hs : s = 39 ∨ s = 45) (hS : CS s I r) {a c : Nat} (ha : a < tP T) (hc : c < tC T) (hv : ∀ j, j < 9 → I (u + 5) j = vs0 r c j) (hq : ∀ I2, (∀ q, q ≠ u + 5 → I2 q = I q) → (∀ j, j < 9 → I2 (u + 5) j = vsP T r a c j) → Q none (hp Lx t rt u I2 G)) : ab_call ab_MT (d + 2) 8 [.ref 41, .ref s, .int (nI a), .int (nI c)] (hp Lx t rt u I G) 0 0 Q := by
  have hu := hT.1
  obtain ⟨hC6, hR6, hP5, hH, hTf, hFn, hLx⟩ := hT.2.1
  obtain ⟨-, -, t1, t2, t3, t4, t5, t6, t7, -⟩ := id hT
  obtain ⟨w1, w2, w3⟩ := t7 a ha
  have hha := hH a ha
  refine wx_in (M := mX0_lookAtPilgrim) rfl rfl rfl (Nat.le_of_ble_eq_true rfl) ?_
  refine wx_aload_n rfl (e := 1) rfl rfl ?_
  refine wx_getr rfl (e := 4) rfl rfl rfl ?_
  refine wx_iconst (v := (nI 1)) rfl (e := 5) rfl (by decide) ?_
  refine wx_aload_n rfl (e := 6) rfl rfl ?_
  refine wx_bipush (v := (nI 6)) rfl (e := 8) rfl (by decide) ?_
  refine wx_iload_n rfl (e := 9) rfl rfl ?_
  first | refine wn_iadd rfl (e := 10) rfl ?_ | refine wx_iadd rfl (e := 10) rfl ?_
  refine wx_cv1 (mc := 0) (ms := 0) rfl (e := 13) rfl (sh_s hs) (Nat.le_of_ble_eq_true rfl) ⟨by decide, by decide⟩ ?_
  refine c_X5_get hs (by omega) ?_
  rw [hS _ (by omega), cst_m r (by omega) (by omega), show 6 + c + 6 = 12 + c by omega]
  refine wx_cv2 (mc := 0) (ms := 0) rfl (e := 16) rfl (sh_l hu) (Nat.le_of_ble_eq_true rfl) ⟨by decide, by decide⟩ ?_
  refine c_X2_setVar (l_of hu) (by decide) ?_
  refine wx_aload_n rfl (e := 17) rfl rfl ?_
  refine wx_getr rfl (e := 20) rfl rfl rfl ?_
  refine wx_iconst (v := (nI 2)) rfl (e := 21) rfl (by decide) ?_
  refine wx_aload_n rfl (e := 22) rfl rfl ?_
  refine wx_getr rfl (e := 25) rfl rfl rfl ?_
  refine wx_aload_n rfl (e := 26) rfl rfl ?_
  refine wx_getr rfl (e := 29) rfl rfl rfl ?_
  refine wx_iload_n rfl (e := 30) rfl rfl ?_
  refine wx_cv1 (mc := 0) (ms := 0) rfl (e := 33) rfl (sh_t hu) (Nat.le_of_ble_eq_true rfl) ⟨by decide, by decide⟩ ?_
  refine c_X7_home hu (n := tP T) (by first | exact t3 | (repeat rw [wr_other _ _ _ _ (show u ≠ u + 1 + 4 by omega)]); exact t3) ha (by omega) (by omega) ?_
  (repeat rw [wr_other _ _ _ _ (show _ ≠ u + 1 + 4 by omega)])
  rw [w1]
  refine wx_iload_n rfl (e := 34) rfl rfl ?_
  refine wx_cv2 (mc := 0) (ms := 0) rfl (e := 37) rfl (sh_t hu) (Nat.le_of_ble_eq_true rfl) ⟨by decide, by decide⟩ ?_
  refine c_X7_far hu (n := tC T) (by first | exact t1 | (repeat rw [wr_other _ _ _ _ (show u ≠ u + 1 + 4 by omega)]); exact t1) hha hc (by omega) ?_
  (repeat rw [wr_other _ _ _ _ (show _ ≠ u + 1 + 4 by omega)])
  rw [t6 _ _ hha hc]
  refine wx_cv2 (mc := 0) (ms := 0) rfl (e := 40) rfl (sh_l hu) (Nat.le_of_ble_eq_true rfl) ⟨by decide, by decide⟩ ?_
  refine c_X2_setVar (l_of hu) (by decide) ?_
  refine wx_aload_n rfl (e := 41) rfl rfl ?_
  refine wx_getr rfl (e := 44) rfl rfl rfl ?_
  refine wx_iconst (v := (nI 3)) rfl (e := 45) rfl (by decide) ?_
  refine wx_aload_n rfl (e := 46) rfl rfl ?_
  refine wx_getr rfl (e := 49) rfl rfl rfl ?_
  refine wx_iload_n rfl (e := 50) rfl rfl ?_
  refine wx_cv1 (mc := 0) (ms := 0) rfl (e := 53) rfl (sh_t hu) (Nat.le_of_ble_eq_true rfl) ⟨by decide, by decide⟩ ?_
  refine c_X7_needOf hu (n := tP T) (by first | exact t3 | (repeat rw [wr_other _ _ _ _ (show u ≠ u + 1 + 4 by omega)]); exact t3) ha (by omega) (by omega) ?_
  (repeat rw [wr_other _ _ _ _ (show _ ≠ u + 1 + 4 by omega)])
  rw [w2]
  refine wx_cv2 (mc := 0) (ms := 0) rfl (e := 56) rfl (sh_l hu) (Nat.le_of_ble_eq_true rfl) ⟨by decide, by decide⟩ ?_
  refine c_X2_setVar (l_of hu) (by decide) ?_
  refine wx_aload_n rfl (e := 57) rfl rfl ?_
  refine wx_getr rfl (e := 60) rfl rfl rfl ?_
  refine wx_iconst (v := (nI 4)) rfl (e := 61) rfl (by decide) ?_
  refine wx_aload_n rfl (e := 62) rfl rfl ?_
  refine wx_getr rfl (e := 65) rfl rfl rfl ?_
  refine wx_iload_n rfl (e := 66) rfl rfl ?_
  refine wx_cv1 (mc := 0) (ms := 0) rfl (e := 69) rfl (sh_t hu) (Nat.le_of_ble_eq_true rfl) ⟨by decide, by decide⟩ ?_
  refine c_X7_giftOf hu (n := tP T) (by first | exact t3 | (repeat rw [wr_other _ _ _ _ (show u ≠ u + 1 + 4 by omega)]); exact t3) ha (by omega) (by omega) ?_
  (repeat rw [wr_other _ _ _ _ (show _ ≠ u + 1 + 4 by omega)])
  rw [w3]
  refine wx_cv2 (mc := 0) (ms := 0) rfl (e := 72) rfl (sh_l hu) (Nat.le_of_ble_eq_true rfl) ⟨by decide, by decide⟩ ?_
  refine c_X2_setVar (l_of hu) (by decide) ?_
  refine wx_ret rfl rfl ⟨by decide, by decide⟩ ?_
  refine hq _ (fun q hq => by rw [wr_other _ _ _ _ hq, wr_other _ _ _ _ hq, wr_other _ _ _ _ hq, wr_other _ _ _ _ hq]) (fun j hj => ?_)
  show wr (wr (wr (wr I (u + 5) 1 _) (u + 5) 2 _) (u + 5) 3 _) (u + 5) 4 _ (u + 5) j = _
  simp only [wr_at, if_true, hv j hj]
  unfold vsP
  by_cases g4 : j = 4
  · subst g4; simp
  · by_cases g3 : j = 3
    · subst g3; simp
    · by_cases g2 : j = 2
      · subst g2; simp
      · by_cases g1 : j = 1
        · subst g1; simp
        · simp [g1, g2, g3, g4]

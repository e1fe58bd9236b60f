/-! states: moving relics, copies; thefts -/
def mvS (r : rw_) (e : Nat) (v : Int32) : rw_ := fun k => if k = 6 + e then v else r k
def xcS (r : rw_) (e f : Nat) : rw_ := mvS (mvS r e (r (6 + f))) f (r (6 + e))
def clF (f : Nat → Bool) (e : Nat) : Nat → Bool := fun j => if j = e then false else f j
def stF (f : Nat → Bool) (e : Nat) : Nat → Bool := fun j => if j = e then true else f j
theorem cl6 : ∀ a b c d e f : Bool, (nI (bs6 a b c d e f) &&& ((nI 1 <<< (nI 0 &&& 31)) ^^^ (-1)) = nI (bs6 false b c d e f)) ∧ (nI (bs6 a b c d e f) &&& ((nI 1 <<< (nI 1 &&& 31)) ^^^ (-1)) = nI (bs6 a false c d e f)) ∧ (nI (bs6 a b c d e f) &&& ((nI 1 <<< (nI 2 &&& 31)) ^^^ (-1)) = nI (bs6 a b false d e f)) ∧ (nI (bs6 a b c d e f) &&& ((nI 1 <<< (nI 3 &&& 31)) ^^^ (-1)) = nI (bs6 a b c false e f)) ∧ (nI (bs6 a b c d e f) &&& ((nI 1 <<< (nI 4 &&& 31)) ^^^ (-1)) = nI (bs6 a b c d false f)) ∧ (nI (bs6 a b c d e f) &&& ((nI 1 <<< (nI 5 &&& 31)) ^^^ (-1)) = nI (bs6 a b c d e false)) := by decide +kernel
theorem st6 : ∀ a b c d e f : Bool, (nI (bs6 a b c d e f) ||| (nI 1 <<< (nI 0 &&& 31)) = nI (bs6 true b c d e f)) ∧ (nI (bs6 a b c d e f) ||| (nI 1 <<< (nI 1 &&& 31)) = nI (bs6 a true c d e f)) ∧ (nI (bs6 a b c d e f) ||| (nI 1 <<< (nI 2 &&& 31)) = nI (bs6 a b true d e f)) ∧ (nI (bs6 a b c d e f) ||| (nI 1 <<< (nI 3 &&& 31)) = nI (bs6 a b c true e f)) ∧ (nI (bs6 a b c d e f) ||| (nI 1 <<< (nI 4 &&& 31)) = nI (bs6 a b c d true f)) ∧ (nI (bs6 a b c d e f) ||| (nI 1 <<< (nI 5 &&& 31)) = nI (bs6 a b c d e true)) := by decide +kernel
theorem cl_ok (f : Nat → Bool) {e : Nat} (h : e < 6) : nI (bsF f) &&& ((nI 1 <<< (nI e &&& 31)) ^^^ (-1)) = nI (bsF (clF f e)) := by
  obtain ⟨h0, h1, h2, h3, h4, h5⟩ := cl6 (f 0) (f 1) (f 2) (f 3) (f 4) (f 5)
  rcases (show e = 0 ∨ e = 1 ∨ e = 2 ∨ e = 3 ∨ e = 4 ∨ e = 5 by omega) with rfl | rfl | rfl | rfl | rfl | rfl
  · exact h0
  · exact h1
  · exact h2
  · exact h3
  · exact h4
  · exact h5
theorem st_ok (f : Nat → Bool) {e : Nat} (h : e < 6) : nI (bsF f) ||| (nI 1 <<< (nI e &&& 31)) = nI (bsF (stF f e)) := by
  obtain ⟨h0, h1, h2, h3, h4, h5⟩ := st6 (f 0) (f 1) (f 2) (f 3) (f 4) (f 5)
  rcases (show e = 0 ∨ e = 1 ∨ e = 2 ∨ e = 3 ∨ e = 4 ∨ e = 5 by omega) with rfl | rfl | rfl | rfl | rfl | rfl
  · exact h0
  · exact h1
  · exact h2
  · exact h3
  · exact h4
  · exact h5
theorem atC_mv (r : rw_) (e : Nat) (v : Int32) (c : Nat) : atC (mvS r e v) c = fun j => if j = e then decide (v = nI c) else atC r c j := by
  funext j
  unfold atC mvS
  by_cases h : j = e
  · subst h; simp
  · have : ¬ 6 + j = 6 + e := by omega
    simp [h, this]
theorem atC_to (r : rw_) {e : Nat} {v : Int32} {c : Nat} (h : v = nI c) : atC (mvS r e v) c = stF (atC r c) e := by
  rw [atC_mv]; unfold stF; simp [h]
theorem atC_not (r : rw_) {e : Nat} {v : Int32} {c : Nat} (h : ¬ v = nI c) : atC (mvS r e v) c = clF (atC r c) e := by
  rw [atC_mv]; unfold clF; simp [h]
theorem clF_no {r : rw_} {e c : Nat} (h : ¬ r (6 + e) = nI c) : clF (atC r c) e = atC r c := by
  funext j
  unfold clF
  by_cases hj : j = e
  · subst hj; rw [if_pos rfl]; unfold atC; simp [h]
  · rw [if_neg hj]
theorem stF_cl (f : Nat → Bool) (e : Nat) : stF (clF f e) e = stF f e := by
  funext j
  unfold stF clF
  by_cases hj : j = e
  · rw [if_pos hj, if_pos hj]
  · rw [if_neg hj, if_neg hj, if_neg hj]
theorem CS.mv {s e : Nat} {I I2 : Nat → Nat → Int32} {r : rw_} {v : Int32} (hS : CS s I r) (he : e < 6) (h1 : I2 (s + 1) (24 + e) = v) (h2 : ∀ c, c < 6 → I2 (s + 1) (18 + c) = nI (bsF (atC (mvS r e v) c))) (h3 : ∀ k, k < 55 → k ≠ 24 + e → (k < 18 ∨ 24 ≤ k) → I2 (s + 1) k = I (s + 1) k) : CS s I2 (mvS r e v) := by
  intro k hk
  by_cases hb : k < 18 ∨ 24 ≤ k
  · by_cases ha : k = 24 + e
    · subst ha
      rw [h1, cst_r _ he]
      unfold mvS
      rw [if_pos rfl]
    · rw [h3 k hk ha hb, hS k hk]
      unfold cst mvS
      split
      · rw [if_neg (by omega)]
      · split
        · rw [if_neg (by omega)]
        · split
          · omega
          · split
            · rw [if_neg (by omega)]
            · rw [if_neg (by omega)]
  · obtain ⟨c, rfl⟩ : ∃ c, k = 18 + c := ⟨k - 18, by omega⟩
    rw [h2 c (by omega), cst_at _ (by omega)]
theorem nI6 {a b : Nat} (ha : a < 6) (hb : b < 6) : nI a = nI b ↔ a = b := nI_eq (by omega) (by omega)
theorem c_X5_move {d Lx t rt u : Nat} {I : Nat → Nat → Int32} {G : Nat → Nat → Int64} {Q : ab_Q} {r : rw_} {s : Nat} (hs : s = 39 ∨ s = 45) (hS : CS s I r) {e : Nat} {v : Int32} (he : e < 6) (hq : ∀ I2, (∀ q, q ≠ s + 1 → I2 q = I q) → CS s I2 (mvS r e v) → Q none (hp Lx t rt u I2 G)) : ab_call ab_MT (d + 2) 78 [.ref s, .int (nI e), .int v] (hp Lx t rt u I G) 0 0 Q := by
  refine wx_in (M := mX5_move) rfl rfl rfl (Nat.le_of_ble_eq_true rfl) ?_
  refine wx_iconst (v := (nI 1)) rfl (e := 1) rfl (by decide) ?_
  refine wx_iload_n rfl (e := 2) rfl rfl ?_
  refine wx_ishl rfl (e := 3) rfl ?_
  refine wx_istore_n (L2 := [_, _, _, _, _]) rfl (e := 4) rfl (by decide) rfl ?_
  refine wx_aload_n rfl (e := 5) rfl rfl ?_
  refine wx_bipush (v := (nI 24)) rfl (e := 7) rfl (by decide) ?_
  refine wx_iload_n rfl (e := 8) rfl rfl ?_
  refine wn_iadd rfl (e := 9) rfl ?_
  refine wx_cv1 (mc := 0) (ms := 0) rfl (e := 12) rfl (sh_s hs) (Nat.le_of_ble_eq_true rfl) ⟨by decide, by decide⟩ ?_
  refine c_X5_get hs (by omega) ?_
  rw [hS _ (by omega), cst_r r he]
  refine wx_istore (L2 := [_, _, _, _, _]) rfl (e := 14) rfl (by decide) rfl ?_
  refine wx_iload rfl (e := 16) rfl rfl ?_
  refine wx_iconst (v := (nI 0)) rfl (e := 17) rfl (by decide) ?_
  refine wx_iconst (v := (nI 5)) rfl (e := 18) rfl (by decide) ?_
  refine wx_cs3 (mc := 0) (ms := 0) rfl (e := 21) rfl (Nat.le_of_ble_eq_true rfl) ⟨by decide, by decide⟩ ?_
  refine c_X10_isWithin (by decide) (by decide) (fun cf h1 h2 ecf => ?_) (fun hnf => ?_)
  · have hcf : cf < 6 := by omega
    rw [ecf]
    refine wn_if_eq rfl (e := 24) rfl (by omega) (fun c_21 => absurd c_21 (by omega)) (fun c_21 => ?_)
    refine wx_aload_n rfl (e := 25) rfl rfl ?_
    refine wx_bipush (v := (nI 18)) rfl (e := 27) rfl (by decide) ?_
    refine wx_iload rfl (e := 29) rfl rfl ?_
    refine wn_iadd rfl (e := 30) rfl ?_
    refine wx_aload_n rfl (e := 31) rfl rfl ?_
    refine wx_bipush (v := (nI 18)) rfl (e := 33) rfl (by decide) ?_
    refine wx_iload rfl (e := 35) rfl rfl ?_
    refine wn_iadd rfl (e := 36) rfl ?_
    refine wx_cv1 (mc := 0) (ms := 0) rfl (e := 39) rfl (sh_s hs) (Nat.le_of_ble_eq_true rfl) ⟨by decide, by decide⟩ ?_
    refine c_X5_get hs (by omega) ?_
    rw [hS _ (by omega), cst_at r hcf]
    refine wx_iload_n rfl (e := 40) rfl rfl ?_
    refine wx_iconst (v := (-1)) rfl (e := 41) rfl (by decide) ?_
    refine wx_ixor rfl (e := 42) rfl ?_
    refine wx_iand rfl (e := 43) rfl ?_
    rw [cl_ok _ he]
    refine wx_cv2 (mc := 0) (ms := 0) rfl (e := 46) rfl (sh_s hs) (Nat.le_of_ble_eq_true rfl) ⟨by decide, by decide⟩ ?_
    refine c_X5_set hs (by omega) ?_
    refine wx_iload_n rfl (e := 47) rfl rfl ?_
    refine wx_iconst (v := (nI 0)) rfl (e := 48) rfl (by decide) ?_
    refine wx_iconst (v := (nI 5)) rfl (e := 49) rfl (by decide) ?_
    refine wx_cs3 (mc := 0) (ms := 0) rfl (e := 52) rfl (Nat.le_of_ble_eq_true rfl) ⟨by decide, by decide⟩ ?_
    refine c_X10_isWithin (by decide) (by decide) (fun ct h1 h2 ect => ?_) (fun hnt => ?_)
    · have hct : ct < 6 := by omega
      subst ect
      refine wn_if_eq rfl (e := 55) rfl (by omega) (fun c_52 => absurd c_52 (by omega)) (fun c_52 => ?_)
      refine wx_aload_n rfl (e := 56) rfl rfl ?_
      refine wx_bipush (v := (nI 18)) rfl (e := 58) rfl (by decide) ?_
      refine wx_iload_n rfl (e := 59) rfl rfl ?_
      refine wn_iadd rfl (e := 60) rfl ?_
      refine wx_aload_n rfl (e := 61) rfl rfl ?_
      refine wx_bipush (v := (nI 18)) rfl (e := 63) rfl (by decide) ?_
      refine wx_iload_n rfl (e := 64) rfl rfl ?_
      refine wn_iadd rfl (e := 65) rfl ?_
      refine wx_cv1 (mc := 0) (ms := 0) rfl (e := 68) rfl (sh_s hs) (Nat.le_of_ble_eq_true rfl) ⟨by decide, by decide⟩ ?_
      refine c_X5_get hs (by omega) ?_
      have hval : wr I (s + 1) (18 + cf) (nI (bsF (clF (atC r cf) e))) (s + 1) (18 + ct) = nI (bsF (if ct = cf then clF (atC r cf) e else atC r ct)) := by
        rw [wr_at, if_pos rfl]
        by_cases z : ct = cf
        · rw [if_pos (by omega), if_pos z]
        · rw [if_neg (by omega), if_neg z, hS _ (by omega), cst_at r hct]
      rw [hval]
      refine wx_iload_n rfl (e := 69) rfl rfl ?_
      refine wx_ior rfl (e := 70) rfl ?_
      rw [st_ok _ he]
      rw [show stF (if ct = cf then clF (atC r cf) e else atC r ct) e = stF (atC r ct) e from by by_cases z : ct = cf; (· rw [if_pos z, z, stF_cl]); (· rw [if_neg z])]
      refine wx_cv2 (mc := 0) (ms := 0) rfl (e := 73) rfl (sh_s hs) (Nat.le_of_ble_eq_true rfl) ⟨by decide, by decide⟩ ?_
      refine c_X5_set hs (by omega) ?_
      refine wx_aload_n rfl (e := 74) rfl rfl ?_
      refine wx_bipush (v := (nI 24)) rfl (e := 76) rfl (by decide) ?_
      refine wx_iload_n rfl (e := 77) rfl rfl ?_
      refine wn_iadd rfl (e := 78) rfl ?_
      refine wx_iload_n rfl (e := 79) rfl rfl ?_
      refine wx_cv2 (mc := 0) (ms := 0) rfl (e := 82) rfl (sh_s hs) (Nat.le_of_ble_eq_true rfl) ⟨by decide, by decide⟩ ?_
      refine c_X5_set hs (by omega) ?_
      refine wx_ret rfl rfl ⟨by decide, by decide⟩ ?_
      refine hq _ (fun q hq => by rw [wr_other _ _ _ _ hq, wr_other _ _ _ _ hq, wr_other _ _ _ _ hq]) (hS.mv he (by simp [wr_at]) (fun c hc => ?_) (fun k hk h1 h2 => ?_))
      · simp only [wr_at, if_true]
        rw [if_neg (show ¬ 18 + c = 24 + e by omega)]
        by_cases z : c = ct
        · subst z; rw [if_pos rfl, atC_to r rfl]
        · rw [if_neg (by omega), atC_not r (fun w => z ((nI6 hct hc).mp w).symm)]
          by_cases z2 : c = cf
          · subst z2; rw [if_pos rfl]
          · rw [if_neg (by omega), hS _ (by omega), cst_at r hc, clF_no (fun w => z2 ((nI6 hcf hc).mp (ecf.symm.trans w)).symm)]
      · simp only [wr_at, if_true]
        rw [if_neg h1, if_neg (by omega), if_neg (by omega)]
    · refine wn_if_eq rfl (e := 55) rfl (by omega) (fun c_52 => ?_) (fun c_52 => absurd c_52 (by omega))
      refine wx_aload_n rfl (e := 74) rfl rfl ?_
      refine wx_bipush (v := (nI 24)) rfl (e := 76) rfl (by decide) ?_
      refine wx_iload_n rfl (e := 77) rfl rfl ?_
      refine wn_iadd rfl (e := 78) rfl ?_
      refine wx_iload_n rfl (e := 79) rfl rfl ?_
      refine wx_cv2 (mc := 0) (ms := 0) rfl (e := 82) rfl (sh_s hs) (Nat.le_of_ble_eq_true rfl) ⟨by decide, by decide⟩ ?_
      refine c_X5_set hs (by omega) ?_
      refine wx_ret rfl rfl ⟨by decide, by decide⟩ ?_
      refine hq _ (fun q hq => by rw [wr_other _ _ _ _ hq, wr_other _ _ _ _ hq]) (hS.mv he (by simp [wr_at]) (fun c hc => ?_) (fun k hk h1 h2 => ?_))
      · simp only [wr_at, if_true]
        rw [if_neg (show ¬ 18 + c = 24 + e by omega), atC_not r (hnt c (by omega) (by omega))]
        by_cases z2 : c = cf
        · subst z2; rw [if_pos rfl]
        · rw [if_neg (by omega), hS _ (by omega), cst_at r hc, clF_no (fun w => z2 ((nI6 hcf hc).mp (ecf.symm.trans w)).symm)]
      · simp only [wr_at, if_true]
        rw [if_neg h1, if_neg (by omega)]
  · refine wn_if_eq rfl (e := 24) rfl (by omega) (fun c_21 => ?_) (fun c_21 => absurd c_21 (by omega))
    refine wx_iload_n rfl (e := 47) rfl rfl ?_
    refine wx_iconst (v := (nI 0)) rfl (e := 48) rfl (by decide) ?_
    refine wx_iconst (v := (nI 5)) rfl (e := 49) rfl (by decide) ?_
    refine wx_cs3 (mc := 0) (ms := 0) rfl (e := 52) rfl (Nat.le_of_ble_eq_true rfl) ⟨by decide, by decide⟩ ?_
    refine c_X10_isWithin (by decide) (by decide) (fun ct h1 h2 ect => ?_) (fun hnt => ?_)
    · have hct : ct < 6 := by omega
      subst ect
      refine wn_if_eq rfl (e := 55) rfl (by omega) (fun c_52 => absurd c_52 (by omega)) (fun c_52 => ?_)
      refine wx_aload_n rfl (e := 56) rfl rfl ?_
      refine wx_bipush (v := (nI 18)) rfl (e := 58) rfl (by decide) ?_
      refine wx_iload_n rfl (e := 59) rfl rfl ?_
      refine wn_iadd rfl (e := 60) rfl ?_
      refine wx_aload_n rfl (e := 61) rfl rfl ?_
      refine wx_bipush (v := (nI 18)) rfl (e := 63) rfl (by decide) ?_
      refine wx_iload_n rfl (e := 64) rfl rfl ?_
      refine wn_iadd rfl (e := 65) rfl ?_
      refine wx_cv1 (mc := 0) (ms := 0) rfl (e := 68) rfl (sh_s hs) (Nat.le_of_ble_eq_true rfl) ⟨by decide, by decide⟩ ?_
      refine c_X5_get hs (by omega) ?_
      rw [hS _ (by omega), cst_at r hct]
      refine wx_iload_n rfl (e := 69) rfl rfl ?_
      refine wx_ior rfl (e := 70) rfl ?_
      rw [st_ok _ he]
      refine wx_cv2 (mc := 0) (ms := 0) rfl (e := 73) rfl (sh_s hs) (Nat.le_of_ble_eq_true rfl) ⟨by decide, by decide⟩ ?_
      refine c_X5_set hs (by omega) ?_
      refine wx_aload_n rfl (e := 74) rfl rfl ?_
      refine wx_bipush (v := (nI 24)) rfl (e := 76) rfl (by decide) ?_
      refine wx_iload_n rfl (e := 77) rfl rfl ?_
      refine wn_iadd rfl (e := 78) rfl ?_
      refine wx_iload_n rfl (e := 79) rfl rfl ?_
      refine wx_cv2 (mc := 0) (ms := 0) rfl (e := 82) rfl (sh_s hs) (Nat.le_of_ble_eq_true rfl) ⟨by decide, by decide⟩ ?_
      refine c_X5_set hs (by omega) ?_
      refine wx_ret rfl rfl ⟨by decide, by decide⟩ ?_
      refine hq _ (fun q hq => by rw [wr_other _ _ _ _ hq, wr_other _ _ _ _ hq]) (hS.mv he (by simp [wr_at]) (fun c hc => ?_) (fun k hk h1 h2 => ?_))
      · simp only [wr_at, if_true]
        rw [if_neg (show ¬ 18 + c = 24 + e by omega)]
        by_cases z : c = ct
        · subst z; rw [if_pos rfl, atC_to r rfl]
        · rw [if_neg (by omega), atC_not r (fun w => z ((nI6 hct hc).mp w).symm), hS _ (by omega), cst_at r hc, clF_no (hnf c (by omega) (by omega))]
      · simp only [wr_at, if_true]
        rw [if_neg h1, if_neg (by omega)]
    · refine wn_if_eq rfl (e := 55) rfl (by omega) (fun c_52 => ?_) (fun c_52 => absurd c_52 (by omega))
      refine wx_aload_n rfl (e := 74) rfl rfl ?_
      refine wx_bipush (v := (nI 24)) rfl (e := 76) rfl (by decide) ?_
      refine wx_iload_n rfl (e := 77) rfl rfl ?_
      refine wn_iadd rfl (e := 78) rfl ?_
      refine wx_iload_n rfl (e := 79) rfl rfl ?_
      refine wx_cv2 (mc := 0) (ms := 0) rfl (e := 82) rfl (sh_s hs) (Nat.le_of_ble_eq_true rfl) ⟨by decide, by decide⟩ ?_
      refine c_X5_set hs (by omega) ?_
      refine wx_ret rfl rfl ⟨by decide, by decide⟩ ?_
      refine hq _ (fun q hq => by rw [wr_other _ _ _ _ hq]) (hS.mv he (by simp [wr_at]) (fun c hc => ?_) (fun k hk h1 h2 => ?_))
      · simp only [wr_at, if_true]
        rw [if_neg (show ¬ 18 + c = 24 + e by omega), atC_not r (hnt c (by omega) (by omega)), hS _ (by omega), cst_at r hc, clF_no (hnf c (by omega) (by omega))]
      · simp only [wr_at, if_true]
        rw [if_neg h1]
theorem c_X5_exchange {d Lx t rt u : Nat} {I : Nat → Nat → Int32} {G : Nat → Nat → Int64} {Q : ab_Q} {r : rw_} {s : Nat} (hs : s = 39 ∨ s = 45) (hS : CS s I r) {e f : Nat} (he : e < 6) (hf : f < 6) (hq : ∀ I2, (∀ q, q ≠ s + 1 → I2 q = I q) → CS s I2 (xcS r e f) → Q none (hp Lx t rt u I2 G)) : ab_call ab_MT (d + 3) 79 [.ref s, .int (nI e), .int (nI f)] (hp Lx t rt u I G) 0 0 Q := by
  refine wx_in (M := mX5_exchange) rfl rfl rfl (Nat.le_of_ble_eq_true rfl) ?_
  refine wx_aload_n rfl (e := 1) rfl rfl ?_
  refine wx_bipush (v := (nI 24)) rfl (e := 3) rfl (by decide) ?_
  refine wx_iload_n rfl (e := 4) rfl rfl ?_
  refine wn_iadd rfl (e := 5) rfl ?_
  refine wx_cv1 (mc := 0) (ms := 0) rfl (e := 8) rfl (sh_s hs) (Nat.le_of_ble_eq_true rfl) ⟨by decide, by decide⟩ ?_
  refine c_X5_get hs (by omega) ?_
  rw [hS _ (by omega), cst_r r he]
  refine wx_istore_n (L2 := [_, _, _, _]) rfl (e := 9) rfl (by decide) rfl ?_
  refine wx_aload_n rfl (e := 10) rfl rfl ?_
  refine wx_iload_n rfl (e := 11) rfl rfl ?_
  refine wx_aload_n rfl (e := 12) rfl rfl ?_
  refine wx_bipush (v := (nI 24)) rfl (e := 14) rfl (by decide) ?_
  refine wx_iload_n rfl (e := 15) rfl rfl ?_
  refine wn_iadd rfl (e := 16) rfl ?_
  refine wx_cv1 (mc := 0) (ms := 0) rfl (e := 19) rfl (sh_s hs) (Nat.le_of_ble_eq_true rfl) ⟨by decide, by decide⟩ ?_
  refine c_X5_get hs (by omega) ?_
  rw [hS _ (by omega), cst_r r hf]
  refine wx_cv2 (mc := 0) (ms := 0) rfl (e := 22) rfl (sh_s hs) (Nat.le_of_ble_eq_true rfl) ⟨by decide, by decide⟩ ?_
  refine c_X5_move hs hS he (fun I2 f2 S2 => ?_)
  refine wx_aload_n rfl (e := 23) rfl rfl ?_
  refine wx_iload_n rfl (e := 24) rfl rfl ?_
  refine wx_iload_n rfl (e := 25) rfl rfl ?_
  refine wx_cv2 (mc := 0) (ms := 0) rfl (e := 28) rfl (sh_s hs) (Nat.le_of_ble_eq_true rfl) ⟨by decide, by decide⟩ ?_
  refine c_X5_move hs S2 hf (fun I3 f3 S3 => ?_)
  refine wx_ret rfl rfl ⟨by decide, by decide⟩ ?_
  exact hq I3 (fun q h => (f3 q h).trans (f2 q h)) S3

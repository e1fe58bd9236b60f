/-! thefts that are tried; a state that begins -/
theorem CS.setw {s c : Nat} {I : Nat → Nat → Int32} {r : rw_} {v : Int32} (h : CS s I r) (hc : c < 6) : CS s (wr I (s + 1) c v) (setr r c v) := by
  intro k hk
  rw [wr_at, if_pos rfl]
  have hb : ∀ q, bsF (atC (setr r c v) q) = bsF (atC r q) := fun q => by
    unfold bsF atC setr
    rw [if_neg (by omega), if_neg (by omega), if_neg (by omega), if_neg (by omega), if_neg (by omega), if_neg (by omega)]
  by_cases z : k = c
  · subst z; rw [if_pos rfl, cst_w _ hc]; unfold setr; rw [if_pos rfl]
  · rw [if_neg z, h k hk]
    unfold cst
    rw [hb]
    unfold setr
    split
    · first | rfl | rw [if_neg (by omega)]
    · split
      · rw [if_neg (by omega)]
      · split
        · rfl
        · split
          · rw [if_neg (by omega)]
          · rw [if_neg (by omega)]
theorem min9 {w : Nat} (h : w ≤ 9) : (if nI w + nI 1 < nI 9 then nI w + nI 1 else nI 9) = heldS (nI w + nI 1) (nI 9) := by
  rcases (show w = 0 ∨ w = 1 ∨ w = 2 ∨ w = 3 ∨ w = 4 ∨ w = 5 ∨ w = 6 ∨ w = 7 ∨ w = 8 ∨ w = 9 by omega) with rfl | rfl | rfl | rfl | rfl | rfl | rfl | rfl | rfl | rfl <;> decide
set_option maxHeartbeats 1000000 in
theorem c_X0_tryTheft {d Lx t rt u : Nat} {I : Nat → Nat → Int32} {G : Nat → Nat → Int64} {Q : ab_Q} {T : tx} {r : rw_} {s : Nat} (hT : CT u I T) (hs : s = 39 ∨ s = 45) (hS : CS s I r) (hL : lok T r) {e c n : Nat} (he : e < tR T) (hc : c < tC T) (hq : ∀ I2, frs u s I I2 → CS s I2 (stS T r e c n).2 → Q (some (.int (stS T r e c n).1)) (hp Lx t rt u I2 G)) : ab_call ab_MT (d + 5) 16 [.ref 41, .ref s, .int (nI e), .int (nI c), .int (nI n)] (hp Lx t rt u I G) 0 0 Q := by
  have hu := hT.1
  obtain ⟨hC6, hR6, hP5, hH, hTf, hFn, hLx⟩ := hT.2.1
  obtain ⟨-, -, t1, t2, t3, t4, t5, t6, t7, -⟩ := id hT
  obtain ⟨hce, hre⟩ := hL.ch hT.2.1 he
  obtain ⟨wc, hwc, ewc⟩ := hL.2.2 (chN r e) (by omega)
  refine wx_in (M := mX0_tryTheft) rfl rfl rfl (Nat.le_of_ble_eq_true rfl) ?_
  refine wx_aload_n rfl (e := 1) rfl rfl ?_
  refine wx_bipush (v := (nI 53)) rfl (e := 3) rfl (by decide) ?_
  refine wx_cv1 (mc := 0) (ms := 0) rfl (e := 6) rfl (sh_s hs) (Nat.le_of_ble_eq_true rfl) ⟨by decide, by decide⟩ ?_
  refine c_X5_get hs (by omega) ?_
  rw [hS _ (by omega), cst_h r (by omega)]
  refine wx_istore (L2 := [_, _, _, _, _, _, _, _]) rfl (e := 8) rfl (by decide) rfl ?_
  refine wx_aload_n rfl (e := 9) rfl rfl ?_
  refine wx_bipush (v := (nI 24)) rfl (e := 11) rfl (by decide) ?_
  refine wx_iload_n rfl (e := 12) rfl rfl ?_
  refine wn_iadd rfl (e := 13) rfl ?_
  refine wx_cv1 (mc := 0) (ms := 0) rfl (e := 16) rfl (sh_s hs) (Nat.le_of_ble_eq_true rfl) ⟨by decide, by decide⟩ ?_
  refine c_X5_get hs (by omega) ?_
  rw [hS _ (by omega), cst_r r (by omega), hre]
  refine wx_istore (L2 := [_, _, _, _, _, _, _, _]) rfl (e := 18) rfl (by decide) rfl ?_
  refine wx_aload_n rfl (e := 19) rfl rfl ?_
  refine wx_iconst (v := (nI 0)) rfl (e := 20) rfl (by decide) ?_
  refine wx_iload rfl (e := 22) rfl rfl ?_
  refine wn_iadd rfl (e := 23) rfl ?_
  refine wx_cv1 (mc := 0) (ms := 0) rfl (e := 26) rfl (sh_s hs) (Nat.le_of_ble_eq_true rfl) ⟨by decide, by decide⟩ ?_
  rw [Nat.zero_add]
  refine c_X5_get hs (by omega) ?_
  rw [hS _ (by omega), cst_w r (by omega)]
  refine wx_istore (L2 := [_, _, _, _, _, _, _, _]) rfl (e := 28) rfl (by decide) rfl ?_
  refine wx_aload_n rfl (e := 29) rfl rfl ?_
  refine wx_bipush (v := (nI 53)) rfl (e := 31) rfl (by decide) ?_
  refine wx_iconst (v := (nI 1)) rfl (e := 32) rfl (by decide) ?_
  refine wx_cv2 (mc := 0) (ms := 0) rfl (e := 35) rfl (sh_s hs) (Nat.le_of_ble_eq_true rfl) ⟨by decide, by decide⟩ ?_
  refine c_X5_add hs (by omega) ?_
  have S1 := hS.addh (k := 53) (v := nI 1) (by omega) (by omega)
  have f1 := frs.w (u := u) (I := I) (s := s) 53 (I (s + 1) 53 + nI 1)
  have T1 := f1.T hs hT
  refine wx_aload_n rfl (e := 36) rfl rfl ?_
  refine wx_getr rfl (e := 39) rfl rfl rfl ?_
  refine wx_cv0 (mc := 0) (ms := 0) rfl (e := 42) rfl (sh_t hu) (Nat.le_of_ble_eq_true rfl) ⟨by decide, by decide⟩ ?_
  refine c_X7_seed hu ?_
  rw [f1 u (by omega) (by omega) (by omega), t4]
  refine wx_ldc (v := (nI 1000000)) rfl (e := 44) rfl (by decide) ?_
  refine wx_iload rfl (e := 46) rfl rfl ?_
  refine wx_iadd rfl (e := 47) rfl ?_
  refine wx_aload_n rfl (e := 48) rfl rfl ?_
  refine wx_aload_n rfl (e := 49) rfl rfl ?_
  refine wx_iload rfl (e := 51) rfl rfl ?_
  refine wx_iload rfl (e := 53) rfl rfl ?_
  refine wx_iload rfl (e := 55) rfl rfl ?_
  refine wx_cv4 (mc := 0) (ms := 0) rfl (e := 58) rfl rfl (Nat.le_of_ble_eq_true rfl) ⟨by decide, by decide⟩ ?_
  refine c_X0_catching T1 hs S1 hce (fun I2 f2 => ?_)
  have T2 := f2.T T1
  have S2 := f2.S hu hs S1
  refine wx_cs3 (mc := 0) (ms := 0) rfl (e := 61) rfl (Nat.le_of_ble_eq_true rfl) ⟨by decide, by decide⟩ ?_
  refine c_X0_falls (fun h1 => ?_) (fun h1 => ?_)
  · have hG : stS T r e c n = (nI 2, up1 (setr (up1 r 47 (nI 1)) (chN r e) (heldS (r (chN r e) + nI 1) (nI 9))) 48 (nI 1)) := by unfold stS; rw [if_pos h1]
    refine wn_if_eq rfl (e := 64) rfl (by omega) (fun c_61 => absurd c_61 (by omega)) (fun c_61 => ?_)
    refine wx_aload_n rfl (e := 65) rfl rfl ?_
    refine wx_iconst (v := (nI 0)) rfl (e := 66) rfl (by decide) ?_
    refine wx_iload rfl (e := 68) rfl rfl ?_
    refine wn_iadd rfl (e := 69) rfl ?_
    refine wx_bipush (v := (nI 9)) rfl (e := 71) rfl (by decide) ?_
    refine wx_iload rfl (e := 73) rfl rfl ?_
    refine wx_iconst (v := (nI 1)) rfl (e := 74) rfl (by decide) ?_
    refine wx_iadd rfl (e := 75) rfl ?_
    refine wx_cs2 (mc := 0) (ms := 0) rfl (e := 78) rfl (Nat.le_of_ble_eq_true rfl) ⟨by decide, by decide⟩ ?_
    refine c_J9_min_7cf53 ?_
    refine wx_cv2 (mc := 0) (ms := 0) rfl (e := 81) rfl (sh_s hs) (Nat.le_of_ble_eq_true rfl) ⟨by decide, by decide⟩ ?_
    rw [Nat.zero_add]
    refine c_X5_set hs (by omega) ?_
    rw [ewc, min9 hwc, ← ewc]
    have S3 := S2.setw (c := chN r e) (v := heldS (r (chN r e) + nI 1) (nI 9)) (by omega)
    refine wx_aload_n rfl (e := 82) rfl rfl ?_
    refine wx_bipush (v := (nI 54)) rfl (e := 84) rfl (by decide) ?_
    refine wx_iconst (v := (nI 1)) rfl (e := 85) rfl (by decide) ?_
    refine wx_cv2 (mc := 0) (ms := 0) rfl (e := 88) rfl (sh_s hs) (Nat.le_of_ble_eq_true rfl) ⟨by decide, by decide⟩ ?_
    refine c_X5_add hs (by omega) ?_
    have S4 := S3.addh (k := 54) (v := nI 1) (by omega) (by omega)
    refine wx_iconst (v := (nI 2)) rfl (e := 89) rfl (by decide) ?_
    refine wx_iret rfl rfl rfl ⟨by decide, by decide⟩ ?_
    rw [hG] at hq
    exact hq _ (f1.tr (f2.s.tr ((frs.w _ _).tr (frs.w _ _)))) S4
  · refine wn_if_eq rfl (e := 64) rfl (by omega) (fun c_61 => ?_) (fun c_61 => absurd c_61 (by omega))
    refine wx_aload_n rfl (e := 91) rfl rfl ?_
    refine wx_getr rfl (e := 94) rfl rfl rfl ?_
    refine wx_cv0 (mc := 0) (ms := 0) rfl (e := 97) rfl (sh_t hu) (Nat.le_of_ble_eq_true rfl) ⟨by decide, by decide⟩ ?_
    refine c_X7_seed hu ?_
    rw [f2 u (by omega) (by omega), f1 u (by omega) (by omega) (by omega), t4]
    refine wx_ldc (v := (nI 2000000)) rfl (e := 99) rfl (by decide) ?_
    refine wx_iload rfl (e := 101) rfl rfl ?_
    refine wx_iadd rfl (e := 102) rfl ?_
    refine wx_aload_n rfl (e := 103) rfl rfl ?_
    refine wx_aload_n rfl (e := 104) rfl rfl ?_
    refine wx_iload_n rfl (e := 105) rfl rfl ?_
    refine wx_iload rfl (e := 107) rfl rfl ?_
    refine wx_cv3 (mc := 0) (ms := 0) rfl (e := 110) rfl rfl (Nat.le_of_ble_eq_true rfl) ⟨by decide, by decide⟩ ?_
    refine c_X0_leaving T2 hs S2 he hce (by show up1 r 47 (nI 1) (6 + e) = _; unfold up1; rw [if_neg (by omega)]; exact hre) (fun I3 f3 => ?_)
    have S3 := f3.S hu hs S2
    refine wx_cs3 (mc := 0) (ms := 0) rfl (e := 113) rfl (Nat.le_of_ble_eq_true rfl) ⟨by decide, by decide⟩ ?_
    refine c_X0_falls (fun h2 => ?_) (fun h2 => ?_)
    · have hG : stS T r e c n = (nI 1, up1 (mvS (up1 r 47 (nI 1)) e (nI c)) (30 + e) (nI 1)) := by unfold stS; rw [if_neg h1, if_pos h2]
      refine wn_if_eq rfl (e := 116) rfl (by omega) (fun c_113 => absurd c_113 (by omega)) (fun c_113 => ?_)
      refine wx_aload_n rfl (e := 117) rfl rfl ?_
      refine wx_iload_n rfl (e := 118) rfl rfl ?_
      refine wx_iload_n rfl (e := 119) rfl rfl ?_
      refine wx_cv2 (mc := 0) (ms := 0) rfl (e := 122) rfl (sh_s hs) (Nat.le_of_ble_eq_true rfl) ⟨by decide, by decide⟩ ?_
      refine c_X5_move hs S3 (by omega) (fun I4 f4 S4 => ?_)
      refine wx_aload_n rfl (e := 123) rfl rfl ?_
      refine wx_bipush (v := (nI 36)) rfl (e := 125) rfl (by decide) ?_
      refine wx_iload_n rfl (e := 126) rfl rfl ?_
      refine wn_iadd rfl (e := 127) rfl ?_
      refine wx_iconst (v := (nI 1)) rfl (e := 128) rfl (by decide) ?_
      refine wx_cv2 (mc := 0) (ms := 0) rfl (e := 131) rfl (sh_s hs) (Nat.le_of_ble_eq_true rfl) ⟨by decide, by decide⟩ ?_
      refine c_X5_add hs (by omega) ?_
      have S5 := S4.addh (k := 36 + e) (v := nI 1) (by omega) (by omega)
      rw [show 36 + e - 6 = 30 + e by omega] at S5
      refine wx_iconst (v := (nI 1)) rfl (e := 132) rfl (by decide) ?_
      refine wx_iret rfl rfl rfl ⟨by decide, by decide⟩ ?_
      rw [hG] at hq
      exact hq _ (f1.tr (f2.s.tr (f3.s.tr (frs.tr (fun q _ _ h => f4 q h) (frs.w _ _))))) S5
    · have hG : stS T r e c n = (nI 0, up1 r 47 (nI 1)) := by unfold stS; rw [if_neg h1, if_neg h2]
      refine wn_if_eq rfl (e := 116) rfl (by omega) (fun c_113 => ?_) (fun c_113 => absurd c_113 (by omega))
      refine wx_iconst (v := (nI 0)) rfl (e := 134) rfl (by decide) ?_
      refine wx_iret rfl rfl rfl ⟨by decide, by decide⟩ ?_
      rw [hG] at hq
      exact hq _ (f1.tr (f2.s.tr f3.s)) S3
theorem c_X0_writtenFor {d Lx t rt u : Nat} {I : Nat → Nat → Int32} {G : Nat → Nat → Int64} {Q : ab_Q}  {a : Nat} (ha : a < 5) (hq : Q (some (.int (I 43 a))) (hp Lx t rt u I G)) : ab_call ab_MT (d + 1) 3 [.ref 41, .int (nI a)] (hp Lx t rt u I G) 0 0 Q := by
  refine wx_in (M := mX0_writtenFor) rfl rfl rfl (Nat.le_of_ble_eq_true rfl) ?_
  refine wx_iload_n rfl (e := 1) rfl rfl ?_
  refine wn_if_lt rfl (e := 4) rfl (by omega) ?_
  refine wx_iload_n rfl (e := 5) rfl rfl ?_
  refine wx_iconst (v := (nI 5)) rfl (e := 6) rfl (by decide) ?_
  refine wn_ic_ge rfl (e := 9) rfl (by omega) (by omega) (fun c_6 => absurd c_6 (by omega)) (fun c_6 => ?_)
  refine wx_aload_n rfl (e := 10) rfl rfl ?_
  refine wx_getr rfl (e := 13) rfl rfl rfl ?_
  refine wx_iload_n rfl (e := 14) rfl rfl ?_
  refine wn_iald rfl (e := 15) rfl rfl (by omega) (by decide) ?_
  refine wx_goto rfl ?_
  refine wx_iret rfl rfl rfl ⟨by decide, by decide⟩ ?_
  exact hq
theorem c_X5_move0 {d Lx t rt u : Nat} {I : Nat → Nat → Int32} {G : Nat → Nat → Int64} {Q : ab_Q}  {s e : Nat} {v : Int32} (hs : s = 39 ∨ s = 45) (he : e < 6) (hm : I (s + 1) (24 + e) = -1) (h1 : ∀ ct, ct < 6 → v = nI ct → Q none (hp Lx t rt u (wr (wr I (s + 1) (18 + ct) (I (s + 1) (18 + ct) ||| (nI 1 <<< (nI e &&& 31)))) (s + 1) (24 + e) v) G)) (h0 : (∀ ct, ct < 6 → v ≠ nI ct) → Q none (hp Lx t rt u (wr I (s + 1) (24 + e) v) G)) : ab_call ab_MT (d + 2) 78 [.ref s, .int (nI e), .int v] (hp Lx t rt u I G) 0 0 Q := by
  refine wx_in (M := mX5_move) rfl rfl rfl (Nat.le_of_ble_eq_true rfl) ?_
  refine wx_iconst (v := (nI 1)) rfl (e := 1) rfl (by decide) ?_
  refine wx_iload_n rfl (e := 2) rfl rfl ?_
  refine wx_ishl rfl (e := 3) rfl ?_
  refine wx_istore_n (L2 := [_, _, _, _, _]) rfl (e := 4) rfl (by decide) rfl ?_
  refine wx_aload_n rfl (e := 5) rfl rfl ?_
  refine wx_bipush (v := (nI 24)) rfl (e := 7) rfl (by decide) ?_
  refine wx_iload_n rfl (e := 8) rfl rfl ?_
  refine wn_iadd rfl (e := 9) rfl ?_
  refine wx_cv1 (mc := 0) (ms := 0) rfl (e := 12) rfl (sh_s hs) (Nat.le_of_ble_eq_true rfl) ⟨by decide, by decide⟩ ?_
  refine c_X5_get hs (by omega) ?_
  rw [hm]
  refine wx_istore (L2 := [_, _, _, _, _]) rfl (e := 14) rfl (by decide) rfl ?_
  refine wx_iload rfl (e := 16) rfl rfl ?_
  refine wx_iconst (v := (nI 0)) rfl (e := 17) rfl (by decide) ?_
  refine wx_iconst (v := (nI 5)) rfl (e := 18) rfl (by decide) ?_
  refine wx_cs3 (mc := 0) (ms := 0) rfl (e := 21) rfl (Nat.le_of_ble_eq_true rfl) ⟨by decide, by decide⟩ ?_
  refine c_X10_isWithin (by decide) (by decide) (fun cf h1 h2 ecf => absurd ecf (nI_m1 (by omega))) (fun hnf => ?_)
  · refine wn_if_eq rfl (e := 24) rfl (by omega) (fun c_21 => ?_) (fun c_21 => absurd c_21 (by omega))
    refine wx_iload_n rfl (e := 47) rfl rfl ?_
    refine wx_iconst (v := (nI 0)) rfl (e := 48) rfl (by decide) ?_
    refine wx_iconst (v := (nI 5)) rfl (e := 49) rfl (by decide) ?_
    refine wx_cs3 (mc := 0) (ms := 0) rfl (e := 52) rfl (Nat.le_of_ble_eq_true rfl) ⟨by decide, by decide⟩ ?_
    refine c_X10_isWithin (by decide) (by decide) (fun ct h1 h2 ect => ?_) (fun hnt => ?_)
    · have hct : ct < 6 := by omega
      subst ect
      refine wn_if_eq rfl (e := 55) rfl (by omega) (fun c_52 => absurd c_52 (by omega)) (fun c_52 => ?_)
      refine wx_aload_n rfl (e := 56) rfl rfl ?_
      refine wx_bipush (v := (nI 18)) rfl (e := 58) rfl (by decide) ?_
      refine wx_iload_n rfl (e := 59) rfl rfl ?_
      refine wn_iadd rfl (e := 60) rfl ?_
      refine wx_aload_n rfl (e := 61) rfl rfl ?_
      refine wx_bipush (v := (nI 18)) rfl (e := 63) rfl (by decide) ?_
      refine wx_iload_n rfl (e := 64) rfl rfl ?_
      refine wn_iadd rfl (e := 65) rfl ?_
      refine wx_cv1 (mc := 0) (ms := 0) rfl (e := 68) rfl (sh_s hs) (Nat.le_of_ble_eq_true rfl) ⟨by decide, by decide⟩ ?_
      refine c_X5_get hs (by omega) ?_
      refine wx_iload_n rfl (e := 69) rfl rfl ?_
      refine wx_ior rfl (e := 70) rfl ?_
      refine wx_cv2 (mc := 0) (ms := 0) rfl (e := 73) rfl (sh_s hs) (Nat.le_of_ble_eq_true rfl) ⟨by decide, by decide⟩ ?_
      refine c_X5_set hs (by omega) ?_
      refine wx_aload_n rfl (e := 74) rfl rfl ?_
      refine wx_bipush (v := (nI 24)) rfl (e := 76) rfl (by decide) ?_
      refine wx_iload_n rfl (e := 77) rfl rfl ?_
      refine wn_iadd rfl (e := 78) rfl ?_
      refine wx_iload_n rfl (e := 79) rfl rfl ?_
      refine wx_cv2 (mc := 0) (ms := 0) rfl (e := 82) rfl (sh_s hs) (Nat.le_of_ble_eq_true rfl) ⟨by decide, by decide⟩ ?_
      refine c_X5_set hs (by omega) ?_
      refine wx_ret rfl rfl ⟨by decide, by decide⟩ ?_
      exact h1 ct hct rfl
    · refine wn_if_eq rfl (e := 55) rfl (by omega) (fun c_52 => ?_) (fun c_52 => absurd c_52 (by omega))
      refine wx_aload_n rfl (e := 74) rfl rfl ?_
      refine wx_bipush (v := (nI 24)) rfl (e := 76) rfl (by decide) ?_
      refine wx_iload_n rfl (e := 77) rfl rfl ?_
      refine wn_iadd rfl (e := 78) rfl ?_
      refine wx_iload_n rfl (e := 79) rfl rfl ?_
      refine wx_cv2 (mc := 0) (ms := 0) rfl (e := 82) rfl (sh_s hs) (Nat.le_of_ble_eq_true rfl) ⟨by decide, by decide⟩ ?_
      refine c_X5_set hs (by omega) ?_
      refine wx_ret rfl rfl ⟨by decide, by decide⟩ ?_
      exact h0 (fun ct hc => hnt ct (Nat.zero_le _) (by omega))
def bgS (wa ch : Nat → Int32) (C R : Nat) : rw_ := fun k => if k < 6 then (if k < C then wa k else nI 0) else if k < 12 then (if k - 6 < R then ch (k - 6) else -1) else nI 0
def bgC (wa ch : Nat → Int32) (C R e : Nat) (k : Nat) : Int32 := if k < 6 then bgS wa ch C R k else if k < 18 then nI 0 else if k < 24 then nI (bsF (fun j => decide (j < e) && atC (bgS wa ch C R) (k - 18) j)) else if k < 24 + e then bgS wa ch C R (k - 18) else nI 0
theorem bgC_end (wa ch : Nat → Int32) (C R : Nat) {k : Nat} (hk : k < 55) : bgC wa ch C R 6 k = cst (bgS wa ch C R) k := by
  unfold bgC cst
  split
  · rfl
  · split
    · unfold bgS; rw [if_neg (by omega), if_neg (by omega)]
    · split
      · congr 1
      · split
        · rfl
        · unfold bgS; rw [if_neg (by omega), if_neg (by omega)]
theorem bg_st (r : rw_) (c : Nat) {e : Nat} (h : r (6 + e) = nI c) : stF (fun j => decide (j < e) && atC r c j) e = fun j => decide (j < e + 1) && atC r c j := by
  funext j
  unfold stF
  by_cases z : j = e
  · subst z; rw [if_pos rfl]; unfold atC; simp [h]
  · rw [if_neg z]
    have : decide (j < e + 1) = decide (j < e) := by
      by_cases z2 : j < e
      · simp [z2]; omega
      · simp [z2]; omega
    rw [this]
theorem bg_no (r : rw_) (c : Nat) {e : Nat} (h : ¬ r (6 + e) = nI c) : (fun j => decide (j < e) && atC r c j) = fun j => decide (j < e + 1) && atC r c j := by
  funext j
  by_cases z : j = e
  · subst z; unfold atC; simp [h]
  · have : decide (j < e + 1) = decide (j < e) := by
      by_cases z2 : j < e
      · simp [z2]; omega
      · simp [z2]; omega
    rw [this]
theorem bgC_step {I2 : Nat → Int32} {wa ch : Nat → Int32} {C R e : Nat} {J : Nat → Int32} (he : e < 6) (hJ : ∀ k, k < 55 → J k = bgC wa ch C R e k) (h1 : I2 (24 + e) = bgS wa ch C R (6 + e)) (h2 : ∀ c, c < 6 → bgS wa ch C R (6 + e) = nI c → I2 (18 + c) = nI (bsF (fun j => decide (j < e) && atC (bgS wa ch C R) c j)) ||| (nI 1 <<< (nI e &&& 31))) (h3 : ∀ k, k < 55 → k ≠ 24 + e → (∀ c, c < 6 → bgS wa ch C R (6 + e) = nI c → k ≠ 18 + c) → I2 k = J k) : ∀ k, k < 55 → I2 k = bgC wa ch C R (e + 1) k := by
  intro k hk
  by_cases z : k = 24 + e
  · subst z; rw [h1]; unfold bgC; rw [if_neg (by omega), if_neg (by omega), if_neg (by omega), if_pos (by omega)]; congr 1; omega
  · by_cases z2 : 18 ≤ k ∧ k < 24
    · obtain ⟨c, rfl⟩ : ∃ c, k = 18 + c := ⟨k - 18, by omega⟩
      have hc : c < 6 := by omega
      unfold bgC
      rw [if_neg (by omega), if_neg (by omega), if_pos (by omega), show 18 + c - 18 = c by omega]
      by_cases z3 : bgS wa ch C R (6 + e) = nI c
      · rw [h2 c hc z3, st_ok _ he, bg_st _ _ z3]
      · rw [h3 _ hk z (fun c2 hc2 e2 e3 => z3 (by rw [e2]; congr 1; omega)), hJ _ hk]
        unfold bgC
        rw [if_neg (by omega), if_neg (by omega), if_pos (by omega), show 18 + c - 18 = c by omega, bg_no _ _ z3]
    · rw [h3 k hk z (fun c hc _ => by omega), hJ k hk]
      unfold bgC
      split
      · rfl
      · split
        · rfl
        · rw [if_neg (show ¬ k < 24 by omega), if_neg (show ¬ k < 24 by omega)]
          by_cases z4 : k < 24 + e
          · rw [if_pos z4, if_pos (by omega)]
          · rw [if_neg z4, if_neg (by omega)]
set_option maxHeartbeats 1000000 in
theorem c_X5_begin {d Lx t rt u : Nat} {I : Nat → Nat → Int32} {G : Nat → Nat → Int64} {Q : ab_Q}  {o C R : Nat} (ho : o = 1 ∨ o = 16) (h10 : I o 10 = nI C) (h12 : I o 12 = nI R) (hC : C ≤ 6) (hR : R ≤ 6) (hq : ∀ I2, (∀ q, q ≠ 40 → I2 q = I q) → CS 39 I2 (bgS (I (o + 9)) (I (o + 11)) C R) → Q none (hp Lx t rt u I2 G)) : ab_call ab_MT (d + 3) 80 [.ref 39, .ref o] (hp Lx t rt u I G) 0 0 Q := by
  have loop3 : ∀ (n : Nat) (i : Nat) (I2 : Nat → Nat → Int32), i ≤ 6 → 6 - i < n → (∀ q, q ≠ 40 → I2 q = I q) → (∀ k, k < 55 → I2 40 k = bgC (I (o + 9)) (I (o + 11)) C R i k) → WP (d + 2) mX5_begin Q 50 [some (.ref 39), some (.ref o), some (.int (nI i))] [] (hp Lx t rt u I2 G) 0 0 := by
    intro n
    induction n with
    | zero => intro i I2 hi hn f2 g2; omega
    | succ n ih =>
      intro i I2 hi hn f2 g2
      refine wx_iload_n rfl (e := 51) rfl rfl ?_
      refine wx_bipush (v := (nI 6)) rfl (e := 53) rfl (by decide) ?_
      refine wn_ic_ge rfl (e := 56) rfl (by omega) (by omega) (fun c_53 => ?_) (fun c_53 => ?_)
      · refine wx_ret rfl rfl ⟨by decide, by decide⟩ ?_
        have e6 : i = 6 := by omega
        subst e6
        exact hq I2 f2 (fun k hk => (g2 k hk).trans (bgC_end _ _ _ _ hk))
      · refine wx_aload_n rfl (e := 57) rfl rfl ?_
        refine wx_getr rfl (e := 60) rfl rfl rfl ?_
        refine wx_bipush (v := (nI 24)) rfl (e := 62) rfl (by decide) ?_
        refine wx_iload_n rfl (e := 63) rfl rfl ?_
        refine wn_iadd rfl (e := 64) rfl ?_
        refine wx_iconst (v := (-1)) rfl (e := 65) rfl (by decide) ?_
        refine wn_iast rfl (e := 66) rfl rfl (by decide) (by omega) (by decide) ?_
        refine wx_aload_n rfl (e := 67) rfl rfl ?_
        refine wx_iload_n rfl (e := 68) rfl rfl ?_
        refine wx_aload_n rfl (e := 69) rfl rfl ?_
        refine wx_iload_n rfl (e := 70) rfl rfl ?_
        refine wx_cv1 (mc := 0) (ms := 0) rfl (e := 73) rfl (sh_t ho) (Nat.le_of_ble_eq_true rfl) ⟨by decide, by decide⟩ ?_
        refine c_X7_churchOf ho (n := R) (by rw [wr_other _ _ _ _ (by omega), f2 o (by omega)]; exact h12) hR (by omega) (fun hlt => ?_) (fun hge => ?_)
        · have hv : wr I2 40 (24 + i) (-1) (o + 11) i = bgS (I (o + 9)) (I (o + 11)) C R (6 + i) := by
            rw [wr_other _ _ _ _ (by omega), f2 (o + 11) (by omega)]; unfold bgS; rw [if_neg (by omega), if_pos (by omega), if_pos (by omega), show 6 + i - 6 = i by omega]
          rw [hv]
          refine wx_cv2 (mc := 0) (ms := 0) rfl (e := 76) rfl rfl (Nat.le_of_ble_eq_true rfl) ⟨by decide, by decide⟩ ?_
          refine c_X5_move0 (s := 39) (by omega) (by omega) (by rw [wr_at, if_pos rfl, if_pos rfl]) (fun ct hct ect => ?_) (fun hno => ?_)
          · have nx := bgC_step (I2 := wr (wr (wr I2 40 (24 + i) (-1)) 40 (18 + ct) (wr I2 40 (24 + i) (-1) 40 (18 + ct) ||| (nI 1 <<< (nI i &&& 31)))) 40 (24 + i) (bgS (I (o + 9)) (I (o + 11)) C R (6 + i)) 40) (by omega) g2 (by rw [wr_at, if_pos rfl, if_pos rfl]) (fun c hc ec => by rw [wr_at, if_pos rfl, if_neg (by omega), wr_at, if_pos rfl]; have e1 : c = ct := (nI6 hc hct).mp (ec.symm.trans ect); rw [if_pos (by omega), wr_at, if_pos rfl, if_neg (by omega), g2 _ (by omega)]; unfold bgC; rw [if_neg (by omega), if_neg (by omega), if_pos (by omega), show 18 + ct - 18 = c by omega]) (fun k hk hne hnn => by rw [wr_at, if_pos rfl, if_neg hne, wr_at, if_pos rfl, if_neg (hnn ct hct ect), wr_at, if_pos rfl, if_neg hne])
            have fx : ∀ q, q ≠ 40 → wr (wr (wr I2 40 (24 + i) (-1)) 40 (18 + ct) (wr I2 40 (24 + i) (-1) 40 (18 + ct) ||| (nI 1 <<< (nI i &&& 31)))) 40 (24 + i) (bgS (I (o + 9)) (I (o + 11)) C R (6 + i)) q = I q := fun q h => by rw [wr_other _ _ _ _ h, wr_other _ _ _ _ h, wr_other _ _ _ _ h]; exact f2 q h
            refine wn_iinc (m := 1) (L2 := [_, _, _]) rfl (e := 79) rfl rfl (by decide) rfl ?_
            refine wx_goto rfl ?_
            exact ih (i + 1) _ (by omega) (by omega) fx nx
          · have nx := bgC_step (I2 := wr (wr I2 40 (24 + i) (-1)) 40 (24 + i) (bgS (I (o + 9)) (I (o + 11)) C R (6 + i)) 40) (by omega) g2 (by rw [wr_at, if_pos rfl, if_pos rfl]) (fun c hc ec => absurd ec (hno c hc)) (fun k hk hne hnn => by rw [wr_at, if_pos rfl, if_neg hne, wr_at, if_pos rfl, if_neg hne])
            have fx : ∀ q, q ≠ 40 → wr (wr I2 40 (24 + i) (-1)) 40 (24 + i) (bgS (I (o + 9)) (I (o + 11)) C R (6 + i)) q = I q := fun q h => by rw [wr_other _ _ _ _ h, wr_other _ _ _ _ h]; exact f2 q h
            refine wn_iinc (m := 1) (L2 := [_, _, _]) rfl (e := 79) rfl rfl (by decide) rfl ?_
            refine wx_goto rfl ?_
            exact ih (i + 1) _ (by omega) (by omega) fx nx
        · have hv : (-1 : Int32) = bgS (I (o + 9)) (I (o + 11)) C R (6 + i) := by
            unfold bgS; rw [if_neg (by omega), if_pos (by omega), if_neg (by omega)]
          refine wx_cv2 (mc := 0) (ms := 0) rfl (e := 76) rfl rfl (Nat.le_of_ble_eq_true rfl) ⟨by decide, by decide⟩ ?_
          refine c_X5_move0 (s := 39) (by omega) (by omega) (by rw [wr_at, if_pos rfl, if_pos rfl]) (fun ct hct ect => absurd ect (nI_m1 hct)) (fun hno => ?_)
          · have nx := bgC_step (I2 := wr (wr I2 40 (24 + i) (-1)) 40 (24 + i) (-1) 40) (by omega) g2 (by rw [wr_at, if_pos rfl, if_pos rfl]; exact hv) (fun c hc ec => absurd (hv.trans ec) (hno c hc)) (fun k hk hne hnn => by rw [wr_at, if_pos rfl, if_neg hne, wr_at, if_pos rfl, if_neg hne])
            have fx : ∀ q, q ≠ 40 → wr (wr I2 40 (24 + i) (-1)) 40 (24 + i) (-1) q = I q := fun q h => by rw [wr_other _ _ _ _ h, wr_other _ _ _ _ h]; exact f2 q h
            refine wn_iinc (m := 1) (L2 := [_, _, _]) rfl (e := 79) rfl rfl (by decide) rfl ?_
            refine wx_goto rfl ?_
            exact ih (i + 1) _ (by omega) (by omega) fx nx
  have go3 : ∀ (I2 : Nat → Nat → Int32), (∀ q, q ≠ 40 → I2 q = I q) → (∀ k, k < 55 → I2 40 k = bgC (I (o + 9)) (I (o + 11)) C R 0 k) → ∀ i : Nat, WP (d + 2) mX5_begin Q 48 [some (.ref 39), some (.ref o), some (.int (nI i))] [] (hp Lx t rt u I2 G) 0 0 := by
    intro I2 f2 g2 i
    refine wx_iconst (v := (nI 0)) rfl (e := 49) rfl (by decide) ?_
    refine wx_istore_n (L2 := [_, _, _]) rfl (e := 50) rfl (by decide) rfl ?_
    exact loop3 7 0 _ (by omega) (by omega) f2 g2
  have loop2 : ∀ (n : Nat) (i : Nat) (I2 : Nat → Nat → Int32), i ≤ 6 → 6 - i < n → (∀ q, q ≠ 40 → I2 q = I q) → (∀ k, k < 55 → I2 40 k = if k < i then bgS (I (o + 9)) (I (o + 11)) C R k else nI 0) → WP (d + 2) mX5_begin Q 23 [some (.ref 39), some (.ref o), some (.int (nI i))] [] (hp Lx t rt u I2 G) 0 0 := by
    intro n
    induction n with
    | zero => intro i I2 hi hn f2 g2; omega
    | succ n ih =>
      intro i I2 hi hn f2 g2
      refine wx_iload_n rfl (e := 24) rfl rfl ?_
      refine wx_bipush (v := (nI 6)) rfl (e := 26) rfl (by decide) ?_
      refine wn_ic_ge rfl (e := 29) rfl (by omega) (by omega) (fun c_26 => ?_) (fun c_26 => ?_)
      · exact go3 I2 f2 (fun k hk => by rw [g2 k hk]; unfold bgC; by_cases z : k < 6; (· rw [if_pos (show k < i by omega), if_pos z]); (· rw [if_neg (show ¬ k < i by omega), if_neg z]; by_cases z2 : k < 18; (· rw [if_pos z2]); (· rw [if_neg z2]; by_cases z3 : k < 24; (· rw [if_pos z3]; rfl); (· rw [if_neg z3, if_neg (by omega)])))) _
      · refine wx_aload_n rfl (e := 30) rfl rfl ?_
        refine wx_getr rfl (e := 33) rfl rfl rfl ?_
        refine wx_iconst (v := (nI 0)) rfl (e := 34) rfl (by decide) ?_
        refine wx_iload_n rfl (e := 35) rfl rfl ?_
        refine wn_iadd rfl (e := 36) rfl ?_
        refine wx_aload_n rfl (e := 37) rfl rfl ?_
        refine wx_iload_n rfl (e := 38) rfl rfl ?_
        refine wx_cv1 (mc := 0) (ms := 0) rfl (e := 41) rfl (sh_t ho) (Nat.le_of_ble_eq_true rfl) ⟨by decide, by decide⟩ ?_
        refine c_X7_watchersOf2 ho (n := C) (by rw [f2 o (by omega)]; exact h10) hC (by omega) (fun hlt => ?_) (fun hge => ?_)
        · have hv : I2 (o + 9) i = bgS (I (o + 9)) (I (o + 11)) C R i := by
            rw [f2 (o + 9) (by omega)]; unfold bgS; rw [if_pos (by omega), if_pos hlt]
          rw [hv]
          refine wn_iast rfl (e := 42) rfl rfl (by decide) (by omega) (by decide) ?_
          rw [Nat.zero_add]
          refine wn_iinc (m := 1) (L2 := [_, _, _]) rfl (e := 45) rfl rfl (by decide) rfl ?_
          refine wx_goto rfl ?_
          refine ih (i + 1) _ (by omega) (by omega) (fun q h => (wr_other _ _ _ _ h).trans (f2 q h)) (fun k hk => ?_)
          rw [wr_at, if_pos rfl]
          by_cases z : k = i
          · subst z; rw [if_pos rfl, if_pos (by omega)]
          · rw [if_neg z, g2 k hk]
            by_cases z2 : k < i
            · rw [if_pos z2, if_pos (by omega)]
            · rw [if_neg z2, if_neg (by omega)]
        · have hv : nI 0 = bgS (I (o + 9)) (I (o + 11)) C R i := by
            unfold bgS; rw [if_pos (by omega), if_neg (by omega)]
          rw [hv]
          refine wn_iast rfl (e := 42) rfl rfl (by decide) (by omega) (by decide) ?_
          rw [Nat.zero_add]
          refine wn_iinc (m := 1) (L2 := [_, _, _]) rfl (e := 45) rfl rfl (by decide) rfl ?_
          refine wx_goto rfl ?_
          refine ih (i + 1) _ (by omega) (by omega) (fun q h => (wr_other _ _ _ _ h).trans (f2 q h)) (fun k hk => ?_)
          rw [wr_at, if_pos rfl]
          by_cases z : k = i
          · subst z; rw [if_pos rfl, if_pos (by omega)]
          · rw [if_neg z, g2 k hk]
            by_cases z2 : k < i
            · rw [if_pos z2, if_pos (by omega)]
            · rw [if_neg z2, if_neg (by omega)]
  have go2 : ∀ (I2 : Nat → Nat → Int32), (∀ q, q ≠ 40 → I2 q = I q) → (∀ k, k < 55 → I2 40 k = nI 0) → ∀ i : Nat, WP (d + 2) mX5_begin Q 21 [some (.ref 39), some (.ref o), some (.int (nI i))] [] (hp Lx t rt u I2 G) 0 0 := by
    intro I2 f2 g2 i
    refine wx_iconst (v := (nI 0)) rfl (e := 22) rfl (by decide) ?_
    refine wx_istore_n (L2 := [_, _, _]) rfl (e := 23) rfl (by decide) rfl ?_
    exact loop2 7 0 _ (by omega) (by omega) f2 (fun k hk => by rw [if_neg (by omega)]; exact g2 k hk)
  have loop1 : ∀ (n : Nat) (i : Nat) (I2 : Nat → Nat → Int32), i ≤ 55 → 55 - i < n → (∀ q, q ≠ 40 → I2 q = I q) → (∀ k, k < i → I2 40 k = nI 0) → WP (d + 2) mX5_begin Q 2 [some (.ref 39), some (.ref o), some (.int (nI i))] [] (hp Lx t rt u I2 G) 0 0 := by
    intro n
    induction n with
    | zero => intro i I2 hi hn f2 g2; omega
    | succ n ih =>
      intro i I2 hi hn f2 g2
      refine wx_iload_n rfl (e := 3) rfl rfl ?_
      refine wx_bipush (v := (nI 55)) rfl (e := 5) rfl (by decide) ?_
      refine wn_ic_ge rfl (e := 8) rfl (by omega) (by omega) (fun c_5 => ?_) (fun c_5 => ?_)
      · exact go2 I2 f2 (fun k hk => g2 k (by omega)) _
      · refine wx_aload_n rfl (e := 9) rfl rfl ?_
        refine wx_getr rfl (e := 12) rfl rfl rfl ?_
        refine wx_iload_n rfl (e := 13) rfl rfl ?_
        refine wx_iconst (v := (nI 0)) rfl (e := 14) rfl (by decide) ?_
        refine wn_iast rfl (e := 15) rfl rfl (by decide) (by omega) (by decide) ?_
        refine wn_iinc (m := 1) (L2 := [_, _, _]) rfl (e := 18) rfl rfl (by decide) rfl ?_
        refine wx_goto rfl ?_
        refine ih (i + 1) _ (by omega) (by omega) (fun q h => (wr_other _ _ _ _ h).trans (f2 q h)) (wr_ext rfl (fun k hk hne => g2 k (by omega)))
  refine wx_in (M := mX5_begin) rfl rfl rfl (Nat.le_of_ble_eq_true rfl) ?_
  refine wx_iconst (v := (nI 0)) rfl (e := 1) rfl (by decide) ?_
  refine wx_istore_n (L2 := [_, _, _]) rfl (e := 2) rfl (by decide) rfl ?_
  exact loop1 56 0 I (by omega) (by omega) (fun _ _ => rfl) (fun k hk => absurd hk (Nat.not_lt_zero _))

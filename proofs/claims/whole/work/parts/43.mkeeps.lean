/-! the model: what it keeps; thefts, years tried, beliefs -/
def NH (I : Nat → Nat → Int32) (H : Nat → rw_) (m : Nat) : Prop := m ≤ 40 ∧ I 55 57 = nI m ∧ ∀ j, j < m → ∀ k, k < 49 → I 94 (49 * (m - 1 - j) + k) = H j k
def NS (I : Nat → Nat → Int32) (hd : Nat → Bool) (sl : Nat → rw_) : Prop := ∀ s, s < 3 → I 97 s = b1 (hd s) ∧ (hd s = true → ∀ k, k < 49 → I 98 (49 * s + k) = sl s k)
def ND (I : Nat → Nat → Int32) (tp : Nat → Nat) (tw : Nat → Bool) (m : Nat) : Prop := m ≤ 20 ∧ I 55 61 = nI m ∧ ∀ j, j < m → I 95 j = nI (tp j) ∧ I 96 j = b1 (tw j)
def NP (I : Nat → Nat → Int32) (B : Nat → Int32) (n : Nat) : Prop := n ≤ 2000 ∧ I 55 2 = nI n ∧ ∀ j, j < n → I 56 j = B j
def NR (I : Nat → Nat → Int32) (r : rw_) : Prop := ∀ k, k < 49 → I 90 k = r k
def MI (lv : Nat) (I : Nat → Nat → Int32) (s : gs) : Prop := MT lv I (gT s) ∧ I 67 lv = gD s ∧ NR I (gR s) ∧ NH I (gH s).1 (gH s).2 ∧ NS I (gK s).1 (gK s).2 ∧ ND I (gW s).1 (gW s).2.1 (gW s).2.2 ∧ NP I (gB s).1 (gB s).2 ∧ I 55 17 = gP s
theorem NR.kept {I I2 : Nat → Nat → Int32} {r : rw_} (h : NR I r) (h1 : I2 90 = I 90) : NR I2 r := fun k hk => by rw [h1]; exact h k hk
theorem NH.kept {I I2 : Nat → Nat → Int32} {H : Nat → rw_} {m : Nat} (h : NH I H m) (h1 : I2 55 57 = I 55 57) (h2 : I2 94 = I 94) : NH I2 H m := by
  unfold NH at *; rw [h1, h2]; exact h
theorem NS.kept {I I2 : Nat → Nat → Int32} {hd : Nat → Bool} {sl : Nat → rw_} (h : NS I hd sl) (h1 : I2 97 = I 97) (h2 : I2 98 = I 98) : NS I2 hd sl := by
  unfold NS at *; rw [h1, h2]; exact h
theorem ND.kept {I I2 : Nat → Nat → Int32} {tp : Nat → Nat} {tw : Nat → Bool} {m : Nat} (h : ND I tp tw m) (h1 : I2 55 61 = I 55 61) (h2 : I2 95 = I 95) (h3 : I2 96 = I 96) : ND I2 tp tw m := by
  unfold ND at *; rw [h1, h2, h3]; exact h
theorem NP.kept {I I2 : Nat → Nat → Int32} {B : Nat → Int32} {n : Nat} (h : NP I B n) (h1 : I2 55 2 = I 55 2) (h2 : I2 56 = I 56) : NP I2 B n := by
  unfold NP at *; rw [h1, h2]; exact h
/-- but for what asking works with -/
def fmq (I I2 : Nat → Nat → Int32) : Prop := (∀ q, q ≠ 55 → q ≠ 87 → q ≠ 88 → q ≠ 91 → q ≠ 92 → q ≠ 93 → I2 q = I q) ∧ ∀ k, k ≠ 50 → k ≠ 54 → k ≠ 59 → k ≠ 60 → I2 55 k = I 55 k
theorem fmq.rf {I : Nat → Nat → Int32} : fmq I I := ⟨fun _ _ _ _ _ _ _ => rfl, fun _ _ _ _ _ => rfl⟩
theorem fmq.tr {I I2 I3 : Nat → Nat → Int32} (h1 : fmq I I2) (h2 : fmq I2 I3) : fmq I I3 := ⟨fun q a b c d e f => (h2.1 q a b c d e f).trans (h1.1 q a b c d e f), fun k a b c d => (h2.2 k a b c d).trans (h1.2 k a b c d)⟩
theorem fmy.q {I I2 : Nat → Nat → Int32} (h : fmy I I2) : fmq I I2 := ⟨h.1, fun k a _ _ _ => h.2 k a⟩
theorem fml.q {I I2 : Nat → Nat → Int32} (h : fml I I2) : fmq I I2 := h.y.q
theorem fmq.T {I I2 : Nat → Nat → Int32} {lv : Nat} {T : tx} (h : fmq I I2) (hT : MT lv I T) : MT lv I2 T := hT.kept (fun q hq => h.1 q (by omega) (by omega) (by omega) (by omega) (by omega) (by omega)) (h.2 18 (by decide) (by decide) (by decide) (by decide))
theorem fmq.N {I I2 : Nat → Nat → Int32} {r : rw_} (h : fmq I I2) (hN : NR I r) : NR I2 r := hN.kept (h.1 90 (by decide) (by decide) (by decide) (by decide) (by decide) (by decide))
theorem fmq.c {I I2 : Nat → Nat → Int32} (h : fmq I I2) {q : Nat} (hq : (55 < q ∧ q < 87) ∨ q = 89 ∨ q = 90 ∨ 94 ≤ q ∨ q < 55) : I2 q = I q := h.1 q (by omega) (by omega) (by omega) (by omega) (by omega) (by omega)
theorem MI.q {lv : Nat} {I I2 : Nat → Nat → Int32} {s : gs} (h : MI lv I s) (f : fmq I I2) : MI lv I2 s := by
  obtain ⟨h1, h2, h3, h4, h5, h6, h7, h8⟩ := h
  refine ⟨f.T h1, by rw [f.c (by omega)]; exact h2, f.N h3, h4.kept (f.2 _ (by decide) (by decide) (by decide) (by decide)) (f.c (by omega)), h5.kept (f.c (by omega)) (f.c (by omega)), h6.kept (f.2 _ (by decide) (by decide) (by decide) (by decide)) (f.c (by omega)) (f.c (by omega)), h7.kept (f.2 _ (by decide) (by decide) (by decide) (by decide)) (f.c (by omega)), ?_⟩
  rw [f.2 17 (by decide) (by decide) (by decide) (by decide)]; exact h8
/-- a copy of the row to work on -/
theorem c_cp {d Lx t rt u : Nat} {I : Nat → Nat → Int32} {G : Nat → Nat → Int64} {Q : ab_Q} {lv : Nat} {T : tx} {r : rw_} (hM : MT lv I T) (hN : NR I r) (hq : ∀ I2, fmq I I2 → MT lv I2 T → NR I2 r → MR I2 r → I2 55 54 = tS T → Q none (hp Lx t rt u I2 G)) : ab_call ab_MT (d + 1) 226 [.ref 55] (hp Lx t rt u I G) 0 0 Q := by
  refine c_X11_copies hM (fun I2 f1 f2 f3 f4 => ?_)
  have F : fmq I I2 := ⟨fun q a _ _ b _ _ => f1 q a b, fun k _ a _ _ => f2 k a⟩
  exact hq I2 F (F.T hM) (F.N hN) (fun k hk => (f4 k hk).trans (hN k hk)) f3
theorem fmq.w5 {I : Nat → Nat → Int32} {k : Nat} (v : Int32) (hk : k = 50 ∨ k = 54 ∨ k = 59 ∨ k = 60) : fmq I (wr I 55 k v) := ⟨fun q a _ _ _ _ _ => wr_other _ _ _ _ a, fun j a b c d => by rw [wr_at, if_pos rfl, if_neg (by omega)]⟩
theorem MR.mv {I : Nat → Nat → Int32} {r : rw_} (h : MR I r) (e : Nat) (v : Int32) : MR (wr I 91 (6 + e) v) (mvS r e v) := by
  intro j hj
  rw [wr_at, if_pos rfl]
  unfold mvS
  by_cases z : j = 6 + e
  · rw [if_pos z, if_pos z]
  · rw [if_neg z, if_neg z]; exact h j hj
theorem MR.set {I : Nat → Nat → Int32} {r : rw_} (h : MR I r) (k : Nat) (v : Int32) : MR (wr I 91 k v) (setr r k v) := by
  intro j hj
  rw [wr_at, if_pos rfl]
  unfold setr
  by_cases z : j = k
  · rw [if_pos z, if_pos z]
  · rw [if_neg z, if_neg z]; exact h j hj
theorem MR.cg {I : Nat → Nat → Int32} {r q : rw_} (h : MR I r) (hk : ∀ k, k < 49 → q k = r k) : MR I q := fun k h2 => (h k h2).trans (hk k h2).symm
theorem c_X11_isNights {d : Nat} {h : ab_H} {Q : ab_Q} {v : Int32} (h1 : ∀ k, 1 ≤ k → k ≤ 9 → v = nI k → Q (some (.int (nI 1))) h) (h0 : (∀ k, 1 ≤ k → k ≤ 9 → v ≠ nI k) → Q (some (.int (nI 0))) h) : ab_call ab_MT (d + 2) 252 [.int v] h 0 0 Q := by
  refine wx_in (M := mX11_isNights) rfl rfl rfl (Nat.le_of_ble_eq_true rfl) ?_
  refine wx_iload_n rfl (e := 1) rfl rfl ?_
  refine wx_iconst (v := (nI 1)) rfl (e := 2) rfl (by decide) ?_
  refine wx_bipush (v := (nI 9)) rfl (e := 4) rfl (by decide) ?_
  refine wx_cs3 (mc := 0) (ms := 0) rfl (e := 7) rfl (Nat.le_of_ble_eq_true rfl) ⟨by decide, by decide⟩ ?_
  refine c_X11_in (by decide) (by decide) (fun k a b e => ?_) (fun hno => ?_)
  · refine wx_iret rfl rfl rfl ⟨by decide, by decide⟩ ?_
    exact h1 k a b e
  · refine wx_iret rfl rfl rfl ⟨by decide, by decide⟩ ?_
    exact h0 hno
theorem c_X11_isOdds {d : Nat} {h : ab_H} {Q : ab_Q} {v : Int32} (h1 : ∀ k, 1 ≤ k → k ≤ 100 → v = nI k → Q (some (.int (nI 1))) h) (h0 : (∀ k, 1 ≤ k → k ≤ 100 → v ≠ nI k) → Q (some (.int (nI 0))) h) : ab_call ab_MT (d + 2) 265 [.int v] h 0 0 Q := by
  refine wx_in (M := mX11_isOdds) rfl rfl rfl (Nat.le_of_ble_eq_true rfl) ?_
  refine wx_iload_n rfl (e := 1) rfl rfl ?_
  refine wx_iconst (v := (nI 1)) rfl (e := 2) rfl (by decide) ?_
  refine wx_bipush (v := (nI 100)) rfl (e := 4) rfl (by decide) ?_
  refine wx_cs3 (mc := 0) (ms := 0) rfl (e := 7) rfl (Nat.le_of_ble_eq_true rfl) ⟨by decide, by decide⟩ ?_
  refine c_X11_in (by decide) (by decide) (fun k a b e => ?_) (fun hno => ?_)
  · refine wx_iret rfl rfl rfl ⟨by decide, by decide⟩ ?_
    exact h1 k a b e
  · refine wx_iret rfl rfl rfl ⟨by decide, by decide⟩ ?_
    exact h0 hno
theorem c_X11_isFew {d : Nat} {h : ab_H} {Q : ab_Q} {v : Int32} (h1 : ∀ k, 1 ≤ k → k ≤ 24 → v = nI k → Q (some (.int (nI 1))) h) (h0 : (∀ k, 1 ≤ k → k ≤ 24 → v ≠ nI k) → Q (some (.int (nI 0))) h) : ab_call ab_MT (d + 2) 269 [.int v] h 0 0 Q := by
  refine wx_in (M := mX11_isFew) rfl rfl rfl (Nat.le_of_ble_eq_true rfl) ?_
  refine wx_iload_n rfl (e := 1) rfl rfl ?_
  refine wx_iconst (v := (nI 1)) rfl (e := 2) rfl (by decide) ?_
  refine wx_bipush (v := (nI 24)) rfl (e := 4) rfl (by decide) ?_
  refine wx_cs3 (mc := 0) (ms := 0) rfl (e := 7) rfl (Nat.le_of_ble_eq_true rfl) ⟨by decide, by decide⟩ ?_
  refine c_X11_in (by decide) (by decide) (fun k a b e => ?_) (fun hno => ?_)
  · refine wx_iret rfl rfl rfl ⟨by decide, by decide⟩ ?_
    exact h1 k a b e
  · refine wx_iret rfl rfl rfl ⟨by decide, by decide⟩ ?_
    exact h0 hno
theorem c_X11_isLong {d : Nat} {h : ab_H} {Q : ab_Q} {v : Int32} (h1 : ∀ k, 0 ≤ k → k ≤ 60 → v = nI k → Q (some (.int (nI 1))) h) (h0 : (∀ k, 0 ≤ k → k ≤ 60 → v ≠ nI k) → Q (some (.int (nI 0))) h) : ab_call ab_MT (d + 2) 270 [.int v] h 0 0 Q := by
  refine wx_in (M := mX11_isLong) rfl rfl rfl (Nat.le_of_ble_eq_true rfl) ?_
  refine wx_iload_n rfl (e := 1) rfl rfl ?_
  refine wx_iconst (v := (nI 0)) rfl (e := 2) rfl (by decide) ?_
  refine wx_bipush (v := (nI 60)) rfl (e := 4) rfl (by decide) ?_
  refine wx_cs3 (mc := 0) (ms := 0) rfl (e := 7) rfl (Nat.le_of_ble_eq_true rfl) ⟨by decide, by decide⟩ ?_
  refine c_X11_in (by decide) (by decide) (fun k a b e => ?_) (fun hno => ?_)
  · refine wx_iret rfl rfl rfl ⟨by decide, by decide⟩ ?_
    exact h1 k a b e
  · refine wx_iret rfl rfl rfl ⟨by decide, by decide⟩ ?_
    exact h0 hno
set_option maxHeartbeats 1000000 in
theorem c_X11_triesFor {d Lx t rt u : Nat} {I : Nat → Nat → Int32} {G : Nat → Nat → Int64} {Q : ab_Q} {lv : Nat} {T : tx} (hM : MT lv I T) {r : rw_} (hR : MR I r) (hL : lok T r) (h54 : I 55 54 = tS T) {e c n : Nat} (he : e < tR T) (hc : c < tC T) (hq : ∀ I2, fmy I I2 → MR I2 (stS T r e c n).2 → Q (some (.int (stS T r e c n).1)) (hp Lx t rt u I2 G)) : ab_call ab_MT (d + 4) 253 [.ref 55, .int (nI e), .int (nI c), .int (nI n)] (hp Lx t rt u I G) 0 0 Q := by
  obtain ⟨hlv, ⟨hC6, hR6, hP5, hH, hTf, hFn, hLx⟩, m18, m65, m69, m72, m76, m71, m89, m73, mL⟩ := id hM
  obtain ⟨hce, hre⟩ := hL.ch hM.2.1 he
  have hr1 : ∀ e, tR T ≤ e → e < 6 → up1 r 47 (nI 1) (6 + e) = -1 := fun e h1 h2 => by unfold up1; rw [if_neg (by omega)]; exact hL.2.1 e h1 h2
  refine wx_in (M := mX11_triesFor) rfl rfl rfl (Nat.le_of_ble_eq_true rfl) ?_
  refine wx_aload_n rfl (e := 1) rfl rfl ?_
  refine wx_getr rfl (e := 4) rfl rfl rfl ?_
  refine wx_bipush (v := (nI 6)) rfl (e := 6) rfl (by decide) ?_
  refine wx_iload_n rfl (e := 7) rfl rfl ?_
  refine wn_iadd rfl (e := 8) rfl ?_
  refine wn_iald rfl (e := 9) rfl rfl (by omega) (by decide) ?_
  rw [hR _ (by omega), hre]
  refine wx_istore (L2 := [_, _, _, _, _, _]) rfl (e := 11) rfl (by decide) rfl ?_
  refine wx_aload_n rfl (e := 12) rfl rfl ?_
  refine wx_getr rfl (e := 15) rfl rfl rfl ?_
  refine wx_bipush (v := (nI 47)) rfl (e := 17) rfl (by decide) ?_
  refine wn_iald rfl (e := 18) rfl rfl (by omega) (by decide) ?_
  rw [hR _ (by omega)]
  refine wx_istore (L2 := [_, _, _, _, _, _]) rfl (e := 20) rfl (by decide) rfl ?_
  refine wx_aload_n rfl (e := 21) rfl rfl ?_
  refine wx_getr rfl (e := 24) rfl rfl rfl ?_
  refine wx_bipush (v := (nI 47)) rfl (e := 26) rfl (by decide) ?_
  refine wx_dup2 rfl (e := 27) rfl ⟨rfl, rfl⟩ ?_
  refine wn_iald rfl (e := 28) rfl rfl (by omega) (by decide) ?_
  refine wx_iconst (v := (nI 1)) rfl (e := 29) rfl (by decide) ?_
  refine wx_iadd rfl (e := 30) rfl ?_
  refine wn_iast rfl (e := 31) rfl rfl (by decide) (by omega) (by decide) ?_
  have R1 := hR.up 47 (nI 1)
  have F1 := fmy.w1 (I := I) 47 (I 91 47 + nI 1)
  have T1 := F1.T hM
  refine wx_aload_n rfl (e := 32) rfl rfl ?_
  refine wx_ldcw (v := (nI 1000000)) rfl (e := 35) rfl (by decide) ?_
  refine wx_iload rfl (e := 37) rfl rfl ?_
  refine wx_iadd rfl (e := 38) rfl ?_
  refine wx_cv1 (mc := 0) (ms := 0) rfl (e := 41) rfl rfl (Nat.le_of_ble_eq_true rfl) ⟨by decide, by decide⟩ ?_
  refine c_X11_lotOf ?_
  rw [F1.2 54 (by decide), h54]
  refine wx_aload_n rfl (e := 42) rfl rfl ?_
  refine wx_iload rfl (e := 44) rfl rfl ?_
  refine wx_aload_n rfl (e := 45) rfl rfl ?_
  refine wx_getr rfl (e := 48) rfl rfl rfl ?_
  refine wx_iload rfl (e := 50) rfl rfl ?_
  refine wn_iald rfl (e := 51) rfl rfl (by omega) (by decide) ?_
  rw [R1 _ (by omega)]
  have e47 : up1 r 47 (nI 1) (chN r e) = r (chN r e) := by unfold up1; rw [if_neg (by omega)]
  rw [e47]
  refine wx_iload_n rfl (e := 52) rfl rfl ?_
  refine wx_cv3 (mc := 0) (ms := 0) rfl (e := 55) rfl rfl (Nat.le_of_ble_eq_true rfl) ⟨by decide, by decide⟩ ?_
  refine c_X11_caughtBy T1 R1 hr1 hce (fun I2 f2 => ?_)
  have R2 := f2.R R1
  have T2 := f2.T T1
  refine wx_ic_ge rfl (e := 58) rfl (fun c_55 => ?_) (fun c_55 => ?_)
  · refine wx_aload_n rfl (e := 94) rfl rfl ?_
    refine wx_ldcw (v := (nI 2000000)) rfl (e := 97) rfl (by decide) ?_
    refine wx_iload rfl (e := 99) rfl rfl ?_
    refine wx_iadd rfl (e := 100) rfl ?_
    refine wx_cv1 (mc := 0) (ms := 0) rfl (e := 103) rfl rfl (Nat.le_of_ble_eq_true rfl) ⟨by decide, by decide⟩ ?_
    refine c_X11_lotOf ?_
    rw [f2.2 54 (by decide), F1.2 54 (by decide), h54]
    refine wx_aload_n rfl (e := 104) rfl rfl ?_
    refine wx_iload_n rfl (e := 105) rfl rfl ?_
    refine wx_iload_n rfl (e := 106) rfl rfl ?_
    refine wx_cv2 (mc := 0) (ms := 0) rfl (e := 109) rfl rfl (Nat.le_of_ble_eq_true rfl) ⟨by decide, by decide⟩ ?_
    refine c_X11_leaveOf T2 R2 hr1 he hce (by unfold up1; rw [if_neg (by omega)]; exact hre) (fun I3 f3 => ?_)
    have R3 := f3.R R2
    refine wx_ic_lt rfl (e := 112) rfl (fun c_109 => ?_) (fun c_109 => ?_)
    · have hG : stS T r e c n = (nI 1, up1 (mvS (up1 r 47 (nI 1)) e (nI c)) (30 + e) (nI 1)) := by unfold stS; rw [if_neg (Int32.not_lt.mpr c_55), if_pos c_109]
      refine wx_aload_n rfl (e := 115) rfl rfl ?_
      refine wx_getr rfl (e := 118) rfl rfl rfl ?_
      refine wx_bipush (v := (nI 6)) rfl (e := 120) rfl (by decide) ?_
      refine wx_iload_n rfl (e := 121) rfl rfl ?_
      refine wn_iadd rfl (e := 122) rfl ?_
      refine wx_iload_n rfl (e := 123) rfl rfl ?_
      refine wn_iast rfl (e := 124) rfl rfl (by decide) (by omega) (by decide) ?_
      refine wx_aload_n rfl (e := 125) rfl rfl ?_
      refine wx_getr rfl (e := 128) rfl rfl rfl ?_
      refine wx_bipush (v := (nI 30)) rfl (e := 130) rfl (by decide) ?_
      refine wx_iload_n rfl (e := 131) rfl rfl ?_
      refine wn_iadd rfl (e := 132) rfl ?_
      refine wx_dup2 rfl (e := 133) rfl ⟨rfl, rfl⟩ ?_
      refine wn_iald rfl (e := 134) rfl rfl (by omega) (by decide) ?_
      refine wx_iconst (v := (nI 1)) rfl (e := 135) rfl (by decide) ?_
      refine wx_iadd rfl (e := 136) rfl ?_
      refine wn_iast rfl (e := 137) rfl rfl (by decide) (by omega) (by decide) ?_
      refine wx_iconst (v := (nI 1)) rfl (e := 138) rfl (by decide) ?_
      refine wx_iret rfl rfl rfl ⟨by decide, by decide⟩ ?_
      rw [hG] at hq
      exact hq _ (F1.tr (f2.y.tr (f3.y.tr ((fmy.w1 _ _).tr (fmy.w1 _ _))))) ((R3.mv e (nI c)).up (30 + e) (nI 1))
    · have hG : stS T r e c n = (nI 0, up1 r 47 (nI 1)) := by unfold stS; rw [if_neg (Int32.not_lt.mpr c_55), if_neg c_109]
      refine wx_iconst (v := (nI 0)) rfl (e := 113) rfl (by decide) ?_
      refine wx_iret rfl rfl rfl ⟨by decide, by decide⟩ ?_
      rw [hG] at hq
      exact hq _ (F1.tr (f2.y.tr f3.y)) R3
  · have hG : stS T r e c n = (nI 2, up1 (setr (up1 r 47 (nI 1)) (chN r e) (heldS (r (chN r e) + nI 1) (nI 9))) 48 (nI 1)) := by unfold stS; rw [if_pos (Int32.not_le.mp c_55)]
    refine wx_aload_n rfl (e := 59) rfl rfl ?_
    refine wx_getr rfl (e := 62) rfl rfl rfl ?_
    refine wx_bipush (v := (nI 48)) rfl (e := 64) rfl (by decide) ?_
    refine wx_dup2 rfl (e := 65) rfl ⟨rfl, rfl⟩ ?_
    refine wn_iald rfl (e := 66) rfl rfl (by omega) (by decide) ?_
    refine wx_iconst (v := (nI 1)) rfl (e := 67) rfl (by decide) ?_
    refine wx_iadd rfl (e := 68) rfl ?_
    refine wn_iast rfl (e := 69) rfl rfl (by decide) (by omega) (by decide) ?_
    have R3 := R2.up 48 (nI 1)
    refine wx_aload_n rfl (e := 70) rfl rfl ?_
    refine wx_getr rfl (e := 73) rfl rfl rfl ?_
    refine wx_iload rfl (e := 75) rfl rfl ?_
    refine wx_aload_n rfl (e := 76) rfl rfl ?_
    refine wx_getr rfl (e := 79) rfl rfl rfl ?_
    refine wx_iload rfl (e := 81) rfl rfl ?_
    refine wn_iald rfl (e := 82) rfl rfl (by omega) (by decide) ?_
    rw [R3 _ (by omega)]
    have e48 : up1 (up1 r 47 (nI 1)) 48 (nI 1) (chN r e) = r (chN r e) := by unfold up1; rw [if_neg (by omega), if_neg (by omega)]
    rw [e48]
    refine wx_iconst (v := (nI 1)) rfl (e := 83) rfl (by decide) ?_
    refine wx_iadd rfl (e := 84) rfl ?_
    refine wx_iconst (v := (nI 0)) rfl (e := 85) rfl (by decide) ?_
    refine wx_bipush (v := (nI 9)) rfl (e := 87) rfl (by decide) ?_
    refine wx_cs3 (mc := 0) (ms := 0) rfl (e := 90) rfl (Nat.le_of_ble_eq_true rfl) ⟨by decide, by decide⟩ ?_
    refine c_X11_held ?_
    refine wn_iast rfl (e := 91) rfl rfl (by decide) (by omega) (by decide) ?_
    refine wx_iconst (v := (nI 2)) rfl (e := 92) rfl (by decide) ?_
    refine wx_iret rfl rfl rfl ⟨by decide, by decide⟩ ?_
    rw [hG] at hq
    refine hq _ (F1.tr (f2.y.tr ((fmy.w1 _ _).tr (fmy.w1 _ _)))) ((R3.set (chN r e) _).cg (fun k hk => ?_))
    show up1 (setr _ _ _) _ _ k = setr (up1 _ _ _) _ _ k
    unfold up1 setr
    dsimp only
    by_cases z : k = chN r e
    · rw [if_neg (by omega), if_pos z, if_pos z]
    · by_cases z2 : k = 48
      · rw [if_pos z2, if_neg z, if_neg z, if_pos z2]
      · rw [if_neg z2, if_neg z, if_neg z, if_neg z2]
theorem c_X11_theftNow {d Lx t rt u : Nat} {I : Nat → Nat → Int32} {G : Nat → Nat → Int64} {Q : ab_Q} {lv : Nat} {T : tx} (hM : MT lv I T) {r : rw_} (hR : MR I r) (hL : lok T r) {e n : Nat} (he : e < tR T) (hq : ∀ I2, fml I I2 → Q (some (.int (likS T r e n))) (hp Lx t rt u I2 G)) : ab_call ab_MT (d + 4) 260 [.ref 55, .int (nI e), .int (nI n)] (hp Lx t rt u I G) 0 0 Q := by
  obtain ⟨hlv, ⟨hC6, hR6, hP5, hH, hTf, hFn, hLx⟩, m18, m65, m69, m72, m76, m71, m89, m73, mL⟩ := id hM
  obtain ⟨hce, hre⟩ := hL.ch hM.2.1 he
  refine wx_in (M := mX11_theftNow) rfl rfl rfl (Nat.le_of_ble_eq_true rfl) ?_
  refine wx_aload_n rfl (e := 1) rfl rfl ?_
  refine wx_getr rfl (e := 4) rfl rfl rfl ?_
  refine wx_bipush (v := (nI 6)) rfl (e := 6) rfl (by decide) ?_
  refine wx_iload_n rfl (e := 7) rfl rfl ?_
  refine wn_iadd rfl (e := 8) rfl ?_
  refine wn_iald rfl (e := 9) rfl rfl (by omega) (by decide) ?_
  rw [hR _ (by omega), hre]
  refine wx_istore_n (L2 := [_, _, _, _]) rfl (e := 10) rfl (by decide) rfl ?_
  refine wx_aload_n rfl (e := 11) rfl rfl ?_
  refine wx_iload_n rfl (e := 12) rfl rfl ?_
  refine wx_iload_n rfl (e := 13) rfl rfl ?_
  refine wx_cv2 (mc := 0) (ms := 0) rfl (e := 16) rfl rfl (Nat.le_of_ble_eq_true rfl) ⟨by decide, by decide⟩ ?_
  refine c_X11_leaveOf hM hR hL.2.1 he hce hre (fun I2 f2 => ?_)
  refine wx_bipush (v := (nI 100)) rfl (e := 18) rfl (by decide) ?_
  refine wx_aload_n rfl (e := 19) rfl rfl ?_
  refine wx_iload_n rfl (e := 20) rfl rfl ?_
  refine wx_aload_n rfl (e := 21) rfl rfl ?_
  refine wx_getr rfl (e := 24) rfl rfl rfl ?_
  refine wx_iload_n rfl (e := 25) rfl rfl ?_
  refine wn_iald rfl (e := 26) rfl rfl (by omega) (by decide) ?_
  rw [(f2.R hR) _ (by omega)]
  refine wx_iload_n rfl (e := 27) rfl rfl ?_
  refine wx_cv3 (mc := 0) (ms := 0) rfl (e := 30) rfl rfl (Nat.le_of_ble_eq_true rfl) ⟨by decide, by decide⟩ ?_
  refine c_X11_caughtBy (f2.T hM) (f2.R hR) hL.2.1 hce (fun I3 f3 => ?_)
  refine wx_isub rfl (e := 31) rfl ?_
  refine wx_imul rfl (e := 32) rfl ?_
  refine wx_iret rfl rfl rfl ⟨by decide, by decide⟩ ?_
  exact hq I3 (f2.tr f3)
theorem bn_val (T : tx) (r : rw_) (e : Nat) : ∀ i, (bnL T r e i).2 = likS T r e (bnL T r e i).1 ∧ 1 ≤ (bnL T r e i).1 ∧ (bnL T r e i).1 ≤ i + 1
  | 0 => ⟨rfl, Nat.le_refl _, Nat.le_refl _⟩
  | i + 1 => by
    obtain ⟨h1, h2, h3⟩ := bn_val T r e i
    rw [bnL]
    split
    · exact ⟨rfl, by show 1 ≤ i + 2; omega, by show i + 2 ≤ i + 1 + 1; omega⟩
    · exact ⟨h1, h2, by omega⟩
theorem c_X11_nightsNow {d Lx t rt u : Nat} {I : Nat → Nat → Int32} {G : Nat → Nat → Int64} {Q : ab_Q} {lv : Nat} {T : tx} (hM : MT lv I T) {r : rw_} (hR : MR I r) (hL : lok T r) {e : Nat} (he : e < tR T) (hq : ∀ I2, fml I I2 → Q (some (.int (nI (bnS T r e)))) (hp Lx t rt u I2 G)) : ab_call ab_MT (d + 5) 262 [.ref 55, .int (nI e)] (hp Lx t rt u I G) 0 0 Q := by
  obtain ⟨hlv, ⟨hC6, hR6, hP5, hH, hTf, hFn, hLx⟩, m18, m65, m69, m72, m76, m71, m89, m73, mL⟩ := id hM
  have loop : ∀ (n : Nat) (i : Nat) (I2 : Nat → Nat → Int32), i ≤ 8 → 8 - i < n → fml I I2 → WP (d + 4) mX11_nightsNow Q 4 [some (.ref 55), some (.int (nI e)), some (.int (nI (bnL T r e i).1)), some (.int (nI (i + 2)))] [] (hp Lx t rt u I2 G) 0 0 := by
    intro n
    induction n with
    | zero => intro i I2 hi hn f2; omega
    | succ n ih =>
      intro i I2 hi hn f2
      obtain ⟨hv1, hv2, hv3⟩ := bn_val T r e i
      refine wx_iload_n rfl (e := 5) rfl rfl ?_
      refine wx_bipush (v := (nI 9)) rfl (e := 7) rfl (by decide) ?_
      refine wn_ic_gt rfl (e := 10) rfl (by omega) (by omega) (fun c_7 => ?_) (fun c_7 => ?_)
      · refine wx_iload_n rfl (e := 34) rfl rfl ?_
        refine wx_iret rfl rfl rfl ⟨by decide, by decide⟩ ?_
        rw [show i = 8 by omega]
        exact hq I2 f2
      · refine wx_aload_n rfl (e := 11) rfl rfl ?_
        refine wx_iload_n rfl (e := 12) rfl rfl ?_
        refine wx_iload_n rfl (e := 13) rfl rfl ?_
        refine wx_cv2 (mc := 0) (ms := 0) rfl (e := 16) rfl rfl (Nat.le_of_ble_eq_true rfl) ⟨by decide, by decide⟩ ?_
        refine c_X11_theftNow (f2.T hM) (f2.R hR) hL he (fun I3 f3 => ?_)
        refine wx_aload_n rfl (e := 17) rfl rfl ?_
        refine wx_iload_n rfl (e := 18) rfl rfl ?_
        refine wx_iload_n rfl (e := 19) rfl rfl ?_
        refine wx_cv2 (mc := 0) (ms := 0) rfl (e := 22) rfl rfl (Nat.le_of_ble_eq_true rfl) ⟨by decide, by decide⟩ ?_
        refine c_X11_theftNow ((f2.tr f3).T hM) ((f2.tr f3).R hR) hL he (fun I4 f4 => ?_)
        refine wx_ic_le rfl (e := 25) rfl (fun c_22 => ?_) (fun c_22 => ?_)
        · have hG : bnL T r e (i + 1) = bnL T r e i := by rw [bnL, if_neg (by rw [hv1]; exact Int32.not_lt.mpr c_22)]
          refine wn_iinc (m := 1) (L2 := [_, _, _, _]) rfl (e := 30) rfl rfl (by decide) rfl ?_
          refine wx_goto rfl ?_
          have hh := ih (i + 1) _ (by omega) (by omega) (f2.tr (f3.tr f4))
          rw [hG] at hh
          exact hh
        · have hG : bnL T r e (i + 1) = (i + 2, likS T r e (i + 2)) := by rw [bnL, if_pos (by rw [hv1]; exact Int32.not_le.mp c_22)]
          refine wx_iload_n rfl (e := 26) rfl rfl ?_
          refine wx_istore_n (L2 := [_, _, _, _]) rfl (e := 27) rfl (by decide) rfl ?_
          refine wn_iinc (m := 1) (L2 := [_, _, _, _]) rfl (e := 30) rfl rfl (by decide) rfl ?_
          refine wx_goto rfl ?_
          have hh := ih (i + 1) _ (by omega) (by omega) (f2.tr (f3.tr f4))
          rw [hG] at hh
          exact hh
  refine wx_in (M := mX11_nightsNow) rfl rfl rfl (Nat.le_of_ble_eq_true rfl) ?_
  refine wx_iconst (v := (nI 1)) rfl (e := 1) rfl (by decide) ?_
  refine wx_istore_n (L2 := [_, _, _, _]) rfl (e := 2) rfl (by decide) rfl ?_
  refine wx_iconst (v := (nI 2)) rfl (e := 3) rfl (by decide) ?_
  refine wx_istore_n (L2 := [_, _, _, _]) rfl (e := 4) rfl (by decide) rfl ?_
  exact loop 9 0 I (by omega) (by omega) fml.rf
theorem c_X11_guardOf {d Lx t rt u : Nat} {I : Nat → Nat → Int32} {G : Nat → Nat → Int64} {Q : ab_Q} {lv : Nat} {T : tx} (hM : MT lv I T) {r : rw_} (hR : MR I r) (hr : ∀ e, tR T ≤ e → e < 6 → r (6 + e) = -1) {c n : Nat} {p : Int32} (hc : c < tC T) (hq : ∀ I2, fml I I2 → Q (some (.int (wfS T r c p n))) (hp Lx t rt u I2 G)) : ab_call ab_MT (d + 4) 264 [.ref 55, .int (nI c), .int p, .int (nI n)] (hp Lx t rt u I G) 0 0 Q := by
  obtain ⟨hlv, ⟨hC6, hR6, hP5, hH, hTf, hFn, hLx⟩, m18, m65, m69, m72, m76, m71, m89, m73, mL⟩ := id hM
  have loop : ∀ (f m : Nat) (I2 : Nat → Nat → Int32), m + f = 10 → fml I I2 → wfF T r c p n f m = wfS T r c p n → WP (d + 3) mX11_guardOf Q 3 [some (.ref 55), some (.int (nI c)), some (.int p), some (.int (nI n)), some (.int (nI m))] [] (hp Lx t rt u I2 G) 0 0 := by
    intro f
    induction f with
    | zero =>
      intro m I2 hm f2 hv
      refine wx_iload rfl (e := 5) rfl rfl ?_
      refine wx_bipush (v := (nI 9)) rfl (e := 7) rfl (by decide) ?_
      refine wn_ic_gt rfl (e := 10) rfl (by omega) (by omega) (fun c_7 => ?_) (fun c_7 => absurd c_7 (by omega))
      refine wx_bipush (v := (-2)) rfl (e := 33) rfl (by decide) ?_
      refine wx_iret rfl rfl rfl ⟨by decide, by decide⟩ ?_
      have e : (-2 : Int32) = wfS T r c p n := hv
      rw [e]
      exact hq I2 f2
    | succ f ih =>
      intro m I2 hm f2 hv
      refine wx_iload rfl (e := 5) rfl rfl ?_
      refine wx_bipush (v := (nI 9)) rfl (e := 7) rfl (by decide) ?_
      refine wn_ic_gt rfl (e := 10) rfl (by omega) (by omega) (fun c_7 => absurd c_7 (by omega)) (fun c_7 => ?_)
      refine wx_aload_n rfl (e := 11) rfl rfl ?_
      refine wx_iload_n rfl (e := 12) rfl rfl ?_
      refine wx_iload rfl (e := 14) rfl rfl ?_
      refine wx_iload_n rfl (e := 15) rfl rfl ?_
      refine wx_cv3 (mc := 0) (ms := 0) rfl (e := 18) rfl rfl (Nat.le_of_ble_eq_true rfl) ⟨by decide, by decide⟩ ?_
      refine c_X11_caughtBy (f2.T hM) (f2.R hR) hr hc (fun I3 f3 => ?_)
      refine wx_iload_n rfl (e := 19) rfl rfl ?_
      refine wx_ic_lt rfl (e := 22) rfl (fun c_19 => ?_) (fun c_19 => ?_)
      · have hG : wfF T r c p n (f + 1) m = wfF T r c p n f (m + 1) := by rw [wfF, if_neg (Int32.not_le.mpr c_19)]
        rw [hG] at hv
        refine wn_iinc (m := 1) (L2 := [_, _, _, _, _]) rfl (e := 28) rfl rfl (by decide) rfl ?_
        refine wx_goto rfl ?_
        exact ih (m + 1) _ (by omega) (f2.tr f3) hv
      · have hG : wfF T r c p n (f + 1) m = nI m := by rw [wfF, if_pos (Int32.not_lt.mp c_19)]
        rw [hG] at hv
        refine wx_iload rfl (e := 24) rfl rfl ?_
        refine wx_iret rfl rfl rfl ⟨by decide, by decide⟩ ?_
        rw [hv]
        exact hq I3 (f2.tr f3)
  refine wx_in (M := mX11_guardOf) rfl rfl rfl (Nat.le_of_ble_eq_true rfl) ?_
  refine wx_iconst (v := (nI 0)) rfl (e := 1) rfl (by decide) ?_
  refine wx_istore (L2 := [_, _, _, _, _]) rfl (e := 3) rfl (by decide) rfl ?_
  exact loop 10 0 I (by omega) fml.rf rfl
theorem c_X11_takesWith {d Lx t rt u : Nat} {I : Nat → Nat → Int32} {G : Nat → Nat → Int64} {Q : ab_Q} {lv : Nat} {T : tx} (hM : MT lv I T) {r : rw_} (hN : NR I r) (hL : lok T r) {e c n : Nat} {v : Int32} (he : e < tR T) (hc : c < 6) (hn : n ≤ 60) (hq : ∀ I2, fmq I I2 → Q (some (.int (yaS T (mvS r e v) n (18 + c) - r (18 + c)))) (hp Lx t rt u I2 G)) : ab_call ab_MT (d + 8) 271 [.ref 55, .int (nI e), .int v, .int (nI c), .int (nI n)] (hp Lx t rt u I G) 0 0 Q := by
  obtain ⟨hlv, ⟨hC6, hR6, hP5, hH, hTf, hFn, hLx⟩, m18, m65, m69, m72, m76, m71, m89, m73, mL⟩ := id hM
  refine wx_in (M := mX11_takesWith) rfl rfl rfl (Nat.le_of_ble_eq_true rfl) ?_
  refine wx_aload_n rfl (e := 1) rfl rfl ?_
  refine wx_cv0 (mc := 0) (ms := 0) rfl (e := 4) rfl rfl (Nat.le_of_ble_eq_true rfl) ⟨by decide, by decide⟩ ?_
  refine c_cp hM hN (fun I2 f2 T2 N2 R2 h54 => ?_)
  refine wx_aload_n rfl (e := 5) rfl rfl ?_
  refine wx_getr rfl (e := 8) rfl rfl rfl ?_
  refine wx_bipush (v := (nI 6)) rfl (e := 10) rfl (by decide) ?_
  refine wx_iload_n rfl (e := 11) rfl rfl ?_
  refine wn_iadd rfl (e := 12) rfl ?_
  refine wx_iload_n rfl (e := 13) rfl rfl ?_
  refine wn_iast rfl (e := 14) rfl rfl (by decide) (by omega) (by decide) ?_
  refine wx_aload_n rfl (e := 15) rfl rfl ?_
  refine wx_iload rfl (e := 17) rfl rfl ?_
  refine wx_cv1 (mc := 0) (ms := 0) rfl (e := 20) rfl rfl (Nat.le_of_ble_eq_true rfl) ⟨by decide, by decide⟩ ?_
  refine c_X11_yearsGo ((fmy.w1 _ _).T T2) (R2.mv e v) (mv_rest he hL.2.1) hn (fun I3 f3 R3 => ?_)
  have F3 := (fmy.w1 (I := I2) (6 + e) v).tr f3
  rw [show wr I2 91 (6 + e) v 55 54 = tS T from (congrFun (wr_other _ _ _ _ (by decide)) 54).trans h54] at R3
  refine wx_aload_n rfl (e := 21) rfl rfl ?_
  refine wx_getr rfl (e := 24) rfl rfl rfl ?_
  refine wx_bipush (v := (nI 18)) rfl (e := 26) rfl (by decide) ?_
  refine wx_iload_n rfl (e := 27) rfl rfl ?_
  refine wn_iadd rfl (e := 28) rfl ?_
  refine wn_iald rfl (e := 29) rfl rfl (by omega) (by decide) ?_
  rw [R3 _ (by omega)]
  refine wx_aload_n rfl (e := 30) rfl rfl ?_
  refine wx_getr rfl (e := 33) rfl rfl rfl ?_
  refine wx_bipush (v := (nI 18)) rfl (e := 35) rfl (by decide) ?_
  refine wx_iload_n rfl (e := 36) rfl rfl ?_
  refine wn_iadd rfl (e := 37) rfl ?_
  refine wn_iald rfl (e := 38) rfl rfl (by omega) (by decide) ?_
  rw [(F3.q.N N2) _ (by omega)]
  refine wx_isub rfl (e := 39) rfl ?_
  refine wx_iret rfl rfl rfl ⟨by decide, by decide⟩ ?_
  exact hq I3 (f2.tr F3.q)
theorem mv_self (r : rw_) (e : Nat) : mvS r e (r (6 + e)) = r := by
  funext k
  unfold mvS
  by_cases z : k = 6 + e
  · rw [if_pos z, z]
  · rw [if_neg z]
theorem ya_b {n0 : Nat} {T : tx} {r q : rw_} (hT : tok T) (hb : ∀ k, 12 ≤ k → k < 30 → ∃ v, v ≤ 30000 * n0 ∧ r k = nI v) (h0 : n0 ≤ 512) {k : Nat} (h1 : 12 ≤ k) (h2 : k < 30) (hq : q k = r k) {n : Nat} (hn : n ≤ 60) : ∃ v g, v < 2 ^ 29 ∧ g ≤ 29700 ∧ r k = nI v ∧ yaS T q n k = nI (v + g) := by
  obtain ⟨v, h3, h4⟩ := hb k h1 h2
  obtain ⟨g, h5, h6⟩ := yrsS_gr hT (tS T) q h1 h2 n
  refine ⟨v, g, by omega, by omega, h4, ?_⟩
  show yrsS _ _ _ _ _ = _
  rw [h6, hq, h4, nI_add]
theorem bart {n0 : Nat} {T : tx} {r q : rw_} (hT : tok T) (hb : ∀ k, 12 ≤ k → k < 30 → ∃ v, v ≤ 30000 * n0 ∧ r k = nI v) (h0 : n0 ≤ 512) {k : Nat} (h1 : 12 ≤ k) (h2 : k < 30) (hq : q k = r k) {n : Nat} (hn : n ≤ 60) : (nI 0 < yaS T q n k - yaS T r n k) ↔ (yaS T r n k - r k < yaS T q n k - r k) := by
  obtain ⟨v, g, h3, h4, h5, h6⟩ := ya_b hT hb h0 h1 h2 hq hn
  obtain ⟨v2, g2, h7, h8, h9, ha⟩ := ya_b (q := r) hT hb h0 h1 h2 rfl hn
  have e : v = v2 := (nI_eq (by omega) (by omega)).mp (h5.symm.trans h9)
  subst e
  rw [h6, ha, h5]
  exact cmp_w (by omega) (by omega) (by omega) (by omega)
set_option maxHeartbeats 2000000 in
theorem c_X11_isBarter {d Lx t rt u : Nat} {I : Nat → Nat → Int32} {G : Nat → Nat → Int64} {Q : ab_Q} {lv : Nat} {T : tx} (hM : MT lv I T) {r : rw_} (hN : NR I r) (hL : lok T r) {n0 : Nat} (hb : ∀ k, 12 ≤ k → k < 30 → ∃ v, v ≤ 30000 * n0 ∧ r k = nI v) (h0 : n0 ≤ 512) {e f n : Nat} (he : e < tR T) (hf : f < tR T) (hn : n ≤ 24) (hq : ∀ I2, fmq I I2 → Q (some (.int (b1 (bgn T r n e f)))) (hp Lx t rt u I2 G)) : ab_call ab_MT (d + 9) 273 [.ref 55, .int (nI e), .int (nI f), .int (nI n)] (hp Lx t rt u I G) 0 0 Q := by
  obtain ⟨hlv, ⟨hC6, hR6, hP5, hH, hTf, hFn, hLx⟩, m18, m65, m69, m72, m76, m71, m89, m73, mL⟩ := id hM
  obtain ⟨hce, hre⟩ := hL.ch hM.2.1 he
  obtain ⟨hcf, hrf⟩ := hL.ch hM.2.1 hf
  have xk : ∀ k, 12 ≤ k → xcS r e f k = r k := fun k hk => by unfold xcS mvS; rw [if_neg (by omega), if_neg (by omega)]
  refine wx_in (M := mX11_isBarter) rfl rfl rfl (Nat.le_of_ble_eq_true rfl) ?_
  refine wx_aload_n rfl (e := 1) rfl rfl ?_
  refine wx_getr rfl (e := 4) rfl rfl rfl ?_
  refine wx_bipush (v := (nI 6)) rfl (e := 6) rfl (by decide) ?_
  refine wx_iload_n rfl (e := 7) rfl rfl ?_
  refine wn_iadd rfl (e := 8) rfl ?_
  refine wn_iald rfl (e := 9) rfl rfl (by omega) (by decide) ?_
  rw [hN _ (by omega), hre]
  refine wx_istore (L2 := [_, _, _, _, _, _, _, _]) rfl (e := 11) rfl (by decide) rfl ?_
  refine wx_aload_n rfl (e := 12) rfl rfl ?_
  refine wx_getr rfl (e := 15) rfl rfl rfl ?_
  refine wx_bipush (v := (nI 6)) rfl (e := 17) rfl (by decide) ?_
  refine wx_iload_n rfl (e := 18) rfl rfl ?_
  refine wn_iadd rfl (e := 19) rfl ?_
  refine wn_iald rfl (e := 20) rfl rfl (by omega) (by decide) ?_
  rw [hN _ (by omega), hrf]
  refine wx_istore (L2 := [_, _, _, _, _, _, _, _]) rfl (e := 22) rfl (by decide) rfl ?_
  refine wx_iload rfl (e := 24) rfl rfl ?_
  refine wx_iload rfl (e := 26) rfl rfl ?_
  refine wn_ic_ne rfl (e := 29) rfl (by omega) (by omega) (fun c_26 => ?_) (fun c_26 => ?_)
  · refine wx_aload_n rfl (e := 32) rfl rfl ?_
    refine wx_iload_n rfl (e := 33) rfl rfl ?_
    refine wx_iload rfl (e := 35) rfl rfl ?_
    refine wx_iload rfl (e := 37) rfl rfl ?_
    refine wx_iload_n rfl (e := 38) rfl rfl ?_
    refine wx_cv4 (mc := 0) (ms := 0) rfl (e := 41) rfl rfl (Nat.le_of_ble_eq_true rfl) ⟨by decide, by decide⟩ ?_
    refine c_X11_takesWith hM hN hL he (by omega) (by omega) (fun I2 f2 => ?_)
    rw [← hre, mv_self, hre]
    refine wx_istore (L2 := [_, _, _, _, _, _, _, _]) rfl (e := 43) rfl (by decide) rfl ?_
    refine wx_aload_n rfl (e := 44) rfl rfl ?_
    refine wx_iload_n rfl (e := 45) rfl rfl ?_
    refine wx_iload rfl (e := 47) rfl rfl ?_
    refine wx_iload rfl (e := 49) rfl rfl ?_
    refine wx_iload_n rfl (e := 50) rfl rfl ?_
    refine wx_cv4 (mc := 0) (ms := 0) rfl (e := 53) rfl rfl (Nat.le_of_ble_eq_true rfl) ⟨by decide, by decide⟩ ?_
    refine c_X11_takesWith (f2.T hM) (f2.N hN) hL he (by omega) (by omega) (fun I3 f3 => ?_)
    rw [← hre, mv_self, hre]
    refine wx_istore (L2 := [_, _, _, _, _, _, _, _]) rfl (e := 55) rfl (by decide) rfl ?_
    refine wx_aload_n rfl (e := 56) rfl rfl ?_
    refine wx_cv0 (mc := 0) (ms := 0) rfl (e := 59) rfl rfl (Nat.le_of_ble_eq_true rfl) ⟨by decide, by decide⟩ ?_
    refine c_cp ((f2.tr f3).T hM) ((f2.tr f3).N hN) (fun I4 f4 T4 N4 R4 h54 => ?_)
    refine wx_aload_n rfl (e := 60) rfl rfl ?_
    refine wx_getr rfl (e := 63) rfl rfl rfl ?_
    refine wx_bipush (v := (nI 6)) rfl (e := 65) rfl (by decide) ?_
    refine wx_iload_n rfl (e := 66) rfl rfl ?_
    refine wn_iadd rfl (e := 67) rfl ?_
    refine wx_iload rfl (e := 69) rfl rfl ?_
    refine wn_iast rfl (e := 70) rfl rfl (by decide) (by omega) (by decide) ?_
    have R4a := R4.mv e (nI (chN r f))
    refine wx_aload_n rfl (e := 71) rfl rfl ?_
    refine wx_getr rfl (e := 74) rfl rfl rfl ?_
    refine wx_bipush (v := (nI 6)) rfl (e := 76) rfl (by decide) ?_
    refine wx_iload_n rfl (e := 77) rfl rfl ?_
    refine wn_iadd rfl (e := 78) rfl ?_
    refine wx_iload rfl (e := 80) rfl rfl ?_
    refine wn_iast rfl (e := 81) rfl rfl (by decide) (by omega) (by decide) ?_
    have R4b := R4a.mv f (nI (chN r e))
    have hx : mvS (mvS r e (nI (chN r f))) f (nI (chN r e)) = xcS r e f := by unfold xcS; rw [hre, hrf]
    rw [hx] at R4b
    refine wx_aload_n rfl (e := 82) rfl rfl ?_
    refine wx_iload_n rfl (e := 83) rfl rfl ?_
    refine wx_cv1 (mc := 0) (ms := 0) rfl (e := 86) rfl rfl (Nat.le_of_ble_eq_true rfl) ⟨by decide, by decide⟩ ?_
    refine c_X11_yearsGo (((fmy.w1 _ _).tr (fmy.w1 _ _)).T T4) R4b (mv_rest hf (mv_rest he hL.2.1)) (by omega) (fun I5 f5 R5 => ?_)
    have F5 := ((fmy.w1 (I := I4) (6 + e) (nI (chN r f))).tr (fmy.w1 (6 + f) (nI (chN r e)))).tr f5
    rw [show wr (wr I4 91 (6 + e) (nI (chN r f))) 91 (6 + f) (nI (chN r e)) 55 54 = tS T from (congrFun (wr_other _ _ _ _ (by decide)) 54).trans ((congrFun (wr_other _ _ _ _ (by decide)) 54).trans h54)] at R5
    have N5 := F5.q.N N4
    have FF := (f2.tr f3).tr (f4.tr F5.q)
    have R5 : MR I5 (yaS T (xcS r e f) n) := R5
    refine wx_aload_n rfl (e := 87) rfl rfl ?_
    refine wx_getr rfl (e := 90) rfl rfl rfl ?_
    refine wx_bipush (v := (nI 18)) rfl (e := 92) rfl (by decide) ?_
    refine wx_iload rfl (e := 94) rfl rfl ?_
    refine wn_iadd rfl (e := 95) rfl ?_
    refine wn_iald rfl (e := 96) rfl rfl (by omega) (by decide) ?_
    rw [R5 _ (by omega)]
    refine wx_aload_n rfl (e := 97) rfl rfl ?_
    refine wx_getr rfl (e := 100) rfl rfl rfl ?_
    refine wx_bipush (v := (nI 18)) rfl (e := 102) rfl (by decide) ?_
    refine wx_iload rfl (e := 104) rfl rfl ?_
    refine wn_iadd rfl (e := 105) rfl ?_
    refine wn_iald rfl (e := 106) rfl rfl (by omega) (by decide) ?_
    rw [N5 _ (by omega)]
    refine wx_isub rfl (e := 107) rfl ?_
    refine wx_iload rfl (e := 109) rfl rfl ?_
    refine wx_ic_le rfl (e := 112) rfl (fun c_109 => ?_) (fun c_109 => ?_)
    · refine wx_iconst (v := (nI 0)) rfl (e := 143) rfl (by decide) ?_
      refine wx_iret rfl rfl rfl ⟨by decide, by decide⟩ ?_
      have hG : bgn T r n e f = false := by
        unfold bgn; rw [decide_eq_false_iff_not]; intro z; exact absurd c_109 (Int32.not_le.mpr ((bart hM.2.1 hb h0 (by omega) (by omega) (xk (18 + chN r e) (by omega)) (by omega)).mp z.2.1))
      rw [hG] at hq
      exact hq _ FF
    · refine wx_aload_n rfl (e := 113) rfl rfl ?_
      refine wx_getr rfl (e := 116) rfl rfl rfl ?_
      refine wx_bipush (v := (nI 18)) rfl (e := 118) rfl (by decide) ?_
      refine wx_iload rfl (e := 120) rfl rfl ?_
      refine wn_iadd rfl (e := 121) rfl ?_
      refine wn_iald rfl (e := 122) rfl rfl (by omega) (by decide) ?_
      rw [R5 _ (by omega)]
      refine wx_aload_n rfl (e := 123) rfl rfl ?_
      refine wx_getr rfl (e := 126) rfl rfl rfl ?_
      refine wx_bipush (v := (nI 18)) rfl (e := 128) rfl (by decide) ?_
      refine wx_iload rfl (e := 130) rfl rfl ?_
      refine wn_iadd rfl (e := 131) rfl ?_
      refine wn_iald rfl (e := 132) rfl rfl (by omega) (by decide) ?_
      rw [N5 _ (by omega)]
      refine wx_isub rfl (e := 133) rfl ?_
      refine wx_iload rfl (e := 135) rfl rfl ?_
      refine wx_ic_le rfl (e := 138) rfl (fun c_135 => ?_) (fun c_135 => ?_)
      · refine wx_iconst (v := (nI 0)) rfl (e := 143) rfl (by decide) ?_
        refine wx_iret rfl rfl rfl ⟨by decide, by decide⟩ ?_
        have hG : bgn T r n e f = false := by
          unfold bgn; rw [decide_eq_false_iff_not]; intro z; exact absurd c_135 (Int32.not_le.mpr ((bart hM.2.1 hb h0 (by omega) (by omega) (xk (18 + chN r f) (by omega)) (by omega)).mp z.2.2))
        rw [hG] at hq
        exact hq _ FF
      · refine wx_iconst (v := (nI 1)) rfl (e := 139) rfl (by decide) ?_
        refine wx_goto rfl ?_
        refine wx_iret rfl rfl rfl ⟨by decide, by decide⟩ ?_
        have hG : bgn T r n e f = true := by
          unfold bgn; rw [decide_eq_true_iff]; exact ⟨by rw [hre, hrf]; intro z; exact c_26 ((nI6 (by omega) (by omega)).mp z), (bart hM.2.1 hb h0 (by omega) (by omega) (xk (18 + chN r e) (by omega)) (by omega)).mpr (Int32.not_le.mp c_109), (bart hM.2.1 hb h0 (by omega) (by omega) (xk (18 + chN r f) (by omega)) (by omega)).mpr (Int32.not_le.mp c_135)⟩
        rw [hG] at hq
        exact hq _ FF
  · refine wx_iconst (v := (nI 0)) rfl (e := 30) rfl (by decide) ?_
    refine wx_iret rfl rfl rfl ⟨by decide, by decide⟩ ?_
    have hG : bgn T r n e f = false := by
      unfold bgn; rw [decide_eq_false_iff_not]; intro z; exact z.1 (by rw [hre, hrf, c_26])
    rw [hG] at hq
    exact hq I fmq.rf
theorem c_X11_rowOdds {d : Nat} {h : ab_H} {Q : ab_Q} {w n k : Nat} (hw : w ≤ 100) (hn : n ≤ 4) (hk : k ≤ 4) (hq : Q (some (.int (nI (rwN w k n)))) h) : ab_call ab_MT (d + 1) 284 [.int (nI w), .int (nI n), .int (nI k)] h 0 0 Q := by
  have loop : ∀ (m : Nat) (i : Nat), i ≤ n → n - i < m → WP d mX11_rowOdds Q 5 [some (.int (nI w)), some (.int (nI n)), some (.int (nI k)), some (.int (nI (rwN w k i))), some (.int (nI i))] [] h 0 0 := by
    intro m
    induction m with
    | zero => intro i hi hm; omega
    | succ m ih =>
      intro i hi hm
      refine wx_iload rfl (e := 7) rfl rfl ?_
      refine wx_iload_n rfl (e := 8) rfl rfl ?_
      refine wn_ic_ge rfl (e := 11) rfl (by omega) (by omega) (fun c_8 => ?_) (fun c_8 => ?_)
      · refine wx_iload_n rfl (e := 35) rfl rfl ?_
        refine wx_iret rfl rfl rfl ⟨by decide, by decide⟩ ?_
        have ei : i = n := by omega
        subst ei
        exact hq
      · refine wx_iload_n rfl (e := 12) rfl rfl ?_
        refine wx_iload rfl (e := 14) rfl rfl ?_
        refine wx_iload_n rfl (e := 15) rfl rfl ?_
        refine wn_ic_ge rfl (e := 18) rfl (by omega) (by omega) (fun c_15 => ?_) (fun c_15 => ?_)
        · have hG : rwN w k (i + 1) = rwN w k i * (100 - w) := by rw [rwN, if_neg (by omega)]
          refine wx_bipush (v := (nI 100)) rfl (e := 24) rfl (by decide) ?_
          refine wx_iload_n rfl (e := 25) rfl rfl ?_
          refine wn_isub rfl (e := 26) rfl (by omega) ?_
          refine wn_imul rfl (e := 27) rfl ?_
          refine wx_istore_n (L2 := [_, _, _, _, _]) rfl (e := 28) rfl (by decide) rfl ?_
          refine wn_iinc (m := 1) (L2 := [_, _, _, _, _]) rfl (e := 31) rfl rfl (by decide) rfl ?_
          refine wx_goto rfl ?_
          have hh := ih (i + 1) (by omega) (by omega)
          rw [hG] at hh
          exact hh
        · have hG : rwN w k (i + 1) = rwN w k i * w := by rw [rwN, if_pos (by omega)]
          refine wx_iload_n rfl (e := 19) rfl rfl ?_
          refine wx_goto rfl ?_
          refine wn_imul rfl (e := 27) rfl ?_
          refine wx_istore_n (L2 := [_, _, _, _, _]) rfl (e := 28) rfl (by decide) rfl ?_
          refine wn_iinc (m := 1) (L2 := [_, _, _, _, _]) rfl (e := 31) rfl rfl (by decide) rfl ?_
          refine wx_goto rfl ?_
          have hh := ih (i + 1) (by omega) (by omega)
          rw [hG] at hh
          exact hh
  refine wx_in (M := mX11_rowOdds) rfl rfl rfl (Nat.le_of_ble_eq_true rfl) ?_
  refine wx_iconst (v := (nI 1)) rfl (e := 1) rfl (by decide) ?_
  refine wx_istore_n (L2 := [_, _, _, _, _]) rfl (e := 2) rfl (by decide) rfl ?_
  refine wx_iconst (v := (nI 0)) rfl (e := 3) rfl (by decide) ?_
  refine wx_istore (L2 := [_, _, _, _, _]) rfl (e := 5) rfl (by decide) rfl ?_
  exact loop (n + 1) 0 (by omega) (by omega)

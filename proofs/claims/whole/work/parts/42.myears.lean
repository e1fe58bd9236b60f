/-! the model: years -/
/-- but for what the laws work with, the row and what years write -/
def fmy (I I2 : Nat → Nat → Int32) : Prop := (∀ q, q ≠ 55 → q ≠ 87 → q ≠ 88 → q ≠ 91 → q ≠ 92 → q ≠ 93 → I2 q = I q) ∧ ∀ k, k ≠ 50 → I2 55 k = I 55 k
theorem fmy.rf {I : Nat → Nat → Int32} : fmy I I := ⟨fun _ _ _ _ _ _ _ => rfl, fun _ _ => rfl⟩
theorem fmy.tr {I I2 I3 : Nat → Nat → Int32} (h1 : fmy I I2) (h2 : fmy I2 I3) : fmy I I3 := ⟨fun q a b c d e f => (h2.1 q a b c d e f).trans (h1.1 q a b c d e f), fun k a => (h2.2 k a).trans (h1.2 k a)⟩
theorem fmy.T {I I2 : Nat → Nat → Int32} {lv : Nat} {T : tx} (h : fmy I I2) (hT : MT lv I T) : MT lv I2 T := hT.kept (fun q hq => h.1 q (by omega) (by omega) (by omega) (by omega) (by omega) (by omega)) (h.2 18 (by decide))
theorem fml.y {I I2 : Nat → Nat → Int32} (h : fml I I2) : fmy I I2 := ⟨fun q a b c _ _ _ => h.1 q a b c, h.2⟩
theorem fmy.w1 {I : Nat → Nat → Int32} (j : Nat) (v : Int32) : fmy I (wr I 91 j v) := ⟨fun q _ _ _ a _ _ => wr_other _ _ _ _ a, fun k _ => by rw [wr_other _ _ _ _ (by decide)]⟩
theorem fmy.w2 {I : Nat → Nat → Int32} (j : Nat) (v : Int32) : fmy I (wr I 92 j v) := ⟨fun q _ _ _ _ a _ => wr_other _ _ _ _ a, fun k _ => by rw [wr_other _ _ _ _ (by decide)]⟩
theorem fmy.w3 {I : Nat → Nat → Int32} (j : Nat) (v : Int32) : fmy I (wr I 93 j v) := ⟨fun q _ _ _ _ _ a => wr_other _ _ _ _ a, fun k _ => by rw [wr_other _ _ _ _ (by decide)]⟩
theorem MR.up {I : Nat → Nat → Int32} {r : rw_} (h : MR I r) (k : Nat) (v : Int32) : MR (wr I 91 k (I 91 k + v)) (up1 r k v) := by
  intro j hj
  rw [wr_at, if_pos rfl]
  unfold up1
  by_cases z : j = k
  · rw [if_pos z, if_pos z, ← z, h j hj]
  · rw [if_neg z, if_neg z]; exact h j hj
theorem tb6 : ∀ e, e < 6 → ∀ w, w < 2 ^ e → ∀ j, j < 6 → (w + 2 ^ e).testBit j = (if j = e then true else w.testBit j) := by decide +kernel
theorem visL_R {T : tx} {sd : Int32} {a c : Nat} {r : rw_} (hc : c < 6) (ha : a < 5) (hR : tR T ≤ 6) (hr : ∀ e, tR T ≤ e → e < 6 → r (6 + e) = -1) : visL T sd a c r 6 = visL T sd a c r (tR T) := by
  have key : ∀ n, tR T + n ≤ 6 → visL T sd a c r (tR T + n) = visL T sd a c r (tR T) := by
    intro n
    induction n with
    | zero => intro _; rfl
    | succ n ih =>
      intro h
      rw [show tR T + (n + 1) = tR T + n + 1 by omega, visL, if_neg]
      · exact ih (by omega)
      · intro z
        have z1 := z.1
        rw [visL_pos12 T sd a c r (by omega), hr _ (by omega) (by omega)] at z1
        exact nI_m1 hc z1
  have := key (6 - tR T) (by omega)
  rwa [show tR T + (6 - tR T) = 6 by omega] at this
theorem visL_46 (T : tx) (sd : Int32) (a c : Nat) (r : rw_) (hc : c < 6) (ha : a < 5) : ∀ e, e ≤ 6 → (visL T sd a c r e).1 46 = r 46 := fun e he => visL_pos T sd a c r e 46 (Or.inr rfl) hc he ha
set_option maxHeartbeats 2000000 in
theorem c_X11_pilgrimGoes {d Lx t rt u : Nat} {I : Nat → Nat → Int32} {G : Nat → Nat → Int64} {Q : ab_Q} {lv : Nat} {T : tx} (hM : MT lv I T) {r : rw_} (hR : MR I r) (hr : ∀ e, tR T ≤ e → e < 6 → r (6 + e) = -1) {a c : Nat} (ha : a < tP T) (hc : c < tC T) (h93 : ∀ j, j < 6 → I 93 (6 * a + j) = nI 0) (hq : ∀ I2, fmy I I2 → MR I2 (visR T (I 55 54) a c r) → (∀ j, j < 6 → I2 93 (6 * a + j) = b1 ((visW T (I 55 54) a c r).testBit j)) → (∀ k, k < 6 * a ∨ 6 * a + 6 ≤ k → I2 93 k = I 93 k) → I2 92 = I 92 → Q none (hp Lx t rt u I2 G)) : ab_call ab_MT (d + 5) 242 [.ref 55, .int (nI a), .int (nI c)] (hp Lx t rt u I G) 0 0 Q := by
  obtain ⟨hlv, ⟨hC6, hR6, hP5, hH, hTf, hFn, hLx⟩, m18, m65, m69, m72, m76, m71, m89, m73, mL⟩ := id hM
  have tail : ∀ (I2 : Nat → Nat → Int32) (e : Nat), fmy I I2 → MR I2 (visL T (I 55 54) a c r 6).1 → (∀ j, j < 6 → I2 93 (6 * a + j) = b1 ((visL T (I 55 54) a c r 6).2.testBit j)) → (∀ k, k < 6 * a ∨ 6 * a + 6 ≤ k → I2 93 k = I 93 k) → I2 92 = I 92 → WP (d + 4) mX11_pilgrimGoes Q 118 [some (.ref 55), some (.int (nI a)), some (.int (nI c)), some (.int (nI e))] [] (hp Lx t rt u I2 G) 0 0 := by
    intro I2 e f2 R2 w2 o2 k2
    refine wx_aload_n rfl (e := 119) rfl rfl ?_
    refine wx_iload_n rfl (e := 120) rfl rfl ?_
    refine wx_iload_n rfl (e := 121) rfl rfl ?_
    refine wx_cv2 (mc := 0) (ms := 0) rfl (e := 124) rfl rfl (Nat.le_of_ble_eq_true rfl) ⟨by decide, by decide⟩ ?_
    refine c_X11_givesOf (f2.T hM) R2 (fun j h1 h2 => by rw [visL_pos12 T _ a c r (by omega)]; exact hr j h1 h2) ha hc (fun I3 f3 => ?_)
    have R3 := f3.R R2
    refine wx_istore_n (L2 := [_, _, _, _]) rfl (e := 125) rfl (by decide) rfl ?_
    refine wx_aload_n rfl (e := 126) rfl rfl ?_
    refine wx_getr rfl (e := 129) rfl rfl rfl ?_
    refine wx_bipush (v := (nI 18)) rfl (e := 131) rfl (by decide) ?_
    refine wx_iload_n rfl (e := 132) rfl rfl ?_
    refine wn_iadd rfl (e := 133) rfl ?_
    refine wx_dup2 rfl (e := 134) rfl ⟨rfl, rfl⟩ ?_
    refine wn_iald rfl (e := 135) rfl rfl (by omega) (by decide) ?_
    refine wx_iload_n rfl (e := 136) rfl rfl ?_
    refine wx_iadd rfl (e := 137) rfl ?_
    refine wn_iast rfl (e := 138) rfl rfl (by decide) (by omega) (by decide) ?_
    refine wx_aload_n rfl (e := 139) rfl rfl ?_
    refine wx_getr rfl (e := 142) rfl rfl rfl ?_
    refine wx_bipush (v := (nI 36)) rfl (e := 144) rfl (by decide) ?_
    refine wx_iload_n rfl (e := 145) rfl rfl ?_
    refine wn_iadd rfl (e := 146) rfl ?_
    refine wx_dup2 rfl (e := 147) rfl ⟨rfl, rfl⟩ ?_
    refine wn_iald rfl (e := 148) rfl rfl (by omega) (by decide) ?_
    refine wx_iload_n rfl (e := 149) rfl rfl ?_
    refine wx_iadd rfl (e := 150) rfl ?_
    refine wn_iast rfl (e := 151) rfl rfl (by decide) (by omega) (by decide) ?_
    refine wx_ret rfl rfl ⟨by decide, by decide⟩ ?_
    exact hq _ (f2.tr (f3.y.tr ((fmy.w1 _ _).tr (fmy.w1 _ _)))) ((R3.up (18 + c) _).up (36 + a) _) (fun j hj => by rw [wr_other _ _ _ _ (by decide), wr_other _ _ _ _ (by decide), f3.1 93 (by decide) (by decide) (by decide)]; exact w2 j hj) (fun k hk => by rw [wr_other _ _ _ _ (by decide), wr_other _ _ _ _ (by decide), f3.1 93 (by decide) (by decide) (by decide)]; exact o2 k hk) (by rw [wr_other _ _ _ _ (by decide), wr_other _ _ _ _ (by decide), f3.1 92 (by decide) (by decide) (by decide)]; exact k2)
  have loop : ∀ (n : Nat) (e : Nat) (I2 : Nat → Nat → Int32), e ≤ tR T → tR T - e < n → fmy I I2 → MR I2 (visL T (I 55 54) a c r e).1 → (∀ j, j < 6 → I2 93 (6 * a + j) = b1 ((visL T (I 55 54) a c r e).2.testBit j)) → (∀ k, k < 6 * a ∨ 6 * a + 6 ≤ k → I2 93 k = I 93 k) → I2 92 = I 92 → WP (d + 4) mX11_pilgrimGoes Q 2 [some (.ref 55), some (.int (nI a)), some (.int (nI c)), some (.int (nI e))] [] (hp Lx t rt u I2 G) 0 0 := by
    intro n
    induction n with
    | zero => intro e I2 hi hn f2 R2 w2 o2 k2; omega
    | succ n ih =>
      intro e I2 hi hn f2 R2 w2 o2 k2
      refine wx_iload_n rfl (e := 3) rfl rfl ?_
      refine wx_aload_n rfl (e := 4) rfl rfl ?_
      refine wx_getr rfl (e := 7) rfl rfl rfl ?_
      refine wx_aload_n rfl (e := 8) rfl rfl ?_
      refine wx_geti rfl (e := 11) rfl rfl ?_
      rw [f2.2 18 (by decide), m18]
      refine wn_iald rfl (e := 12) rfl rfl (by omega) (by decide) ?_
      rw [f2.1 69 (by decide) (by decide) (by decide) (by decide) (by decide) (by decide), m69]
      refine wn_ic_ge rfl (e := 15) rfl (by omega) (by omega) (fun c_12 => ?_) (fun c_12 => ?_)
      · have ee : e = tR T := by omega
        subst ee
        rw [← visL_R (by omega) (by omega) hR6 hr] at R2 w2
        exact tail I2 _ f2 R2 w2 o2 k2
      · refine wx_aload_n rfl (e := 16) rfl rfl ?_
        refine wx_getr rfl (e := 19) rfl rfl rfl ?_
        refine wx_bipush (v := (nI 6)) rfl (e := 21) rfl (by decide) ?_
        refine wx_iload_n rfl (e := 22) rfl rfl ?_
        refine wn_iadd rfl (e := 23) rfl ?_
        refine wn_iald rfl (e := 24) rfl rfl (by omega) (by decide) ?_
        rw [R2 _ (by omega)]
        refine wx_iload_n rfl (e := 25) rfl rfl ?_
        refine wx_ic_ne rfl (e := 28) rfl (fun c_25 => ?_) (fun c_25 => ?_)
        · have hG : visL T (I 55 54) a c r (e + 1) = (visL T (I 55 54) a c r e) := by rw [visL, if_neg (fun z => c_25 z.1)]
          refine wn_iinc (m := 1) (L2 := [_, _, _, _]) rfl (e := 115) rfl rfl (by decide) rfl ?_
          refine wx_goto rfl ?_
          have hh := ih (e + 1) I2 (by omega) (by omega) f2
          rw [hG] at hh
          exact hh R2 w2 o2 k2
        · refine wx_aload_n rfl (e := 29) rfl rfl ?_
          refine wx_bipush (v := (nI 64)) rfl (e := 31) rfl (by decide) ?_
          refine wx_aload_n rfl (e := 32) rfl rfl ?_
          refine wx_getr rfl (e := 35) rfl rfl rfl ?_
          refine wx_bipush (v := (nI 46)) rfl (e := 37) rfl (by decide) ?_
          refine wn_iald rfl (e := 38) rfl rfl (by omega) (by decide) ?_
          rw [R2 _ (by omega)]
          refine wx_imul rfl (e := 39) rfl ?_
          refine wx_bipush (v := (nI 8)) rfl (e := 41) rfl (by decide) ?_
          refine wx_iload_n rfl (e := 42) rfl rfl ?_
          refine wn_imul rfl (e := 43) rfl ?_
          refine wx_iadd rfl (e := 44) rfl ?_
          refine wx_iload_n rfl (e := 45) rfl rfl ?_
          refine wx_iadd rfl (e := 46) rfl ?_
          refine wx_cv1 (mc := 0) (ms := 0) rfl (e := 49) rfl rfl (Nat.le_of_ble_eq_true rfl) ⟨by decide, by decide⟩ ?_
          refine c_X11_lotOf ?_
          rw [f2.2 54 (by decide)]
          refine wx_aload_n rfl (e := 50) rfl rfl ?_
          refine wx_iload_n rfl (e := 51) rfl rfl ?_
          refine wx_iload_n rfl (e := 52) rfl rfl ?_
          refine wx_cv2 (mc := 0) (ms := 0) rfl (e := 55) rfl rfl (Nat.le_of_ble_eq_true rfl) ⟨by decide, by decide⟩ ?_
          refine c_X11_healsOf (f2.T hM) R2 (fun j h1 h2 => by rw [visL_pos12 T _ a c r (by omega)]; exact hr j h1 h2) (by omega) ha hc c_25 (fun I3 f3 => ?_)
          have R3 := f3.R R2
          have F3 := f2.tr f3.y
          have w3 := fun j (hj : j < 6) => (congrFun (f3.1 93 (by decide) (by decide) (by decide)) (6 * a + j)).trans (w2 j hj)
          have o3 := fun k hk => (congrFun (f3.1 93 (by decide) (by decide) (by decide)) k).trans (o2 k hk)
          refine wx_ic_lt rfl (e := 58) rfl (fun c_55 => ?_) (fun c_55 => ?_)
          · have hG : visL T (I 55 54) a c r (e + 1) = (up1 (up1 (up1 (visL T (I 55 54) a c r e).1 (12 + c) (nI 1)) (24 + e) (nI 1)) (41 + a) (nI 1), (visL T (I 55 54) a c r e).2 + 2 ^ e) := by rw [visL, if_pos ⟨c_25, c_55⟩]
            refine wx_aload_n rfl (e := 62) rfl rfl ?_
            refine wx_getr rfl (e := 65) rfl rfl rfl ?_
            refine wx_bipush (v := (nI 6)) rfl (e := 67) rfl (by decide) ?_
            refine wx_iload_n rfl (e := 68) rfl rfl ?_
            refine wn_imul rfl (e := 69) rfl ?_
            refine wx_iload_n rfl (e := 70) rfl rfl ?_
            refine wn_iadd rfl (e := 71) rfl ?_
            refine wx_iconst (v := (nI 1)) rfl (e := 72) rfl (by decide) ?_
            refine wn_zast rfl (e := 73) rfl rfl (by decide) (by omega) (by decide) ?_
            refine wx_aload_n rfl (e := 74) rfl rfl ?_
            refine wx_getr rfl (e := 77) rfl rfl rfl ?_
            refine wx_bipush (v := (nI 12)) rfl (e := 79) rfl (by decide) ?_
            refine wx_iload_n rfl (e := 80) rfl rfl ?_
            refine wn_iadd rfl (e := 81) rfl ?_
            refine wx_dup2 rfl (e := 82) rfl ⟨rfl, rfl⟩ ?_
            refine wn_iald rfl (e := 83) rfl rfl (by omega) (by decide) ?_
            refine wx_iconst (v := (nI 1)) rfl (e := 84) rfl (by decide) ?_
            refine wx_iadd rfl (e := 85) rfl ?_
            refine wn_iast rfl (e := 86) rfl rfl (by decide) (by omega) (by decide) ?_
            refine wx_aload_n rfl (e := 87) rfl rfl ?_
            refine wx_getr rfl (e := 90) rfl rfl rfl ?_
            refine wx_bipush (v := (nI 24)) rfl (e := 92) rfl (by decide) ?_
            refine wx_iload_n rfl (e := 93) rfl rfl ?_
            refine wn_iadd rfl (e := 94) rfl ?_
            refine wx_dup2 rfl (e := 95) rfl ⟨rfl, rfl⟩ ?_
            refine wn_iald rfl (e := 96) rfl rfl (by omega) (by decide) ?_
            refine wx_iconst (v := (nI 1)) rfl (e := 97) rfl (by decide) ?_
            refine wx_iadd rfl (e := 98) rfl ?_
            refine wn_iast rfl (e := 99) rfl rfl (by decide) (by omega) (by decide) ?_
            refine wx_aload_n rfl (e := 100) rfl rfl ?_
            refine wx_getr rfl (e := 103) rfl rfl rfl ?_
            refine wx_bipush (v := (nI 41)) rfl (e := 105) rfl (by decide) ?_
            refine wx_iload_n rfl (e := 106) rfl rfl ?_
            refine wn_iadd rfl (e := 107) rfl ?_
            refine wx_dup2 rfl (e := 108) rfl ⟨rfl, rfl⟩ ?_
            refine wn_iald rfl (e := 109) rfl rfl (by omega) (by decide) ?_
            refine wx_iconst (v := (nI 1)) rfl (e := 110) rfl (by decide) ?_
            refine wx_iadd rfl (e := 111) rfl ?_
            refine wn_iast rfl (e := 112) rfl rfl (by decide) (by omega) (by decide) ?_
            refine wn_iinc (m := 1) (L2 := [_, _, _, _]) rfl (e := 115) rfl rfl (by decide) rfl ?_
            refine wx_goto rfl ?_
            have hh := fun I4 => ih (e + 1) I4 (by omega) (by omega)
            rw [hG] at hh
            have R4 := ((((R3.kept (I2 := wr I3 93 (6 * a + e) (vp_nar .boolean (nI 1))) (wr_other _ _ _ _ (by decide))).up (12 + c) (nI 1)).up (24 + e) (nI 1)).up (41 + a) (nI 1))
            refine hh _ (F3.tr ((fmy.w3 _ _).tr ((fmy.w1 _ _).tr ((fmy.w1 _ _).tr (fmy.w1 _ _))))) R4 (fun j hj => ?_) (fun k hk => ?_) (by rw [wr_other _ _ _ _ (by decide), wr_other _ _ _ _ (by decide), wr_other _ _ _ _ (by decide), wr_other _ _ _ _ (by decide), f3.1 92 (by decide) (by decide) (by decide)]; exact k2)
            · rw [wr_other _ _ _ _ (by decide), wr_other _ _ _ _ (by decide), wr_other _ _ _ _ (by decide), tb6 e (by omega) _ (visL_lt _ _ _ _ _ e) j hj]
              by_cases z : j = e
              · rw [z, wr_eq, if_pos rfl]; rfl
              · rw [wr_ne _ _ _ _ (by omega), if_neg z]; exact w3 j hj
            · rw [wr_other _ _ _ _ (by decide), wr_other _ _ _ _ (by decide), wr_other _ _ _ _ (by decide), wr_ne _ _ _ _ (by omega)]; exact o3 k hk
          · have hG : visL T (I 55 54) a c r (e + 1) = (visL T (I 55 54) a c r e) := by rw [visL, if_neg (fun z => c_55 z.2)]
            refine wx_goto rfl ?_
            refine wn_iinc (m := 1) (L2 := [_, _, _, _]) rfl (e := 115) rfl rfl (by decide) rfl ?_
            refine wx_goto rfl ?_
            have hh := ih (e + 1) I3 (by omega) (by omega) F3
            rw [hG] at hh
            exact hh R3 w3 o3 ((f3.1 92 (by decide) (by decide) (by decide)).trans k2)
  refine wx_in (M := mX11_pilgrimGoes) rfl rfl rfl (Nat.le_of_ble_eq_true rfl) ?_
  refine wx_iconst (v := (nI 0)) rfl (e := 1) rfl (by decide) ?_
  refine wx_istore_n (L2 := [_, _, _, _]) rfl (e := 2) rfl (by decide) rfl ?_
  exact loop (tR T + 1) 0 I (by omega) (by omega) fmy.rf hR (fun j hj => by rw [h93 j hj]; show nI 0 = b1 (Nat.testBit 0 j); rw [Nat.zero_testBit]; rfl) (fun _ _ => rfl) rfl
theorem yrL_P {T : tx} {sd : Int32} {r : rw_} (hP : tP T ≤ 5) : yrL T sd r 5 = ((yrL T sd r (tP T)).1, fun j => if j < tP T then (yrL T sd r (tP T)).2 j else 0) := by
  have out : ∀ a j, a ≤ j → (yrL T sd r a).2 j = 0 := by
    intro a
    induction a with
    | zero => intro j _; rfl
    | succ a ih =>
      intro j hj
      rw [yrL]
      split
      · show (if j = a then 0 else _) = 0
        rw [if_neg (by omega)]; exact ih j (by omega)
      · show (if j = a then _ else _) = 0
        rw [if_neg (by omega)]; exact ih j (by omega)
  have key : ∀ n, (yrL T sd r (tP T + n)).1 = (yrL T sd r (tP T)).1 ∧ ∀ j, (yrL T sd r (tP T + n)).2 j = if j < tP T then (yrL T sd r (tP T)).2 j else 0 := by
    intro n
    induction n with
    | zero =>
      refine ⟨rfl, fun j => ?_⟩
      split
      · rfl
      · exact out _ _ (by omega)
    | succ n ih =>
      have hg : glS T r (tP T + n) < nI 0 := by unfold glS; rw [if_neg (by omega)]; decide
      rw [show tP T + (n + 1) = tP T + n + 1 by omega, yrL, if_pos hg]
      refine ⟨ih.1, fun j => ?_⟩
      show (if j = tP T + n then 0 else (yrL T sd r (tP T + n)).2 j) = _
      by_cases z : j = tP T + n
      · rw [if_pos z, if_neg (by omega)]
      · rw [if_neg z]; exact ih.2 j
  have h := key (5 - tP T)
  rw [show tP T + (5 - tP T) = 5 by omega] at h
  exact Prod.ext h.1 (funext h.2)
set_option maxHeartbeats 2000000 in
theorem c_X11_yearGoes {d Lx t rt u : Nat} {I : Nat → Nat → Int32} {G : Nat → Nat → Int64} {Q : ab_Q} {lv : Nat} {T : tx} (hM : MT lv I T) {r : rw_} (hR : MR I r) (hr : ∀ e, tR T ≤ e → e < 6 → r (6 + e) = -1) (hq : ∀ I2, fmy I I2 → MR I2 (yrS T (I 55 54) r) → (∀ j, j < 5 → ∀ e, e < 6 → I2 93 (6 * j + e) = b1 ((yrW T (I 55 54) r j).testBit e)) → Q none (hp Lx t rt u I2 G)) : ab_call ab_MT (d + 6) 243 [.ref 55] (hp Lx t rt u I G) 0 0 Q := by
  obtain ⟨hlv, ⟨hC6, hR6, hP5, hH, hTf, hFn, hLx⟩, m18, m65, m69, m72, m76, m71, m89, m73, mL⟩ := id hM
  have loop3 : ∀ (n : Nat) (a : Nat) (I2 : Nat → Nat → Int32), a ≤ tP T → tP T - a < n → fmy I I2 → MR I2 (yrL T (I 55 54) r a).1 → (∀ j, j < tP T → I2 92 j = goalS T r j) → (∀ j, j < 5 → ∀ e, e < 6 → I2 93 (6 * j + e) = b1 ((if j < a then (yrL T (I 55 54) r a).2 j else 0).testBit e)) → WP (d + 5) mX11_yearGoes Q 55 [some (.ref 55), some (.int (nI a))] [] (hp Lx t rt u I2 G) 0 0 := by
    intro n
    induction n with
    | zero => intro a I2 hi hn f2 R2 g2 w2; omega
    | succ n ih =>
      intro a I2 hi hn f2 R2 g2 w2
      refine wx_iload_n rfl (e := 56) rfl rfl ?_
      refine wx_aload_n rfl (e := 57) rfl rfl ?_
      refine wx_getr rfl (e := 60) rfl rfl rfl ?_
      refine wx_aload_n rfl (e := 61) rfl rfl ?_
      refine wx_geti rfl (e := 64) rfl rfl ?_
      rw [f2.2 18 (by decide), m18]
      refine wn_iald rfl (e := 65) rfl rfl (by omega) (by decide) ?_
      rw [f2.1 72 (by decide) (by decide) (by decide) (by decide) (by decide) (by decide), m72]
      refine wn_ic_ge rfl (e := 68) rfl (by omega) (by omega) (fun c_65 => ?_) (fun c_65 => ?_)
      · refine wx_aload_n rfl (e := 95) rfl rfl ?_
        refine wx_getr rfl (e := 98) rfl rfl rfl ?_
        refine wx_bipush (v := (nI 46)) rfl (e := 100) rfl (by decide) ?_
        refine wx_dup2 rfl (e := 101) rfl ⟨rfl, rfl⟩ ?_
        refine wn_iald rfl (e := 102) rfl rfl (by omega) (by decide) ?_
        refine wx_iconst (v := (nI 1)) rfl (e := 103) rfl (by decide) ?_
        refine wx_iadd rfl (e := 104) rfl ?_
        refine wn_iast rfl (e := 105) rfl rfl (by decide) (by omega) (by decide) ?_
        refine wx_ret rfl rfl ⟨by decide, by decide⟩ ?_
        have ea : a = tP T := by omega
        subst ea
        refine hq _ (f2.tr (fmy.w1 _ _)) ?_ (fun j hj e he => ?_)
        · have := R2.up 46 (nI 1)
          unfold yrS
          rw [yrL_P hP5]
          exact this
        · rw [wr_other _ _ _ _ (by decide), w2 j hj e he]
          unfold yrW
          rw [yrL_P hP5]
      · refine wx_aload_n rfl (e := 69) rfl rfl ?_
        refine wx_getr rfl (e := 72) rfl rfl rfl ?_
        refine wx_iload_n rfl (e := 73) rfl rfl ?_
        refine wn_iald rfl (e := 74) rfl rfl (by omega) (by decide) ?_
        rw [g2 a (by omega)]
        refine wx_if_lt rfl (e := 77) rfl (fun c_74 => ?_) (fun c_74 => ?_)
        · rw [← nI_0] at c_74
          have hgl : glS T r a = goalS T r a := by unfold glS; rw [if_pos (by omega)]
          have hG : yrL T (I 55 54) r (a + 1) = ((yrL T (I 55 54) r a).1, fun j => if j = a then 0 else (yrL T (I 55 54) r a).2 j) := by rw [yrL, if_pos (by rw [hgl]; exact c_74)]
          refine wn_iinc (m := 1) (L2 := [_, _]) rfl (e := 91) rfl rfl (by decide) rfl ?_
          refine wx_goto rfl ?_
          have hh := ih (a + 1) I2 (by omega) (by omega) f2
          rw [hG] at hh
          refine hh R2 g2 (fun j hj e he => ?_)
          rw [w2 j hj e he]
          by_cases z : j = a
          · rw [if_neg (by omega), if_pos (by omega)]; dsimp only; rw [if_pos z]
          · dsimp only; rw [if_neg z]; by_cases z2 : j < a
            · rw [if_pos z2, if_pos (by omega)]
            · rw [if_neg z2, if_neg (by omega)]
        · rw [← nI_0] at c_74
          have hgl : glS T r a = goalS T r a := by unfold glS; rw [if_pos (by omega)]
          obtain ⟨cc, hcc, -, ecc⟩ : ∃ b, b < tC T ∧ a < tP T ∧ glS T r a = nI b := (glS_in T r a).resolve_left (fun z => by rw [← hgl, z] at c_74; exact absurd c_74 (by decide))
          have hG : yrL T (I 55 54) r (a + 1) = (visR T (I 55 54) a cc (yrL T (I 55 54) r a).1, fun j => if j = a then visW T (I 55 54) a cc (yrL T (I 55 54) r a).1 else (yrL T (I 55 54) r a).2 j) := by rw [yrL, if_neg (by rw [hgl]; exact c_74), ecc, nI_clamp (by omega)]
          rw [hgl] at ecc
          refine wx_aload_n rfl (e := 78) rfl rfl ?_
          refine wx_iload_n rfl (e := 79) rfl rfl ?_
          refine wx_aload_n rfl (e := 80) rfl rfl ?_
          refine wx_getr rfl (e := 83) rfl rfl rfl ?_
          refine wx_iload_n rfl (e := 84) rfl rfl ?_
          refine wn_iald rfl (e := 85) rfl rfl (by omega) (by decide) ?_
          rw [g2 a (by omega), ecc]
          refine wx_cv2 (mc := 0) (ms := 0) rfl (e := 88) rfl rfl (Nat.le_of_ble_eq_true rfl) ⟨by decide, by decide⟩ ?_
          have h54 := f2.2 54 (by decide)
          refine c_X11_pilgrimGoes (f2.T hM) R2 (fun e h1 h2 => by rw [yrL_pos T _ r (by omega)]; exact hr e h1 h2) (by omega) hcc (fun j hj => by rw [w2 a (by omega) j hj, if_neg (by omega), Nat.zero_testBit]; rfl) (fun I3 f3 R3 w3 o3 k92 => ?_)
          rw [h54] at R3 w3
          refine wn_iinc (m := 1) (L2 := [_, _]) rfl (e := 91) rfl rfl (by decide) rfl ?_
          refine wx_goto rfl ?_
          have hh := ih (a + 1) I3 (by omega) (by omega) (f2.tr f3)
          rw [hG] at hh
          refine hh R3 (fun j hj => ?_) (fun j hj e he => ?_)
          · rw [k92]; exact g2 j hj
          · dsimp only
            by_cases z : j = a
            · rw [z, if_pos (by omega), if_pos rfl]; exact w3 e he
            · rw [o3 _ (by omega), w2 j hj e he, if_neg z]
              by_cases z2 : j < a
              · rw [if_pos z2, if_pos (by omega)]
              · rw [if_neg z2, if_neg (by omega)]
  have go3 : ∀ (I2 : Nat → Nat → Int32) (a : Nat), fmy I I2 → MR I2 r → (∀ j, j < tP T → I2 92 j = goalS T r j) → (∀ j, j < 5 → ∀ e, e < 6 → I2 93 (6 * j + e) = nI 0) → WP (d + 5) mX11_yearGoes Q 53 [some (.ref 55), some (.int (nI a))] [] (hp Lx t rt u I2 G) 0 0 := by
    intro I2 a f2 R2 g2 w2
    refine wx_iconst (v := (nI 0)) rfl (e := 54) rfl (by decide) ?_
    refine wx_istore_n (L2 := [_, _]) rfl (e := 55) rfl (by decide) rfl ?_
    exact loop3 (tP T + 1) 0 I2 (by omega) (by omega) f2 R2 g2 (fun j hj e he => by rw [w2 j hj e he, if_neg (by omega), Nat.zero_testBit]; rfl)
  have loop2 : ∀ (n : Nat) (a : Nat) (I2 : Nat → Nat → Int32), a ≤ tP T → tP T - a < n → fmy I I2 → MR I2 r → (∀ j, j < a → I2 92 j = goalS T r j) → (∀ j, j < 5 → ∀ e, e < 6 → I2 93 (6 * j + e) = nI 0) → WP (d + 5) mX11_yearGoes Q 23 [some (.ref 55), some (.int (nI a))] [] (hp Lx t rt u I2 G) 0 0 := by
    intro n
    induction n with
    | zero => intro a I2 hi hn f2 R2 g2 w2; omega
    | succ n ih =>
      intro a I2 hi hn f2 R2 g2 w2
      refine wx_iload_n rfl (e := 24) rfl rfl ?_
      refine wx_aload_n rfl (e := 25) rfl rfl ?_
      refine wx_getr rfl (e := 28) rfl rfl rfl ?_
      refine wx_aload_n rfl (e := 29) rfl rfl ?_
      refine wx_geti rfl (e := 32) rfl rfl ?_
      rw [f2.2 18 (by decide), m18]
      refine wn_iald rfl (e := 33) rfl rfl (by omega) (by decide) ?_
      rw [f2.1 72 (by decide) (by decide) (by decide) (by decide) (by decide) (by decide), m72]
      refine wn_ic_ge rfl (e := 36) rfl (by omega) (by omega) (fun c_33 => ?_) (fun c_33 => ?_)
      · have ea : a = tP T := by omega
        subst ea
        exact go3 I2 _ f2 R2 g2 w2
      · refine wx_aload_n rfl (e := 37) rfl rfl ?_
        refine wx_getr rfl (e := 40) rfl rfl rfl ?_
        refine wx_iload_n rfl (e := 41) rfl rfl ?_
        refine wx_aload_n rfl (e := 42) rfl rfl ?_
        refine wx_iload_n rfl (e := 43) rfl rfl ?_
        refine wx_cv1 (mc := 0) (ms := 0) rfl (e := 46) rfl rfl (Nat.le_of_ble_eq_true rfl) ⟨by decide, by decide⟩ ?_
        refine c_X11_goesNow (f2.T hM) R2 hr (by omega) (fun I3 f3 => ?_)
        refine wn_iast rfl (e := 47) rfl rfl (by decide) (by omega) (by decide) ?_
        refine wn_iinc (m := 1) (L2 := [_, _]) rfl (e := 50) rfl rfl (by decide) rfl ?_
        refine wx_goto rfl ?_
        refine ih (a + 1) _ (by omega) (by omega) (f2.tr (f3.y.tr (fmy.w2 _ _))) ((f3.R R2).kept (wr_other _ _ _ _ (by decide))) (wr_ext rfl (fun j hj hne => by rw [f3.1 92 (by decide) (by decide) (by decide)]; exact g2 j (by omega))) (fun j hj e he => by rw [wr_other _ _ _ _ (by decide), f3.1 93 (by decide) (by decide) (by decide)]; exact w2 j hj e he)
  have go2 : ∀ (I2 : Nat → Nat → Int32) (a : Nat), fmy I I2 → MR I2 r → (∀ k, k < 30 → I2 93 k = nI 0) → WP (d + 5) mX11_yearGoes Q 21 [some (.ref 55), some (.int (nI a))] [] (hp Lx t rt u I2 G) 0 0 := by
    intro I2 a f2 R2 w2
    refine wx_iconst (v := (nI 0)) rfl (e := 22) rfl (by decide) ?_
    refine wx_istore_n (L2 := [_, _]) rfl (e := 23) rfl (by decide) rfl ?_
    exact loop2 (tP T + 1) 0 I2 (by omega) (by omega) f2 R2 (fun j hj => absurd hj (Nat.not_lt_zero _)) (fun j hj e he => w2 _ (by omega))
  have loop1 : ∀ (n : Nat) (a : Nat) (I2 : Nat → Nat → Int32), a ≤ 30 → 30 - a < n → fmy I I2 → MR I2 r → (∀ k, k < a → I2 93 k = nI 0) → WP (d + 5) mX11_yearGoes Q 2 [some (.ref 55), some (.int (nI a))] [] (hp Lx t rt u I2 G) 0 0 := by
    intro n
    induction n with
    | zero => intro a I2 hi hn f2 R2 w2; omega
    | succ n ih =>
      intro a I2 hi hn f2 R2 w2
      refine wx_iload_n rfl (e := 3) rfl rfl ?_
      refine wx_bipush (v := (nI 30)) rfl (e := 5) rfl (by decide) ?_
      refine wn_ic_ge rfl (e := 8) rfl (by omega) (by omega) (fun c_5 => ?_) (fun c_5 => ?_)
      · exact go2 I2 _ f2 R2 (fun k hk => w2 k (by omega))
      · refine wx_aload_n rfl (e := 9) rfl rfl ?_
        refine wx_getr rfl (e := 12) rfl rfl rfl ?_
        refine wx_iload_n rfl (e := 13) rfl rfl ?_
        refine wx_iconst (v := (nI 0)) rfl (e := 14) rfl (by decide) ?_
        refine wn_zast rfl (e := 15) rfl rfl (by decide) (by omega) (by decide) ?_
        refine wn_iinc (m := 1) (L2 := [_, _]) rfl (e := 18) rfl rfl (by decide) rfl ?_
        refine wx_goto rfl ?_
        refine ih (a + 1) _ (by omega) (by omega) (f2.tr (fmy.w3 _ _)) (R2.kept (wr_other _ _ _ _ (by decide))) (wr_ext rfl (fun j hj hne => w2 j (by omega)))
  refine wx_in (M := mX11_yearGoes) rfl rfl rfl (Nat.le_of_ble_eq_true rfl) ?_
  refine wx_iconst (v := (nI 0)) rfl (e := 1) rfl (by decide) ?_
  refine wx_istore_n (L2 := [_, _]) rfl (e := 2) rfl (by decide) rfl ?_
  exact loop1 31 0 I (by omega) (by omega) fmy.rf hR (fun k hk => absurd hk (Nat.not_lt_zero _))
theorem c_X11_yearsGo {d Lx t rt u : Nat} {I : Nat → Nat → Int32} {G : Nat → Nat → Int64} {Q : ab_Q} {lv : Nat} {T : tx} (hM : MT lv I T) {r : rw_} (hR : MR I r) (hr : ∀ e, tR T ≤ e → e < 6 → r (6 + e) = -1) {n : Nat} (hn : n ≤ 60) (hq : ∀ I2, fmy I I2 → MR I2 (yrsS T (I 55 54) r n) → Q none (hp Lx t rt u I2 G)) : ab_call ab_MT (d + 7) 244 [.ref 55, .int (nI n)] (hp Lx t rt u I G) 0 0 Q := by
  obtain ⟨hlv, ⟨hC6, hR6, hP5, hH, hTf, hFn, hLx⟩, m18, m65, m69, m72, m76, m71, m89, m73, mL⟩ := id hM
  have loop : ∀ (m : Nat) (i : Nat) (I2 : Nat → Nat → Int32), i ≤ n → n - i < m → fmy I I2 → MR I2 (yrsS T (I 55 54) r i) → WP (d + 6) mX11_yearsGo Q 2 [some (.ref 55), some (.int (nI n)), some (.int (nI i))] [] (hp Lx t rt u I2 G) 0 0 := by
    intro m
    induction m with
    | zero => intro i I2 hi hm f2 R2; omega
    | succ m ih =>
      intro i I2 hi hm f2 R2
      refine wx_iload_n rfl (e := 3) rfl rfl ?_
      refine wx_iload_n rfl (e := 4) rfl rfl ?_
      refine wn_ic_ge rfl (e := 7) rfl (by omega) (by omega) (fun c_4 => ?_) (fun c_4 => ?_)
      · refine wx_ret rfl rfl ⟨by decide, by decide⟩ ?_
        have ei : i = n := by omega
        subst ei
        exact hq I2 f2 R2
      · refine wx_aload_n rfl (e := 8) rfl rfl ?_
        refine wx_cv0 (mc := 0) (ms := 0) rfl (e := 11) rfl rfl (Nat.le_of_ble_eq_true rfl) ⟨by decide, by decide⟩ ?_
        have h54 := f2.2 54 (by decide)
        refine c_X11_yearGoes (f2.T hM) R2 (fun e h1 h2 => by rw [yrsS_pos T _ r (by omega)]; exact hr e h1 h2) (fun I3 f3 R3 w3 => ?_)
        rw [h54] at R3
        refine wn_iinc (m := 1) (L2 := [_, _, _]) rfl (e := 14) rfl rfl (by decide) rfl ?_
        refine wx_goto rfl ?_
        exact ih (i + 1) I3 (by omega) (by omega) (f2.tr f3) R3
  refine wx_in (M := mX11_yearsGo) rfl rfl rfl (Nat.le_of_ble_eq_true rfl) ?_
  refine wx_iconst (v := (nI 0)) rfl (e := 1) rfl (by decide) ?_
  refine wx_istore_n (L2 := [_, _, _]) rfl (e := 2) rfl (by decide) rfl ?_
  exact loop (n + 1) 0 I (by omega) (by omega) fmy.rf hR

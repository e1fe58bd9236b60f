/-! the model: what laws tell, years -/
theorem lwL_u {vs : Nat → Int32} {w : rpn} {q : rpn × rpn × rpn} {ts : List (rpn × rpn × rpn)} (h : rvl vs q.1 = none) : lwL vs w (q :: ts) = nI 0 := by
  rw [lwL, h]
theorem lwL_v {vs : Nat → Int32} {w : rpn} {q : rpn × rpn × rpn} {ts : List (rpn × rpn × rpn)} (h : rvl vs q.2.1 = none) : lwL vs w (q :: ts) = nI 0 := by
  rw [lwL, h]
  cases rvl vs q.1 <;> rfl
theorem lwL_t {vs : Nat → Int32} {w : rpn} {q : rpn × rpn × rpn} {ts : List (rpn × rpn × rpn)} {a b : Int32} (h1 : rvl vs q.1 = some a) (h2 : rvl vs q.2.1 = some b) (h : a < b) : lwL vs w (q :: ts) = (rvl vs q.2.2).getD (nI 0) := by
  rw [lwL, h1, h2]; exact if_pos h
theorem lwL_f {vs : Nat → Int32} {w : rpn} {q : rpn × rpn × rpn} {ts : List (rpn × rpn × rpn)} {a b : Int32} (h1 : rvl vs q.1 = some a) (h2 : rvl vs q.2.1 = some b) (h : ¬ a < b) : lwL vs w (q :: ts) = lwL vs w ts := by
  rw [lwL, h1, h2]; exact if_neg h
theorem MB.lt {I : Nat → Nat → Int32} {w : rpn} : ∀ (ts : List (rpn × rpn × rpn)) (b l : Nat), MB I w b l ts → b < l
  | [], b, l, h => by have := h.1; omega
  | q :: ts, b, l, h => by have := MB.lt ts _ _ h.2.2.2; omega
theorem fml.C {I I2 : Nat → Nat → Int32} (h : fml I I2) {p : rpn} {i j : Nat} (hm : MC I i j p) : MC I2 i j p := MC.kept (h.1 84 (by decide) (by decide) (by decide)) (h.1 85 (by decide) (by decide) (by decide)) p i j hm
set_option maxHeartbeats 2000000 in
theorem c_law {d Lx t rt u : Nat} {I : Nat → Nat → Int32} {G : Nat → Nat → Int64} {Q : ab_Q} {lv : Nat} {T : tx} (hM : MT lv I T) {k : Nat} {vs : Nat → Int32} {pl : Int32} (hk : k < 5) (hvs : ∀ j, j < 9 → I 87 j = vs j) (hpl : plS k vs = pl) (hq : ∀ I2, fml I I2 → Q (some (.int (tL T k vs))) (hp Lx t rt u I2 G)) : ab_call ab_MT (d + 2) 234 [.ref 55, .int (nI k), .int pl] (hp Lx t rt u I G) 0 0 Q := by
  obtain ⟨hlv, ⟨hC6, hR6, hP5, hH, hTf, hFn, hLx⟩, m18, m65, m69, m72, m76, m71, m89, m73, mL⟩ := id hM
  have loop : ∀ (f l : Nat) (w : rpn) (el : I 78 (5 * lv + k) = nI l) (hl : l ≤ 260) (ts : List (rpn × rpn × rpn)) (b : Nat) (I2 : Nat → Nat → Int32), MB I w b l ts → fml I I2 → I2 87 = I 87 → I2 55 50 = nI 0 → lwL vs w ts = tL T k vs → ∀ z5 z6, WP (d + 1) mX11_lawTells Q 39 [some (.ref 55), some (.int (nI k)), some (.int pl), some (.int (nI (5 * lv + k))), some (.int (nI b)), z5, z6] [] (hp Lx t rt u I2 G) 0 0 := by
    intro f l w el hl ts
    induction ts with
    | nil =>
      intro b I2 hb f2 e7 e5 hval z5 z6
      have hbl := MB.lt _ _ _ hb
      obtain ⟨i, j, h2, h3, h4, h5, h6⟩ := hb.2.2.2
      have h7 := (MC.le _ _ _ h5).2 h4
      refine wx_iload rfl (e := 41) rfl rfl ?_
      refine wx_aload_n rfl (e := 42) rfl rfl ?_
      refine wx_getr rfl (e := 45) rfl rfl rfl ?_
      refine wx_iload_n rfl (e := 46) rfl rfl ?_
      refine wn_iald rfl (e := 47) rfl rfl (by omega) (by decide) ?_
      rw [f2.1 78 (by decide) (by decide) (by decide), el]
      refine wn_ic_ge rfl (e := 50) rfl (by omega) (by omega) (fun c_47 => absurd c_47 (by omega)) (fun c_47 => ?_)
      refine wx_aload_n rfl (e := 51) rfl rfl ?_
      refine wx_getr rfl (e := 54) rfl rfl rfl ?_
      refine wx_iload rfl (e := 56) rfl rfl ?_
      refine wn_zald rfl (e := 57) rfl rfl (by omega) (by decide) ?_
      rw [f2.1 79 (by decide) (by decide) (by decide), hb.2.2.1]
      refine wn_if_eq rfl (e := 60) rfl (by omega) (fun c_57 => ?_) (fun c_57 => absurd c_57 (by omega))
      refine wx_aload_n rfl (e := 120) rfl rfl ?_
      refine wx_aload_n rfl (e := 121) rfl rfl ?_
      refine wx_getr rfl (e := 124) rfl rfl rfl ?_
      refine wx_iload rfl (e := 126) rfl rfl ?_
      refine wn_iald rfl (e := 127) rfl rfl (by omega) (by decide) ?_
      rw [f2.1 82 (by decide) (by decide) (by decide), h2]
      refine wx_aload_n rfl (e := 128) rfl rfl ?_
      refine wx_getr rfl (e := 131) rfl rfl rfl ?_
      refine wx_iload rfl (e := 133) rfl rfl ?_
      refine wn_iald rfl (e := 134) rfl rfl (by omega) (by decide) ?_
      rw [f2.1 83 (by decide) (by decide) (by decide), h3]
      refine wx_cv2 (mc := 0) (ms := 0) rfl (e := 137) rfl rfl (Nat.le_of_ble_eq_true rfl) ⟨by decide, by decide⟩ ?_
      refine c_X11_termOf (vs := vs) (f2.C h5) h4 h6 (fun j hj => by rw [e7]; exact hvs j hj) (fun z I3 f3 e5w _ => ?_) (fun v z I3 f3 e5w _ => ?_)
      · have hbk : I3 55 50 = nI 1 := e5w
        have hz : nI 0 = tL T k vs := by rw [← hval, lwL, z]; rfl
        refine wx_istore (L2 := [_, _, _, _, _, _, _]) rfl (e := 139) rfl (by decide) rfl ?_
        refine wx_aload_n rfl (e := 140) rfl rfl ?_
        refine wx_geti rfl (e := 143) rfl rfl ?_
        rw [hbk]
        refine wn_if_eq rfl (e := 146) rfl (by omega) (fun c_143 => absurd c_143 (by omega)) (fun c_143 => ?_)
        refine wx_iconst (v := (nI 0)) rfl (e := 147) rfl (by decide) ?_
        refine wx_goto rfl ?_
        refine wx_iret rfl rfl rfl ⟨by decide, by decide⟩ ?_
        rw [hz]
        exact hq I3 (f2.tr f3)
      · have hbk : I3 55 50 = nI 0 := e5w.trans e5
        have hz : v = tL T k vs := by rw [← hval, lwL, z]; rfl
        refine wx_istore (L2 := [_, _, _, _, _, _, _]) rfl (e := 139) rfl (by decide) rfl ?_
        refine wx_aload_n rfl (e := 140) rfl rfl ?_
        refine wx_geti rfl (e := 143) rfl rfl ?_
        rw [hbk]
        refine wn_if_eq rfl (e := 146) rfl (by omega) (fun c_143 => ?_) (fun c_143 => absurd c_143 (by omega))
        refine wx_iload rfl (e := 152) rfl rfl ?_
        refine wx_iret rfl rfl rfl ⟨by decide, by decide⟩ ?_
        rw [hz]
        exact hq I3 (f2.tr f3)
    | cons q ts ih =>
      intro b I2 hb f2 e7 e5 hval z5 z6
      have hbl := MB.lt _ _ _ hb
      obtain ⟨i, j, m, n, h0, h1, h2, h3, hi1, hi2, hi3, c1, c2, c3, r1, r2, r3⟩ := hb.2.2.1
      have h7 := (MC.le _ _ _ c3).2 hi3
      refine wx_iload rfl (e := 41) rfl rfl ?_
      refine wx_aload_n rfl (e := 42) rfl rfl ?_
      refine wx_getr rfl (e := 45) rfl rfl rfl ?_
      refine wx_iload_n rfl (e := 46) rfl rfl ?_
      refine wn_iald rfl (e := 47) rfl rfl (by omega) (by decide) ?_
      rw [f2.1 78 (by decide) (by decide) (by decide), el]
      refine wn_ic_ge rfl (e := 50) rfl (by omega) (by omega) (fun c_47 => absurd c_47 (by omega)) (fun c_47 => ?_)
      refine wx_aload_n rfl (e := 51) rfl rfl ?_
      refine wx_getr rfl (e := 54) rfl rfl rfl ?_
      refine wx_iload rfl (e := 56) rfl rfl ?_
      refine wn_zald rfl (e := 57) rfl rfl (by omega) (by decide) ?_
      rw [f2.1 79 (by decide) (by decide) (by decide), hb.2.1]
      refine wn_if_eq rfl (e := 60) rfl (by omega) (fun c_57 => absurd c_57 (by omega)) (fun c_57 => ?_)
      refine wx_aload_n rfl (e := 61) rfl rfl ?_
      refine wx_aload_n rfl (e := 62) rfl rfl ?_
      refine wx_getr rfl (e := 65) rfl rfl rfl ?_
      refine wx_iload rfl (e := 67) rfl rfl ?_
      refine wn_iald rfl (e := 68) rfl rfl (by omega) (by decide) ?_
      rw [f2.1 80 (by decide) (by decide) (by decide), h0]
      refine wx_aload_n rfl (e := 69) rfl rfl ?_
      refine wx_getr rfl (e := 72) rfl rfl rfl ?_
      refine wx_iload rfl (e := 74) rfl rfl ?_
      refine wn_iald rfl (e := 75) rfl rfl (by omega) (by decide) ?_
      rw [f2.1 81 (by decide) (by decide) (by decide), h1]
      refine wx_cv2 (mc := 0) (ms := 0) rfl (e := 78) rfl rfl (Nat.le_of_ble_eq_true rfl) ⟨by decide, by decide⟩ ?_
      refine c_X11_termOf (vs := vs) (f2.C c1) hi1 r1 (fun j hj => by rw [e7]; exact hvs j hj) (fun zu I3 f3 e5u e7u => ?_) (fun a zu I3 f3 e5u e7u => ?_)
      · have e5u : I3 55 50 = nI 1 := e5u
        have F3 := f2.tr f3
        refine wx_istore (L2 := [_, _, _, _, _, _, _]) rfl (e := 80) rfl (by decide) rfl ?_
        refine wx_aload_n rfl (e := 81) rfl rfl ?_
        refine wx_aload_n rfl (e := 82) rfl rfl ?_
        refine wx_getr rfl (e := 85) rfl rfl rfl ?_
        refine wx_iload rfl (e := 87) rfl rfl ?_
        refine wn_iald rfl (e := 88) rfl rfl (by omega) (by decide) ?_
        rw [F3.1 81 (by decide) (by decide) (by decide), h1]
        refine wx_aload_n rfl (e := 89) rfl rfl ?_
        refine wx_getr rfl (e := 92) rfl rfl rfl ?_
        refine wx_iload rfl (e := 94) rfl rfl ?_
        refine wn_iald rfl (e := 95) rfl rfl (by omega) (by decide) ?_
        rw [F3.1 82 (by decide) (by decide) (by decide), h2]
        refine wx_cv2 (mc := 0) (ms := 0) rfl (e := 98) rfl rfl (Nat.le_of_ble_eq_true rfl) ⟨by decide, by decide⟩ ?_
        refine c_X11_termOf (vs := vs) (F3.C c2) hi2 r2 (fun j hj => by rw [e7u, e7]; exact hvs j hj) (fun zv I4 f4 e5v e7v => ?_) (fun b2 zv I4 f4 e5v e7v => ?_)
        · have hbk : I4 55 50 = nI 1 := e5v
          have F4 := F3.tr f4
          refine wx_istore (L2 := [_, _, _, _, _, _, _]) rfl (e := 100) rfl (by decide) rfl ?_
          refine wx_aload_n rfl (e := 101) rfl rfl ?_
          refine wx_geti rfl (e := 104) rfl rfl ?_
          rw [hbk]
          refine wn_if_eq rfl (e := 107) rfl (by omega) (fun c_104 => absurd c_104 (by omega)) (fun c_104 => ?_)
          refine wx_iconst (v := (nI 0)) rfl (e := 108) rfl (by decide) ?_
          refine wx_iret rfl rfl rfl ⟨by decide, by decide⟩ ?_
          have hz : nI 0 = tL T k vs := by rw [← hval, lwL_u zu]
          rw [hz]
          exact hq I4 F4
        · have hbk := e5v.trans e5u
          have F4 := F3.tr f4
          refine wx_istore (L2 := [_, _, _, _, _, _, _]) rfl (e := 100) rfl (by decide) rfl ?_
          refine wx_aload_n rfl (e := 101) rfl rfl ?_
          refine wx_geti rfl (e := 104) rfl rfl ?_
          rw [hbk]
          refine wn_if_eq rfl (e := 107) rfl (by omega) (fun c_104 => absurd c_104 (by omega)) (fun c_104 => ?_)
          refine wx_iconst (v := (nI 0)) rfl (e := 108) rfl (by decide) ?_
          refine wx_iret rfl rfl rfl ⟨by decide, by decide⟩ ?_
          have hz : nI 0 = tL T k vs := by rw [← hval, lwL_u zu]
          rw [hz]
          exact hq I4 F4
      · have e5u : I3 55 50 = nI 0 := e5u.trans e5
        have F3 := f2.tr f3
        refine wx_istore (L2 := [_, _, _, _, _, _, _]) rfl (e := 80) rfl (by decide) rfl ?_
        refine wx_aload_n rfl (e := 81) rfl rfl ?_
        refine wx_aload_n rfl (e := 82) rfl rfl ?_
        refine wx_getr rfl (e := 85) rfl rfl rfl ?_
        refine wx_iload rfl (e := 87) rfl rfl ?_
        refine wn_iald rfl (e := 88) rfl rfl (by omega) (by decide) ?_
        rw [F3.1 81 (by decide) (by decide) (by decide), h1]
        refine wx_aload_n rfl (e := 89) rfl rfl ?_
        refine wx_getr rfl (e := 92) rfl rfl rfl ?_
        refine wx_iload rfl (e := 94) rfl rfl ?_
        refine wn_iald rfl (e := 95) rfl rfl (by omega) (by decide) ?_
        rw [F3.1 82 (by decide) (by decide) (by decide), h2]
        refine wx_cv2 (mc := 0) (ms := 0) rfl (e := 98) rfl rfl (Nat.le_of_ble_eq_true rfl) ⟨by decide, by decide⟩ ?_
        refine c_X11_termOf (vs := vs) (F3.C c2) hi2 r2 (fun j hj => by rw [e7u, e7]; exact hvs j hj) (fun zv I4 f4 e5v e7v => ?_) (fun b2 zv I4 f4 e5v e7v => ?_)
        · have hbk : I4 55 50 = nI 1 := e5v
          have F4 := F3.tr f4
          refine wx_istore (L2 := [_, _, _, _, _, _, _]) rfl (e := 100) rfl (by decide) rfl ?_
          refine wx_aload_n rfl (e := 101) rfl rfl ?_
          refine wx_geti rfl (e := 104) rfl rfl ?_
          rw [hbk]
          refine wn_if_eq rfl (e := 107) rfl (by omega) (fun c_104 => absurd c_104 (by omega)) (fun c_104 => ?_)
          refine wx_iconst (v := (nI 0)) rfl (e := 108) rfl (by decide) ?_
          refine wx_iret rfl rfl rfl ⟨by decide, by decide⟩ ?_
          have hz : nI 0 = tL T k vs := by rw [← hval, lwL_v zv]
          rw [hz]
          exact hq I4 F4
        · have hbk := e5v.trans e5u
          have F4 := F3.tr f4
          refine wx_istore (L2 := [_, _, _, _, _, _, _]) rfl (e := 100) rfl (by decide) rfl ?_
          refine wx_aload_n rfl (e := 101) rfl rfl ?_
          refine wx_geti rfl (e := 104) rfl rfl ?_
          rw [hbk]
          refine wn_if_eq rfl (e := 107) rfl (by omega) (fun c_104 => ?_) (fun c_104 => absurd c_104 (by omega))
          refine wx_iload rfl (e := 111) rfl rfl ?_
          refine wx_iload rfl (e := 113) rfl rfl ?_
          refine wx_ic_lt rfl (e := 116) rfl (fun c_113 => ?_) (fun c_113 => ?_)
          · have hG := lwL_t (w := w) (ts := ts) zu zv c_113
            refine wx_aload_n rfl (e := 120) rfl rfl ?_
            refine wx_aload_n rfl (e := 121) rfl rfl ?_
            refine wx_getr rfl (e := 124) rfl rfl rfl ?_
            refine wx_iload rfl (e := 126) rfl rfl ?_
            refine wn_iald rfl (e := 127) rfl rfl (by omega) (by decide) ?_
            rw [F4.1 82 (by decide) (by decide) (by decide), h2]
            refine wx_aload_n rfl (e := 128) rfl rfl ?_
            refine wx_getr rfl (e := 131) rfl rfl rfl ?_
            refine wx_iload rfl (e := 133) rfl rfl ?_
            refine wn_iald rfl (e := 134) rfl rfl (by omega) (by decide) ?_
            rw [F4.1 83 (by decide) (by decide) (by decide), h3]
            refine wx_cv2 (mc := 0) (ms := 0) rfl (e := 137) rfl rfl (Nat.le_of_ble_eq_true rfl) ⟨by decide, by decide⟩ ?_
            refine c_X11_termOf (vs := vs) (F4.C c3) hi3 r3 (fun j hj => by rw [e7v, e7u, e7]; exact hvs j hj) (fun z I5 f5 e5w _ => ?_) (fun v z I5 f5 e5w _ => ?_)
            · have hbk2 : I5 55 50 = nI 1 := e5w
              have hz : nI 0 = tL T k vs := by rw [← hval, hG, z]; rfl
              refine wx_istore (L2 := [_, _, _, _, _, _, _]) rfl (e := 139) rfl (by decide) rfl ?_
              refine wx_aload_n rfl (e := 140) rfl rfl ?_
              refine wx_geti rfl (e := 143) rfl rfl ?_
              rw [hbk2]
              refine wn_if_eq rfl (e := 146) rfl (by omega) (fun c_143 => absurd c_143 (by omega)) (fun c_143 => ?_)
              refine wx_iconst (v := (nI 0)) rfl (e := 147) rfl (by decide) ?_
              refine wx_goto rfl ?_
              refine wx_iret rfl rfl rfl ⟨by decide, by decide⟩ ?_
              rw [hz]
              exact hq I5 (F4.tr f5)
            · have hbk2 : I5 55 50 = nI 0 := e5w.trans hbk
              have hz : v = tL T k vs := by rw [← hval, hG, z]; rfl
              refine wx_istore (L2 := [_, _, _, _, _, _, _]) rfl (e := 139) rfl (by decide) rfl ?_
              refine wx_aload_n rfl (e := 140) rfl rfl ?_
              refine wx_geti rfl (e := 143) rfl rfl ?_
              rw [hbk2]
              refine wn_if_eq rfl (e := 146) rfl (by omega) (fun c_143 => ?_) (fun c_143 => absurd c_143 (by omega))
              refine wx_iload rfl (e := 152) rfl rfl ?_
              refine wx_iret rfl rfl rfl ⟨by decide, by decide⟩ ?_
              rw [hz]
              exact hq I5 (F4.tr f5)
          · have hG := lwL_f (w := w) (ts := ts) zu zv c_113
            refine wx_goto rfl ?_
            refine wn_iinc (m := 1) (L2 := [_, _, _, _, _, _, _]) rfl (e := 156) rfl rfl (by decide) rfl ?_
            refine wx_goto rfl ?_
            exact ih (b + 1) I4 hb.2.2.2 F4 (e7v.trans (e7u.trans e7)) hbk (hG.symm.trans hval) _ _
  refine wx_in (M := mX11_lawTells) rfl rfl rfl (Nat.le_of_ble_eq_true rfl) ?_
  refine wx_iconst (v := (nI 5)) rfl (e := 1) rfl (by decide) ?_
  refine wx_aload_n rfl (e := 2) rfl rfl ?_
  refine wx_geti rfl (e := 5) rfl rfl ?_
  rw [m18]
  obtain ⟨f, l, hf, hl, ef, el, hor⟩ := mL k hk
  refine wn_imul rfl (e := 6) rfl ?_
  refine wx_iload_n rfl (e := 7) rfl rfl ?_
  refine wn_iadd rfl (e := 8) rfl ?_
  refine wx_istore_n (L2 := [_, _, _, _, _, _, _]) rfl (e := 9) rfl (by decide) rfl ?_
  refine wx_aload_n rfl (e := 10) rfl rfl ?_
  refine wx_getr rfl (e := 13) rfl rfl rfl ?_
  refine wx_iload_n rfl (e := 14) rfl rfl ?_
  refine wn_iald rfl (e := 15) rfl rfl (by omega) (by decide) ?_
  rw [ef]
  refine wx_aload_n rfl (e := 16) rfl rfl ?_
  refine wx_getr rfl (e := 19) rfl rfl rfl ?_
  refine wx_iload_n rfl (e := 20) rfl rfl ?_
  refine wn_iald rfl (e := 21) rfl rfl (by omega) (by decide) ?_
  rw [el]
  refine wn_ic_ne rfl (e := 24) rfl (by omega) (by omega) (fun c_21 => ?_) (fun c_21 => ?_)
  · obtain ⟨w, ts, hB, hval⟩ := hor.resolve_left (fun z => c_21 z.1)
    refine wx_aload_n rfl (e := 27) rfl rfl ?_
    refine wx_iconst (v := (nI 0)) rfl (e := 28) rfl (by decide) ?_
    refine wx_putz rfl (e := 31) rfl rfl (by decide) (by decide) ?_
    refine wx_aload_n rfl (e := 32) rfl rfl ?_
    refine wx_getr rfl (e := 35) rfl rfl rfl ?_
    refine wx_iload_n rfl (e := 36) rfl rfl ?_
    refine wn_iald rfl (e := 37) rfl rfl (by omega) (by decide) ?_
    rw [wr_other _ _ _ _ (by decide), ef]
    refine wx_istore (L2 := [_, _, _, _, _, _, _]) rfl (e := 39) rfl (by decide) rfl ?_
    exact loop f l w el hl ts f _ hB (fml.wb _) (wr_other _ _ _ _ (by decide)) (by rw [wr_at, if_pos rfl, if_pos rfl]) (hval vs).symm _ _
  · refine wx_iload_n rfl (e := 25) rfl rfl ?_
    refine wx_iret rfl rfl rfl ⟨by decide, by decide⟩ ?_
    rcases hor with ⟨-, z⟩ | ⟨w, ts, z, -⟩
    · rw [← hpl, ← z vs]; exact hq I fml.rf
    · exact absurd (MB.lt _ _ _ z) (by omega)
theorem vs_9 {f g : Nat → Int32} (h0 : f 0 = g 0) (h1 : f 1 = g 1) (h2 : f 2 = g 2) (h3 : f 3 = g 3) (h4 : f 4 = g 4) (h5 : f 5 = g 5) (h6 : f 6 = g 6) (h7 : f 7 = g 7) (h8 : f 8 = g 8) : ∀ j, j < 9 → f j = g j := by
  intro j hj
  rcases (show j = 0 ∨ j = 1 ∨ j = 2 ∨ j = 3 ∨ j = 4 ∨ j = 5 ∨ j = 6 ∨ j = 7 ∨ j = 8 by omega) with rfl | rfl | rfl | rfl | rfl | rfl | rfl | rfl | rfl <;> assumption
theorem wr_eq (I : Nat → Nat → Int32) (c k : Nat) (v : Int32) : wr I c k v c k = v := by rw [wr_at, if_pos rfl, if_pos rfl]
theorem wr_ne (I : Nat → Nat → Int32) (c k : Nat) (v : Int32) {j : Nat} (h : j ≠ k) : wr I c k v c j = I c j := by rw [wr_at, if_pos rfl, if_neg h]
theorem fml.o {I I2 : Nat → Nat → Int32} (h : ∀ q, q ≠ 87 → I2 q = I q) : fml I I2 := ⟨fun q _ a _ => h q a, fun k _ => by rw [h 55 (by decide)]⟩
theorem c_X11_looksAt {d Lx t rt u : Nat} {I : Nat → Nat → Int32} {G : Nat → Nat → Int64} {Q : ab_Q} {lv : Nat} {T : tx} (hM : MT lv I T) {r : rw_} (hR : MR I r) (hr : ∀ e, tR T ≤ e → e < 6 → r (6 + e) = -1) {a c : Nat} (ha : a < tP T) (hc : c < tC T) (hq : ∀ I2, (∀ q, q ≠ 87 → I2 q = I q) → (∀ j, j < 9 → I2 87 j = vsP T r a c j) → Q none (hp Lx t rt u I2 G)) : ab_call ab_MT (d + 2) 233 [.ref 55, .int (nI a), .int (nI c)] (hp Lx t rt u I G) 0 0 Q := by
  obtain ⟨hlv, ⟨hC6, hR6, hP5, hH, hTf, hFn, hLx⟩, m18, m65, m69, m72, m76, m71, m89, m73, mL⟩ := id hM
  refine wx_in (M := mX11_looksAt) rfl rfl rfl (Nat.le_of_ble_eq_true rfl) ?_
  refine wx_aload_n rfl (e := 1) rfl rfl ?_
  refine wx_cv0 (mc := 0) (ms := 0) rfl (e := 4) rfl rfl (Nat.le_of_ble_eq_true rfl) ⟨by decide, by decide⟩ ?_
  refine c_X11_looks hR (fun I2 f2 g2 => ?_)
  have F2 := fml.o f2
  have T2 := F2.T hM
  have R2 := F2.R hR
  refine wx_aload_n rfl (e := 5) rfl rfl ?_
  refine wx_getr rfl (e := 8) rfl rfl rfl ?_
  refine wx_iconst (v := (nI 0)) rfl (e := 9) rfl (by decide) ?_
  refine wx_aload_n rfl (e := 10) rfl rfl ?_
  refine wx_iload_n rfl (e := 11) rfl rfl ?_
  refine wx_cv1 (mc := 0) (ms := 0) rfl (e := 14) rfl rfl (Nat.le_of_ble_eq_true rfl) ⟨by decide, by decide⟩ ?_
  refine c_X11_relicsAt T2 R2 hr (by omega) ?_
  refine wn_iast rfl (e := 15) rfl rfl (by decide) (by omega) (by decide) ?_
  refine wx_aload_n rfl (e := 16) rfl rfl ?_
  refine wx_getr rfl (e := 19) rfl rfl rfl ?_
  refine wx_iconst (v := (nI 1)) rfl (e := 20) rfl (by decide) ?_
  refine wx_aload_n rfl (e := 21) rfl rfl ?_
  refine wx_getr rfl (e := 24) rfl rfl rfl ?_
  refine wx_bipush (v := (nI 12)) rfl (e := 26) rfl (by decide) ?_
  refine wx_iload_n rfl (e := 27) rfl rfl ?_
  refine wn_iadd rfl (e := 28) rfl ?_
  refine wn_iald rfl (e := 29) rfl rfl (by omega) (by decide) ?_
  rw [wr_other _ _ _ _ (by decide), R2 _ (by omega)]
  refine wn_iast rfl (e := 30) rfl rfl (by decide) (by omega) (by decide) ?_
  refine wx_aload_n rfl (e := 31) rfl rfl ?_
  refine wx_getr rfl (e := 34) rfl rfl rfl ?_
  refine wx_iconst (v := (nI 2)) rfl (e := 35) rfl (by decide) ?_
  refine wx_aload_n rfl (e := 36) rfl rfl ?_
  refine wx_iload_n rfl (e := 37) rfl rfl ?_
  refine wx_iload_n rfl (e := 38) rfl rfl ?_
  refine wx_cv2 (mc := 0) (ms := 0) rfl (e := 41) rfl rfl (Nat.le_of_ble_eq_true rfl) ⟨by decide, by decide⟩ ?_
  refine c_X11_farFor ((fml.tr (fml.w7 _ _) (fml.w7 _ _)).T T2) ha hc ?_
  refine wn_iast rfl (e := 42) rfl rfl (by decide) (by omega) (by decide) ?_
  refine wx_aload_n rfl (e := 43) rfl rfl ?_
  refine wx_getr rfl (e := 46) rfl rfl rfl ?_
  refine wx_iconst (v := (nI 3)) rfl (e := 47) rfl (by decide) ?_
  refine wx_aload_n rfl (e := 48) rfl rfl ?_
  refine wx_getr rfl (e := 51) rfl rfl rfl ?_
  refine wx_iconst (v := (nI 5)) rfl (e := 52) rfl (by decide) ?_
  refine wx_aload_n rfl (e := 53) rfl rfl ?_
  refine wx_geti rfl (e := 56) rfl rfl ?_
  rw [wr_other _ _ _ _ (by decide), wr_other _ _ _ _ (by decide), wr_other _ _ _ _ (by decide), F2.2 18 (by decide), m18]
  refine wn_imul rfl (e := 57) rfl ?_
  refine wx_iload_n rfl (e := 58) rfl rfl ?_
  refine wn_iadd rfl (e := 59) rfl ?_
  refine wn_iald rfl (e := 60) rfl rfl (by omega) (by decide) ?_
  rw [wr_other _ _ _ _ (by decide), wr_other _ _ _ _ (by decide), wr_other _ _ _ _ (by decide), f2 74 (by decide), (m73 a ha).2.1]
  refine wn_iast rfl (e := 61) rfl rfl (by decide) (by omega) (by decide) ?_
  refine wx_aload_n rfl (e := 62) rfl rfl ?_
  refine wx_getr rfl (e := 65) rfl rfl rfl ?_
  refine wx_iconst (v := (nI 4)) rfl (e := 66) rfl (by decide) ?_
  refine wx_aload_n rfl (e := 67) rfl rfl ?_
  refine wx_getr rfl (e := 70) rfl rfl rfl ?_
  refine wx_iconst (v := (nI 5)) rfl (e := 71) rfl (by decide) ?_
  refine wx_aload_n rfl (e := 72) rfl rfl ?_
  refine wx_geti rfl (e := 75) rfl rfl ?_
  rw [wr_other _ _ _ _ (by decide), wr_other _ _ _ _ (by decide), wr_other _ _ _ _ (by decide), wr_other _ _ _ _ (by decide), F2.2 18 (by decide), m18]
  refine wn_imul rfl (e := 76) rfl ?_
  refine wx_iload_n rfl (e := 77) rfl rfl ?_
  refine wn_iadd rfl (e := 78) rfl ?_
  refine wn_iald rfl (e := 79) rfl rfl (by omega) (by decide) ?_
  rw [wr_other _ _ _ _ (by decide), wr_other _ _ _ _ (by decide), wr_other _ _ _ _ (by decide), wr_other _ _ _ _ (by decide), f2 75 (by decide), (m73 a ha).2.2]
  refine wn_iast rfl (e := 80) rfl rfl (by decide) (by omega) (by decide) ?_
  refine wx_ret rfl rfl ⟨by decide, by decide⟩ ?_
  refine hq _ (fun q h => by rw [wr_other _ _ _ _ h, wr_other _ _ _ _ h, wr_other _ _ _ _ h, wr_other _ _ _ _ h, wr_other _ _ _ _ h]; exact f2 q h) ?_
  refine vs_9 ?_ ?_ ?_ ?_ ?_ ?_ ?_ ?_ ?_
  · rw [wr_ne _ _ _ _ (by decide), wr_ne _ _ _ _ (by decide), wr_ne _ _ _ _ (by decide), wr_ne _ _ _ _ (by decide), wr_eq]; try rfl
  · rw [wr_ne _ _ _ _ (by decide), wr_ne _ _ _ _ (by decide), wr_ne _ _ _ _ (by decide), wr_eq]; try rfl
  · rw [wr_ne _ _ _ _ (by decide), wr_ne _ _ _ _ (by decide), wr_eq]; try rfl
  · rw [wr_ne _ _ _ _ (by decide), wr_eq]; try rfl
  · rw [wr_eq]; try rfl
  · rw [wr_ne _ _ _ _ (by decide), wr_ne _ _ _ _ (by decide), wr_ne _ _ _ _ (by decide), wr_ne _ _ _ _ (by decide), wr_ne _ _ _ _ (by decide), g2 5 (by omega)]; try rfl
  · rw [wr_ne _ _ _ _ (by decide), wr_ne _ _ _ _ (by decide), wr_ne _ _ _ _ (by decide), wr_ne _ _ _ _ (by decide), wr_ne _ _ _ _ (by decide), g2 6 (by omega)]; try rfl
  · rw [wr_ne _ _ _ _ (by decide), wr_ne _ _ _ _ (by decide), wr_ne _ _ _ _ (by decide), wr_ne _ _ _ _ (by decide), wr_ne _ _ _ _ (by decide), g2 7 (by omega)]; try rfl
  · rw [wr_ne _ _ _ _ (by decide), wr_ne _ _ _ _ (by decide), wr_ne _ _ _ _ (by decide), wr_ne _ _ _ _ (by decide), wr_ne _ _ _ _ (by decide), g2 8 (by omega)]; try rfl
theorem c_X11_drawsOf {d Lx t rt u : Nat} {I : Nat → Nat → Int32} {G : Nat → Nat → Int64} {Q : ab_Q} {lv : Nat} {T : tx} (hM : MT lv I T) {r : rw_} (hR : MR I r) (hr : ∀ e, tR T ≤ e → e < 6 → r (6 + e) = -1) {a c : Nat} (ha : a < tP T) (hc : c < tC T) (hq : ∀ I2, fml I I2 → Q (some (.int (drawS T r a c))) (hp Lx t rt u I2 G)) : ab_call ab_MT (d + 3) 235 [.ref 55, .int (nI a), .int (nI c)] (hp Lx t rt u I G) 0 0 Q := by
  obtain ⟨hlv, ⟨hC6, hR6, hP5, hH, hTf, hFn, hLx⟩, m18, m65, m69, m72, m76, m71, m89, m73, mL⟩ := id hM
  refine wx_in (M := mX11_drawsOf) rfl rfl rfl (Nat.le_of_ble_eq_true rfl) ?_
  refine wx_aload_n rfl (e := 1) rfl rfl ?_
  refine wx_iload_n rfl (e := 2) rfl rfl ?_
  refine wx_iload_n rfl (e := 3) rfl rfl ?_
  refine wx_cv2 (mc := 0) (ms := 0) rfl (e := 6) rfl rfl (Nat.le_of_ble_eq_true rfl) ⟨by decide, by decide⟩ ?_
  refine c_X11_looksAt hM hR hr ha hc (fun I2 f2 g2 => ?_)
  have F2 := fml.o f2
  have T2 := F2.T hM
  have R2 := F2.R hR
  refine wx_aload_n rfl (e := 7) rfl rfl ?_
  refine wx_getr rfl (e := 10) rfl rfl rfl ?_
  refine wx_bipush (v := (nI 6)) rfl (e := 12) rfl (by decide) ?_
  refine wx_aload_n rfl (e := 13) rfl rfl ?_
  refine wx_getr rfl (e := 16) rfl rfl rfl ?_
  refine wx_iload_n rfl (e := 17) rfl rfl ?_
  refine wn_iald rfl (e := 18) rfl rfl (by omega) (by decide) ?_
  rw [R2 _ (by omega)]
  refine wn_iast rfl (e := 19) rfl rfl (by decide) (by omega) (by decide) ?_
  refine wx_aload_n rfl (e := 20) rfl rfl ?_
  refine wx_getr rfl (e := 23) rfl rfl rfl ?_
  refine wx_bipush (v := (nI 8)) rfl (e := 25) rfl (by decide) ?_
  refine wx_aload_n rfl (e := 26) rfl rfl ?_
  refine wx_iload_n rfl (e := 27) rfl rfl ?_
  refine wx_cv1 (mc := 0) (ms := 0) rfl (e := 30) rfl rfl (Nat.le_of_ble_eq_true rfl) ⟨by decide, by decide⟩ ?_
  refine c_X11_trueAt ((fml.w7 _ _).T T2) ((fml.w7 _ _).R R2) hr (by omega) ?_
  refine wn_iast rfl (e := 31) rfl rfl (by decide) (by omega) (by decide) ?_
  refine wx_aload_n rfl (e := 32) rfl rfl ?_
  refine wx_iconst (v := (nI 0)) rfl (e := 33) rfl (by decide) ?_
  refine wx_aload_n rfl (e := 34) rfl rfl ?_
  refine wx_getr rfl (e := 37) rfl rfl rfl ?_
  refine wx_iconst (v := (nI 0)) rfl (e := 38) rfl (by decide) ?_
  refine wn_iald rfl (e := 39) rfl rfl (by omega) (by decide) ?_
  have hv : ∀ j, j < 9 → wr (wr I2 87 6 (r c)) 87 8 (nI (cnF (fun e => atC r c e && tT T e))) 87 j = vsV T r a c j := by
    refine vs_9 ?_ ?_ ?_ ?_ ?_ ?_ ?_ ?_ ?_
    · rw [wr_ne _ _ _ _ (by decide), wr_ne _ _ _ _ (by decide), g2 0 (by omega)]; try rfl
    · rw [wr_ne _ _ _ _ (by decide), wr_ne _ _ _ _ (by decide), g2 1 (by omega)]; try rfl
    · rw [wr_ne _ _ _ _ (by decide), wr_ne _ _ _ _ (by decide), g2 2 (by omega)]; try rfl
    · rw [wr_ne _ _ _ _ (by decide), wr_ne _ _ _ _ (by decide), g2 3 (by omega)]; try rfl
    · rw [wr_ne _ _ _ _ (by decide), wr_ne _ _ _ _ (by decide), g2 4 (by omega)]; try rfl
    · rw [wr_ne _ _ _ _ (by decide), wr_ne _ _ _ _ (by decide), g2 5 (by omega)]; try rfl
    · rw [wr_ne _ _ _ _ (by decide), wr_eq]; try rfl
    · rw [wr_ne _ _ _ _ (by decide), wr_ne _ _ _ _ (by decide), g2 7 (by omega)]; try rfl
    · rw [wr_eq]; try rfl
  refine wx_cv2 (mc := 0) (ms := 0) rfl (e := 42) rfl rfl (Nat.le_of_ble_eq_true rfl) ⟨by decide, by decide⟩ ?_
  refine c_law (vs := vsV T r a c) ((fml.tr (fml.w7 _ _) (fml.w7 _ _)).T T2) (by decide) hv ?_ (fun I3 f3 => ?_)
  · rw [hv 0 (by decide)]; rfl
  refine wx_iret rfl rfl rfl ⟨by decide, by decide⟩ ?_
  exact hq I3 (F2.tr ((fml.w7 _ _).tr ((fml.w7 _ _).tr f3)))
theorem c_X11_givesOf {d Lx t rt u : Nat} {I : Nat → Nat → Int32} {G : Nat → Nat → Int64} {Q : ab_Q} {lv : Nat} {T : tx} (hM : MT lv I T) {r : rw_} (hR : MR I r) (hr : ∀ e, tR T ≤ e → e < 6 → r (6 + e) = -1) {a c : Nat} (ha : a < tP T) (hc : c < tC T) (hq : ∀ I2, fml I I2 → Q (some (.int (giveS T r a c))) (hp Lx t rt u I2 G)) : ab_call ab_MT (d + 3) 236 [.ref 55, .int (nI a), .int (nI c)] (hp Lx t rt u I G) 0 0 Q := by
  obtain ⟨hlv, ⟨hC6, hR6, hP5, hH, hTf, hFn, hLx⟩, m18, m65, m69, m72, m76, m71, m89, m73, mL⟩ := id hM
  refine wx_in (M := mX11_givesOf) rfl rfl rfl (Nat.le_of_ble_eq_true rfl) ?_
  refine wx_aload_n rfl (e := 1) rfl rfl ?_
  refine wx_iload_n rfl (e := 2) rfl rfl ?_
  refine wx_iload_n rfl (e := 3) rfl rfl ?_
  refine wx_cv2 (mc := 0) (ms := 0) rfl (e := 6) rfl rfl (Nat.le_of_ble_eq_true rfl) ⟨by decide, by decide⟩ ?_
  refine c_X11_looksAt hM hR hr ha hc (fun I2 f2 g2 => ?_)
  have F2 := fml.o f2
  have T2 := F2.T hM
  have R2 := F2.R hR
  refine wx_aload_n rfl (e := 7) rfl rfl ?_
  refine wx_getr rfl (e := 10) rfl rfl rfl ?_
  refine wx_bipush (v := (nI 6)) rfl (e := 12) rfl (by decide) ?_
  refine wx_aload_n rfl (e := 13) rfl rfl ?_
  refine wx_getr rfl (e := 16) rfl rfl rfl ?_
  refine wx_iload_n rfl (e := 17) rfl rfl ?_
  refine wn_iald rfl (e := 18) rfl rfl (by omega) (by decide) ?_
  rw [R2 _ (by omega)]
  refine wn_iast rfl (e := 19) rfl rfl (by decide) (by omega) (by decide) ?_
  refine wx_aload_n rfl (e := 20) rfl rfl ?_
  refine wx_getr rfl (e := 23) rfl rfl rfl ?_
  refine wx_bipush (v := (nI 8)) rfl (e := 25) rfl (by decide) ?_
  refine wx_aload_n rfl (e := 26) rfl rfl ?_
  refine wx_iload_n rfl (e := 27) rfl rfl ?_
  refine wx_cv1 (mc := 0) (ms := 0) rfl (e := 30) rfl rfl (Nat.le_of_ble_eq_true rfl) ⟨by decide, by decide⟩ ?_
  refine c_X11_trueAt ((fml.w7 _ _).T T2) ((fml.w7 _ _).R R2) hr (by omega) ?_
  refine wn_iast rfl (e := 31) rfl rfl (by decide) (by omega) (by decide) ?_
  refine wx_aload_n rfl (e := 32) rfl rfl ?_
  refine wx_iconst (v := (nI 2)) rfl (e := 33) rfl (by decide) ?_
  refine wx_aload_n rfl (e := 34) rfl rfl ?_
  refine wx_getr rfl (e := 37) rfl rfl rfl ?_
  refine wx_iconst (v := (nI 4)) rfl (e := 38) rfl (by decide) ?_
  refine wn_iald rfl (e := 39) rfl rfl (by omega) (by decide) ?_
  have hv : ∀ j, j < 9 → wr (wr I2 87 6 (r c)) 87 8 (nI (cnF (fun e => atC r c e && tT T e))) 87 j = vsV T r a c j := by
    refine vs_9 ?_ ?_ ?_ ?_ ?_ ?_ ?_ ?_ ?_
    · rw [wr_ne _ _ _ _ (by decide), wr_ne _ _ _ _ (by decide), g2 0 (by omega)]; try rfl
    · rw [wr_ne _ _ _ _ (by decide), wr_ne _ _ _ _ (by decide), g2 1 (by omega)]; try rfl
    · rw [wr_ne _ _ _ _ (by decide), wr_ne _ _ _ _ (by decide), g2 2 (by omega)]; try rfl
    · rw [wr_ne _ _ _ _ (by decide), wr_ne _ _ _ _ (by decide), g2 3 (by omega)]; try rfl
    · rw [wr_ne _ _ _ _ (by decide), wr_ne _ _ _ _ (by decide), g2 4 (by omega)]; try rfl
    · rw [wr_ne _ _ _ _ (by decide), wr_ne _ _ _ _ (by decide), g2 5 (by omega)]; try rfl
    · rw [wr_ne _ _ _ _ (by decide), wr_eq]; try rfl
    · rw [wr_ne _ _ _ _ (by decide), wr_ne _ _ _ _ (by decide), g2 7 (by omega)]; try rfl
    · rw [wr_eq]; try rfl
  refine wx_cv2 (mc := 0) (ms := 0) rfl (e := 42) rfl rfl (Nat.le_of_ble_eq_true rfl) ⟨by decide, by decide⟩ ?_
  refine c_law (vs := vsV T r a c) ((fml.tr (fml.w7 _ _) (fml.w7 _ _)).T T2) (by decide) hv ?_ (fun I3 f3 => ?_)
  · rw [hv 4 (by decide)]; rfl
  refine wx_iconst (v := (nI 0)) rfl (e := 43) rfl (by decide) ?_
  refine wx_bipush (v := (nI 99)) rfl (e := 45) rfl (by decide) ?_
  refine wx_cs3 (mc := 0) (ms := 0) rfl (e := 48) rfl (Nat.le_of_ble_eq_true rfl) ⟨by decide, by decide⟩ ?_
  refine c_X11_held ?_
  refine wx_iret rfl rfl rfl ⟨by decide, by decide⟩ ?_
  exact hq I3 (F2.tr ((fml.w7 _ _).tr ((fml.w7 _ _).tr f3)))
theorem c_X11_healsBy {d Lx t rt u : Nat} {I : Nat → Nat → Int32} {G : Nat → Nat → Int64} {Q : ab_Q} {lv : Nat} {T : tx} (hM : MT lv I T) {r : rw_} (hR : MR I r) (hr : ∀ e, tR T ≤ e → e < 6 → r (6 + e) = -1) {e a c : Nat} {tr : Int32} (he : e < 6) (ha : a < tP T) (hc : c < tC T) (hec : r (6 + e) = nI c) (hq : ∀ I2, fml I I2 → Q (some (.int (healS T r c a tr))) (hp Lx t rt u I2 G)) : ab_call ab_MT (d + 3) 237 [.ref 55, .int (nI e), .int (nI a), .int tr] (hp Lx t rt u I G) 0 0 Q := by
  obtain ⟨hlv, ⟨hC6, hR6, hP5, hH, hTf, hFn, hLx⟩, m18, m65, m69, m72, m76, m71, m89, m73, mL⟩ := id hM
  refine wx_in (M := mX11_healsBy) rfl rfl rfl (Nat.le_of_ble_eq_true rfl) ?_
  refine wx_aload_n rfl (e := 1) rfl rfl ?_
  refine wx_iload_n rfl (e := 2) rfl rfl ?_
  refine wx_aload_n rfl (e := 3) rfl rfl ?_
  refine wx_getr rfl (e := 6) rfl rfl rfl ?_
  refine wx_bipush (v := (nI 6)) rfl (e := 8) rfl (by decide) ?_
  refine wx_iload_n rfl (e := 9) rfl rfl ?_
  refine wn_iadd rfl (e := 10) rfl ?_
  refine wn_iald rfl (e := 11) rfl rfl (by omega) (by decide) ?_
  rw [hR _ (by omega), hec]
  refine wx_cv2 (mc := 0) (ms := 0) rfl (e := 14) rfl rfl (Nat.le_of_ble_eq_true rfl) ⟨by decide, by decide⟩ ?_
  refine c_X11_looksAt hM hR hr ha hc (fun I2 f2 g2 => ?_)
  have F2 := fml.o f2
  have T2 := F2.T hM
  refine wx_aload_n rfl (e := 15) rfl rfl ?_
  refine wx_getr rfl (e := 18) rfl rfl rfl ?_
  refine wx_bipush (v := (nI 8)) rfl (e := 20) rfl (by decide) ?_
  refine wx_iload_n rfl (e := 21) rfl rfl ?_
  refine wn_iast rfl (e := 22) rfl rfl (by decide) (by omega) (by decide) ?_
  refine wx_aload_n rfl (e := 23) rfl rfl ?_
  refine wx_iconst (v := (nI 1)) rfl (e := 24) rfl (by decide) ?_
  refine wx_iload_n rfl (e := 25) rfl rfl ?_
  refine wx_bipush (v := (nI 50)) rfl (e := 27) rfl (by decide) ?_
  refine wx_imul rfl (e := 28) rfl ?_
  refine wx_cv2 (mc := 0) (ms := 0) rfl (e := 31) rfl rfl (Nat.le_of_ble_eq_true rfl) ⟨by decide, by decide⟩ ?_
  refine c_law (vs := fun k => if k = 8 then tr else vsP T r a c k) ((fml.w7 _ _).T T2) (by decide) ?_ rfl (fun I3 f3 => ?_)
  · refine vs_9 ?_ ?_ ?_ ?_ ?_ ?_ ?_ ?_ ?_
    · rw [wr_ne _ _ _ _ (by decide), g2 0 (by omega)]; try rfl
    · rw [wr_ne _ _ _ _ (by decide), g2 1 (by omega)]; try rfl
    · rw [wr_ne _ _ _ _ (by decide), g2 2 (by omega)]; try rfl
    · rw [wr_ne _ _ _ _ (by decide), g2 3 (by omega)]; try rfl
    · rw [wr_ne _ _ _ _ (by decide), g2 4 (by omega)]; try rfl
    · rw [wr_ne _ _ _ _ (by decide), g2 5 (by omega)]; try rfl
    · rw [wr_ne _ _ _ _ (by decide), g2 6 (by omega)]; try rfl
    · rw [wr_ne _ _ _ _ (by decide), g2 7 (by omega)]; try rfl
    · rw [wr_eq]; try rfl
  refine wx_iconst (v := (nI 0)) rfl (e := 32) rfl (by decide) ?_
  refine wx_bipush (v := (nI 100)) rfl (e := 34) rfl (by decide) ?_
  refine wx_cs3 (mc := 0) (ms := 0) rfl (e := 37) rfl (Nat.le_of_ble_eq_true rfl) ⟨by decide, by decide⟩ ?_
  refine c_X11_held ?_
  refine wx_iret rfl rfl rfl ⟨by decide, by decide⟩ ?_
  exact hq I3 (F2.tr ((fml.w7 _ _).tr f3))
theorem c_X11_healsOf {d Lx t rt u : Nat} {I : Nat → Nat → Int32} {G : Nat → Nat → Int64} {Q : ab_Q} {lv : Nat} {T : tx} (hM : MT lv I T) {r : rw_} (hR : MR I r) (hr : ∀ e, tR T ≤ e → e < 6 → r (6 + e) = -1) {e a c : Nat} (he : e < tR T) (ha : a < tP T) (hc : c < tC T) (hec : r (6 + e) = nI c) (hq : ∀ I2, fml I I2 → Q (some (.int (healS T r c a (b1 (tT T e))))) (hp Lx t rt u I2 G)) : ab_call ab_MT (d + 4) 238 [.ref 55, .int (nI e), .int (nI a)] (hp Lx t rt u I G) 0 0 Q := by
  obtain ⟨hlv, ⟨hC6, hR6, hP5, hH, hTf, hFn, hLx⟩, m18, m65, m69, m72, m76, m71, m89, m73, mL⟩ := id hM
  refine wx_in (M := mX11_healsOf) rfl rfl rfl (Nat.le_of_ble_eq_true rfl) ?_
  refine wx_aload_n rfl (e := 1) rfl rfl ?_
  refine wx_iload_n rfl (e := 2) rfl rfl ?_
  refine wx_iload_n rfl (e := 3) rfl rfl ?_
  refine wx_aload_n rfl (e := 4) rfl rfl ?_
  refine wx_getr rfl (e := 7) rfl rfl rfl ?_
  refine wx_bipush (v := (nI 6)) rfl (e := 9) rfl (by decide) ?_
  refine wx_aload_n rfl (e := 10) rfl rfl ?_
  refine wx_geti rfl (e := 13) rfl rfl ?_
  rw [m18]
  refine wn_imul rfl (e := 14) rfl ?_
  refine wx_iload_n rfl (e := 15) rfl rfl ?_
  refine wn_iadd rfl (e := 16) rfl ?_
  refine wn_iald rfl (e := 17) rfl rfl (by omega) (by decide) ?_
  rw [m71 e he]
  refine wx_cv3 (mc := 0) (ms := 0) rfl (e := 20) rfl rfl (Nat.le_of_ble_eq_true rfl) ⟨by decide, by decide⟩ ?_
  refine c_X11_healsBy hM hR hr (by omega) ha hc hec (fun I3 f3 => ?_)
  refine wx_iret rfl rfl rfl ⟨by decide, by decide⟩ ?_
  exact hq I3 f3
theorem c_X11_leaveOf {d Lx t rt u : Nat} {I : Nat → Nat → Int32} {G : Nat → Nat → Int64} {Q : ab_Q} {lv : Nat} {T : tx} (hM : MT lv I T) {r : rw_} (hR : MR I r) (hr : ∀ e, tR T ≤ e → e < 6 → r (6 + e) = -1) {e c n : Nat} (he : e < tR T) (hc : c < tC T) (hec : r (6 + e) = nI c) (hq : ∀ I2, fml I I2 → Q (some (.int (leavS T r c e n))) (hp Lx t rt u I2 G)) : ab_call ab_MT (d + 3) 239 [.ref 55, .int (nI e), .int (nI n)] (hp Lx t rt u I G) 0 0 Q := by
  obtain ⟨hlv, ⟨hC6, hR6, hP5, hH, hTf, hFn, hLx⟩, m18, m65, m69, m72, m76, m71, m89, m73, mL⟩ := id hM
  refine wx_in (M := mX11_leaveOf) rfl rfl rfl (Nat.le_of_ble_eq_true rfl) ?_
  refine wx_aload_n rfl (e := 1) rfl rfl ?_
  refine wx_getr rfl (e := 4) rfl rfl rfl ?_
  refine wx_bipush (v := (nI 6)) rfl (e := 6) rfl (by decide) ?_
  refine wx_iload_n rfl (e := 7) rfl rfl ?_
  refine wn_iadd rfl (e := 8) rfl ?_
  refine wn_iald rfl (e := 9) rfl rfl (by omega) (by decide) ?_
  rw [hR _ (by omega), hec]
  refine wx_istore_n (L2 := [_, _, _, _]) rfl (e := 10) rfl (by decide) rfl ?_
  refine wx_aload_n rfl (e := 11) rfl rfl ?_
  refine wx_cv0 (mc := 0) (ms := 0) rfl (e := 14) rfl rfl (Nat.le_of_ble_eq_true rfl) ⟨by decide, by decide⟩ ?_
  refine c_X11_looks hR (fun I2 f2 g2 => ?_)
  have F2 := fml.o f2
  have T2 := F2.T hM
  have R2 := F2.R hR
  refine wx_aload_n rfl (e := 15) rfl rfl ?_
  refine wx_getr rfl (e := 18) rfl rfl rfl ?_
  refine wx_iconst (v := (nI 0)) rfl (e := 19) rfl (by decide) ?_
  refine wx_aload_n rfl (e := 20) rfl rfl ?_
  refine wx_iload_n rfl (e := 21) rfl rfl ?_
  refine wx_cv1 (mc := 0) (ms := 0) rfl (e := 24) rfl rfl (Nat.le_of_ble_eq_true rfl) ⟨by decide, by decide⟩ ?_
  refine c_X11_relicsAt T2 R2 hr (by omega) ?_
  refine wn_iast rfl (e := 25) rfl rfl (by decide) (by omega) (by decide) ?_
  refine wx_aload_n rfl (e := 26) rfl rfl ?_
  refine wx_getr rfl (e := 29) rfl rfl rfl ?_
  refine wx_iconst (v := (nI 1)) rfl (e := 30) rfl (by decide) ?_
  refine wx_aload_n rfl (e := 31) rfl rfl ?_
  refine wx_getr rfl (e := 34) rfl rfl rfl ?_
  refine wx_bipush (v := (nI 12)) rfl (e := 36) rfl (by decide) ?_
  refine wx_iload_n rfl (e := 37) rfl rfl ?_
  refine wn_iadd rfl (e := 38) rfl ?_
  refine wn_iald rfl (e := 39) rfl rfl (by omega) (by decide) ?_
  rw [wr_other _ _ _ _ (by decide), R2 _ (by omega)]
  refine wn_iast rfl (e := 40) rfl rfl (by decide) (by omega) (by decide) ?_
  refine wx_aload_n rfl (e := 41) rfl rfl ?_
  refine wx_getr rfl (e := 44) rfl rfl rfl ?_
  refine wx_iconst (v := (nI 5)) rfl (e := 45) rfl (by decide) ?_
  refine wx_iload_n rfl (e := 46) rfl rfl ?_
  refine wn_iast rfl (e := 47) rfl rfl (by decide) (by omega) (by decide) ?_
  refine wx_aload_n rfl (e := 48) rfl rfl ?_
  refine wx_getr rfl (e := 51) rfl rfl rfl ?_
  refine wx_bipush (v := (nI 8)) rfl (e := 53) rfl (by decide) ?_
  refine wx_aload_n rfl (e := 54) rfl rfl ?_
  refine wx_getr rfl (e := 57) rfl rfl rfl ?_
  refine wx_bipush (v := (nI 6)) rfl (e := 59) rfl (by decide) ?_
  refine wx_aload_n rfl (e := 60) rfl rfl ?_
  refine wx_geti rfl (e := 63) rfl rfl ?_
  rw [wr_other _ _ _ _ (by decide), wr_other _ _ _ _ (by decide), wr_other _ _ _ _ (by decide), F2.2 18 (by decide), m18]
  refine wn_imul rfl (e := 64) rfl ?_
  refine wx_iload_n rfl (e := 65) rfl rfl ?_
  refine wn_iadd rfl (e := 66) rfl ?_
  refine wn_iald rfl (e := 67) rfl rfl (by omega) (by decide) ?_
  rw [wr_other _ _ _ _ (by decide), wr_other _ _ _ _ (by decide), wr_other _ _ _ _ (by decide), f2 71 (by decide), m71 e he]
  refine wn_iast rfl (e := 68) rfl rfl (by decide) (by omega) (by decide) ?_
  refine wx_aload_n rfl (e := 69) rfl rfl ?_
  refine wx_iconst (v := (nI 3)) rfl (e := 70) rfl (by decide) ?_
  refine wx_iload_n rfl (e := 71) rfl rfl ?_
  refine wx_bipush (v := (nI 10)) rfl (e := 73) rfl (by decide) ?_
  refine wn_imul rfl (e := 74) rfl ?_
  refine wx_cv2 (mc := 0) (ms := 0) rfl (e := 77) rfl rfl (Nat.le_of_ble_eq_true rfl) ⟨by decide, by decide⟩ ?_
  refine c_law (vs := (fun k => if k = 8 then b1 (tT T e) else if k = 5 then nI n else if k = 1 then r (12 + c) else vs0 r c k)) ((fml.tr (fml.w7 _ _) (fml.tr (fml.w7 _ _) (fml.tr (fml.w7 _ _) (fml.w7 _ _)))).T T2) (by decide) ?_ ?_ (fun I3 f3 => ?_)
  · refine vs_9 ?_ ?_ ?_ ?_ ?_ ?_ ?_ ?_ ?_
    · rw [wr_ne _ _ _ _ (by decide), wr_ne _ _ _ _ (by decide), wr_ne _ _ _ _ (by decide), wr_eq]; try rfl
    · rw [wr_ne _ _ _ _ (by decide), wr_ne _ _ _ _ (by decide), wr_eq]; try rfl
    · rw [wr_ne _ _ _ _ (by decide), wr_ne _ _ _ _ (by decide), wr_ne _ _ _ _ (by decide), wr_ne _ _ _ _ (by decide), g2 2 (by omega)]; try rfl
    · rw [wr_ne _ _ _ _ (by decide), wr_ne _ _ _ _ (by decide), wr_ne _ _ _ _ (by decide), wr_ne _ _ _ _ (by decide), g2 3 (by omega)]; try rfl
    · rw [wr_ne _ _ _ _ (by decide), wr_ne _ _ _ _ (by decide), wr_ne _ _ _ _ (by decide), wr_ne _ _ _ _ (by decide), g2 4 (by omega)]; try rfl
    · rw [wr_ne _ _ _ _ (by decide), wr_eq]; try rfl
    · rw [wr_ne _ _ _ _ (by decide), wr_ne _ _ _ _ (by decide), wr_ne _ _ _ _ (by decide), wr_ne _ _ _ _ (by decide), g2 6 (by omega)]; try rfl
    · rw [wr_ne _ _ _ _ (by decide), wr_ne _ _ _ _ (by decide), wr_ne _ _ _ _ (by decide), wr_ne _ _ _ _ (by decide), g2 7 (by omega)]; try rfl
    · rw [wr_eq]; try rfl
  · exact pk_mul _ _
  refine wx_iconst (v := (nI 0)) rfl (e := 78) rfl (by decide) ?_
  refine wx_bipush (v := (nI 100)) rfl (e := 80) rfl (by decide) ?_
  refine wx_cs3 (mc := 0) (ms := 0) rfl (e := 83) rfl (Nat.le_of_ble_eq_true rfl) ⟨by decide, by decide⟩ ?_
  refine c_X11_held ?_
  refine wx_iret rfl rfl rfl ⟨by decide, by decide⟩ ?_
  exact hq I3 (F2.tr ((fml.w7 _ _).tr ((fml.w7 _ _).tr ((fml.w7 _ _).tr ((fml.w7 _ _).tr f3)))))
theorem c_X11_caughtBy {d Lx t rt u : Nat} {I : Nat → Nat → Int32} {G : Nat → Nat → Int64} {Q : ab_Q} {lv : Nat} {T : tx} (hM : MT lv I T) {r : rw_} (hR : MR I r) (hr : ∀ e, tR T ≤ e → e < 6 → r (6 + e) = -1) {c n : Nat} {w : Int32} (hc : c < tC T) (hq : ∀ I2, fml I I2 → Q (some (.int (caugS T r c w n))) (hp Lx t rt u I2 G)) : ab_call ab_MT (d + 3) 240 [.ref 55, .int (nI c), .int w, .int (nI n)] (hp Lx t rt u I G) 0 0 Q := by
  obtain ⟨hlv, ⟨hC6, hR6, hP5, hH, hTf, hFn, hLx⟩, m18, m65, m69, m72, m76, m71, m89, m73, mL⟩ := id hM
  refine wx_in (M := mX11_caughtBy) rfl rfl rfl (Nat.le_of_ble_eq_true rfl) ?_
  refine wx_aload_n rfl (e := 1) rfl rfl ?_
  refine wx_cv0 (mc := 0) (ms := 0) rfl (e := 4) rfl rfl (Nat.le_of_ble_eq_true rfl) ⟨by decide, by decide⟩ ?_
  refine c_X11_looks hR (fun I2 f2 g2 => ?_)
  have F2 := fml.o f2
  have T2 := F2.T hM
  have R2 := F2.R hR
  refine wx_aload_n rfl (e := 5) rfl rfl ?_
  refine wx_getr rfl (e := 8) rfl rfl rfl ?_
  refine wx_iconst (v := (nI 0)) rfl (e := 9) rfl (by decide) ?_
  refine wx_aload_n rfl (e := 10) rfl rfl ?_
  refine wx_iload_n rfl (e := 11) rfl rfl ?_
  refine wx_cv1 (mc := 0) (ms := 0) rfl (e := 14) rfl rfl (Nat.le_of_ble_eq_true rfl) ⟨by decide, by decide⟩ ?_
  refine c_X11_relicsAt T2 R2 hr (by omega) ?_
  refine wn_iast rfl (e := 15) rfl rfl (by decide) (by omega) (by decide) ?_
  refine wx_aload_n rfl (e := 16) rfl rfl ?_
  refine wx_getr rfl (e := 19) rfl rfl rfl ?_
  refine wx_iconst (v := (nI 5)) rfl (e := 20) rfl (by decide) ?_
  refine wx_iload_n rfl (e := 21) rfl rfl ?_
  refine wn_iast rfl (e := 22) rfl rfl (by decide) (by omega) (by decide) ?_
  refine wx_aload_n rfl (e := 23) rfl rfl ?_
  refine wx_getr rfl (e := 26) rfl rfl rfl ?_
  refine wx_bipush (v := (nI 6)) rfl (e := 28) rfl (by decide) ?_
  refine wx_iload_n rfl (e := 29) rfl rfl ?_
  refine wn_iast rfl (e := 30) rfl rfl (by decide) (by omega) (by decide) ?_
  refine wx_aload_n rfl (e := 31) rfl rfl ?_
  refine wx_iconst (v := (nI 4)) rfl (e := 32) rfl (by decide) ?_
  refine wx_iload_n rfl (e := 33) rfl rfl ?_
  refine wx_bipush (v := (nI 10)) rfl (e := 35) rfl (by decide) ?_
  refine wx_imul rfl (e := 36) rfl ?_
  refine wx_cv2 (mc := 0) (ms := 0) rfl (e := 39) rfl rfl (Nat.le_of_ble_eq_true rfl) ⟨by decide, by decide⟩ ?_
  refine c_law (vs := (fun k => if k = 6 then w else if k = 5 then nI n else vs0 r c k)) ((fml.tr (fml.w7 _ _) (fml.tr (fml.w7 _ _) (fml.w7 _ _))).T T2) (by decide) ?_ rfl (fun I3 f3 => ?_)
  · refine vs_9 ?_ ?_ ?_ ?_ ?_ ?_ ?_ ?_ ?_
    · rw [wr_ne _ _ _ _ (by decide), wr_ne _ _ _ _ (by decide), wr_eq]; try rfl
    · rw [wr_ne _ _ _ _ (by decide), wr_ne _ _ _ _ (by decide), wr_ne _ _ _ _ (by decide), g2 1 (by omega)]; try rfl
    · rw [wr_ne _ _ _ _ (by decide), wr_ne _ _ _ _ (by decide), wr_ne _ _ _ _ (by decide), g2 2 (by omega)]; try rfl
    · rw [wr_ne _ _ _ _ (by decide), wr_ne _ _ _ _ (by decide), wr_ne _ _ _ _ (by decide), g2 3 (by omega)]; try rfl
    · rw [wr_ne _ _ _ _ (by decide), wr_ne _ _ _ _ (by decide), wr_ne _ _ _ _ (by decide), g2 4 (by omega)]; try rfl
    · rw [wr_ne _ _ _ _ (by decide), wr_eq]; try rfl
    · rw [wr_eq]; try rfl
    · rw [wr_ne _ _ _ _ (by decide), wr_ne _ _ _ _ (by decide), wr_ne _ _ _ _ (by decide), g2 7 (by omega)]; try rfl
    · rw [wr_ne _ _ _ _ (by decide), wr_ne _ _ _ _ (by decide), wr_ne _ _ _ _ (by decide), g2 8 (by omega)]; try rfl
  refine wx_iconst (v := (nI 0)) rfl (e := 40) rfl (by decide) ?_
  refine wx_bipush (v := (nI 100)) rfl (e := 42) rfl (by decide) ?_
  refine wx_cs3 (mc := 0) (ms := 0) rfl (e := 45) rfl (Nat.le_of_ble_eq_true rfl) ⟨by decide, by decide⟩ ?_
  refine c_X11_held ?_
  refine wx_iret rfl rfl rfl ⟨by decide, by decide⟩ ?_
  exact hq I3 (F2.tr ((fml.w7 _ _).tr ((fml.w7 _ _).tr ((fml.w7 _ _).tr f3))))
theorem c_X11_goesNow {d Lx t rt u : Nat} {I : Nat → Nat → Int32} {G : Nat → Nat → Int64} {Q : ab_Q} {lv : Nat} {T : tx} (hM : MT lv I T) {r : rw_} (hR : MR I r) (hr : ∀ e, tR T ≤ e → e < 6 → r (6 + e) = -1) {a : Nat} (ha : a < tP T) (hq : ∀ I2, fml I I2 → Q (some (.int (goalS T r a))) (hp Lx t rt u I2 G)) : ab_call ab_MT (d + 4) 241 [.ref 55, .int (nI a)] (hp Lx t rt u I G) 0 0 Q := by
  obtain ⟨hlv, ⟨hC6, hR6, hP5, hH, hTf, hFn, hLx⟩, m18, m65, m69, m72, m76, m71, m89, m73, mL⟩ := id hM
  have loop : ∀ (n : Nat) (c : Nat) (I2 : Nat → Nat → Int32), c ≤ tC T → tC T - c < n → fml I I2 → ∀ x5, WP (d + 3) mX11_goesNow Q 8 [some (.ref 55), some (.int (nI a)), some (.int (goalL T r a c).1), some (.int (goalL T r a c).2), some (.int (nI c)), x5] [] (hp Lx t rt u I2 G) 0 0 := by
    intro n
    induction n with
    | zero => intro c I2 hi hn f2 x5; omega
    | succ n ih =>
      intro c I2 hi hn f2 x5
      refine wx_iload rfl (e := 10) rfl rfl ?_
      refine wx_aload_n rfl (e := 11) rfl rfl ?_
      refine wx_getr rfl (e := 14) rfl rfl rfl ?_
      refine wx_aload_n rfl (e := 15) rfl rfl ?_
      refine wx_geti rfl (e := 18) rfl rfl ?_
      rw [f2.2 18 (by decide), m18]
      refine wn_iald rfl (e := 19) rfl rfl (by omega) (by decide) ?_
      rw [f2.1 65 (by decide) (by decide) (by decide), m65]
      refine wn_ic_ge rfl (e := 22) rfl (by omega) (by omega) (fun c_19 => ?_) (fun c_19 => ?_)
      · refine wx_iload_n rfl (e := 82) rfl rfl ?_
        refine wx_iret rfl rfl rfl ⟨by decide, by decide⟩ ?_
        have ec : c = tC T := by omega
        subst ec
        exact hq I2 f2
      · refine wx_aload_n rfl (e := 23) rfl rfl ?_
        refine wx_iload_n rfl (e := 24) rfl rfl ?_
        refine wx_iload rfl (e := 26) rfl rfl ?_
        refine wx_cv2 (mc := 0) (ms := 0) rfl (e := 29) rfl rfl (Nat.le_of_ble_eq_true rfl) ⟨by decide, by decide⟩ ?_
        refine c_X11_farFor (f2.T hM) ha (by omega) ?_
        obtain ⟨nk, hnk, ek⟩ := hFn (tH T a) c (hH a ha) (by omega)
        rw [ek]
        refine wx_sipush (v := (nI 999)) rfl (e := 32) rfl (by decide) ?_
        refine wn_ic_ge rfl (e := 35) rfl (by omega) (by omega) (fun c_32 => ?_) (fun c_32 => ?_)
        · have hG : goalL T r a (c + 1) = goalL T r a c := by rw [goalL, if_pos (Or.inl (by rw [ek]; congr 1; omega))]
          refine wn_iinc (m := 1) (L2 := [_, _, _, _, _, _]) rfl (e := 78) rfl rfl (by decide) rfl ?_
          refine wx_goto rfl ?_
          have hh := fun x5 => ih (c + 1) I2 (by omega) (by omega) f2 x5
          rw [hG] at hh
          exact hh _
        · have hn9 : ¬ tF T (tH T a) c = nI 999 := fun z => by rw [ek] at z; have := (nI_eq (by omega) (by omega)).mp z; omega
          refine wx_aload_n rfl (e := 36) rfl rfl ?_
          refine wx_iload rfl (e := 38) rfl rfl ?_
          refine wx_cv1 (mc := 0) (ms := 0) rfl (e := 41) rfl rfl (Nat.le_of_ble_eq_true rfl) ⟨by decide, by decide⟩ ?_
          refine c_X11_relicsAt (f2.T hM) (f2.R hR) hr (by omega) ?_
          have hcn := (cna_ok (atC r c) (fun _ => true)).2
          refine wn_if_ne rfl (e := 44) rfl (by omega) (fun c_41 => ?_) (fun c_41 => ?_)
          · refine wx_aload_n rfl (e := 48) rfl rfl ?_
            refine wx_iload_n rfl (e := 49) rfl rfl ?_
            refine wx_iload rfl (e := 51) rfl rfl ?_
            refine wx_cv2 (mc := 0) (ms := 0) rfl (e := 54) rfl rfl (Nat.le_of_ble_eq_true rfl) ⟨by decide, by decide⟩ ?_
            refine c_X11_drawsOf (f2.T hM) (f2.R hR) hr ha (by omega) (fun I3 f3 => ?_)
            refine wx_istore (L2 := [_, _, _, _, _, _]) rfl (e := 56) rfl (by decide) rfl ?_
            refine wx_iload_n rfl (e := 57) rfl rfl ?_
            refine wx_if_lt rfl (e := 60) rfl (fun c_57 => ?_) (fun c_57 => ?_)
            · rw [← nI_0] at c_57
              have hG : goalL T r a (c + 1) = (nI c, drawS T r a c) := by rw [goalL, if_neg (fun z => z.elim hn9 c_41), if_pos (Or.inl c_57)]
              refine wx_iload rfl (e := 71) rfl rfl ?_
              refine wx_istore_n (L2 := [_, _, _, _, _, _]) rfl (e := 72) rfl (by decide) rfl ?_
              refine wx_iload rfl (e := 74) rfl rfl ?_
              refine wx_istore_n (L2 := [_, _, _, _, _, _]) rfl (e := 75) rfl (by decide) rfl ?_
              refine wn_iinc (m := 1) (L2 := [_, _, _, _, _, _]) rfl (e := 78) rfl rfl (by decide) rfl ?_
              refine wx_goto rfl ?_
              have hh := fun x5 => ih (c + 1) I3 (by omega) (by omega) (f2.tr f3) x5
              rw [hG] at hh
              exact hh _
            · rw [← nI_0] at c_57
              refine wx_iload rfl (e := 62) rfl rfl ?_
              refine wx_iload_n rfl (e := 63) rfl rfl ?_
              refine wx_ic_gt rfl (e := 66) rfl (fun c_63 => ?_) (fun c_63 => ?_)
              · have hG : goalL T r a (c + 1) = (nI c, drawS T r a c) := by rw [goalL, if_neg (fun z => z.elim hn9 c_41), if_pos (Or.inr c_63)]
                refine wx_iload rfl (e := 71) rfl rfl ?_
                refine wx_istore_n (L2 := [_, _, _, _, _, _]) rfl (e := 72) rfl (by decide) rfl ?_
                refine wx_iload rfl (e := 74) rfl rfl ?_
                refine wx_istore_n (L2 := [_, _, _, _, _, _]) rfl (e := 75) rfl (by decide) rfl ?_
                refine wn_iinc (m := 1) (L2 := [_, _, _, _, _, _]) rfl (e := 78) rfl rfl (by decide) rfl ?_
                refine wx_goto rfl ?_
                have hh := fun x5 => ih (c + 1) I3 (by omega) (by omega) (f2.tr f3) x5
                rw [hG] at hh
                exact hh _
              · have hG : goalL T r a (c + 1) = goalL T r a c := by rw [goalL, if_neg (fun z => z.elim hn9 c_41), if_neg (fun z => z.elim c_57 c_63)]
                refine wx_goto rfl ?_
                refine wn_iinc (m := 1) (L2 := [_, _, _, _, _, _]) rfl (e := 78) rfl rfl (by decide) rfl ?_
                refine wx_goto rfl ?_
                have hh := fun x5 => ih (c + 1) I3 (by omega) (by omega) (f2.tr f3) x5
                rw [hG] at hh
                exact hh _
          · have hG : goalL T r a (c + 1) = goalL T r a c := by rw [goalL, if_pos (Or.inr c_41)]
            refine wx_goto rfl ?_
            refine wn_iinc (m := 1) (L2 := [_, _, _, _, _, _]) rfl (e := 78) rfl rfl (by decide) rfl ?_
            refine wx_goto rfl ?_
            have hh := fun x5 => ih (c + 1) I2 (by omega) (by omega) f2 x5
            rw [hG] at hh
            exact hh _
  refine wx_in (M := mX11_goesNow) rfl rfl rfl (Nat.le_of_ble_eq_true rfl) ?_
  refine wx_bipush (v := (-2)) rfl (e := 2) rfl (by decide) ?_
  refine wx_istore_n (L2 := [_, _, _, _, _, _]) rfl (e := 3) rfl (by decide) rfl ?_
  refine wx_iconst (v := (nI 0)) rfl (e := 4) rfl (by decide) ?_
  refine wx_istore_n (L2 := [_, _, _, _, _, _]) rfl (e := 5) rfl (by decide) rfl ?_
  refine wx_iconst (v := (nI 0)) rfl (e := 6) rfl (by decide) ?_
  refine wx_istore (L2 := [_, _, _, _, _, _]) rfl (e := 8) rfl (by decide) rfl ?_
  exact loop (tC T + 1) 0 I (by omega) (by omega) fml.rf _

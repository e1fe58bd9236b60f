/-! the model: terms read -/
theorem MC.kept2 {I I2 : Nat → Nat → Int32} : ∀ (p : rpn) (i j : Nat), (∀ k, i ≤ k → k < i + p.length → I2 84 k = I 84 k ∧ I2 85 k = I 85 k) → MC I i j p → MC I2 i j p
  | [], _, _, _, h => h
  | q :: p, i, j, hk, h => by
    have h0 := hk i (Nat.le_refl _) (by rw [List.length_cons]; omega)
    exact ⟨h.1, h0.1.trans h.2.1, h0.2.trans h.2.2.1, MC.kept2 p (i + 1) j (fun k h1 h2 => hk k (by omega) (by rw [List.length_cons]; omega)) h.2.2.2⟩
theorem MC.len {I : Nat → Nat → Int32} : ∀ (p : rpn) (i j : Nat), MC I i j p → j = i + p.length
  | [], _, _, h => h.symm
  | q :: p, i, j, h => by have := MC.len p _ _ h.2.2.2; rw [List.length_cons]; omega
theorem MC.ap {I : Nat → Nat → Int32} {q : Nat × Int32} : ∀ (p : rpn) (i j : Nat), MC I i j p → j < 840 → I 84 j = nI q.1 → I 85 j = q.2 → MC I i (j + 1) (p ++ [q])
  | [], i, j, h, h1, h2, h3 => by
    have e : i = j := h
    subst e; exact ⟨h1, h2, h3, rfl⟩
  | x :: p, i, j, h, h1, h2, h3 => ⟨h.1, h.2.1, h.2.2.1, MC.ap p _ _ h.2.2.2 h1 h2 h3⟩
def LM (a0 : Nat) (c : rpn) (I : Nat → Nat → Int32) : Prop := I 55 43 = nI (a0 + c.length) ∧ MC I a0 (a0 + c.length) c
def emM (I : Nat → Nat → Int32) (x : Nat) (k v : Int32) : Nat → Nat → Int32 := wr (wr (wr I 84 x k) 85 x v) 55 43 (nI (x + 1))
/-- but for where it reads, what waits, steps between a0 and h -/
def frx (a0 h : Nat) (I I2 : Nat → Nat → Int32) : Prop := (∀ q, q ≠ 55 → q ≠ 84 → q ≠ 85 → q ≠ 86 → I2 q = I q) ∧ (∀ k, ¬ ((11 ≤ k ∧ k ≤ 14) ∨ k = 43 ∨ k = 47) → I2 55 k = I 55 k) ∧ ∀ i, i < a0 ∨ h ≤ i → I2 84 i = I 84 i ∧ I2 85 i = I 85 i
theorem frx.rf {a0 h : Nat} {I : Nat → Nat → Int32} : frx a0 h I I := ⟨fun _ _ _ _ _ => rfl, fun _ _ => rfl, fun _ _ => ⟨rfl, rfl⟩⟩
theorem frx.tr {a0 h : Nat} {I I2 I3 : Nat → Nat → Int32} (h1 : frx a0 h I I2) (h2 : frx a0 h I2 I3) : frx a0 h I I3 := ⟨fun q a b c d => (h2.1 q a b c d).trans (h1.1 q a b c d), fun k a => (h2.2.1 k a).trans (h1.2.1 k a), fun i hi => ⟨(h2.2.2 i hi).1.trans (h1.2.2 i hi).1, (h2.2.2 i hi).2.trans (h1.2.2 i hi).2⟩⟩
theorem frx.w {a0 h k : Nat} {I : Nat → Nat → Int32} {v : Int32} (hk : (11 ≤ k ∧ k ≤ 14) ∨ k = 43 ∨ k = 47) : frx a0 h I (wr I 55 k v) := ⟨fun q a _ _ _ => wr_other _ _ _ _ a, fun j hj => wr_ne _ _ _ _ (by omega), fun i _ => ⟨by rw [wr_other _ _ _ _ (by decide)], by rw [wr_other _ _ _ _ (by decide)]⟩⟩
theorem frx.w6 {a0 h k : Nat} {I : Nat → Nat → Int32} {v : Int32} : frx a0 h I (wr I 86 k v) := ⟨fun q _ _ _ a => wr_other _ _ _ _ a, fun j hj => by rw [wr_other _ _ _ _ (by decide)], fun i _ => ⟨by rw [wr_other _ _ _ _ (by decide)], by rw [wr_other _ _ _ _ (by decide)]⟩⟩
theorem frx.n {a0 h t : Nat} {I : Nat → Nat → Int32} : frx a0 h I (nx t I) := frx.w (by omega)
theorem frx.t {a0 h k p : Nat} {I : Nat → Nat → Int32} : frx a0 h I (ft k p I) := (frx.w (by omega)).tr (frx.w (by omega))
theorem frx.e {a0 h x : Nat} {I : Nat → Nat → Int32} {k v : Int32} (h1 : a0 ≤ x) (h2 : x < h) : frx a0 h I (emM I x k v) := by
  refine ⟨fun q a b c _ => ?_, fun j hj => ?_, fun i hi => ⟨?_, ?_⟩⟩
  · unfold emM; rw [wr_other _ _ _ _ a, wr_other _ _ _ _ c, wr_other _ _ _ _ b]
  · unfold emM; rw [wr_ne _ _ _ _ (by omega), wr_other _ _ _ _ (by decide), wr_other _ _ _ _ (by decide)]
  · unfold emM; rw [wr_other _ _ _ _ (by decide), wr_other _ _ _ _ (by decide), wr_ne _ _ _ _ (by omega)]
  · unfold emM; rw [wr_other _ _ _ _ (by decide), wr_ne _ _ _ _ (by omega), wr_other _ _ _ _ (by decide)]
theorem emM.s {a0 : Nat} {c : rpn} {I : Nat → Nat → Int32} {q : Nat × Int32} {k v : Int32} (h : LM a0 c I) (hx : a0 + c.length < 840) (hk : k = nI q.1) (hv : v = q.2) : LM a0 (c ++ [q]) (emM I (a0 + c.length) k v) := by
  have e4 : ∀ i, emM I (a0 + c.length) k v 84 i = if i = a0 + c.length then k else I 84 i := fun i => by
    unfold emM; rw [wr_other _ _ _ _ (by decide), wr_other _ _ _ _ (by decide), wr_at, if_pos rfl]
  have e5 : ∀ i, emM I (a0 + c.length) k v 85 i = if i = a0 + c.length then v else I 85 i := fun i => by
    unfold emM; rw [wr_other _ _ _ _ (by decide), wr_at, if_pos rfl, wr_other _ _ _ _ (by decide)]
  refine ⟨?_, ?_⟩
  · unfold emM; rw [wr_eq, List.length_append]; rfl
  · rw [List.length_append]
    refine MC.ap c a0 (a0 + c.length) (h.2.kept2 c _ _ (fun j h1 h2 => ⟨?_, ?_⟩)) hx ?_ ?_
    · rw [e4, if_neg (by omega)]
    · rw [e5, if_neg (by omega)]
    · rw [e4, if_pos rfl]; exact hk
    · rw [e5, if_pos rfl]; exact hv
theorem emM.f {I : Nat → Nat → Int32} {x j : Nat} {k v : Int32} (hj : j ≠ 43) : emM I x k v 55 j = I 55 j := by
  unfold emM; rw [wr_ne _ _ _ _ hj, wr_other _ _ _ _ (by decide), wr_other _ _ _ _ (by decide)]
theorem emM.q {I : Nat → Nat → Int32} {x q : Nat} {k v : Int32} (h1 : q ≠ 55) (h2 : q ≠ 84) (h3 : q ≠ 85) : emM I x k v q = I q := by
  unfold emM; rw [wr_other _ _ _ _ h1, wr_other _ _ _ _ h3, wr_other _ _ _ _ h2]
theorem MS.k {b : Nat → Nat} {n t : Nat} {I I2 : Nat → Nat → Int32} {G : Nat → Nat → Int64} (h : MS b n t I G) (h1 : I2 55 10 = I 55 10) (h2 : I2 58 = I 58) (h3 : I2 59 = I 59) (h4 : I2 60 = I 60) (h5 : I2 55 11 = I 55 11) (h6 : I2 55 13 = I 55 13) : MS b n t I2 G := by
  obtain ⟨⟨m, q1, q2⟩, q3, q4, q5, q6⟩ := h
  exact ⟨⟨m, q1.kept h1 h2 h3 h4 rfl, q2⟩, q3, q4, h5.trans q5, h6.trans q6⟩
theorem MS.e {b : Nat → Nat} {n t x : Nat} {I : Nat → Nat → Int32} {G : Nat → Nat → Int64} {k v : Int32} (h : MS b n t I G) : MS b n t (emM I x k v) G := h.k (emM.f (by decide)) (emM.q (by decide) (by decide) (by decide)) (emM.q (by decide) (by decide) (by decide)) (emM.q (by decide) (by decide) (by decide)) (emM.f (by decide)) (emM.f (by decide))
def wst (f : Nat → Int32) : List Nat → Prop
  | [] => True
  | a :: W => f W.length = nI (mk a) ∧ wst f W
theorem wst.kept {f g : Nat → Int32} : ∀ {W : List Nat}, (∀ i, i < W.length → g i = f i) → wst f W → wst g W
  | [], _, _ => True.intro
  | a :: W, hk, h => ⟨(hk _ (by rw [List.length_cons]; omega)).trans h.1, wst.kept (fun i hi => hk i (by rw [List.length_cons]; omega)) h.2⟩
def opW (W : List Nat) : Prop := ∀ w, w ∈ W → w = 40 ∨ w = 43 ∨ w = 45 ∨ w = 42 ∨ w = 47
def WS (W : List Nat) (I : Nat → Nat → Int32) : Prop := opW W ∧ I 55 47 = nI W.length ∧ wst (I 86) W
def co (st : Bool) : List Nat → rpn → List Nat × rpn
  | [], c => ([], c)
  | w :: W, c => if w = 40 ∨ (st = true ∧ (w = 43 ∨ w = 45)) then (w :: W, c) else co st W (c ++ [(opK w, nI 0)])
theorem co_y {st : Bool} {w : Nat} {W : List Nat} {c : rpn} (h : w = 40 ∨ (st = true ∧ (w = 43 ∨ w = 45))) : co st (w :: W) c = (w :: W, c) := if_pos h
theorem co_n {st : Bool} {w : Nat} {W : List Nat} {c : rpn} (h : ¬ (w = 40 ∨ (st = true ∧ (w = 43 ∨ w = 45)))) : co st (w :: W) c = co st W (c ++ [(opK w, nI 0)]) := if_neg h
theorem c_emit {d Lx tt rt u : Nat} {I : Nat → Nat → Int32} {G : Nat → Nat → Int64} {Q : ab_Q} {x : Nat} (hx : I 55 43 = nI x) (hx2 : x < 840) {k v : Int32} (hq : Q none (hp Lx tt rt u (emM I x k v) G)) : ab_call ab_MT (d + 1) 213 [.ref 55, .int k, .int v] (hp Lx tt rt u I G) 0 0 Q := by
  refine wx_in (M := mX11_emit) rfl rfl rfl (Nat.le_of_ble_eq_true rfl) ?_
  refine wx_aload_n rfl (e := 1) rfl rfl ?_
  refine wx_getr rfl (e := 4) rfl rfl rfl ?_
  refine wx_aload_n rfl (e := 5) rfl rfl ?_
  refine wx_geti rfl (e := 8) rfl rfl ?_
  rw [hx]
  refine wx_iload_n rfl (e := 9) rfl rfl ?_
  refine wn_iast rfl (e := 10) rfl rfl (by decide) (by omega) (by decide) ?_
  refine wx_aload_n rfl (e := 11) rfl rfl ?_
  refine wx_getr rfl (e := 14) rfl rfl rfl ?_
  refine wx_aload_n rfl (e := 15) rfl rfl ?_
  refine wx_geti rfl (e := 18) rfl rfl ?_
  rw [wr_other _ _ _ _ (by decide), hx]
  refine wx_iload_n rfl (e := 19) rfl rfl ?_
  refine wn_iast rfl (e := 20) rfl rfl (by decide) (by omega) (by decide) ?_
  refine wx_aload_n rfl (e := 21) rfl rfl ?_
  refine wx_dup rfl (e := 22) rfl rfl ?_
  refine wx_geti rfl (e := 25) rfl rfl ?_
  rw [wr_other _ _ _ _ (by decide), wr_other _ _ _ _ (by decide), hx]
  refine wx_iconst (v := (nI 1)) rfl (e := 26) rfl (by decide) ?_
  refine wn_iadd rfl (e := 27) rfl ?_
  refine wx_puti rfl (e := 30) rfl rfl (by decide) ?_
  refine wx_ret rfl rfl ⟨by decide, by decide⟩ ?_
  exact hq
set_option maxHeartbeats 4000000 in
theorem c_comes {d Lx tt rt u : Nat} {I : Nat → Nat → Int32} {G : Nat → Nat → Int64} {Q : ab_Q} {a0 h : Nat} {c : rpn} {W : List Nat} {st : Bool} (hW : WS W I) (hL : LM a0 c I) (hh : h ≤ 840) (hb : a0 + c.length + W.length ≤ h) (h60 : W.length ≤ 60) (hq : (∀ I3, frx a0 h I I3 → (∀ k, k ≠ 43 → k ≠ 47 → I3 55 k = I 55 k) → WS (co st W c).1 I3 → LM a0 (co st W c).2 I3 → Q none (hp Lx tt rt u I3 G))) : ab_call ab_MT (d + 2) 214 [.ref 55, .int (b1 st)] (hp Lx tt rt u I G) 0 0 Q := by
  have loop : ∀ (W : List Nat) (c : rpn) (I2 : Nat → Nat → Int32), opW W → W.length ≤ 60 → I2 55 47 = nI W.length → wst (I2 86) W → LM a0 c I2 → a0 + c.length + W.length ≤ h → (∀ I3, frx a0 h I2 I3 → (∀ k, k ≠ 43 → k ≠ 47 → I3 55 k = I2 55 k) → WS (co st W c).1 I3 → LM a0 (co st W c).2 I3 → Q none (hp Lx tt rt u I3 G)) → ∀ x2, WP (d + 1) mX11_comesOut Q 0 [some (.ref 55), some (.int (b1 st)), x2] [] (hp Lx tt rt u I2 G) 0 0 := by
    intro W
    induction W with
    | nil =>
      intro c I2 hv h60 w1 w2 hL hb hq x2
      have w1 : I2 55 47 = nI 0 := w1
      refine wx_aload_n rfl (e := 1) rfl rfl ?_
      refine wx_geti rfl (e := 4) rfl rfl ?_
      rw [w1]
      refine wn_if_le rfl (e := 7) rfl (by omega) (fun c_4 => ?_) (fun c_4 => absurd c_4 (by omega))
      refine wx_ret rfl rfl ⟨by decide, by decide⟩ ?_
      exact hq I2 frx.rf (fun _ _ _ => rfl) ⟨hv, w1, w2⟩ hL
    | cons w W ih =>
      intro c I2 hv h60 w1 w2 hL hb hq x2
      rw [List.length_cons] at w1 hb h60
      have hv2 : opW W := fun y hy => hv y (List.mem_cons_of_mem _ hy)
      have hwl : W.length < 2000 := by omega
      rcases hv w (List.mem_cons_self ..) with rfl | rfl | rfl | rfl | rfl
      · have k0 := True.intro
        refine wx_aload_n rfl (e := 1) rfl rfl ?_
        refine wx_geti rfl (e := 4) rfl rfl ?_
        rw [w1]
        refine wn_if_le rfl (e := 7) rfl (by omega) (fun c_4 => absurd c_4 (by omega)) (fun c_4 => ?_)
        refine wx_aload_n rfl (e := 8) rfl rfl ?_
        refine wx_getr rfl (e := 11) rfl rfl rfl ?_
        refine wx_aload_n rfl (e := 12) rfl rfl ?_
        refine wx_geti rfl (e := 15) rfl rfl ?_
        rw [w1]
        refine wx_iconst (v := (nI 1)) rfl (e := 16) rfl (by decide) ?_
        refine wn_isub rfl (e := 17) rfl (by omega) ?_
        refine wn_iald rfl (e := 18) rfl rfl (by omega) (by decide) ?_
        rw [show W.length + 1 - 1 = W.length by omega, w2.1, show mk 40 = 6 from rfl]
        refine wx_istore_n (L2 := [_, _, _]) rfl (e := 19) rfl (by decide) rfl ?_
        refine wx_iload_n rfl (e := 20) rfl rfl ?_
        refine wx_bipush (v := (nI 6)) rfl (e := 22) rfl (by decide) ?_
        refine wn_ic_eq rfl (e := 25) rfl (by omega) (by omega) (fun c_22 => ?_) (fun c_22 => absurd c_22 (by omega))
        refine wx_ret rfl rfl ⟨by decide, by decide⟩ ?_
        rw [co_y (Or.inl rfl)] at hq
        exact hq I2 frx.rf (fun _ _ _ => rfl) ⟨hv, w1, w2⟩ hL
      · have k0 := True.intro
        refine wx_aload_n rfl (e := 1) rfl rfl ?_
        refine wx_geti rfl (e := 4) rfl rfl ?_
        rw [w1]
        refine wn_if_le rfl (e := 7) rfl (by omega) (fun c_4 => absurd c_4 (by omega)) (fun c_4 => ?_)
        refine wx_aload_n rfl (e := 8) rfl rfl ?_
        refine wx_getr rfl (e := 11) rfl rfl rfl ?_
        refine wx_aload_n rfl (e := 12) rfl rfl ?_
        refine wx_geti rfl (e := 15) rfl rfl ?_
        rw [w1]
        refine wx_iconst (v := (nI 1)) rfl (e := 16) rfl (by decide) ?_
        refine wn_isub rfl (e := 17) rfl (by omega) ?_
        refine wn_iald rfl (e := 18) rfl rfl (by omega) (by decide) ?_
        rw [show W.length + 1 - 1 = W.length by omega, w2.1, show mk 43 = 8 from rfl]
        refine wx_istore_n (L2 := [_, _, _]) rfl (e := 19) rfl (by decide) rfl ?_
        refine wx_iload_n rfl (e := 20) rfl rfl ?_
        refine wx_bipush (v := (nI 6)) rfl (e := 22) rfl (by decide) ?_
        refine wn_ic_eq rfl (e := 25) rfl (by omega) (by omega) (fun c_22 => absurd c_22 (by omega)) (fun c_22 => ?_)
        refine wx_iload_n rfl (e := 26) rfl rfl ?_
        refine wx_if_eq rfl (e := 29) rfl (fun c_26 => ?_) (fun c_26 => ?_)
        · refine wx_aload_n rfl (e := 43) rfl rfl ?_
          refine wx_dup rfl (e := 44) rfl rfl ?_
          refine wx_geti rfl (e := 47) rfl rfl ?_
          rw [w1]
          refine wx_iconst (v := (nI 1)) rfl (e := 48) rfl (by decide) ?_
          refine wn_isub rfl (e := 49) rfl (by omega) ?_
          rw [show W.length + 1 - 1 = W.length by omega]
          refine wx_puti rfl (e := 52) rfl rfl (by decide) ?_
          refine wx_aload_n rfl (e := 53) rfl rfl ?_
          refine wx_iload_n rfl (e := 54) rfl rfl ?_
          refine wx_bipush (v := (nI 8)) rfl (e := 56) rfl (by decide) ?_
          refine wn_ic_ne rfl (e := 59) rfl (by omega) (by omega) (fun c_56 => absurd c_56 (by omega)) (fun c_56 => ?_)
          refine wx_iconst (v := (nI 2)) rfl (e := 60) rfl (by decide) ?_
          refine wx_goto rfl ?_
          refine wx_iconst (v := (nI 0)) rfl (e := 85) rfl (by decide) ?_
          refine wx_cv2 (mc := 0) (ms := 0) rfl (e := 88) rfl rfl (Nat.le_of_ble_eq_true rfl) ⟨by decide, by decide⟩ ?_
          have L1 : LM a0 c (wr I2 55 47 (nI W.length)) := ⟨by rw [wr_ne _ _ _ _ (by decide)]; exact hL.1, hL.2.kept2 c _ _ (fun j _ _ => ⟨by rw [wr_other _ _ _ _ (by decide)], by rw [wr_other _ _ _ _ (by decide)]⟩)⟩
          refine c_emit (x := a0 + c.length) L1.1 (by omega) ?_
          refine wx_goto rfl ?_
          have hco : co st (43 :: W) c = co st W (c ++ [(opK 43, nI 0)]) := co_n (fun y => y.elim (by decide) (fun y => absurd (y.1.symm.trans (b1_0.mp c_26)) (by decide)))
          rw [hco] at hq
          exact ih (c ++ [(opK 43, nI 0)]) _ hv2 (by omega) (by rw [emM.f (by decide), wr_eq]) (by rw [emM.q (by decide) (by decide) (by decide), wr_other _ _ _ _ (by decide)]; exact w2.2) (emM.s L1 (by omega) rfl rfl) (by rw [List.length_append]; show a0 + (c.length + 1) + W.length ≤ h; omega) (fun I3 f3 mm => hq I3 ((frx.w (by omega)).tr ((frx.e (by omega) (by omega)).tr f3)) (fun k h1 h2 => (mm k h1 h2).trans (by rw [emM.f h1, wr_ne _ _ _ _ h2])))  _
        · refine wx_iload_n rfl (e := 30) rfl rfl ?_
          refine wx_bipush (v := (nI 8)) rfl (e := 32) rfl (by decide) ?_
          refine wn_ic_eq rfl (e := 35) rfl (by omega) (by omega) (fun c_32 => ?_) (fun c_32 => absurd c_32 (by omega))
          refine wx_ret rfl rfl ⟨by decide, by decide⟩ ?_
          rw [co_y (Or.inr ⟨b1_n0.mp c_26, by decide⟩)] at hq
          exact hq I2 frx.rf (fun _ _ _ => rfl) ⟨hv, w1, w2⟩ hL
      · have k0 := True.intro
        refine wx_aload_n rfl (e := 1) rfl rfl ?_
        refine wx_geti rfl (e := 4) rfl rfl ?_
        rw [w1]
        refine wn_if_le rfl (e := 7) rfl (by omega) (fun c_4 => absurd c_4 (by omega)) (fun c_4 => ?_)
        refine wx_aload_n rfl (e := 8) rfl rfl ?_
        refine wx_getr rfl (e := 11) rfl rfl rfl ?_
        refine wx_aload_n rfl (e := 12) rfl rfl ?_
        refine wx_geti rfl (e := 15) rfl rfl ?_
        rw [w1]
        refine wx_iconst (v := (nI 1)) rfl (e := 16) rfl (by decide) ?_
        refine wn_isub rfl (e := 17) rfl (by omega) ?_
        refine wn_iald rfl (e := 18) rfl rfl (by omega) (by decide) ?_
        rw [show W.length + 1 - 1 = W.length by omega, w2.1, show mk 45 = 9 from rfl]
        refine wx_istore_n (L2 := [_, _, _]) rfl (e := 19) rfl (by decide) rfl ?_
        refine wx_iload_n rfl (e := 20) rfl rfl ?_
        refine wx_bipush (v := (nI 6)) rfl (e := 22) rfl (by decide) ?_
        refine wn_ic_eq rfl (e := 25) rfl (by omega) (by omega) (fun c_22 => absurd c_22 (by omega)) (fun c_22 => ?_)
        refine wx_iload_n rfl (e := 26) rfl rfl ?_
        refine wx_if_eq rfl (e := 29) rfl (fun c_26 => ?_) (fun c_26 => ?_)
        · refine wx_aload_n rfl (e := 43) rfl rfl ?_
          refine wx_dup rfl (e := 44) rfl rfl ?_
          refine wx_geti rfl (e := 47) rfl rfl ?_
          rw [w1]
          refine wx_iconst (v := (nI 1)) rfl (e := 48) rfl (by decide) ?_
          refine wn_isub rfl (e := 49) rfl (by omega) ?_
          rw [show W.length + 1 - 1 = W.length by omega]
          refine wx_puti rfl (e := 52) rfl rfl (by decide) ?_
          refine wx_aload_n rfl (e := 53) rfl rfl ?_
          refine wx_iload_n rfl (e := 54) rfl rfl ?_
          refine wx_bipush (v := (nI 8)) rfl (e := 56) rfl (by decide) ?_
          refine wn_ic_ne rfl (e := 59) rfl (by omega) (by omega) (fun c_56 => ?_) (fun c_56 => absurd c_56 (by omega))
          refine wx_iload_n rfl (e := 64) rfl rfl ?_
          refine wx_bipush (v := (nI 9)) rfl (e := 66) rfl (by decide) ?_
          refine wn_ic_ne rfl (e := 69) rfl (by omega) (by omega) (fun c_66 => absurd c_66 (by omega)) (fun c_66 => ?_)
          refine wx_iconst (v := (nI 3)) rfl (e := 70) rfl (by decide) ?_
          refine wx_goto rfl ?_
          refine wx_iconst (v := (nI 0)) rfl (e := 85) rfl (by decide) ?_
          refine wx_cv2 (mc := 0) (ms := 0) rfl (e := 88) rfl rfl (Nat.le_of_ble_eq_true rfl) ⟨by decide, by decide⟩ ?_
          have L1 : LM a0 c (wr I2 55 47 (nI W.length)) := ⟨by rw [wr_ne _ _ _ _ (by decide)]; exact hL.1, hL.2.kept2 c _ _ (fun j _ _ => ⟨by rw [wr_other _ _ _ _ (by decide)], by rw [wr_other _ _ _ _ (by decide)]⟩)⟩
          refine c_emit (x := a0 + c.length) L1.1 (by omega) ?_
          refine wx_goto rfl ?_
          have hco : co st (45 :: W) c = co st W (c ++ [(opK 45, nI 0)]) := co_n (fun y => y.elim (by decide) (fun y => absurd (y.1.symm.trans (b1_0.mp c_26)) (by decide)))
          rw [hco] at hq
          exact ih (c ++ [(opK 45, nI 0)]) _ hv2 (by omega) (by rw [emM.f (by decide), wr_eq]) (by rw [emM.q (by decide) (by decide) (by decide), wr_other _ _ _ _ (by decide)]; exact w2.2) (emM.s L1 (by omega) rfl rfl) (by rw [List.length_append]; show a0 + (c.length + 1) + W.length ≤ h; omega) (fun I3 f3 mm => hq I3 ((frx.w (by omega)).tr ((frx.e (by omega) (by omega)).tr f3)) (fun k h1 h2 => (mm k h1 h2).trans (by rw [emM.f h1, wr_ne _ _ _ _ h2])))  _
        · refine wx_iload_n rfl (e := 30) rfl rfl ?_
          refine wx_bipush (v := (nI 8)) rfl (e := 32) rfl (by decide) ?_
          refine wn_ic_eq rfl (e := 35) rfl (by omega) (by omega) (fun c_32 => absurd c_32 (by omega)) (fun c_32 => ?_)
          refine wx_iload_n rfl (e := 36) rfl rfl ?_
          refine wx_bipush (v := (nI 9)) rfl (e := 38) rfl (by decide) ?_
          refine wn_ic_ne rfl (e := 41) rfl (by omega) (by omega) (fun c_38 => absurd c_38 (by omega)) (fun c_38 => ?_)
          refine wx_ret rfl rfl ⟨by decide, by decide⟩ ?_
          rw [co_y (Or.inr ⟨b1_n0.mp c_26, by decide⟩)] at hq
          exact hq I2 frx.rf (fun _ _ _ => rfl) ⟨hv, w1, w2⟩ hL
      · have k0 := True.intro
        refine wx_aload_n rfl (e := 1) rfl rfl ?_
        refine wx_geti rfl (e := 4) rfl rfl ?_
        rw [w1]
        refine wn_if_le rfl (e := 7) rfl (by omega) (fun c_4 => absurd c_4 (by omega)) (fun c_4 => ?_)
        refine wx_aload_n rfl (e := 8) rfl rfl ?_
        refine wx_getr rfl (e := 11) rfl rfl rfl ?_
        refine wx_aload_n rfl (e := 12) rfl rfl ?_
        refine wx_geti rfl (e := 15) rfl rfl ?_
        rw [w1]
        refine wx_iconst (v := (nI 1)) rfl (e := 16) rfl (by decide) ?_
        refine wn_isub rfl (e := 17) rfl (by omega) ?_
        refine wn_iald rfl (e := 18) rfl rfl (by omega) (by decide) ?_
        rw [show W.length + 1 - 1 = W.length by omega, w2.1, show mk 42 = 10 from rfl]
        refine wx_istore_n (L2 := [_, _, _]) rfl (e := 19) rfl (by decide) rfl ?_
        refine wx_iload_n rfl (e := 20) rfl rfl ?_
        refine wx_bipush (v := (nI 6)) rfl (e := 22) rfl (by decide) ?_
        refine wn_ic_eq rfl (e := 25) rfl (by omega) (by omega) (fun c_22 => absurd c_22 (by omega)) (fun c_22 => ?_)
        refine wx_iload_n rfl (e := 26) rfl rfl ?_
        refine wx_if_eq rfl (e := 29) rfl (fun c_26 => ?_) (fun c_26 => ?_)
        · refine wx_aload_n rfl (e := 43) rfl rfl ?_
          refine wx_dup rfl (e := 44) rfl rfl ?_
          refine wx_geti rfl (e := 47) rfl rfl ?_
          rw [w1]
          refine wx_iconst (v := (nI 1)) rfl (e := 48) rfl (by decide) ?_
          refine wn_isub rfl (e := 49) rfl (by omega) ?_
          rw [show W.length + 1 - 1 = W.length by omega]
          refine wx_puti rfl (e := 52) rfl rfl (by decide) ?_
          refine wx_aload_n rfl (e := 53) rfl rfl ?_
          refine wx_iload_n rfl (e := 54) rfl rfl ?_
          refine wx_bipush (v := (nI 8)) rfl (e := 56) rfl (by decide) ?_
          refine wn_ic_ne rfl (e := 59) rfl (by omega) (by omega) (fun c_56 => ?_) (fun c_56 => absurd c_56 (by omega))
          refine wx_iload_n rfl (e := 64) rfl rfl ?_
          refine wx_bipush (v := (nI 9)) rfl (e := 66) rfl (by decide) ?_
          refine wn_ic_ne rfl (e := 69) rfl (by omega) (by omega) (fun c_66 => ?_) (fun c_66 => absurd c_66 (by omega))
          refine wx_iload_n rfl (e := 74) rfl rfl ?_
          refine wx_bipush (v := (nI 10)) rfl (e := 76) rfl (by decide) ?_
          refine wn_ic_ne rfl (e := 79) rfl (by omega) (by omega) (fun c_76 => absurd c_76 (by omega)) (fun c_76 => ?_)
          refine wx_iconst (v := (nI 4)) rfl (e := 80) rfl (by decide) ?_
          refine wx_goto rfl ?_
          refine wx_iconst (v := (nI 0)) rfl (e := 85) rfl (by decide) ?_
          refine wx_cv2 (mc := 0) (ms := 0) rfl (e := 88) rfl rfl (Nat.le_of_ble_eq_true rfl) ⟨by decide, by decide⟩ ?_
          have L1 : LM a0 c (wr I2 55 47 (nI W.length)) := ⟨by rw [wr_ne _ _ _ _ (by decide)]; exact hL.1, hL.2.kept2 c _ _ (fun j _ _ => ⟨by rw [wr_other _ _ _ _ (by decide)], by rw [wr_other _ _ _ _ (by decide)]⟩)⟩
          refine c_emit (x := a0 + c.length) L1.1 (by omega) ?_
          refine wx_goto rfl ?_
          have hco : co st (42 :: W) c = co st W (c ++ [(opK 42, nI 0)]) := co_n (fun y => y.elim (by decide) (fun y => y.2.elim (by decide) (by decide)))
          rw [hco] at hq
          exact ih (c ++ [(opK 42, nI 0)]) _ hv2 (by omega) (by rw [emM.f (by decide), wr_eq]) (by rw [emM.q (by decide) (by decide) (by decide), wr_other _ _ _ _ (by decide)]; exact w2.2) (emM.s L1 (by omega) rfl rfl) (by rw [List.length_append]; show a0 + (c.length + 1) + W.length ≤ h; omega) (fun I3 f3 mm => hq I3 ((frx.w (by omega)).tr ((frx.e (by omega) (by omega)).tr f3)) (fun k h1 h2 => (mm k h1 h2).trans (by rw [emM.f h1, wr_ne _ _ _ _ h2])))  _
        · refine wx_iload_n rfl (e := 30) rfl rfl ?_
          refine wx_bipush (v := (nI 8)) rfl (e := 32) rfl (by decide) ?_
          refine wn_ic_eq rfl (e := 35) rfl (by omega) (by omega) (fun c_32 => absurd c_32 (by omega)) (fun c_32 => ?_)
          refine wx_iload_n rfl (e := 36) rfl rfl ?_
          refine wx_bipush (v := (nI 9)) rfl (e := 38) rfl (by decide) ?_
          refine wn_ic_ne rfl (e := 41) rfl (by omega) (by omega) (fun c_38 => ?_) (fun c_38 => absurd c_38 (by omega))
          refine wx_aload_n rfl (e := 43) rfl rfl ?_
          refine wx_dup rfl (e := 44) rfl rfl ?_
          refine wx_geti rfl (e := 47) rfl rfl ?_
          rw [w1]
          refine wx_iconst (v := (nI 1)) rfl (e := 48) rfl (by decide) ?_
          refine wn_isub rfl (e := 49) rfl (by omega) ?_
          rw [show W.length + 1 - 1 = W.length by omega]
          refine wx_puti rfl (e := 52) rfl rfl (by decide) ?_
          refine wx_aload_n rfl (e := 53) rfl rfl ?_
          refine wx_iload_n rfl (e := 54) rfl rfl ?_
          refine wx_bipush (v := (nI 8)) rfl (e := 56) rfl (by decide) ?_
          refine wn_ic_ne rfl (e := 59) rfl (by omega) (by omega) (fun c_56 => ?_) (fun c_56 => absurd c_56 (by omega))
          refine wx_iload_n rfl (e := 64) rfl rfl ?_
          refine wx_bipush (v := (nI 9)) rfl (e := 66) rfl (by decide) ?_
          refine wn_ic_ne rfl (e := 69) rfl (by omega) (by omega) (fun c_66 => ?_) (fun c_66 => absurd c_66 (by omega))
          refine wx_iload_n rfl (e := 74) rfl rfl ?_
          refine wx_bipush (v := (nI 10)) rfl (e := 76) rfl (by decide) ?_
          refine wn_ic_ne rfl (e := 79) rfl (by omega) (by omega) (fun c_76 => absurd c_76 (by omega)) (fun c_76 => ?_)
          refine wx_iconst (v := (nI 4)) rfl (e := 80) rfl (by decide) ?_
          refine wx_goto rfl ?_
          refine wx_iconst (v := (nI 0)) rfl (e := 85) rfl (by decide) ?_
          refine wx_cv2 (mc := 0) (ms := 0) rfl (e := 88) rfl rfl (Nat.le_of_ble_eq_true rfl) ⟨by decide, by decide⟩ ?_
          have L1 : LM a0 c (wr I2 55 47 (nI W.length)) := ⟨by rw [wr_ne _ _ _ _ (by decide)]; exact hL.1, hL.2.kept2 c _ _ (fun j _ _ => ⟨by rw [wr_other _ _ _ _ (by decide)], by rw [wr_other _ _ _ _ (by decide)]⟩)⟩
          refine c_emit (x := a0 + c.length) L1.1 (by omega) ?_
          refine wx_goto rfl ?_
          have hco : co st (42 :: W) c = co st W (c ++ [(opK 42, nI 0)]) := co_n (fun y => y.elim (by decide) (fun y => y.2.elim (by decide) (by decide)))
          rw [hco] at hq
          exact ih (c ++ [(opK 42, nI 0)]) _ hv2 (by omega) (by rw [emM.f (by decide), wr_eq]) (by rw [emM.q (by decide) (by decide) (by decide), wr_other _ _ _ _ (by decide)]; exact w2.2) (emM.s L1 (by omega) rfl rfl) (by rw [List.length_append]; show a0 + (c.length + 1) + W.length ≤ h; omega) (fun I3 f3 mm => hq I3 ((frx.w (by omega)).tr ((frx.e (by omega) (by omega)).tr f3)) (fun k h1 h2 => (mm k h1 h2).trans (by rw [emM.f h1, wr_ne _ _ _ _ h2])))  _
      · have k0 := True.intro
        refine wx_aload_n rfl (e := 1) rfl rfl ?_
        refine wx_geti rfl (e := 4) rfl rfl ?_
        rw [w1]
        refine wn_if_le rfl (e := 7) rfl (by omega) (fun c_4 => absurd c_4 (by omega)) (fun c_4 => ?_)
        refine wx_aload_n rfl (e := 8) rfl rfl ?_
        refine wx_getr rfl (e := 11) rfl rfl rfl ?_
        refine wx_aload_n rfl (e := 12) rfl rfl ?_
        refine wx_geti rfl (e := 15) rfl rfl ?_
        rw [w1]
        refine wx_iconst (v := (nI 1)) rfl (e := 16) rfl (by decide) ?_
        refine wn_isub rfl (e := 17) rfl (by omega) ?_
        refine wn_iald rfl (e := 18) rfl rfl (by omega) (by decide) ?_
        rw [show W.length + 1 - 1 = W.length by omega, w2.1, show mk 47 = 15 from rfl]
        refine wx_istore_n (L2 := [_, _, _]) rfl (e := 19) rfl (by decide) rfl ?_
        refine wx_iload_n rfl (e := 20) rfl rfl ?_
        refine wx_bipush (v := (nI 6)) rfl (e := 22) rfl (by decide) ?_
        refine wn_ic_eq rfl (e := 25) rfl (by omega) (by omega) (fun c_22 => absurd c_22 (by omega)) (fun c_22 => ?_)
        refine wx_iload_n rfl (e := 26) rfl rfl ?_
        refine wx_if_eq rfl (e := 29) rfl (fun c_26 => ?_) (fun c_26 => ?_)
        · refine wx_aload_n rfl (e := 43) rfl rfl ?_
          refine wx_dup rfl (e := 44) rfl rfl ?_
          refine wx_geti rfl (e := 47) rfl rfl ?_
          rw [w1]
          refine wx_iconst (v := (nI 1)) rfl (e := 48) rfl (by decide) ?_
          refine wn_isub rfl (e := 49) rfl (by omega) ?_
          rw [show W.length + 1 - 1 = W.length by omega]
          refine wx_puti rfl (e := 52) rfl rfl (by decide) ?_
          refine wx_aload_n rfl (e := 53) rfl rfl ?_
          refine wx_iload_n rfl (e := 54) rfl rfl ?_
          refine wx_bipush (v := (nI 8)) rfl (e := 56) rfl (by decide) ?_
          refine wn_ic_ne rfl (e := 59) rfl (by omega) (by omega) (fun c_56 => ?_) (fun c_56 => absurd c_56 (by omega))
          refine wx_iload_n rfl (e := 64) rfl rfl ?_
          refine wx_bipush (v := (nI 9)) rfl (e := 66) rfl (by decide) ?_
          refine wn_ic_ne rfl (e := 69) rfl (by omega) (by omega) (fun c_66 => ?_) (fun c_66 => absurd c_66 (by omega))
          refine wx_iload_n rfl (e := 74) rfl rfl ?_
          refine wx_bipush (v := (nI 10)) rfl (e := 76) rfl (by decide) ?_
          refine wn_ic_ne rfl (e := 79) rfl (by omega) (by omega) (fun c_76 => ?_) (fun c_76 => absurd c_76 (by omega))
          refine wx_iconst (v := (nI 5)) rfl (e := 84) rfl (by decide) ?_
          refine wx_iconst (v := (nI 0)) rfl (e := 85) rfl (by decide) ?_
          refine wx_cv2 (mc := 0) (ms := 0) rfl (e := 88) rfl rfl (Nat.le_of_ble_eq_true rfl) ⟨by decide, by decide⟩ ?_
          have L1 : LM a0 c (wr I2 55 47 (nI W.length)) := ⟨by rw [wr_ne _ _ _ _ (by decide)]; exact hL.1, hL.2.kept2 c _ _ (fun j _ _ => ⟨by rw [wr_other _ _ _ _ (by decide)], by rw [wr_other _ _ _ _ (by decide)]⟩)⟩
          refine c_emit (x := a0 + c.length) L1.1 (by omega) ?_
          refine wx_goto rfl ?_
          have hco : co st (47 :: W) c = co st W (c ++ [(opK 47, nI 0)]) := co_n (fun y => y.elim (by decide) (fun y => y.2.elim (by decide) (by decide)))
          rw [hco] at hq
          exact ih (c ++ [(opK 47, nI 0)]) _ hv2 (by omega) (by rw [emM.f (by decide), wr_eq]) (by rw [emM.q (by decide) (by decide) (by decide), wr_other _ _ _ _ (by decide)]; exact w2.2) (emM.s L1 (by omega) rfl rfl) (by rw [List.length_append]; show a0 + (c.length + 1) + W.length ≤ h; omega) (fun I3 f3 mm => hq I3 ((frx.w (by omega)).tr ((frx.e (by omega) (by omega)).tr f3)) (fun k h1 h2 => (mm k h1 h2).trans (by rw [emM.f h1, wr_ne _ _ _ _ h2])))  _
        · refine wx_iload_n rfl (e := 30) rfl rfl ?_
          refine wx_bipush (v := (nI 8)) rfl (e := 32) rfl (by decide) ?_
          refine wn_ic_eq rfl (e := 35) rfl (by omega) (by omega) (fun c_32 => absurd c_32 (by omega)) (fun c_32 => ?_)
          refine wx_iload_n rfl (e := 36) rfl rfl ?_
          refine wx_bipush (v := (nI 9)) rfl (e := 38) rfl (by decide) ?_
          refine wn_ic_ne rfl (e := 41) rfl (by omega) (by omega) (fun c_38 => ?_) (fun c_38 => absurd c_38 (by omega))
          refine wx_aload_n rfl (e := 43) rfl rfl ?_
          refine wx_dup rfl (e := 44) rfl rfl ?_
          refine wx_geti rfl (e := 47) rfl rfl ?_
          rw [w1]
          refine wx_iconst (v := (nI 1)) rfl (e := 48) rfl (by decide) ?_
          refine wn_isub rfl (e := 49) rfl (by omega) ?_
          rw [show W.length + 1 - 1 = W.length by omega]
          refine wx_puti rfl (e := 52) rfl rfl (by decide) ?_
          refine wx_aload_n rfl (e := 53) rfl rfl ?_
          refine wx_iload_n rfl (e := 54) rfl rfl ?_
          refine wx_bipush (v := (nI 8)) rfl (e := 56) rfl (by decide) ?_
          refine wn_ic_ne rfl (e := 59) rfl (by omega) (by omega) (fun c_56 => ?_) (fun c_56 => absurd c_56 (by omega))
          refine wx_iload_n rfl (e := 64) rfl rfl ?_
          refine wx_bipush (v := (nI 9)) rfl (e := 66) rfl (by decide) ?_
          refine wn_ic_ne rfl (e := 69) rfl (by omega) (by omega) (fun c_66 => ?_) (fun c_66 => absurd c_66 (by omega))
          refine wx_iload_n rfl (e := 74) rfl rfl ?_
          refine wx_bipush (v := (nI 10)) rfl (e := 76) rfl (by decide) ?_
          refine wn_ic_ne rfl (e := 79) rfl (by omega) (by omega) (fun c_76 => ?_) (fun c_76 => absurd c_76 (by omega))
          refine wx_iconst (v := (nI 5)) rfl (e := 84) rfl (by decide) ?_
          refine wx_iconst (v := (nI 0)) rfl (e := 85) rfl (by decide) ?_
          refine wx_cv2 (mc := 0) (ms := 0) rfl (e := 88) rfl rfl (Nat.le_of_ble_eq_true rfl) ⟨by decide, by decide⟩ ?_
          have L1 : LM a0 c (wr I2 55 47 (nI W.length)) := ⟨by rw [wr_ne _ _ _ _ (by decide)]; exact hL.1, hL.2.kept2 c _ _ (fun j _ _ => ⟨by rw [wr_other _ _ _ _ (by decide)], by rw [wr_other _ _ _ _ (by decide)]⟩)⟩
          refine c_emit (x := a0 + c.length) L1.1 (by omega) ?_
          refine wx_goto rfl ?_
          have hco : co st (47 :: W) c = co st W (c ++ [(opK 47, nI 0)]) := co_n (fun y => y.elim (by decide) (fun y => y.2.elim (by decide) (by decide)))
          rw [hco] at hq
          exact ih (c ++ [(opK 47, nI 0)]) _ hv2 (by omega) (by rw [emM.f (by decide), wr_eq]) (by rw [emM.q (by decide) (by decide) (by decide), wr_other _ _ _ _ (by decide)]; exact w2.2) (emM.s L1 (by omega) rfl rfl) (by rw [List.length_append]; show a0 + (c.length + 1) + W.length ≤ h; omega) (fun I3 f3 mm => hq I3 ((frx.w (by omega)).tr ((frx.e (by omega) (by omega)).tr f3)) (fun k h1 h2 => (mm k h1 h2).trans (by rw [emM.f h1, wr_ne _ _ _ _ h2])))  _
  refine wx_in (M := mX11_comesOut) rfl rfl rfl (Nat.le_of_ble_eq_true rfl) ?_
  exact loop W c I hW.1 h60 hW.2.1 hW.2.2 hL hb hq _

/-! the class: a law read -/
def CLW (o : Nat) (I : Nat → Nat → Int32) (L : Nat → (Nat → Int32) → Int32) (x : Nat) : Prop := I (o + 1) 5 = nI x ∧ x ≤ 420 ∧ (∀ j, j < x → I (o + 2) j = nI 2 → ∃ m, m ≤ 420 ∧ I (o + 3) j = nI m) ∧ ∀ k, k < 5 → ∃ s, s ≤ x ∧ I (o + 4) k = nI s ∧ ∀ st ar : Nat → Int32, (∀ i, i < x → st i = I (o + 2) i ∧ ar i = I (o + 3) i) → ∀ us, x ≤ us → us ≤ 420 → ∀ vs, cev us st ar vs 421 s 0 (fun _ => nI 0) = L k vs
def frl (o : Nat) (I I2 : Nat → Nat → Int32) : Prop := (∀ q, q ≠ 33 → q ≠ o + 1 → q ≠ o + 2 → q ≠ o + 3 → q ≠ o + 4 → I2 q = I q) ∧ ∀ k, k ≠ 3 → k ≠ 4 → k ≠ 5 → I2 33 k = I 33 k
theorem CLW.kept {o x : Nat} {I I2 : Nat → Nat → Int32} {L : Nat → (Nat → Int32) → Int32} (h : CLW o I L x) (h1 : I2 (o + 1) = I (o + 1)) (h2 : I2 (o + 2) = I (o + 2)) (h3 : I2 (o + 3) = I (o + 3)) (h4 : I2 (o + 4) = I (o + 4)) : CLW o I2 L x := by
  unfold CLW at *; rw [h1, h2, h3, h4]; exact h
theorem frl.rf {o : Nat} {I : Nat → Nat → Int32} : frl o I I := ⟨fun _ _ _ _ _ _ => rfl, fun _ _ _ _ => rfl⟩
theorem frl.tr {o : Nat} {I I2 I3 : Nat → Nat → Int32} (h1 : frl o I I2) (h2 : frl o I2 I3) : frl o I I3 := ⟨fun q a b c d e => (h2.1 q a b c d e).trans (h1.1 q a b c d e), fun k a b c => (h2.2 k a b c).trans (h1.2 k a b c)⟩
theorem fre.l {o a0 : Nat} {I I2 : Nat → Nat → Int32} (h : fre o a0 I I2) : frl o I I2 := ⟨fun q a b c d _ => h.1 q a b c d, h.2.1⟩
theorem frt.l {o : Nat} {I I2 : Nat → Nat → Int32} (h : frt I I2) : frl o I I2 := ⟨fun q a _ _ _ _ => h.1 q a, h.2⟩
/-- a law put in place of an earlier one -/
theorem CLW.new {o x x2 k : Nat} {I I2 : Nat → Nat → Int32} {L : Nat → (Nat → Int32) → Int32} {w : rpn} {ts : List (rpn × rpn × rpn)} (h : CLW o I L x) (hk : k < 5) (hx2 : x2 ≤ 420) (h5 : I2 (o + 1) 5 = nI x2) (hb : ∀ i, i < x → I2 (o + 2) i = I (o + 2) i ∧ I2 (o + 3) i = I (o + 3) i) (hs : ∀ j, j < 5 → I2 (o + 4) j = if j = k then nI x else I (o + 4) j) (hK : KLw (I2 (o + 2)) (I2 (o + 3)) w x2 x ts) (hj : ∀ j, x ≤ j → j < x2 → I2 (o + 2) j = nI 2 → ∃ m, m ≤ 420 ∧ I2 (o + 3) j = nI m) : CLW o I2 (set1 L k (fun vs => lwL vs w ts)) x2 := by
  obtain ⟨q1, q2, q3, q4⟩ := h
  have hlt := hK.lt
  refine ⟨h5, hx2, fun j h1 h2 => ?_, fun j h1 => ?_⟩
  · by_cases c : j < x
    · rw [(hb j c).1] at h2; rw [(hb j c).2]; exact q3 j c h2
    · exact hj j (by omega) h1 h2
  · by_cases c : j = k
    · subst c
      refine ⟨x, by omega, by rw [hs j h1, if_pos rfl], fun st ar hst us hu1 hu2 vs => ?_⟩
      rw [show set1 L j (fun vs => lwL vs w ts) j = (fun vs => lwL vs w ts) from if_pos rfl]
      exact cev_law hu2 hu1 ts x 421 _ (hK.kept ts (fun i hi => hst i hi)) (by omega)
    · obtain ⟨s, g1, g2, g3⟩ := q4 j h1
      refine ⟨s, by omega, by rw [hs j h1, if_neg c]; exact g2, fun st ar hst us hu1 hu2 vs => ?_⟩
      rw [show set1 L k (fun vs => lwL vs w ts) j = L j from if_neg c]
      exact g3 st ar (fun i hi => ⟨(hst i (by omega)).1.trans (hb i hi).1, (hst i (by omega)).2.trans (hb i hi).2⟩) us (by omega) hu2 vs
theorem RS.kept2 {b : Nat → Nat} {n t c : Nat} {I I2 : Nat → Nat → Int32} {G G2 : Nat → Nat → Int64} (h : RS b n t I G) (f : ∀ q, q ≠ c → I2 q = I q) (hc : c < 32 ∨ 38 < c := by omega) (hG : G2 38 = G 38 := by rfl) : RS b n t I2 G2 := by
  obtain ⟨h1, h2, h3, h4, h5, h6⟩ := h
  exact ⟨RK.kept h1 (f 34 (by omega)) (f 36 (by omega)) (f 37 (by omega)) hG, h2, h3, by rw [f 33 (by omega)]; exact h4, by rw [f 33 (by omega)]; exact h5, by rw [f 33 (by omega)]; exact h6⟩
set_option maxHeartbeats 4000000 in
theorem c_X4_readLaw {d Lx tt u : Nat} {I : Nat → Nat → Int32} {G : Nat → Nat → Int64} {Q : ab_Q} {b : Nat → Nat} {n t o x : Nat} {L : Nat → (Nat → Int32) → Int32} (ho : o = 1 ∨ o = 16) (hR : RS b n t I G) (hC : CLW o I L x) (hx : x ≤ 16 + t) (hy : (lwQ b n t).1 = 0 → ∀ I2, frl o I I2 → RS b n (lwQ b n t).2.1 I2 G → ∀ x2, CLW o I2 (set1 L (kd b n t - 4) (fun vs => lwL vs (lwQ b n t).2.2.2 (lwQ b n t).2.2.1)) x2 → x2 ≤ 14 + (lwQ b n t).2.1 → Q (some (.int (nI 1))) (hp Lx tt o u I2 G)) (hn : ¬ (lwQ b n t).1 = 0 → ∀ I2, frl o I I2 → I2 33 3 = nI (lwQ b n t).2.1 → I2 33 5 = nI (lwQ b n t).1 → Q (some (.int (nI 0))) (hp Lx tt o u I2 G)) : ab_call ab_MT (d + 19) 69 [.ref 33] (hp Lx tt o u I G) 0 0 Q := by
  obtain ⟨-, ht, hgd, r3, r4, r5⟩ := id hR
  have hkl := kd62 b n t
  refine wx_in (M := mX4_readLaw) rfl rfl rfl (Nat.le_of_ble_eq_true rfl) ?_
  refine wx_aload_n rfl (e := 1) rfl rfl ?_
  refine wx_geti rfl (e := 4) rfl rfl ?_
  rw [r4]
  refine wx_iconst (v := (nI 4)) rfl (e := 5) rfl (by decide) ?_
  refine wx_isub rfl (e := 6) rfl ?_
  refine wx_istore_n (L2 := [_, _, _]) rfl (e := 7) rfl (by decide) rfl ?_
  refine wx_aload_n rfl (e := 8) rfl rfl ?_
  refine wx_geti rfl (e := 11) rfl rfl ?_
  rw [r4]
  refine wx_iconst (v := (nI 4)) rfl (e := 12) rfl (by decide) ?_
  refine wn_ic_lt rfl (e := 15) rfl (by omega) (by omega) (fun c_12 => ?_) (fun c_12 => ?_)
  · refine wx_aload_n rfl (e := 25) rfl rfl ?_
    refine wx_iconst (v := (nI 1)) rfl (e := 26) rfl (by decide) ?_
    refine wx_cv1 (mc := 0) (ms := 0) rfl (e := 29) rfl rfl (Nat.le_of_ble_eq_true rfl) ⟨by decide, by decide⟩ ?_
    refine c_X4_refuse ?_
    refine wx_iret rfl rfl rfl ⟨by decide, by decide⟩ ?_
    have hQ : lwQ b n t = (1, t, [], []) := by unfold lwQ; rw [if_neg (by omega)]
    exact hn (by rw [hQ]; exact (by decide : ¬ 1 = 0)) _ (frt.l ⟨fun q h => wr_other _ _ _ _ h, fun k _ _ h => wr_ne _ _ _ _ h⟩) (by rw [hQ]; exact (wr_ne _ _ _ _ (by decide)).trans r3) (by rw [hQ]; exact wr_eq _ _ _ _)
  · refine wx_aload_n rfl (e := 16) rfl rfl ?_
    refine wx_geti rfl (e := 19) rfl rfl ?_
    rw [r4]
    refine wx_bipush (v := (nI 8)) rfl (e := 21) rfl (by decide) ?_
    refine wn_ic_le rfl (e := 24) rfl (by omega) (by omega) (fun c_21 => ?_) (fun c_21 => ?_)
    · rw [pk_sub (show 4 ≤ kd b n t by omega)]
      refine wx_aload_n rfl (e := 31) rfl rfl ?_
      refine wx_aload_n rfl (e := 32) rfl rfl ?_
      refine wx_geti rfl (e := 35) rfl rfl ?_
      rw [r4]
      refine wx_cv1 (mc := 0) (ms := 0) rfl (e := 38) rfl rfl (Nat.le_of_ble_eq_true rfl) ⟨by decide, by decide⟩ ?_
      refine c_X4_take hR (k := (kd b n t)) (by omega) (by omega) (fun hk1 h41 I1 f1 R1 => ?_) (fun e1 he1 I1 f1 g3 g5 => ?_)
      · refine wn_if_eq rfl (e := 41) rfl (by omega) (fun c_38 => absurd c_38 (by omega)) (fun c_38 => ?_)
        refine wx_aload_n rfl (e := 42) rfl rfl ?_
        refine wx_bipush (v := (nI 61)) rfl (e := 44) rfl (by decide) ?_
        refine wx_cv1 (mc := 0) (ms := 0) rfl (e := 47) rfl rfl (Nat.le_of_ble_eq_true rfl) ⟨by decide, by decide⟩ ?_
        refine c_X4_take R1 (k := 61) (by omega) (by omega) (fun hk2 h42 I2 f2 R2 => ?_) (fun e2 he2 I2 f2 g3 g5 => ?_)
        · refine wn_if_ne rfl (e := 50) rfl (by omega) (fun c_47 => ?_) (fun c_47 => absurd c_47 (by omega))
          refine wx_aload_n rfl (e := 53) rfl rfl ?_
          refine wx_getr rfl (e := 56) rfl rfl rfl ?_
          refine wx_iload_n rfl (e := 57) rfl rfl ?_
          refine wx_cv1 (mc := 0) (ms := 0) rfl (e := 60) rfl (sh_l ho) (Nat.le_of_ble_eq_true rfl) ⟨by decide, by decide⟩ ?_
          refine c_X2_begin (w := o + 1) (by omega) (k := kd b n t - 4) (by omega) ?_
          refine wx_iconst (v := (nI 0)) rfl (e := 61) rfl (by decide) ?_
          refine wx_istore_n (L2 := [_, _, _]) rfl (e := 62) rfl (by decide) rfl ?_
          have hQ : lwQ b n t = lwP b n 4 (t + 2) [] := by unfold lwQ; rw [if_pos (by omega), if_neg (by omega), ltk, if_pos hk2, if_neg (by omega)]
          have hn2 : ∀ e tok, ¬ e = 0 → lwP b n 4 (t + 2) [] = (e, tok, [], []) → ∀ I4, frl o I I4 → I4 33 3 = nI tok → I4 33 5 = nI e → Q (some (.int (nI 0))) (hp Lx tt o u I4 G) := fun e tok z hl I4 f4 g3 g5 => hn (by rw [hQ, hl]; exact z) I4 f4 (by rw [hQ, hl]; exact g3) (by rw [hQ, hl]; exact g5)
          have hy2 : ∀ t4 ts w, lwP b n 4 (t + 2) [] = (0, t4, ts, w) → ∀ I4, frl o I I4 → RS b n t4 I4 G → ∀ x2, CLW o I4 (set1 L (kd b n t - 4) (fun vs => lwL vs w ts)) x2 → x2 ≤ 14 + t4 → Q (some (.int (nI 1))) (hp Lx tt o u I4 G) := fun t4 ts w hl I4 f4 R4 x2 C4 hx4 => hy (by rw [hQ, hl]) I4 f4 (by rw [hQ, hl]; exact R4) x2 (by rw [hQ, hl]; exact C4) (by rw [hQ, hl]; exact hx4)
          have RB : RS b n (t + 2) (wr I2 (o + 1 + 3) (kd b n t - 4) (I2 (o + 1) 5)) G := RS.kept2 R2 (fun q h => wr_other _ _ _ _ h)
          have loop : ∀ (m i t3 a : Nat) (acc : List (rpn × rpn × rpn)) (I3 : Nat → Nat → Int32), i ≤ 4 → 4 - i < m → fre o x (wr I2 (o + 1 + 3) (kd b n t - 4) (I2 (o + 1) 5)) I3 → frl o I I3 → RS b n t3 I3 G → I3 (o + 1) 5 = nI a → KLp (I3 (o + 2)) (I3 (o + 3)) a x acc → a ≤ 14 + t3 → lwP b n (4 - i) t3 acc = lwP b n 4 (t + 2) [] → WP (d + 18) mX4_readLaw Q 62 [some (.ref 33), some (.int (nI (kd b n t - 4))), some (.int (nI i))] [] (hp Lx tt o u I3 G) 0 0 := by
            intro m
            induction m with
            | zero => intro i t3 a acc I3 h1 h2; omega
            | succ m ih =>
              intro i t3 a acc I3 h1 h2 f3 F3 R3 u3 KP3 hx3 hlw
              obtain ⟨-, ht3, -, r3, r4, -⟩ := id R3
              have hk3 := kd62 b n t3
              refine wx_aload_n rfl (e := 63) rfl rfl ?_
              refine wx_geti rfl (e := 66) rfl rfl ?_
              rw [r4]
              refine wx_bipush (v := (nI 12)) rfl (e := 68) rfl (by decide) ?_
              refine wn_ic_ne rfl (e := 71) rfl (by omega) (by omega) (fun c_68 => ?_) (fun c_68 => ?_)
              · have hlf : lwP b n (4 - i) t3 acc = lwF b n t3 acc := by cases (4 - i) with
                  | zero => rw [lwP, if_neg c_68]
                  | succ y => rw [lwP, if_neg c_68]
                refine wx_aload_n rfl (e := 103) rfl rfl ?_
                refine wx_iconst (v := (nI 0)) rfl (e := 104) rfl (by decide) ?_
                refine wx_cv1 (mc := 0) (ms := 0) rfl (e := 107) rfl rfl (Nat.le_of_ble_eq_true rfl) ⟨by decide, by decide⟩ ?_
                refine c_X4_readSum (b := b) (n := n) (o := o) (a0 := a) ho R3 ⟨u3, True.intro⟩ (by omega) ⟨fun z5 I5 f5 R5 L5 => ?_, fun z5 I5 f5 g3 g5 => ?_⟩
                · obtain ⟨q1, q2, q3, q4, q5⟩ := sum_far (b := b) (n := n) (t := t3) (by omega) R3.2.2.1
                  have q4 := q4 z5
                  have w5 := sum_wf z5
                  refine wn_if_ne rfl (e := 110) rfl (by omega) (fun c_107 => ?_) (fun c_107 => absurd c_107 (by omega))
                  refine wx_aload_n rfl (e := 113) rfl rfl ?_
                  refine wx_getr rfl (e := 116) rfl rfl rfl ?_
                  refine wx_iconst (v := (nI 3)) rfl (e := 117) rfl (by decide) ?_
                  refine wx_iconst (v := (nI 0)) rfl (e := 118) rfl (by decide) ?_
                  refine wx_cv2 (mc := 0) (ms := 0) rfl (e := 121) rfl (sh_l ho) (Nat.le_of_ble_eq_true rfl) ⟨by decide, by decide⟩ ?_
                  refine c_X2_emit (w := o + 1) (by omega) (x := a + (sumS b n t3).2.2.length) L5.1 (by omega) ?_
                  show WP _ _ _ _ _ _ (hp Lx tt o u (emW o I5 (a + (sumS b n t3).2.2.length) (nI 3) (nI 0)) G) _ _
                  refine wx_pop rfl (e := 122) rfl rfl ?_
                  refine wx_aload_n rfl (e := 123) rfl rfl ?_
                  refine wx_bipush (v := (nI 59)) rfl (e := 125) rfl (by decide) ?_
                  refine wx_cv1 (mc := 0) (ms := 0) rfl (e := 128) rfl rfl (Nat.le_of_ble_eq_true rfl) ⟨by decide, by decide⟩ ?_
                  refine c_X4_take (R5.e ho) (k := 59) (by omega) (by omega) (fun hk6 h46 I6 f6 R6 => ?_) (fun e6 he6 I6 f6 g3 g5 => ?_)
                  · refine wx_iret rfl rfl rfl ⟨by decide, by decide⟩ ?_
                    have hll : lwP b n 4 (t + 2) [] = (0, (sumS b n t3).2.1 + 1, acc, (sumS b n t3).2.2) := by rw [← hlw, hlf, lwF, lbd_0 z5, ltk, if_pos hk6, if_neg (by omega)]
                    have e2 : ∀ j, I6 (o + 2) j = if j = a + (sumS b n t3).2.2.length then nI 3 else I5 (o + 2) j := fun j => by rw [f6.1 (o + 2) (by omega)]; unfold emW; rw [wr_other _ _ _ _ (by omega), wr_other _ _ _ _ (by omega), wr_at, if_pos rfl]
                    have e3 : ∀ j, j < a + (sumS b n t3).2.2.length → I6 (o + 3) j = I5 (o + 3) j := fun j hj => by rw [f6.1 (o + 3) (by omega)]; unfold emW; rw [wr_other _ _ _ _ (by omega), wr_at, if_pos rfl, if_neg (by omega), wr_other _ _ _ _ (by omega)]
                    have m5 : ∀ j, j < a → I6 (o + 2) j = I3 (o + 2) j ∧ I6 (o + 3) j = I3 (o + 3) j := fun j hj => by have y := f5.2.2 j hj; rw [e2, if_neg (by omega), e3 j (by omega)]; exact y
                    have KP := KP3.kept (fun j hj => m5 j hj)
                    have KW := KP.end (w := (sumS b n t3).2.2) (L5.2.kept _ (fun j hj => ⟨by rw [e2, if_neg (by omega)], e3 j hj⟩)) (by rw [e2, if_pos rfl]) (w5 0 (by omega))
                    have u6 : I6 (o + 1) 5 = nI (a + (sumS b n t3).2.2.length + 1) := by rw [f6.1 (o + 1) (by omega)]; unfold emW; rw [wr_eq]
                    have m3 : ∀ j, j < x → I6 (o + 2) j = I (o + 2) j ∧ I6 (o + 3) j = I (o + 3) j := fun j hj => by
                      have y1 := m5 j (by have := KP3.le; omega)
                      have y2 := f3.2.2 j hj
                      have y3 : (wr I2 (o + 1 + 3) (kd b n t - 4) (I2 (o + 1) 5)) (o + 2) j = I (o + 2) j ∧ (wr I2 (o + 1 + 3) (kd b n t - 4) (I2 (o + 1) 5)) (o + 3) j = I (o + 3) j := by rw [wr_other _ _ _ _ (by omega), wr_other _ _ _ _ (by omega), f2.1 (o + 2) (by omega), f2.1 (o + 3) (by omega), f1.1 (o + 2) (by omega), f1.1 (o + 3) (by omega)]; exact ⟨rfl, rfl⟩
                      exact ⟨y1.1.trans (y2.1.trans y3.1), y1.2.trans (y2.2.trans y3.2)⟩
                    refine hy2 _ _ _ hll _ (F3.tr (f5.l.tr ((emW.f (a0 := a) (x := a + (sumS b n t3).2.2.length) (k := nI 3) (v := nI 0) ho (by omega)).l.tr (frt.l f6)))) R6 (a + (sumS b n t3).2.2.length + 1) (hC.new (by omega) (by omega) u6 m3 (fun j hj => ?_) KW (fun j h1 h2 h3 => ?_)) (by omega)
                    · rw [f6.1 (o + 4) (by omega)]; unfold emW; rw [wr_other _ _ _ _ (by omega), wr_other _ _ _ _ (by omega), wr_other _ _ _ _ (by omega), f5.1 (o + 4) (by omega) (by omega) (by omega) (by omega), f3.1 (o + 4) (by omega) (by omega) (by omega) (by omega), wr_at, if_pos rfl, f2.1 (o + 1) (by omega), f1.1 (o + 1) (by omega), hC.1]
                      by_cases zj : j = kd b n t - 4
                      · rw [if_pos zj, if_pos zj]
                      · rw [if_neg zj, if_neg zj, f2.1 (o + 1 + 3) (by omega), f1.1 (o + 1 + 3) (by omega)]
                    · by_cases c1 : j < a
                      · exact KP.j (by omega) j h1 c1 h3
                      · by_cases c2 : j < a + (sumS b n t3).2.2.length
                        · rw [e2, if_neg (by omega)] at h3; exact absurd h3 (L5.2.no2 _ j (by omega) c2)
                        · rw [e2, if_pos (by omega)] at h3; exact absurd h3 (by decide)
                  · refine wx_iret rfl rfl rfl ⟨by decide, by decide⟩ ?_
                    rcases he6 with ⟨w1, w⟩ | ⟨w1, w, w2⟩
                    · subst w1; refine hn2 1 _ (by decide) ?_ _ (F3.tr (f5.l.tr ((emW.f (a0 := a) (x := a + (sumS b n t3).2.2.length) (k := nI 3) (v := nI 0) ho (by omega)).l.tr (frt.l f6)))) g3 g5; rw [← hlw, hlf, lwF, lbd_0 z5, ltk, if_neg w]
                    · subst w1; refine hn2 2 _ (by decide) ?_ _ (F3.tr (f5.l.tr ((emW.f (a0 := a) (x := a + (sumS b n t3).2.2.length) (k := nI 3) (v := nI 0) ho (by omega)).l.tr (frt.l f6)))) g3 g5; rw [← hlw, hlf, lwF, lbd_0 z5, ltk, if_pos w, if_pos w2]
                · refine wn_if_ne rfl (e := 110) rfl (by omega) (fun c_107 => absurd c_107 (by omega)) (fun c_107 => ?_)
                  refine wx_iconst (v := (nI 0)) rfl (e := 111) rfl (by decide) ?_
                  refine wx_iret rfl rfl rfl ⟨by decide, by decide⟩ ?_
                  refine hn2 _ _ z5 ?_ _ (F3.tr f5.l) g3 g5
                  rw [← hlw, hlf, lwF, lbd_1 z5]
              · refine wx_iload_n rfl (e := 72) rfl rfl ?_
                refine wx_iconst (v := (nI 4)) rfl (e := 73) rfl (by decide) ?_
                refine wn_ic_gt rfl (e := 76) rfl (by omega) (by omega) (fun c_73 => absurd c_73 (by omega)) (fun c_73 => ?_)
                refine wx_iload_n rfl (e := 77) rfl rfl ?_
                refine wx_iconst (v := (nI 4)) rfl (e := 78) rfl (by decide) ?_
                refine wn_ic_ne rfl (e := 81) rfl (by omega) (by omega) (fun c_78 => ?_) (fun c_78 => ?_)
                · refine wx_aload_n rfl (e := 88) rfl rfl ?_
                  refine wx_cv0 (mc := 0) (ms := 0) rfl (e := 91) rfl rfl (Nat.le_of_ble_eq_true rfl) ⟨by decide, by decide⟩ ?_
                  refine c_X4_readIf (b := b) (n := n) (o := o) (a := a) ho R3 ⟨u3, True.intro⟩ hx3 (fun q4 t4 a4 e4q lt4 le4 I4 f4 R4 u4 K4 => ?_) (fun e4 tok4 z4 e4q I4 f4 g3 g5 => ?_)
                  · refine wn_if_ne rfl (e := 94) rfl (by omega) (fun c_91 => ?_) (fun c_91 => absurd c_91 (by omega))
                    refine wn_iinc (m := 1) (L2 := [_, _, _]) rfl (e := 99) rfl rfl (by decide) rfl ?_
                    refine wx_goto rfl ?_
                    exact ih (i + 1) t4 a4 (acc ++ [q4]) I4 (by omega) (by omega) (f3.tr (f4.low (by have := KP3.le; omega))) (F3.tr f4.l) R4 u4 (KP3.kept (fun j hj => f4.2.2 j hj) |>.ap K4) le4 (by rw [← hlw, show 4 - i = 4 - (i + 1) + 1 by omega, lwP, if_pos (by omega)]; exact (e4q acc (lwP b n (4 - (i + 1)))).symm)
                  · refine wn_if_ne rfl (e := 94) rfl (by omega) (fun c_91 => absurd c_91 (by omega)) (fun c_91 => ?_)
                    refine wx_iconst (v := (nI 0)) rfl (e := 95) rfl (by decide) ?_
                    refine wx_iret rfl rfl rfl ⟨by decide, by decide⟩ ?_
                    refine hn2 e4 tok4 z4 ?_ _ (F3.tr f4.l) g3 g5
                    rw [← hlw, show 4 - i = 4 - (i + 1) + 1 by omega, lwP, if_pos (by omega)]
                    exact e4q _ _
                · refine wx_aload_n rfl (e := 82) rfl rfl ?_
                  refine wx_iconst (v := (nI 2)) rfl (e := 83) rfl (by decide) ?_
                  refine wx_cv1 (mc := 0) (ms := 0) rfl (e := 86) rfl rfl (Nat.le_of_ble_eq_true rfl) ⟨by decide, by decide⟩ ?_
                  refine c_X4_refuse ?_
                  refine wx_iret rfl rfl rfl ⟨by decide, by decide⟩ ?_
                  refine hn2 2 t3 (by decide) ?_ _ (F3.tr (frt.l ⟨fun q h => wr_other _ _ _ _ h, fun k _ _ h => wr_ne _ _ _ _ h⟩)) ((wr_ne _ _ _ _ (by decide)).trans r3) (wr_eq _ _ _ _)
                  rw [← hlw, show 4 - i = 0 by omega, lwP, if_pos (by omega)]
          have uB : (wr I2 (o + 1 + 3) (kd b n t - 4) (I2 (o + 1) 5)) (o + 1) 5 = nI x := by rw [wr_other _ _ _ _ (by omega), f2.1 (o + 1) (by omega), f1.1 (o + 1) (by omega)]; exact hC.1
          exact loop 5 0 (t + 2) x [] (wr I2 (o + 1 + 3) (kd b n t - 4) (I2 (o + 1) 5)) (by omega) (by omega) fre.rf ((frt.l f1).tr ((frt.l f2).tr ⟨fun q _ _ _ _ h => wr_other _ _ _ _ h, fun k _ _ _ => by rw [wr_other _ _ _ _ (by omega)]⟩)) RB uB rfl (by omega) rfl
        · refine wn_if_ne rfl (e := 50) rfl (by omega) (fun c_47 => absurd c_47 (by omega)) (fun c_47 => ?_)
          refine wx_iconst (v := (nI 0)) rfl (e := 51) rfl (by decide) ?_
          refine wx_iret rfl rfl rfl ⟨by decide, by decide⟩ ?_
          rcases he2 with ⟨w1, w⟩ | ⟨w1, w, w2⟩
          · subst w1
            have hQ : lwQ b n t = (1, t + 1, [], []) := by unfold lwQ; rw [if_pos (by omega), if_neg (by omega), ltk, if_neg w]
            exact hn (by rw [hQ]; exact (by decide : ¬ 1 = 0)) _ ((frt.l f1).tr (frt.l f2)) (by rw [hQ]; exact g3) (by rw [hQ]; exact g5)
          · subst w1
            have hQ : lwQ b n t = (2, t + 1, [], []) := by unfold lwQ; rw [if_pos (by omega), if_neg (by omega), ltk, if_pos w, if_pos w2]
            exact hn (by rw [hQ]; exact (by decide : ¬ 2 = 0)) _ ((frt.l f1).tr (frt.l f2)) (by rw [hQ]; exact g3) (by rw [hQ]; exact g5)
      · refine wn_if_eq rfl (e := 41) rfl (by omega) (fun c_38 => ?_) (fun c_38 => absurd c_38 (by omega))
        refine wx_iconst (v := (nI 0)) rfl (e := 51) rfl (by decide) ?_
        refine wx_iret rfl rfl rfl ⟨by decide, by decide⟩ ?_
        rcases he1 with ⟨_, w⟩ | ⟨w1, _, w2⟩
        · exact absurd rfl w
        · subst w1
          have hQ : lwQ b n t = (2, t, [], []) := by unfold lwQ; rw [if_pos (by omega), if_pos w2]
          exact hn (by rw [hQ]; exact (by decide : ¬ 2 = 0)) _ (frt.l f1) (by rw [hQ]; exact g3) (by rw [hQ]; exact g5)
    · refine wx_aload_n rfl (e := 25) rfl rfl ?_
      refine wx_iconst (v := (nI 1)) rfl (e := 26) rfl (by decide) ?_
      refine wx_cv1 (mc := 0) (ms := 0) rfl (e := 29) rfl rfl (Nat.le_of_ble_eq_true rfl) ⟨by decide, by decide⟩ ?_
      refine c_X4_refuse ?_
      refine wx_iret rfl rfl rfl ⟨by decide, by decide⟩ ?_
      have hQ : lwQ b n t = (1, t, [], []) := by unfold lwQ; rw [if_neg (by omega)]
      exact hn (by rw [hQ]; exact (by decide : ¬ 1 = 0)) _ (frt.l ⟨fun q h => wr_other _ _ _ _ h, fun k _ _ h => wr_ne _ _ _ _ h⟩) (by rw [hQ]; exact (wr_ne _ _ _ _ (by decide)).trans r3) (by rw [hQ]; exact wr_eq _ _ _ _)

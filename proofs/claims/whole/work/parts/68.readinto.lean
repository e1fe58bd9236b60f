/-! the class: a text read -/
/-- what the class's text holds when it was read without a fault -/
def CFin (b : Nat → Nat) (n o : Nat) (S : ps) (I : Nat → Nat → Int32) : Prop := PV S ∧ PW S ∧ CQ o (sN S) (sS S) (sW S) 1 (sF S) (sQ S) (sU S) (sH S) I ∧ (∀ a c, a < sC S → c < sC S → I (o + 10) (a * 6 + c) = fwS (sF S) (sC S) a c) ∧ ∃ x, CLW o I (sL S) x
theorem PW.ln {S : ps} (h : PW S) (h0 : (sE S).1 = 0) : lnF (sF S) := by
  obtain ⟨-, h2, -⟩ := h
  obtain ⟨-, q2, -, -⟩ := h2 h0
  intro a c ha hc
  obtain ⟨g1, g2⟩ := q2 a c ha hc
  by_cases e : a = c
  · exact ⟨0, by omega, g1 e, fun _ => rfl⟩
  · obtain ⟨v, y1, y2, y3, -⟩ := g2 e
    exact ⟨v, y2, y3, fun w => absurd w e⟩
theorem CP.tk {b : Nat → Nat} {n o : Nat} {S : ps} {I : Nat → Nat → Int32} {G : Nat → Nat → Int64} (h : CP b n o S I G) : RK b n I G := h.1.1
theorem RK.S {b : Nat → Nat} {n o : Nat} (ho : o = 1 ∨ o = 16) {I I2 : Nat → Nat → Int32} {G G2 : Nat → Nat → Int64} (h : RK b n I G) (f : frS o I I2 G G2) : RK b n I2 G2 := h.kept (f.1 34 (by decide) (by omega)) (f.1 36 (by decide) (by omega)) (f.1 37 (by decide) (by omega)) (f.2.2 38 (by omega) (by omega))
set_option maxHeartbeats 8000000 in
theorem c_X4_readInto {d Lx tt rt u : Nat} {I : Nat → Nat → Int32} {G : Nat → Nat → Int64} {Q : ab_Q} {o n : Nat} {B : Nat → Int32} {xs : Nat → Int32} (ho : o = 1 ∨ o = 16) (hT : TP I B n) (hW : CW G) (hs : SP xs I) (hF : ¬ (rdS (bt B) n 402 ps0).1 = 0 → ∀ I2 G2, frR o I I2 G G2 → I2 33 6 = nI (stA (bt B) n (rdS (bt B) n 402 ps0).2.1) → Q (some (.int (nI (rdS (bt B) n 402 ps0).1))) (hp Lx tt o u I2 G2)) (hL : (rdS (bt B) n 402 ps0).1 = 0 → ¬ (sE (rdS (bt B) n 402 ps0).2.2).1 = 0 → ∀ I2 G2, frR o I I2 G G2 → I2 33 6 = nI (stA (bt B) n (sE (rdS (bt B) n 402 ps0).2.2).2) → Q (some (.int (nI (sE (rdS (bt B) n 402 ps0).2.2).1))) (hp Lx tt o u I2 G2)) (hO : (rdS (bt B) n 402 ps0).1 = 0 → (sE (rdS (bt B) n 402 ps0).2.2).1 = 0 → ∀ I2 G2, frR o I I2 G G2 → I2 33 6 = -1 → CFin (bt B) n o (rdS (bt B) n 402 ps0).2.2 I2 → Q (some (.int (nI 0))) (hp Lx tt o u I2 G2)) : ab_call ab_MT (d + 21) 55 [.ref 33, .ref o, .ref 31] (hp Lx tt rt u I G) 0 0 Q := by
  refine wx_in (M := mX4_readInto) rfl rfl rfl (Nat.le_of_ble_eq_true rfl) ?_
  refine wx_aload_n rfl (e := 1) rfl rfl ?_
  refine wx_aload_n rfl (e := 2) rfl rfl ?_
  refine wx_aload_n rfl (e := 3) rfl rfl ?_
  refine wx_cv2 (mc := 0) (ms := 0) rfl (e := 6) rfl rfl (Nat.le_of_ble_eq_true rfl) ⟨by decide, by decide⟩ ?_
  refine c_X4_begin ho hT hW hs (fun I2 G2 f2 C2 => ?_)
  have fin0 : ∀ (k tok tl : Nat) (S2 : ps) (I2 : Nat → Nat → Int32) (G2 : Nat → Nat → Int64), ¬ k = 0 → k ≤ 5 → (rdS (bt B) n 402 ps0) = (k, tok, S2) → frR o I I2 G G2 → RK (bt B) n I2 G2 → tok ≤ 400 → gdT (bt B) n tok → I2 33 3 = nI tok → I2 33 5 = nI k → WP (d + 20) mX4_readInto Q 11 [some (.ref 33), some (.ref o), some (.ref 31), some (.int (nI 0)), some (.int (nI tl))] [] (hp Lx tt o u I2 G2) 0 0 := by
    intro k tok tl S2 I2 G2 hk hk5 hR f2 K2 ht hg g3 g5
    refine wx_iload_n rfl (e := 12) rfl rfl ?_
    refine wn_if_eq rfl (e := 15) rfl (by omega) (fun c_12 => ?_) (fun c_12 => absurd c_12 (by omega))
    refine wx_aload_n rfl (e := 144) rfl rfl ?_
    refine wx_cv0 (mc := 0) (ms := 0) rfl (e := 147) rfl rfl (Nat.le_of_ble_eq_true rfl) ⟨by decide, by decide⟩ ?_
    refine c_settle1 K2 hk hk5 g3 g5 ht hg ?_
    refine wx_aload_n rfl (e := 148) rfl rfl ?_
    refine wx_geti rfl (e := 151) rfl rfl ?_
    rw [wr_ne _ _ _ _ (by decide), g5]
    refine wx_iret rfl rfl rfl ⟨by decide, by decide⟩ ?_
    rw [hR] at hF
    exact hF hk _ G2 (f2.tr frR.w) (wr_eq _ _ _ _)
  have fin1 : ∀ (tl : Nat) (S : ps) (I2 : Nat → Nat → Int32) (G2 : Nat → Nat → Int64), PV S → PW S → CP (bt B) n o S I2 G2 → frR o I I2 G G2 → kd (bt B) n (sT S) = 26 → (rdS (bt B) n 402 ps0) = (0, 0, S) → WP (d + 20) mX4_readInto Q 11 [some (.ref 33), some (.ref o), some (.ref 31), some (.int (nI 1)), some (.int (nI tl))] [] (hp Lx tt o u I2 G2) 0 0 := by
    intro tl S I2 G2 V2 W2 C2 f2 h26 hR
    obtain ⟨-, ht, hgd, r3, r4, r5⟩ := id C2.1
    by_cases hl : (sE S).1 = 0
    · refine wx_iload_n rfl (e := 12) rfl rfl ?_
      refine wn_if_eq rfl (e := 15) rfl (by omega) (fun c_12 => absurd c_12 (by omega)) (fun c_12 => ?_)
      refine wx_aload_n rfl (e := 16) rfl rfl ?_
      refine wx_geti rfl (e := 19) rfl rfl ?_
      rw [r4]
      refine wx_bipush (v := (nI 26)) rfl (e := 21) rfl (by decide) ?_
      refine wn_ic_eq rfl (e := 24) rfl (by omega) (by omega) (fun c_21 => ?_) (fun c_21 => absurd c_21 (by omega))
      refine wx_aload_n rfl (e := 144) rfl rfl ?_
      refine wx_cv0 (mc := 0) (ms := 0) rfl (e := 147) rfl rfl (Nat.le_of_ble_eq_true rfl) ⟨by decide, by decide⟩ ?_
      refine c_settle3 (b := bt B) (n := n) ho C2.2.1 hl r5 (C := sC S) (F := sF S) C2.2.2.2.2.1.1.1 V2.1 (W2.ln hl) (fun a c ha hc => C2.2.2.2.2.1.2.2.1 hl a c (by have := V2.1; omega) (by have := V2.1; omega)) (fun I3 f3 y6 y5 j3 => ?_)
      refine wx_aload_n rfl (e := 148) rfl rfl ?_
      refine wx_geti rfl (e := 151) rfl rfl ?_
      rw [y5]
      refine wx_iret rfl rfl rfl ⟨by decide, by decide⟩ ?_
      rw [hR] at hO
      obtain ⟨-, -, -, -, q5, x, q6, -⟩ := C2
      obtain ⟨⟨b1, b2, b3, b4, b5, b6⟩, b7, b8, b9, b10⟩ := q5
      have e : ∀ q, q ≠ 33 → q ≠ o + 10 → I3 q = I2 q := f3
      exact hO rfl hl I3 G2 (f2.tr ⟨fun q h1 h2 h3 h4 h5 => e q h1 (by omega), fun _ _ _ _ => rfl⟩) y6 ⟨V2, W2, ⟨by rw [e o (by omega) (by omega)]; exact ⟨b1, b2, b3, b4, b5, b6⟩, by rw [e (o + 9) (by omega) (by omega)]; exact b7, fun w => absurd w (by decide), by rw [e (o + 11) (by omega) (by omega)]; exact b9, by rw [e (o + 12) (by omega) (by omega), e (o + 13) (by omega) (by omega), e (o + 14) (by omega) (by omega)]; exact b10⟩, j3, x, q6.kept (e _ (by omega) (by omega)) (e _ (by omega) (by omega)) (e _ (by omega) (by omega)) (e _ (by omega) (by omega))⟩
    · refine wx_iload_n rfl (e := 12) rfl rfl ?_
      refine wn_if_eq rfl (e := 15) rfl (by omega) (fun c_12 => absurd c_12 (by omega)) (fun c_12 => ?_)
      refine wx_aload_n rfl (e := 16) rfl rfl ?_
      refine wx_geti rfl (e := 19) rfl rfl ?_
      rw [r4]
      refine wx_bipush (v := (nI 26)) rfl (e := 21) rfl (by decide) ?_
      refine wn_ic_eq rfl (e := 24) rfl (by omega) (by omega) (fun c_21 => ?_) (fun c_21 => absurd c_21 (by omega))
      refine wx_aload_n rfl (e := 144) rfl rfl ?_
      refine wx_cv0 (mc := 0) (ms := 0) rfl (e := 147) rfl rfl (Nat.le_of_ble_eq_true rfl) ⟨by decide, by decide⟩ ?_
      refine c_settle2 C2.1.1 C2.2.1 hl r5 (by have := W2.1 hl; omega) (fun j hj => hgd j (by have := W2.1 hl; omega)) ?_
      refine wx_aload_n rfl (e := 148) rfl rfl ?_
      refine wx_geti rfl (e := 151) rfl rfl ?_
      rw [wr_ne _ _ _ _ (by decide), wr_eq]
      refine wx_iret rfl rfl rfl ⟨by decide, by decide⟩ ?_
      rw [hR] at hL
      exact hL rfl hl _ G2 (f2.tr (frR.w.tr frR.w)) (wr_eq _ _ _ _)
  have loop : ∀ (m tl f : Nat) (S : ps) (I2 : Nat → Nat → Int32) (G2 : Nat → Nat → Int64), PV S → PW S → CP (bt B) n o S I2 G2 → frR o I I2 G G2 → 402 ≤ f + sT S → tl ≤ sT S → 402 - sT S < m → rdS (bt B) n f S = (rdS (bt B) n 402 ps0) → WP (d + 20) mX4_readInto Q 11 [some (.ref 33), some (.ref o), some (.ref 31), some (.int (nI 1)), some (.int (nI tl))] [] (hp Lx tt o u I2 G2) 0 0 := by
    intro m
    induction m with
    | zero => intro tl f S I2 G2 _ _ _ _ _ _ h; omega
    | succ m ih0 =>
      intro tl f0 S I2 G2 V2 W2 C2 f2 hf htl hm hR
      obtain ⟨-, ht, hgd, r3, r4, r5⟩ := id C2.1
      have hkl := kd62 (bt B) n (sT S)
      have hti : (nI (kd (bt B) n (sT S))).toInt = (kd (bt B) n (sT S) : Int) := nI_toInt (by omega)
      obtain ⟨f, rfl⟩ : ∃ f, f0 = f + 1 := ⟨f0 - 1, by omega⟩
      have so := st_ok2 V2 W2 ht hgd
      by_cases h26 : kd (bt B) n (sT S) = 26
      · exact fin1 tl S I2 G2 V2 W2 C2 f2 h26 (by rw [← hR, rdS, if_pos h26])
      · have ih := fun (_ : Nat) => ih0
        refine wx_iload_n rfl (e := 12) rfl rfl ?_
        refine wn_if_eq rfl (e := 15) rfl (by omega) (fun c_12 => absurd c_12 (by omega)) (fun c_12 => ?_)
        refine wx_aload_n rfl (e := 16) rfl rfl ?_
        refine wx_geti rfl (e := 19) rfl rfl ?_
        rw [r4]
        refine wx_bipush (v := (nI 26)) rfl (e := 21) rfl (by decide) ?_
        refine wn_ic_eq rfl (e := 24) rfl (by omega) (by omega) (fun c_21 => absurd c_21 (by omega)) (fun c_21 => ?_)
        refine wx_iload rfl (e := 26) rfl rfl ?_
        refine wx_sipush (v := (nI 400)) rfl (e := 29) rfl (by decide) ?_
        refine wn_ic_gt rfl (e := 32) rfl (by omega) (by omega) (fun c_29 => absurd c_29 (by omega)) (fun c_29 => ?_)
        refine wx_aload_n rfl (e := 33) rfl rfl ?_
        refine wx_geti rfl (e := 36) rfl rfl ?_
        rw [r4]
        refine wx_sw rfl (fun c_36 => ?_) (List.forall_mem_cons.mpr ⟨fun c_36 => ?_, (List.forall_mem_cons.mpr ⟨fun c_36 => ?_, (List.forall_mem_cons.mpr ⟨fun c_36 => ?_, (List.forall_mem_cons.mpr ⟨fun c_36 => ?_, (List.forall_mem_cons.mpr ⟨fun c_36 => ?_, (List.forall_mem_cons.mpr ⟨fun c_36 => ?_, (List.forall_mem_cons.mpr ⟨fun c_36 => ?_, (List.forall_mem_cons.mpr ⟨fun c_36 => ?_, (List.forall_mem_cons.mpr ⟨fun c_36 => ?_, (List.forall_mem_cons.mpr ⟨fun c_36 => ?_, (fun _ h => absurd h List.not_mem_nil)⟩)⟩)⟩)⟩)⟩)⟩)⟩)⟩)⟩)⟩)
        · refine wx_aload_n rfl (e := 133) rfl rfl ?_
          refine wx_cv0 (mc := 0) (ms := 0) rfl (e := 136) rfl rfl (Nat.le_of_ble_eq_true rfl) ⟨by decide, by decide⟩ ?_
          obtain ⟨-, E2, N2, M2, Q2, x, L2, hx⟩ := id C2
          refine c_X4_readLaw ho C2.1 L2 hx (fun hs0 I3 f3 R3 x3 L3 hx3 => ?_) (fun hs0 I3 f3 g3 g5 => ?_)
          · have hst : stX (bt B) n S = (0, 0, nwL S (kd (bt B) n (sT S) - 4) (lwQ (bt B) n (sT S))) := by rw [stX, if_neg (by omega), if_neg (by omega), if_neg (by omega), if_neg (by omega), if_neg (by omega), if_pos hs0]
            have G3 := G2
            have fy : frS o I2 I3 G2 G2 := f3.S
            have Cy : CP (bt B) n o (nwL S (kd (bt B) n (sT S) - 4) (lwQ (bt B) n (sT S))) I3 G2 := ⟨R3, E2.t (f3.2 7 (by decide) (by decide) (by decide)) (f3.2 8 (by decide) (by decide) (by decide)), N2.kept (by rw [f3.1 o (by omega) (by omega) (by omega) (by omega) (by omega)]) rfl, M2, Q2.kept (fun k _ => by rw [f3.1 o (by omega) (by omega) (by omega) (by omega) (by omega)]) (fun q h1 h2 => f3.1 q (by omega) (by omega) (by omega) (by omega) (by omega)), x3, L3, by show x3 ≤ 16 + (lwQ (bt B) n (sT S)).2.1; omega⟩
            refine wx_istore_n (L2 := [_, _, _, _, _]) rfl (e := 137) rfl (by decide) rfl ?_
            refine wn_iinc (m := 1) (L2 := [_, _, _, _, _]) rfl (e := 140) rfl rfl (by decide) rfl ?_
            refine wx_goto rfl ?_
            rw [hst] at so
            obtain ⟨-, -, s3⟩ := so
            obtain ⟨s4, s5, s6⟩ := s3 rfl
            exact ih0 _ f _ _ _ s4 s5 Cy (f2.tr fy.R) (by omega) (by omega) (by omega) (by rw [← hR, rdS, if_neg h26, if_pos (by rw [hst]), hst])
          · have hst : stX (bt B) n S = ((lwQ (bt B) n (sT S)).1, (lwQ (bt B) n (sT S)).2.1, S) := by rw [stX, if_neg (by omega), if_neg (by omega), if_neg (by omega), if_neg (by omega), if_neg (by omega), if_neg hs0]
            have hk3 := hs0
            have f3 : frS o I2 I3 G2 G2 := f3.S
            refine wx_istore_n (L2 := [_, _, _, _, _]) rfl (e := 137) rfl (by decide) rfl ?_
            refine wn_iinc (m := 1) (L2 := [_, _, _, _, _]) rfl (e := 140) rfl rfl (by decide) rfl ?_
            refine wx_goto rfl ?_
            rw [hst] at so
            obtain ⟨s1, s2, -⟩ := so
            obtain ⟨s4, s5⟩ := s2 hk3
            have s1 : _ ≤ 2 := s1
            exact fin0 _ _ _ S _ _ hk3 (by omega) (by rw [← hR, rdS, if_neg h26, if_neg (by rw [hst]; exact hk3), hst]) (f2.tr f3.R) (RK.S ho C2.1.1 f3) s4 s5 g3 g5
        · have c_36 : Int32.toInt _ = 0 := c_36
          show WP _ _ _ _ _ _ _ _ _
          rw [hti] at c_36
          refine wx_aload_n rfl (e := 93) rfl rfl ?_
          refine wx_cv0 (mc := 0) (ms := 0) rfl (e := 96) rfl rfl (Nat.le_of_ble_eq_true rfl) ⟨by decide, by decide⟩ ?_
          refine c_X4_readChurch ho V2 C2 (fun hfull hs0 I3 G3 fy Cy => ?_) (fun k3 tok3 hk3 hc3 I3 f3 g3 g5 => ?_)
          · have hst : stX (bt B) n S = (0, 0, nwC (bt B) n S) := by rw [stX, if_pos (by omega), if_neg hfull, stQ, if_pos hs0]
            refine wx_istore_n (L2 := [_, _, _, _, _]) rfl (e := 97) rfl (by decide) rfl ?_
            refine wx_goto rfl ?_
            refine wn_iinc (m := 1) (L2 := [_, _, _, _, _]) rfl (e := 140) rfl rfl (by decide) rfl ?_
            refine wx_goto rfl ?_
            rw [hst] at so
            obtain ⟨-, -, s3⟩ := so
            obtain ⟨s4, s5, s6⟩ := s3 rfl
            exact ih0 _ f _ _ _ s4 s5 Cy (f2.tr fy.R) (by omega) (by omega) (by omega) (by rw [← hR, rdS, if_neg h26, if_pos (by rw [hst]), hst])
          · have hst : stX (bt B) n S = (k3, tok3, S) := by
              rcases hc3 with ⟨h1, h2, h3⟩ | ⟨h1, h2⟩
              · subst h2 h3; rw [stX, if_pos (by omega), if_pos h1]
              · rw [stX, if_pos (by omega), if_neg h1, stQ, h2, if_neg hk3]
            refine wx_istore_n (L2 := [_, _, _, _, _]) rfl (e := 97) rfl (by decide) rfl ?_
            refine wx_goto rfl ?_
            refine wn_iinc (m := 1) (L2 := [_, _, _, _, _]) rfl (e := 140) rfl rfl (by decide) rfl ?_
            refine wx_goto rfl ?_
            rw [hst] at so
            obtain ⟨s1, s2, -⟩ := so
            obtain ⟨s4, s5⟩ := s2 hk3
            have s1 : _ ≤ 2 := s1
            exact fin0 _ _ _ S _ _ hk3 (by omega) (by rw [← hR, rdS, if_neg h26, if_neg (by rw [hst]; exact hk3), hst]) (f2.tr f3.R) (RK.S ho C2.1.1 f3) s4 s5 g3 g5
        · have c_36 : Int32.toInt _ = 1 := c_36
          show WP _ _ _ _ _ _ _ _ _
          rw [hti] at c_36
          refine wx_aload_n rfl (e := 101) rfl rfl ?_
          refine wx_cv0 (mc := 0) (ms := 0) rfl (e := 104) rfl rfl (Nat.le_of_ble_eq_true rfl) ⟨by decide, by decide⟩ ?_
          refine c_X4_readRoad ho V2 C2 (fun hfull hs0 I3 G3 fy Cy => ?_) (fun k3 tok3 hk3 hc3 I3 f3 g3 g5 => ?_)
          · have hst : stX (bt B) n S = (0, 0, nwD (bt B) n S) := by rw [stX, if_neg (by omega), if_pos (by omega), if_neg hfull, stQ, if_pos hs0]
            refine wx_istore_n (L2 := [_, _, _, _, _]) rfl (e := 105) rfl (by decide) rfl ?_
            refine wx_goto rfl ?_
            refine wn_iinc (m := 1) (L2 := [_, _, _, _, _]) rfl (e := 140) rfl rfl (by decide) rfl ?_
            refine wx_goto rfl ?_
            rw [hst] at so
            obtain ⟨-, -, s3⟩ := so
            obtain ⟨s4, s5, s6⟩ := s3 rfl
            exact ih0 _ f _ _ _ s4 s5 Cy (f2.tr fy.R) (by omega) (by omega) (by omega) (by rw [← hR, rdS, if_neg h26, if_pos (by rw [hst]), hst])
          · have hst : stX (bt B) n S = (k3, tok3, S) := by
              rcases hc3 with ⟨h1, h2, h3⟩ | ⟨h1, h2⟩
              · subst h2 h3; rw [stX, if_neg (by omega), if_pos (by omega), if_pos h1]
              · rw [stX, if_neg (by omega), if_pos (by omega), if_neg h1, stQ, h2, if_neg hk3]
            refine wx_istore_n (L2 := [_, _, _, _, _]) rfl (e := 105) rfl (by decide) rfl ?_
            refine wx_goto rfl ?_
            refine wn_iinc (m := 1) (L2 := [_, _, _, _, _]) rfl (e := 140) rfl rfl (by decide) rfl ?_
            refine wx_goto rfl ?_
            rw [hst] at so
            obtain ⟨s1, s2, -⟩ := so
            obtain ⟨s4, s5⟩ := s2 hk3
            have s1 : _ ≤ 2 := s1
            exact fin0 _ _ _ S _ _ hk3 (by omega) (by rw [← hR, rdS, if_neg h26, if_neg (by rw [hst]; exact hk3), hst]) (f2.tr f3.R) (RK.S ho C2.1.1 f3) s4 s5 g3 g5
        · have c_36 : Int32.toInt _ = 2 := c_36
          show WP _ _ _ _ _ _ _ _ _
          rw [hti] at c_36
          refine wx_aload_n rfl (e := 109) rfl rfl ?_
          refine wx_cv0 (mc := 0) (ms := 0) rfl (e := 112) rfl rfl (Nat.le_of_ble_eq_true rfl) ⟨by decide, by decide⟩ ?_
          refine c_X4_readRelic ho V2 C2 (fun hfull hs0 I3 G3 fy Cy => ?_) (fun k3 tok3 hk3 hc3 I3 f3 g3 g5 => ?_)
          · have hst : stX (bt B) n S = (0, 0, nwR (bt B) n S) := by rw [stX, if_neg (by omega), if_neg (by omega), if_pos (by omega), if_neg hfull, stQ, if_pos hs0]
            refine wx_istore_n (L2 := [_, _, _, _, _]) rfl (e := 113) rfl (by decide) rfl ?_
            refine wx_goto rfl ?_
            refine wn_iinc (m := 1) (L2 := [_, _, _, _, _]) rfl (e := 140) rfl rfl (by decide) rfl ?_
            refine wx_goto rfl ?_
            rw [hst] at so
            obtain ⟨-, -, s3⟩ := so
            obtain ⟨s4, s5, s6⟩ := s3 rfl
            exact ih0 _ f _ _ _ s4 s5 Cy (f2.tr fy.R) (by omega) (by omega) (by omega) (by rw [← hR, rdS, if_neg h26, if_pos (by rw [hst]), hst])
          · have hst : stX (bt B) n S = (k3, tok3, S) := by
              rcases hc3 with ⟨h1, h2, h3⟩ | ⟨h1, h2⟩
              · subst h2 h3; rw [stX, if_neg (by omega), if_neg (by omega), if_pos (by omega), if_pos h1]
              · rw [stX, if_neg (by omega), if_neg (by omega), if_pos (by omega), if_neg h1, stQ, h2, if_neg hk3]
            refine wx_istore_n (L2 := [_, _, _, _, _]) rfl (e := 113) rfl (by decide) rfl ?_
            refine wx_goto rfl ?_
            refine wn_iinc (m := 1) (L2 := [_, _, _, _, _]) rfl (e := 140) rfl rfl (by decide) rfl ?_
            refine wx_goto rfl ?_
            rw [hst] at so
            obtain ⟨s1, s2, -⟩ := so
            obtain ⟨s4, s5⟩ := s2 hk3
            have s1 : _ ≤ 2 := s1
            exact fin0 _ _ _ S _ _ hk3 (by omega) (by rw [← hR, rdS, if_neg h26, if_neg (by rw [hst]; exact hk3), hst]) (f2.tr f3.R) (RK.S ho C2.1.1 f3) s4 s5 g3 g5
        · have c_36 : Int32.toInt _ = 3 := c_36
          show WP _ _ _ _ _ _ _ _ _
          rw [hti] at c_36
          refine wx_aload_n rfl (e := 117) rfl rfl ?_
          refine wx_cv0 (mc := 0) (ms := 0) rfl (e := 120) rfl rfl (Nat.le_of_ble_eq_true rfl) ⟨by decide, by decide⟩ ?_
          refine c_X4_readPilgrim ho V2 C2 (fun hfull hs0 I3 G3 fy Cy => ?_) (fun k3 tok3 hk3 hc3 I3 f3 g3 g5 => ?_)
          · have hst : stX (bt B) n S = (0, 0, nwP (bt B) n S) := by rw [stX, if_neg (by omega), if_neg (by omega), if_neg (by omega), if_pos (by omega), if_neg hfull, stQ, if_pos hs0]
            refine wx_istore_n (L2 := [_, _, _, _, _]) rfl (e := 121) rfl (by decide) rfl ?_
            refine wx_goto rfl ?_
            refine wn_iinc (m := 1) (L2 := [_, _, _, _, _]) rfl (e := 140) rfl rfl (by decide) rfl ?_
            refine wx_goto rfl ?_
            rw [hst] at so
            obtain ⟨-, -, s3⟩ := so
            obtain ⟨s4, s5, s6⟩ := s3 rfl
            exact ih0 _ f _ _ _ s4 s5 Cy (f2.tr fy.R) (by omega) (by omega) (by omega) (by rw [← hR, rdS, if_neg h26, if_pos (by rw [hst]), hst])
          · have hst : stX (bt B) n S = (k3, tok3, S) := by
              rcases hc3 with ⟨h1, h2, h3⟩ | ⟨h1, h2⟩
              · subst h2 h3; rw [stX, if_neg (by omega), if_neg (by omega), if_neg (by omega), if_pos (by omega), if_pos h1]
              · rw [stX, if_neg (by omega), if_neg (by omega), if_neg (by omega), if_pos (by omega), if_neg h1, stQ, h2, if_neg hk3]
            refine wx_istore_n (L2 := [_, _, _, _, _]) rfl (e := 121) rfl (by decide) rfl ?_
            refine wx_goto rfl ?_
            refine wn_iinc (m := 1) (L2 := [_, _, _, _, _]) rfl (e := 140) rfl rfl (by decide) rfl ?_
            refine wx_goto rfl ?_
            rw [hst] at so
            obtain ⟨s1, s2, -⟩ := so
            obtain ⟨s4, s5⟩ := s2 hk3
            have s1 : _ ≤ 2 := s1
            exact fin0 _ _ _ S _ _ hk3 (by omega) (by rw [← hR, rdS, if_neg h26, if_neg (by rw [hst]; exact hk3), hst]) (f2.tr f3.R) (RK.S ho C2.1.1 f3) s4 s5 g3 g5
        · have c_36 : Int32.toInt _ = 4 := c_36
          show WP _ _ _ _ _ _ _ _ _
          rw [hti] at c_36
          refine wx_aload_n rfl (e := 133) rfl rfl ?_
          refine wx_cv0 (mc := 0) (ms := 0) rfl (e := 136) rfl rfl (Nat.le_of_ble_eq_true rfl) ⟨by decide, by decide⟩ ?_
          obtain ⟨-, E2, N2, M2, Q2, x, L2, hx⟩ := id C2
          refine c_X4_readLaw ho C2.1 L2 hx (fun hs0 I3 f3 R3 x3 L3 hx3 => ?_) (fun hs0 I3 f3 g3 g5 => ?_)
          · have hst : stX (bt B) n S = (0, 0, nwL S (kd (bt B) n (sT S) - 4) (lwQ (bt B) n (sT S))) := by rw [stX, if_neg (by omega), if_neg (by omega), if_neg (by omega), if_neg (by omega), if_neg (by omega), if_pos hs0]
            have G3 := G2
            have fy : frS o I2 I3 G2 G2 := f3.S
            have Cy : CP (bt B) n o (nwL S (kd (bt B) n (sT S) - 4) (lwQ (bt B) n (sT S))) I3 G2 := ⟨R3, E2.t (f3.2 7 (by decide) (by decide) (by decide)) (f3.2 8 (by decide) (by decide) (by decide)), N2.kept (by rw [f3.1 o (by omega) (by omega) (by omega) (by omega) (by omega)]) rfl, M2, Q2.kept (fun k _ => by rw [f3.1 o (by omega) (by omega) (by omega) (by omega) (by omega)]) (fun q h1 h2 => f3.1 q (by omega) (by omega) (by omega) (by omega) (by omega)), x3, L3, by show x3 ≤ 16 + (lwQ (bt B) n (sT S)).2.1; omega⟩
            refine wx_istore_n (L2 := [_, _, _, _, _]) rfl (e := 137) rfl (by decide) rfl ?_
            refine wn_iinc (m := 1) (L2 := [_, _, _, _, _]) rfl (e := 140) rfl rfl (by decide) rfl ?_
            refine wx_goto rfl ?_
            rw [hst] at so
            obtain ⟨-, -, s3⟩ := so
            obtain ⟨s4, s5, s6⟩ := s3 rfl
            exact ih0 _ f _ _ _ s4 s5 Cy (f2.tr fy.R) (by omega) (by omega) (by omega) (by rw [← hR, rdS, if_neg h26, if_pos (by rw [hst]), hst])
          · have hst : stX (bt B) n S = ((lwQ (bt B) n (sT S)).1, (lwQ (bt B) n (sT S)).2.1, S) := by rw [stX, if_neg (by omega), if_neg (by omega), if_neg (by omega), if_neg (by omega), if_neg (by omega), if_neg hs0]
            have hk3 := hs0
            have f3 : frS o I2 I3 G2 G2 := f3.S
            refine wx_istore_n (L2 := [_, _, _, _, _]) rfl (e := 137) rfl (by decide) rfl ?_
            refine wn_iinc (m := 1) (L2 := [_, _, _, _, _]) rfl (e := 140) rfl rfl (by decide) rfl ?_
            refine wx_goto rfl ?_
            rw [hst] at so
            obtain ⟨s1, s2, -⟩ := so
            obtain ⟨s4, s5⟩ := s2 hk3
            have s1 : _ ≤ 2 := s1
            exact fin0 _ _ _ S _ _ hk3 (by omega) (by rw [← hR, rdS, if_neg h26, if_neg (by rw [hst]; exact hk3), hst]) (f2.tr f3.R) (RK.S ho C2.1.1 f3) s4 s5 g3 g5
        · have c_36 : Int32.toInt _ = 5 := c_36
          show WP _ _ _ _ _ _ _ _ _
          rw [hti] at c_36
          refine wx_aload_n rfl (e := 133) rfl rfl ?_
          refine wx_cv0 (mc := 0) (ms := 0) rfl (e := 136) rfl rfl (Nat.le_of_ble_eq_true rfl) ⟨by decide, by decide⟩ ?_
          obtain ⟨-, E2, N2, M2, Q2, x, L2, hx⟩ := id C2
          refine c_X4_readLaw ho C2.1 L2 hx (fun hs0 I3 f3 R3 x3 L3 hx3 => ?_) (fun hs0 I3 f3 g3 g5 => ?_)
          · have hst : stX (bt B) n S = (0, 0, nwL S (kd (bt B) n (sT S) - 4) (lwQ (bt B) n (sT S))) := by rw [stX, if_neg (by omega), if_neg (by omega), if_neg (by omega), if_neg (by omega), if_neg (by omega), if_pos hs0]
            have G3 := G2
            have fy : frS o I2 I3 G2 G2 := f3.S
            have Cy : CP (bt B) n o (nwL S (kd (bt B) n (sT S) - 4) (lwQ (bt B) n (sT S))) I3 G2 := ⟨R3, E2.t (f3.2 7 (by decide) (by decide) (by decide)) (f3.2 8 (by decide) (by decide) (by decide)), N2.kept (by rw [f3.1 o (by omega) (by omega) (by omega) (by omega) (by omega)]) rfl, M2, Q2.kept (fun k _ => by rw [f3.1 o (by omega) (by omega) (by omega) (by omega) (by omega)]) (fun q h1 h2 => f3.1 q (by omega) (by omega) (by omega) (by omega) (by omega)), x3, L3, by show x3 ≤ 16 + (lwQ (bt B) n (sT S)).2.1; omega⟩
            refine wx_istore_n (L2 := [_, _, _, _, _]) rfl (e := 137) rfl (by decide) rfl ?_
            refine wn_iinc (m := 1) (L2 := [_, _, _, _, _]) rfl (e := 140) rfl rfl (by decide) rfl ?_
            refine wx_goto rfl ?_
            rw [hst] at so
            obtain ⟨-, -, s3⟩ := so
            obtain ⟨s4, s5, s6⟩ := s3 rfl
            exact ih0 _ f _ _ _ s4 s5 Cy (f2.tr fy.R) (by omega) (by omega) (by omega) (by rw [← hR, rdS, if_neg h26, if_pos (by rw [hst]), hst])
          · have hst : stX (bt B) n S = ((lwQ (bt B) n (sT S)).1, (lwQ (bt B) n (sT S)).2.1, S) := by rw [stX, if_neg (by omega), if_neg (by omega), if_neg (by omega), if_neg (by omega), if_neg (by omega), if_neg hs0]
            have hk3 := hs0
            have f3 : frS o I2 I3 G2 G2 := f3.S
            refine wx_istore_n (L2 := [_, _, _, _, _]) rfl (e := 137) rfl (by decide) rfl ?_
            refine wn_iinc (m := 1) (L2 := [_, _, _, _, _]) rfl (e := 140) rfl rfl (by decide) rfl ?_
            refine wx_goto rfl ?_
            rw [hst] at so
            obtain ⟨s1, s2, -⟩ := so
            obtain ⟨s4, s5⟩ := s2 hk3
            have s1 : _ ≤ 2 := s1
            exact fin0 _ _ _ S _ _ hk3 (by omega) (by rw [← hR, rdS, if_neg h26, if_neg (by rw [hst]; exact hk3), hst]) (f2.tr f3.R) (RK.S ho C2.1.1 f3) s4 s5 g3 g5
        · have c_36 : Int32.toInt _ = 6 := c_36
          show WP _ _ _ _ _ _ _ _ _
          rw [hti] at c_36
          refine wx_aload_n rfl (e := 133) rfl rfl ?_
          refine wx_cv0 (mc := 0) (ms := 0) rfl (e := 136) rfl rfl (Nat.le_of_ble_eq_true rfl) ⟨by decide, by decide⟩ ?_
          obtain ⟨-, E2, N2, M2, Q2, x, L2, hx⟩ := id C2
          refine c_X4_readLaw ho C2.1 L2 hx (fun hs0 I3 f3 R3 x3 L3 hx3 => ?_) (fun hs0 I3 f3 g3 g5 => ?_)
          · have hst : stX (bt B) n S = (0, 0, nwL S (kd (bt B) n (sT S) - 4) (lwQ (bt B) n (sT S))) := by rw [stX, if_neg (by omega), if_neg (by omega), if_neg (by omega), if_neg (by omega), if_neg (by omega), if_pos hs0]
            have G3 := G2
            have fy : frS o I2 I3 G2 G2 := f3.S
            have Cy : CP (bt B) n o (nwL S (kd (bt B) n (sT S) - 4) (lwQ (bt B) n (sT S))) I3 G2 := ⟨R3, E2.t (f3.2 7 (by decide) (by decide) (by decide)) (f3.2 8 (by decide) (by decide) (by decide)), N2.kept (by rw [f3.1 o (by omega) (by omega) (by omega) (by omega) (by omega)]) rfl, M2, Q2.kept (fun k _ => by rw [f3.1 o (by omega) (by omega) (by omega) (by omega) (by omega)]) (fun q h1 h2 => f3.1 q (by omega) (by omega) (by omega) (by omega) (by omega)), x3, L3, by show x3 ≤ 16 + (lwQ (bt B) n (sT S)).2.1; omega⟩
            refine wx_istore_n (L2 := [_, _, _, _, _]) rfl (e := 137) rfl (by decide) rfl ?_
            refine wn_iinc (m := 1) (L2 := [_, _, _, _, _]) rfl (e := 140) rfl rfl (by decide) rfl ?_
            refine wx_goto rfl ?_
            rw [hst] at so
            obtain ⟨-, -, s3⟩ := so
            obtain ⟨s4, s5, s6⟩ := s3 rfl
            exact ih0 _ f _ _ _ s4 s5 Cy (f2.tr fy.R) (by omega) (by omega) (by omega) (by rw [← hR, rdS, if_neg h26, if_pos (by rw [hst]), hst])
          · have hst : stX (bt B) n S = ((lwQ (bt B) n (sT S)).1, (lwQ (bt B) n (sT S)).2.1, S) := by rw [stX, if_neg (by omega), if_neg (by omega), if_neg (by omega), if_neg (by omega), if_neg (by omega), if_neg hs0]
            have hk3 := hs0
            have f3 : frS o I2 I3 G2 G2 := f3.S
            refine wx_istore_n (L2 := [_, _, _, _, _]) rfl (e := 137) rfl (by decide) rfl ?_
            refine wn_iinc (m := 1) (L2 := [_, _, _, _, _]) rfl (e := 140) rfl rfl (by decide) rfl ?_
            refine wx_goto rfl ?_
            rw [hst] at so
            obtain ⟨s1, s2, -⟩ := so
            obtain ⟨s4, s5⟩ := s2 hk3
            have s1 : _ ≤ 2 := s1
            exact fin0 _ _ _ S _ _ hk3 (by omega) (by rw [← hR, rdS, if_neg h26, if_neg (by rw [hst]; exact hk3), hst]) (f2.tr f3.R) (RK.S ho C2.1.1 f3) s4 s5 g3 g5
        · have c_36 : Int32.toInt _ = 7 := c_36
          show WP _ _ _ _ _ _ _ _ _
          rw [hti] at c_36
          refine wx_aload_n rfl (e := 133) rfl rfl ?_
          refine wx_cv0 (mc := 0) (ms := 0) rfl (e := 136) rfl rfl (Nat.le_of_ble_eq_true rfl) ⟨by decide, by decide⟩ ?_
          obtain ⟨-, E2, N2, M2, Q2, x, L2, hx⟩ := id C2
          refine c_X4_readLaw ho C2.1 L2 hx (fun hs0 I3 f3 R3 x3 L3 hx3 => ?_) (fun hs0 I3 f3 g3 g5 => ?_)
          · have hst : stX (bt B) n S = (0, 0, nwL S (kd (bt B) n (sT S) - 4) (lwQ (bt B) n (sT S))) := by rw [stX, if_neg (by omega), if_neg (by omega), if_neg (by omega), if_neg (by omega), if_neg (by omega), if_pos hs0]
            have G3 := G2
            have fy : frS o I2 I3 G2 G2 := f3.S
            have Cy : CP (bt B) n o (nwL S (kd (bt B) n (sT S) - 4) (lwQ (bt B) n (sT S))) I3 G2 := ⟨R3, E2.t (f3.2 7 (by decide) (by decide) (by decide)) (f3.2 8 (by decide) (by decide) (by decide)), N2.kept (by rw [f3.1 o (by omega) (by omega) (by omega) (by omega) (by omega)]) rfl, M2, Q2.kept (fun k _ => by rw [f3.1 o (by omega) (by omega) (by omega) (by omega) (by omega)]) (fun q h1 h2 => f3.1 q (by omega) (by omega) (by omega) (by omega) (by omega)), x3, L3, by show x3 ≤ 16 + (lwQ (bt B) n (sT S)).2.1; omega⟩
            refine wx_istore_n (L2 := [_, _, _, _, _]) rfl (e := 137) rfl (by decide) rfl ?_
            refine wn_iinc (m := 1) (L2 := [_, _, _, _, _]) rfl (e := 140) rfl rfl (by decide) rfl ?_
            refine wx_goto rfl ?_
            rw [hst] at so
            obtain ⟨-, -, s3⟩ := so
            obtain ⟨s4, s5, s6⟩ := s3 rfl
            exact ih0 _ f _ _ _ s4 s5 Cy (f2.tr fy.R) (by omega) (by omega) (by omega) (by rw [← hR, rdS, if_neg h26, if_pos (by rw [hst]), hst])
          · have hst : stX (bt B) n S = ((lwQ (bt B) n (sT S)).1, (lwQ (bt B) n (sT S)).2.1, S) := by rw [stX, if_neg (by omega), if_neg (by omega), if_neg (by omega), if_neg (by omega), if_neg (by omega), if_neg hs0]
            have hk3 := hs0
            have f3 : frS o I2 I3 G2 G2 := f3.S
            refine wx_istore_n (L2 := [_, _, _, _, _]) rfl (e := 137) rfl (by decide) rfl ?_
            refine wn_iinc (m := 1) (L2 := [_, _, _, _, _]) rfl (e := 140) rfl rfl (by decide) rfl ?_
            refine wx_goto rfl ?_
            rw [hst] at so
            obtain ⟨s1, s2, -⟩ := so
            obtain ⟨s4, s5⟩ := s2 hk3
            have s1 : _ ≤ 2 := s1
            exact fin0 _ _ _ S _ _ hk3 (by omega) (by rw [← hR, rdS, if_neg h26, if_neg (by rw [hst]; exact hk3), hst]) (f2.tr f3.R) (RK.S ho C2.1.1 f3) s4 s5 g3 g5
        · have c_36 : Int32.toInt _ = 8 := c_36
          show WP _ _ _ _ _ _ _ _ _
          rw [hti] at c_36
          refine wx_aload_n rfl (e := 133) rfl rfl ?_
          refine wx_cv0 (mc := 0) (ms := 0) rfl (e := 136) rfl rfl (Nat.le_of_ble_eq_true rfl) ⟨by decide, by decide⟩ ?_
          obtain ⟨-, E2, N2, M2, Q2, x, L2, hx⟩ := id C2
          refine c_X4_readLaw ho C2.1 L2 hx (fun hs0 I3 f3 R3 x3 L3 hx3 => ?_) (fun hs0 I3 f3 g3 g5 => ?_)
          · have hst : stX (bt B) n S = (0, 0, nwL S (kd (bt B) n (sT S) - 4) (lwQ (bt B) n (sT S))) := by rw [stX, if_neg (by omega), if_neg (by omega), if_neg (by omega), if_neg (by omega), if_neg (by omega), if_pos hs0]
            have G3 := G2
            have fy : frS o I2 I3 G2 G2 := f3.S
            have Cy : CP (bt B) n o (nwL S (kd (bt B) n (sT S) - 4) (lwQ (bt B) n (sT S))) I3 G2 := ⟨R3, E2.t (f3.2 7 (by decide) (by decide) (by decide)) (f3.2 8 (by decide) (by decide) (by decide)), N2.kept (by rw [f3.1 o (by omega) (by omega) (by omega) (by omega) (by omega)]) rfl, M2, Q2.kept (fun k _ => by rw [f3.1 o (by omega) (by omega) (by omega) (by omega) (by omega)]) (fun q h1 h2 => f3.1 q (by omega) (by omega) (by omega) (by omega) (by omega)), x3, L3, by show x3 ≤ 16 + (lwQ (bt B) n (sT S)).2.1; omega⟩
            refine wx_istore_n (L2 := [_, _, _, _, _]) rfl (e := 137) rfl (by decide) rfl ?_
            refine wn_iinc (m := 1) (L2 := [_, _, _, _, _]) rfl (e := 140) rfl rfl (by decide) rfl ?_
            refine wx_goto rfl ?_
            rw [hst] at so
            obtain ⟨-, -, s3⟩ := so
            obtain ⟨s4, s5, s6⟩ := s3 rfl
            exact ih0 _ f _ _ _ s4 s5 Cy (f2.tr fy.R) (by omega) (by omega) (by omega) (by rw [← hR, rdS, if_neg h26, if_pos (by rw [hst]), hst])
          · have hst : stX (bt B) n S = ((lwQ (bt B) n (sT S)).1, (lwQ (bt B) n (sT S)).2.1, S) := by rw [stX, if_neg (by omega), if_neg (by omega), if_neg (by omega), if_neg (by omega), if_neg (by omega), if_neg hs0]
            have hk3 := hs0
            have f3 : frS o I2 I3 G2 G2 := f3.S
            refine wx_istore_n (L2 := [_, _, _, _, _]) rfl (e := 137) rfl (by decide) rfl ?_
            refine wn_iinc (m := 1) (L2 := [_, _, _, _, _]) rfl (e := 140) rfl rfl (by decide) rfl ?_
            refine wx_goto rfl ?_
            rw [hst] at so
            obtain ⟨s1, s2, -⟩ := so
            obtain ⟨s4, s5⟩ := s2 hk3
            have s1 : _ ≤ 2 := s1
            exact fin0 _ _ _ S _ _ hk3 (by omega) (by rw [← hR, rdS, if_neg h26, if_neg (by rw [hst]; exact hk3), hst]) (f2.tr f3.R) (RK.S ho C2.1.1 f3) s4 s5 g3 g5
        · have c_36 : Int32.toInt _ = 9 := c_36
          show WP _ _ _ _ _ _ _ _ _
          rw [hti] at c_36
          refine wx_aload_n rfl (e := 125) rfl rfl ?_
          refine wx_cv0 (mc := 0) (ms := 0) rfl (e := 128) rfl rfl (Nat.le_of_ble_eq_true rfl) ⟨by decide, by decide⟩ ?_
          refine c_X4_readSeed ho V2 C2 (fun hs0 I3 G3 fy Cy => ?_) (fun k3 tok3 hk3 hc3 I3 f3 g3 g5 => ?_)
          · have hst : stX (bt B) n S = (0, 0, nwS (bt B) n S) := by rw [stX, if_neg (by omega), if_neg (by omega), if_neg (by omega), if_neg (by omega), if_pos (by omega), stQ, if_pos hs0]
            refine wx_istore_n (L2 := [_, _, _, _, _]) rfl (e := 129) rfl (by decide) rfl ?_
            refine wx_goto rfl ?_
            refine wn_iinc (m := 1) (L2 := [_, _, _, _, _]) rfl (e := 140) rfl rfl (by decide) rfl ?_
            refine wx_goto rfl ?_
            rw [hst] at so
            obtain ⟨-, -, s3⟩ := so
            obtain ⟨s4, s5, s6⟩ := s3 rfl
            exact ih0 _ f _ _ _ s4 s5 Cy (f2.tr fy.R) (by omega) (by omega) (by omega) (by rw [← hR, rdS, if_neg h26, if_pos (by rw [hst]), hst])
          · have hst : stX (bt B) n S = (k3, tok3, S) := by
              rcases hc3 with ⟨h1, _⟩ | ⟨h1, h2⟩
              · exact absurd h1 (fun w => w)
              · rw [stX, if_neg (by omega), if_neg (by omega), if_neg (by omega), if_neg (by omega), if_pos (by omega), stQ, h2, if_neg hk3]
            refine wx_istore_n (L2 := [_, _, _, _, _]) rfl (e := 129) rfl (by decide) rfl ?_
            refine wx_goto rfl ?_
            refine wn_iinc (m := 1) (L2 := [_, _, _, _, _]) rfl (e := 140) rfl rfl (by decide) rfl ?_
            refine wx_goto rfl ?_
            rw [hst] at so
            obtain ⟨s1, s2, -⟩ := so
            obtain ⟨s4, s5⟩ := s2 hk3
            have s1 : _ ≤ 2 := s1
            exact fin0 _ _ _ S _ _ hk3 (by omega) (by rw [← hR, rdS, if_neg h26, if_neg (by rw [hst]; exact hk3), hst]) (f2.tr f3.R) (RK.S ho C2.1.1 f3) s4 s5 g3 g5
  refine wx_iconst (v := (nI 1)) rfl (e := 7) rfl (by decide) ?_
  refine wx_istore_n (L2 := [_, _, _, _, _]) rfl (e := 8) rfl (by decide) rfl ?_
  refine wx_iconst (v := (nI 0)) rfl (e := 9) rfl (by decide) ?_
  refine wx_istore (L2 := [_, _, _, _, _]) rfl (e := 11) rfl (by decide) rfl ?_
  exact loop 403 0 402 ps0 I2 G2 V_0.1 V_0.2 C2 f2 (by show 402 ≤ 402 + 0; omega) (Nat.zero_le _) (by show 402 - 0 < 403; omega) rfl

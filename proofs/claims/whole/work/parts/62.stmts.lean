/-! the class: more statements -/
set_option maxHeartbeats 4000000 in
theorem c_X4_readPilgrim {d Lx tt u : Nat} {I : Nat → Nat → Int32} {G : Nat → Nat → Int64} {Q : ab_Q} {b : Nat → Nat} {n o : Nat} {S : ps} (ho : o = 1 ∨ o = 16) (hV : PV S) (hC : CP b n o S I G) (hy : ¬ sP S = 5 → (sqT b n [3, 24, 24, 25, 25, 59] (sT S)).1 = 0 → ∀ I2 G2, frS o I I2 G G2 → CP b n o (nwP b n S) I2 G2 → Q (some (.int (nI 1))) (hp Lx tt o u I2 G2)) (hn : ∀ k tok, ¬ k = 0 → (sP S = 5 ∧ k = 2 ∧ tok = sT S) ∨ (¬ sP S = 5 ∧ sqT b n [3, 24, 24, 25, 25, 59] (sT S) = (k, tok)) → ∀ I2, frS o I I2 G G → I2 33 3 = nI tok → I2 33 5 = nI k → Q (some (.int (nI 0))) (hp Lx tt o u I2 G)) : ab_call ab_MT (d + 4) 64 [.ref 33] (hp Lx tt o u I G) 0 0 Q := by
  obtain ⟨hR, hE, hNs, hNc, hQ, x, hW, hx⟩ := id hC
  obtain ⟨v1, v2, v3, v4, v5, v6⟩ := id hV
  obtain ⟨-, ht, hgd, r3, r4, r5⟩ := id hR
  obtain ⟨⟨c1, c2, c3, c4, c5, c6⟩, c7, c8, c9, c10⟩ := id hQ
  have c1 : I o 10 = nI (sC S) := c1
  have c2 : I o 11 = nI (sD S) := c2
  have c3 : I o 12 = nI (sR S) := c3
  have c4 : I o 14 = nI (sP S) := c4
  have c7 : ∀ c, c < sC S → I (o + 9) c = sW S c := c7
  have c9 : ∀ i, i < sR S → I (o + 11) i = sQ S i := c9
  have c10 : ∀ a, a < sP S → I (o + 12) a = (sH S).1 a ∧ I (o + 13) a = (sH S).2.1 a ∧ I (o + 14) a = (sH S).2.2 a := c10
  refine wx_in (M := mX4_readPilgrim) rfl rfl rfl (Nat.le_of_ble_eq_true rfl) ?_
  refine wx_aload_n rfl (e := 1) rfl rfl ?_
  refine wx_geti rfl (e := 4) rfl rfl ?_
  rw [r3]
  refine wx_istore_n (L2 := [_, _, _, _]) rfl (e := 5) rfl (by decide) rfl ?_
  refine wx_aload_n rfl (e := 6) rfl rfl ?_
  refine wx_getr rfl (e := 9) rfl rfl rfl ?_
  refine wx_cv0 (mc := 0) (ms := 0) rfl (e := 12) rfl (sh_t ho) (Nat.le_of_ble_eq_true rfl) ⟨by decide, by decide⟩ ?_
  refine c_X7_pilgrims ho ?_
  rw [c4]
  refine wx_iconst (v := (nI 5)) rfl (e := 13) rfl (by decide) ?_
  refine wn_ic_lt rfl (e := 16) rfl (by omega) (by omega) (fun c_13 => ?_) (fun c_13 => ?_)
  · refine wx_aload_n rfl (e := 23) rfl rfl ?_
    refine wx_iconst (v := (nI 3)) rfl (e := 24) rfl (by decide) ?_
    refine wx_cv1 (mc := 0) (ms := 0) rfl (e := 27) rfl rfl (Nat.le_of_ble_eq_true rfl) ⟨by decide, by decide⟩ ?_
    refine c_X4_take hR (k := 3) (by first | omega | (split <;> omega)) (by first | omega | (split <;> omega)) (fun hk1 h41 I1 f1 R1 => ?_) (fun e1 he1 I1 f1 g3 g5 => ?_)
    · refine wn_if_eq rfl (e := 30) rfl (by omega) (fun c_27 => absurd c_27 (by omega)) (fun c_27 => ?_)
      refine wx_aload_n rfl (e := 31) rfl rfl ?_
      refine wx_bipush (v := (nI 24)) rfl (e := 33) rfl (by decide) ?_
      refine wx_cv1 (mc := 0) (ms := 0) rfl (e := 36) rfl rfl (Nat.le_of_ble_eq_true rfl) ⟨by decide, by decide⟩ ?_
      refine c_X4_take R1 (k := 24) (by first | omega | (split <;> omega)) (by first | omega | (split <;> omega)) (fun hk2 h42 I2 f2 R2 => ?_) (fun e2 he2 I2 f2 g3 g5 => ?_)
      · refine wn_if_eq rfl (e := 39) rfl (by omega) (fun c_36 => absurd c_36 (by omega)) (fun c_36 => ?_)
        refine wx_aload_n rfl (e := 40) rfl rfl ?_
        refine wx_bipush (v := (nI 24)) rfl (e := 42) rfl (by decide) ?_
        refine wx_cv1 (mc := 0) (ms := 0) rfl (e := 45) rfl rfl (Nat.le_of_ble_eq_true rfl) ⟨by decide, by decide⟩ ?_
        refine c_X4_take R2 (k := 24) (by first | omega | (split <;> omega)) (by first | omega | (split <;> omega)) (fun hk3 h43 I3 f3 R3 => ?_) (fun e3 he3 I3 f3 g3 g5 => ?_)
        · refine wn_if_eq rfl (e := 48) rfl (by omega) (fun c_45 => absurd c_45 (by omega)) (fun c_45 => ?_)
          refine wx_aload_n rfl (e := 49) rfl rfl ?_
          refine wx_bipush (v := (nI 25)) rfl (e := 51) rfl (by decide) ?_
          refine wx_cv1 (mc := 0) (ms := 0) rfl (e := 54) rfl rfl (Nat.le_of_ble_eq_true rfl) ⟨by decide, by decide⟩ ?_
          refine c_X4_take R3 (k := 25) (by first | omega | (split <;> omega)) (by first | omega | (split <;> omega)) (fun hk4 h44 I4 f4 R4 => ?_) (fun e4 he4 I4 f4 g3 g5 => ?_)
          · refine wn_if_eq rfl (e := 57) rfl (by omega) (fun c_54 => absurd c_54 (by omega)) (fun c_54 => ?_)
            refine wx_aload_n rfl (e := 58) rfl rfl ?_
            refine wx_bipush (v := (nI 25)) rfl (e := 60) rfl (by decide) ?_
            refine wx_cv1 (mc := 0) (ms := 0) rfl (e := 63) rfl rfl (Nat.le_of_ble_eq_true rfl) ⟨by decide, by decide⟩ ?_
            refine c_X4_take R4 (k := 25) (by first | omega | (split <;> omega)) (by first | omega | (split <;> omega)) (fun hk5 h45 I5 f5 R5 => ?_) (fun e5 he5 I5 f5 g3 g5 => ?_)
            · refine wn_if_eq rfl (e := 66) rfl (by omega) (fun c_63 => absurd c_63 (by omega)) (fun c_63 => ?_)
              refine wx_aload_n rfl (e := 67) rfl rfl ?_
              refine wx_bipush (v := (nI 59)) rfl (e := 69) rfl (by decide) ?_
              refine wx_cv1 (mc := 0) (ms := 0) rfl (e := 72) rfl rfl (Nat.le_of_ble_eq_true rfl) ⟨by decide, by decide⟩ ?_
              refine c_X4_take R5 (k := 59) (by first | omega | (split <;> omega)) (by first | omega | (split <;> omega)) (fun hk6 h46 I6 f6 R6 => ?_) (fun e6 he6 I6 f6 g3 g5 => ?_)
              · refine wn_if_ne rfl (e := 75) rfl (by omega) (fun c_72 => ?_) (fun c_72 => absurd c_72 (by omega))
                refine wx_aload_n rfl (e := 78) rfl rfl ?_
                refine wx_iload_n rfl (e := 79) rfl rfl ?_
                refine wx_iconst (v := (nI 1)) rfl (e := 80) rfl (by decide) ?_
                refine wn_iadd rfl (e := 81) rfl ?_
                refine wx_cv1 (mc := 0) (ms := 0) rfl (e := 84) rfl rfl (Nat.le_of_ble_eq_true rfl) ⟨by decide, by decide⟩ ?_
                have FT : frt I I6 := (((((f1.tr f2).tr f3).tr f4).tr f5).tr f6)
                have hg6 := R6.2.2.1
                have hE0 : LT_ (sE S) I6 := hE.t (FT.2 7 (by decide) (by decide) (by decide)) (FT.2 8 (by decide) (by decide) (by decide))
                have hsq : (sqT b n [3, 24, 24, 25, 25, 59] (sT S)).1 = 0 := by rw [sqT_y hk1 h41, sqT_y hk2 h42, sqT_y hk3 h43, sqT_y hk4 h44, sqT_y hk5 h45, sqT_y hk6 h46]; rfl
                refine c_X4_addName ho R6.1 (tok := sT S + 1) (by omega) (fun j hj => hg6 j (by omega)) hk2 hE0 (N := sM S) (hNs.kept (by rw [FT.1 o (by omega)]) rfl) (by omega) (a := -1) (fun I7 G7 a1 a2 a3 a4 E7 N7 => ?_)
                have K7 : RK b n I7 G7 := RK.kept R6.1 (a1 34 (by omega) (by omega)) (a1 36 (by omega) (by omega)) (a1 37 (by omega) (by omega)) (a3 38 (by omega))
                refine wx_aload_n rfl (e := 85) rfl rfl ?_
                refine wx_iload_n rfl (e := 86) rfl rfl ?_
                refine wx_iconst (v := (nI 2)) rfl (e := 87) rfl (by decide) ?_
                refine wn_iadd rfl (e := 88) rfl ?_
                refine wx_cv1 (mc := 0) (ms := 0) rfl (e := 91) rfl rfl (Nat.le_of_ble_eq_true rfl) ⟨by decide, by decide⟩ ?_
                refine c_X4_churchAt ho K7 (tok := sT S + 2) (by omega) (fun j hj => hg6 j (by omega)) hk3 E7 (N := sM S) (C := sC S) (by rw [a4 10 (by decide), FT.1 o (by omega)]; exact c1) v1 (hNc.kept (a3 (o + 8) (by omega))) (fun I8 f8 E8 => ?_)
                refine wx_istore_n (L2 := [_, _, _, _]) rfl (e := 92) rfl (by decide) rfl ?_
                refine wx_aload_n rfl (e := 93) rfl rfl ?_
                refine wx_iload_n rfl (e := 94) rfl rfl ?_
                refine wx_iconst (v := (nI 3)) rfl (e := 95) rfl (by decide) ?_
                refine wn_iadd rfl (e := 96) rfl ?_
                refine wx_iconst (v := (nI 0)) rfl (e := 97) rfl (by decide) ?_
                refine wx_bipush (v := (nI 9)) rfl (e := 99) rfl (by decide) ?_
                refine wx_cv3 (mc := 0) (ms := 0) rfl (e := 102) rfl rfl (Nat.le_of_ble_eq_true rfl) ⟨by decide, by decide⟩ ?_
                refine c_X4_numberAt ho (K7.k f8) (tok := sT S + 3) (by omega) (fun j hj => hg6 j (by omega)) hk4 E8 (lo := 0) (hi := 9) (by omega) (by omega) (c := decide (9 < nuT b n (sT S + 3))) (by rw [decide_eq_true_iff]; omega) (fun I9 f9 E9 => ?_)
                refine wx_istore_n (L2 := [_, _, _, _]) rfl (e := 103) rfl (by decide) rfl ?_
                refine wx_aload_n rfl (e := 104) rfl rfl ?_
                refine wx_getr rfl (e := 107) rfl rfl rfl ?_
                refine wx_iload_n rfl (e := 108) rfl rfl ?_
                refine wx_iload_n rfl (e := 109) rfl rfl ?_
                refine wx_aload_n rfl (e := 110) rfl rfl ?_
                refine wx_iload_n rfl (e := 111) rfl rfl ?_
                refine wx_iconst (v := (nI 4)) rfl (e := 112) rfl (by decide) ?_
                refine wn_iadd rfl (e := 113) rfl ?_
                refine wx_iconst (v := (nI 0)) rfl (e := 114) rfl (by decide) ?_
                refine wx_bipush (v := (nI 9)) rfl (e := 116) rfl (by decide) ?_
                refine wx_cv3 (mc := 0) (ms := 0) rfl (e := 119) rfl rfl (Nat.le_of_ble_eq_true rfl) ⟨by decide, by decide⟩ ?_
                refine c_X4_numberAt ho ((K7.k f8).k f9) (tok := sT S + 4) (by omega) (fun j hj => hg6 j (by omega)) hk5 E9 (lo := 0) (hi := 9) (by omega) (by omega) (c := decide (9 < nuT b n (sT S + 4))) (by rw [decide_eq_true_iff]; omega) (fun I10 f10 E10 => ?_)
                refine wx_cv3 (mc := 0) (ms := 0) rfl (e := 122) rfl (sh_t ho) (Nat.le_of_ble_eq_true rfl) ⟨by decide, by decide⟩ ?_
                refine c_X7_addPilgrim ho (P := sP S) (by rw [f10.1 o (by omega), f9.1 o (by omega), f8.1 o (by omega), a4 14 (by decide), FT.1 o (by omega)]; exact c4) (by omega) ?_
                refine wx_iconst (v := (nI 1)) rfl (e := 123) rfl (by decide) ?_
                refine wx_iret rfl rfl rfl ⟨by decide, by decide⟩ ?_
                have F8 : frk I7 I10 := f8.tr (f9.tr f10)
                have hb : ∀ q, q ≠ 33 → q ≠ o → q ≠ o + 12 → q ≠ o + 13 → q ≠ o + 14 → (wr (wr (wr (wr I10 (o + 12) (sP S) (chS (sM S).1 (sM S).2.1 (wdT b n (sT S + 2)) (sM S).2.2)) (o + 13) (sP S) (nI (nuT b n (sT S + 3)))) (o + 14) (sP S) (nI (nuT b n (sT S + 4)))) o 14 (nI (sP S + 1))) q = I q := fun q y1 y2 y3 y4 y5 => by rw [wr_other _ _ _ _ y2, wr_other _ _ _ _ y5, wr_other _ _ _ _ y4, wr_other _ _ _ _ y3, F8.1 q y1, a1 q y1 y2, FT.1 q y1]
                have hoo : ∀ k, k ≠ 9 → k ≠ 14 → (wr (wr (wr (wr I10 (o + 12) (sP S) (chS (sM S).1 (sM S).2.1 (wdT b n (sT S + 2)) (sM S).2.2)) (o + 13) (sP S) (nI (nuT b n (sT S + 3)))) (o + 14) (sP S) (nI (nuT b n (sT S + 4)))) o 14 (nI (sP S + 1))) o k = I o k := fun k y1 y2 => by rw [wr_ne _ _ _ _ y2, wr_other _ _ _ _ (by omega), wr_other _ _ _ _ (by omega), wr_other _ _ _ _ (by omega), F8.1 o (by omega), a4 k y1, FT.1 o (by omega)]
                have h33 : ∀ k, k ≠ 7 → k ≠ 8 → (wr (wr (wr (wr I10 (o + 12) (sP S) (chS (sM S).1 (sM S).2.1 (wdT b n (sT S + 2)) (sM S).2.2)) (o + 13) (sP S) (nI (nuT b n (sT S + 3)))) (o + 14) (sP S) (nI (nuT b n (sT S + 4)))) o 14 (nI (sP S + 1))) 33 k = I6 33 k := fun k y1 y2 => by rw [wr_other _ _ _ _ (by omega), wr_other _ _ _ _ (by omega), wr_other _ _ _ _ (by omega), wr_other _ _ _ _ (by omega), F8.2 k y1 y2, a2 k y1 y2]
                refine hy (by omega) hsq (wr (wr (wr (wr I10 (o + 12) (sP S) (chS (sM S).1 (sM S).2.1 (wdT b n (sT S + 2)) (sM S).2.2)) (o + 13) (sP S) (nI (nuT b n (sT S + 3)))) (o + 14) (sP S) (nI (nuT b n (sT S + 4)))) o 14 (nI (sP S + 1))) G7 ⟨fun q y1 y2 => hb q y1 (by omega) (by omega) (by omega) (by omega), fun k y1 y2 y3 y4 y5 => (h33 k y4 y5).trans (FT.2 k y1 y2 y3), fun q y1 y2 => a3 q y1⟩ ⟨R6.f ho (fun q y1 y2 => (hb q (by omega) (by omega) (by omega) (by omega) (by omega)).trans (FT.1 q (by omega)).symm) (h33 3 (by decide) (by decide)) (h33 4 (by decide) (by decide)) (h33 5 (by decide) (by decide)) (a3 38 (by omega)), E10.t (by rw [wr_other _ _ _ _ (by omega), wr_other _ _ _ _ (by omega), wr_other _ _ _ _ (by omega), wr_other _ _ _ _ (by omega)]) (by rw [wr_other _ _ _ _ (by omega), wr_other _ _ _ _ (by omega), wr_other _ _ _ _ (by omega), wr_other _ _ _ _ (by omega)]), N7.kept (by rw [wr_ne _ _ _ _ (by decide), wr_other _ _ _ _ (by omega), wr_other _ _ _ _ (by omega), wr_other _ _ _ _ (by omega), F8.1 o (by omega)]) rfl, (hNc.kept (a3 (o + 8) (by omega))).push v1 _, ?_, x, hW.kept (hb _ (by omega) (by omega) (by omega) (by omega) (by omega)) (hb _ (by omega) (by omega) (by omega) (by omega) (by omega)) (hb _ (by omega) (by omega) (by omega) (by omega) (by omega)) (hb _ (by omega) (by omega) (by omega) (by omega) (by omega)), by show x ≤ 16 + (sT S + 6); omega⟩
                refine ⟨⟨(hoo 10 (by decide) (by decide)).trans c1, (hoo 11 (by decide) (by decide)).trans c2, (hoo 12 (by decide) (by decide)).trans c3, wr_eq _ _ _ _, (hoo 15 (by decide) (by decide)).trans c5, (hoo 13 (by decide) (by decide)).trans c6⟩, ?_, fun y => ?_, ?_, fun a ha => ?_⟩
                · rw [hb (o + 9) (by omega) (by omega) (by omega) (by omega) (by omega)]; exact c7
                · rw [hb (o + 10) (by omega) (by omega) (by omega) (by omega) (by omega)]; exact c8 (lte_0 (by decide) (lte_0 (by decide) (lte_0 (by decide) (lte_0 (by decide) y))))
                · rw [hb (o + 11) (by omega) (by omega) (by omega) (by omega) (by omega)]; exact c9
                · have ha : a < sP S + 1 := ha
                  have q12 : (wr (wr (wr (wr I10 (o + 12) (sP S) (chS (sM S).1 (sM S).2.1 (wdT b n (sT S + 2)) (sM S).2.2)) (o + 13) (sP S) (nI (nuT b n (sT S + 3)))) (o + 14) (sP S) (nI (nuT b n (sT S + 4)))) o 14 (nI (sP S + 1))) (o + 12) a = wr I10 (o + 12) (sP S) (chS (sM S).1 (sM S).2.1 (wdT b n (sT S + 2)) (sM S).2.2) (o + 12) a := by rw [wr_other _ _ _ _ (by omega), wr_other _ _ _ _ (by omega), wr_other _ _ _ _ (by omega)]
                  have q13 : (wr (wr (wr (wr I10 (o + 12) (sP S) (chS (sM S).1 (sM S).2.1 (wdT b n (sT S + 2)) (sM S).2.2)) (o + 13) (sP S) (nI (nuT b n (sT S + 3)))) (o + 14) (sP S) (nI (nuT b n (sT S + 4)))) o 14 (nI (sP S + 1))) (o + 13) a = wr (wr I10 (o + 12) (sP S) (chS (sM S).1 (sM S).2.1 (wdT b n (sT S + 2)) (sM S).2.2)) (o + 13) (sP S) (nI (nuT b n (sT S + 3))) (o + 13) a := by rw [wr_other _ _ _ _ (by omega), wr_other _ _ _ _ (by omega)]
                  have q14 : (wr (wr (wr (wr I10 (o + 12) (sP S) (chS (sM S).1 (sM S).2.1 (wdT b n (sT S + 2)) (sM S).2.2)) (o + 13) (sP S) (nI (nuT b n (sT S + 3)))) (o + 14) (sP S) (nI (nuT b n (sT S + 4)))) o 14 (nI (sP S + 1))) (o + 14) a = wr (wr (wr I10 (o + 12) (sP S) (chS (sM S).1 (sM S).2.1 (wdT b n (sT S + 2)) (sM S).2.2)) (o + 13) (sP S) (nI (nuT b n (sT S + 3)))) (o + 14) (sP S) (nI (nuT b n (sT S + 4))) (o + 14) a := by rw [wr_other _ _ _ _ (by omega)]
                  rw [q12, q13, q14]
                  show _ = set1 (sH S).1 (sP S) _ a ∧ _ = set1 (sH S).2.1 (sP S) _ a ∧ _ = set1 (sH S).2.2 (sP S) _ a
                  unfold set1
                  by_cases za : a = sP S
                  · rw [if_pos za, if_pos za, if_pos za, za, wr_eq, wr_eq, wr_eq]; exact ⟨rfl, rfl, rfl⟩
                  · rw [if_neg za, if_neg za, if_neg za, wr_ne _ _ _ _ za, wr_ne _ _ _ _ za, wr_ne _ _ _ _ za, wr_other _ _ _ _ (show o + 13 ≠ o + 12 by omega), wr_other _ _ _ _ (show o + 14 ≠ o + 13 by omega), wr_other _ _ _ _ (show o + 14 ≠ o + 12 by omega), F8.1 (o + 12) (by omega), F8.1 (o + 13) (by omega), F8.1 (o + 14) (by omega), a1 (o + 12) (by omega) (by omega), a1 (o + 13) (by omega) (by omega), a1 (o + 14) (by omega) (by omega), FT.1 (o + 12) (by omega), FT.1 (o + 13) (by omega), FT.1 (o + 14) (by omega)]; exact c10 a (by omega)
              · refine wn_if_ne rfl (e := 75) rfl (by omega) (fun c_72 => absurd c_72 (by omega)) (fun c_72 => ?_)
                refine wx_iconst (v := (nI 0)) rfl (e := 76) rfl (by decide) ?_
                refine wx_iret rfl rfl rfl ⟨by decide, by decide⟩ ?_
                rcases he6 with ⟨w1, w⟩ | ⟨w1, w, w2⟩
                · subst w1; exact hn 1 _ (by decide) (Or.inr ⟨by omega, by rw [sqT_y hk1 h41, sqT_y hk2 h42, sqT_y hk3 h43, sqT_y hk4 h44, sqT_y hk5 h45, sqT_1 w]⟩) _ (((((f1.tr f2).tr f3).tr f4).tr f5).tr f6).S g3 g5
                · subst w1; exact hn 2 _ (by decide) (Or.inr ⟨by omega, by rw [sqT_y hk1 h41, sqT_y hk2 h42, sqT_y hk3 h43, sqT_y hk4 h44, sqT_y hk5 h45, sqT_2 w w2]⟩) _ (((((f1.tr f2).tr f3).tr f4).tr f5).tr f6).S g3 g5
            · refine wn_if_eq rfl (e := 66) rfl (by omega) (fun c_63 => ?_) (fun c_63 => absurd c_63 (by omega))
              refine wx_iconst (v := (nI 0)) rfl (e := 76) rfl (by decide) ?_
              refine wx_iret rfl rfl rfl ⟨by decide, by decide⟩ ?_
              rcases he5 with ⟨w1, w⟩ | ⟨w1, w, w2⟩
              · subst w1; exact hn 1 _ (by decide) (Or.inr ⟨by omega, by rw [sqT_y hk1 h41, sqT_y hk2 h42, sqT_y hk3 h43, sqT_y hk4 h44, sqT_1 w]⟩) _ ((((f1.tr f2).tr f3).tr f4).tr f5).S g3 g5
              · subst w1; exact hn 2 _ (by decide) (Or.inr ⟨by omega, by rw [sqT_y hk1 h41, sqT_y hk2 h42, sqT_y hk3 h43, sqT_y hk4 h44, sqT_2 w w2]⟩) _ ((((f1.tr f2).tr f3).tr f4).tr f5).S g3 g5
          · refine wn_if_eq rfl (e := 57) rfl (by omega) (fun c_54 => ?_) (fun c_54 => absurd c_54 (by omega))
            refine wx_iconst (v := (nI 0)) rfl (e := 76) rfl (by decide) ?_
            refine wx_iret rfl rfl rfl ⟨by decide, by decide⟩ ?_
            rcases he4 with ⟨w1, w⟩ | ⟨w1, w, w2⟩
            · subst w1; exact hn 1 _ (by decide) (Or.inr ⟨by omega, by rw [sqT_y hk1 h41, sqT_y hk2 h42, sqT_y hk3 h43, sqT_1 w]⟩) _ (((f1.tr f2).tr f3).tr f4).S g3 g5
            · subst w1; exact hn 2 _ (by decide) (Or.inr ⟨by omega, by rw [sqT_y hk1 h41, sqT_y hk2 h42, sqT_y hk3 h43, sqT_2 w w2]⟩) _ (((f1.tr f2).tr f3).tr f4).S g3 g5
        · refine wn_if_eq rfl (e := 48) rfl (by omega) (fun c_45 => ?_) (fun c_45 => absurd c_45 (by omega))
          refine wx_iconst (v := (nI 0)) rfl (e := 76) rfl (by decide) ?_
          refine wx_iret rfl rfl rfl ⟨by decide, by decide⟩ ?_
          rcases he3 with ⟨w1, w⟩ | ⟨w1, w, w2⟩
          · subst w1; exact hn 1 _ (by decide) (Or.inr ⟨by omega, by rw [sqT_y hk1 h41, sqT_y hk2 h42, sqT_1 w]⟩) _ ((f1.tr f2).tr f3).S g3 g5
          · subst w1; exact hn 2 _ (by decide) (Or.inr ⟨by omega, by rw [sqT_y hk1 h41, sqT_y hk2 h42, sqT_2 w w2]⟩) _ ((f1.tr f2).tr f3).S g3 g5
      · refine wn_if_eq rfl (e := 39) rfl (by omega) (fun c_36 => ?_) (fun c_36 => absurd c_36 (by omega))
        refine wx_iconst (v := (nI 0)) rfl (e := 76) rfl (by decide) ?_
        refine wx_iret rfl rfl rfl ⟨by decide, by decide⟩ ?_
        rcases he2 with ⟨w1, w⟩ | ⟨w1, w, w2⟩
        · subst w1; exact hn 1 _ (by decide) (Or.inr ⟨by omega, by rw [sqT_y hk1 h41, sqT_1 w]⟩) _ (f1.tr f2).S g3 g5
        · subst w1; exact hn 2 _ (by decide) (Or.inr ⟨by omega, by rw [sqT_y hk1 h41, sqT_2 w w2]⟩) _ (f1.tr f2).S g3 g5
    · refine wn_if_eq rfl (e := 30) rfl (by omega) (fun c_27 => ?_) (fun c_27 => absurd c_27 (by omega))
      refine wx_iconst (v := (nI 0)) rfl (e := 76) rfl (by decide) ?_
      refine wx_iret rfl rfl rfl ⟨by decide, by decide⟩ ?_
      rcases he1 with ⟨w1, w⟩ | ⟨w1, w, w2⟩
      · subst w1; exact hn 1 _ (by decide) (Or.inr ⟨by omega, by exact sqT_1 w⟩) _ f1.S g3 g5
      · subst w1; exact hn 2 _ (by decide) (Or.inr ⟨by omega, by exact sqT_2 w w2⟩) _ f1.S g3 g5
  · refine wx_aload_n rfl (e := 17) rfl rfl ?_
    refine wx_iconst (v := (nI 2)) rfl (e := 18) rfl (by decide) ?_
    refine wx_cv1 (mc := 0) (ms := 0) rfl (e := 21) rfl rfl (Nat.le_of_ble_eq_true rfl) ⟨by decide, by decide⟩ ?_
    refine c_X4_refuse ?_
    refine wx_iret rfl rfl rfl ⟨by decide, by decide⟩ ?_
    exact hn 2 _ (by decide) (Or.inl ⟨by omega, rfl, rfl⟩) _ (frt.S ⟨fun q h => wr_other _ _ _ _ h, fun k _ _ h => wr_ne _ _ _ _ h⟩) ((wr_ne _ _ _ _ (by decide)).trans r3) (wr_eq _ _ _ _)
set_option maxHeartbeats 4000000 in
theorem c_X4_readRelic {d Lx tt u : Nat} {I : Nat → Nat → Int32} {G : Nat → Nat → Int64} {Q : ab_Q} {b : Nat → Nat} {n o : Nat} {S : ps} (ho : o = 1 ∨ o = 16) (hV : PV S) (hC : CP b n o S I G) (hy : ¬ sR S = 6 → (sqT b n [2, 24, 24, if kd b n (sT S + 3) = 11 then 11 else 10, 59] (sT S)).1 = 0 → ∀ I2 G2, frS o I I2 G G2 → CP b n o (nwR b n S) I2 G2 → Q (some (.int (nI 1))) (hp Lx tt o u I2 G2)) (hn : ∀ k tok, ¬ k = 0 → (sR S = 6 ∧ k = 2 ∧ tok = sT S) ∨ (¬ sR S = 6 ∧ sqT b n [2, 24, 24, if kd b n (sT S + 3) = 11 then 11 else 10, 59] (sT S) = (k, tok)) → ∀ I2, frS o I I2 G G → I2 33 3 = nI tok → I2 33 5 = nI k → Q (some (.int (nI 0))) (hp Lx tt o u I2 G)) : ab_call ab_MT (d + 4) 63 [.ref 33] (hp Lx tt o u I G) 0 0 Q := by
  obtain ⟨hR, hE, hNs, hNc, hQ, x, hW, hx⟩ := id hC
  obtain ⟨v1, v2, v3, v4, v5, v6⟩ := id hV
  obtain ⟨-, ht, hgd, r3, r4, r5⟩ := id hR
  obtain ⟨⟨c1, c2, c3, c4, c5, c6⟩, c7, c8, c9, c10⟩ := id hQ
  have c1 : I o 10 = nI (sC S) := c1
  have c2 : I o 11 = nI (sD S) := c2
  have c3 : I o 12 = nI (sR S) := c3
  have c4 : I o 14 = nI (sP S) := c4
  have c7 : ∀ c, c < sC S → I (o + 9) c = sW S c := c7
  have c9 : ∀ i, i < sR S → I (o + 11) i = sQ S i := c9
  have c10 : ∀ a, a < sP S → I (o + 12) a = (sH S).1 a ∧ I (o + 13) a = (sH S).2.1 a ∧ I (o + 14) a = (sH S).2.2 a := c10
  refine wx_in (M := mX4_readRelic) rfl rfl rfl (Nat.le_of_ble_eq_true rfl) ?_
  refine wx_aload_n rfl (e := 1) rfl rfl ?_
  refine wx_geti rfl (e := 4) rfl rfl ?_
  rw [r3]
  refine wx_istore_n (L2 := [_, _, _]) rfl (e := 5) rfl (by decide) rfl ?_
  refine wx_aload_n rfl (e := 6) rfl rfl ?_
  refine wx_getr rfl (e := 9) rfl rfl rfl ?_
  refine wx_cv0 (mc := 0) (ms := 0) rfl (e := 12) rfl (sh_t ho) (Nat.le_of_ble_eq_true rfl) ⟨by decide, by decide⟩ ?_
  refine c_X7_relics ho ?_
  rw [c3]
  refine wx_bipush (v := (nI 6)) rfl (e := 14) rfl (by decide) ?_
  refine wn_ic_lt rfl (e := 17) rfl (by omega) (by omega) (fun c_14 => ?_) (fun c_14 => ?_)
  · refine wx_aload_n rfl (e := 24) rfl rfl ?_
    refine wx_iconst (v := (nI 2)) rfl (e := 25) rfl (by decide) ?_
    refine wx_cv1 (mc := 0) (ms := 0) rfl (e := 28) rfl rfl (Nat.le_of_ble_eq_true rfl) ⟨by decide, by decide⟩ ?_
    refine c_X4_take hR (k := 2) (by first | omega | (split <;> omega)) (by first | omega | (split <;> omega)) (fun hk1 h41 I1 f1 R1 => ?_) (fun e1 he1 I1 f1 g3 g5 => ?_)
    · refine wn_if_eq rfl (e := 31) rfl (by omega) (fun c_28 => absurd c_28 (by omega)) (fun c_28 => ?_)
      refine wx_aload_n rfl (e := 32) rfl rfl ?_
      refine wx_bipush (v := (nI 24)) rfl (e := 34) rfl (by decide) ?_
      refine wx_cv1 (mc := 0) (ms := 0) rfl (e := 37) rfl rfl (Nat.le_of_ble_eq_true rfl) ⟨by decide, by decide⟩ ?_
      refine c_X4_take R1 (k := 24) (by first | omega | (split <;> omega)) (by first | omega | (split <;> omega)) (fun hk2 h42 I2 f2 R2 => ?_) (fun e2 he2 I2 f2 g3 g5 => ?_)
      · refine wn_if_eq rfl (e := 40) rfl (by omega) (fun c_37 => absurd c_37 (by omega)) (fun c_37 => ?_)
        refine wx_aload_n rfl (e := 41) rfl rfl ?_
        refine wx_bipush (v := (nI 24)) rfl (e := 43) rfl (by decide) ?_
        refine wx_cv1 (mc := 0) (ms := 0) rfl (e := 46) rfl rfl (Nat.le_of_ble_eq_true rfl) ⟨by decide, by decide⟩ ?_
        refine c_X4_take R2 (k := 24) (by first | omega | (split <;> omega)) (by first | omega | (split <;> omega)) (fun hk3 h43 I3 f3 R3 => ?_) (fun e3 he3 I3 f3 g3 g5 => ?_)
        · refine wn_if_ne rfl (e := 49) rfl (by omega) (fun c_46 => ?_) (fun c_46 => absurd c_46 (by omega))
          refine wx_aload_n rfl (e := 52) rfl rfl ?_
          refine wx_geti rfl (e := 55) rfl rfl ?_
          rw [R3.2.2.2.2.1]
          have hkl3 := kd62 b n (sT S + 1 + 1 + 1)
          refine wx_bipush (v := (nI 11)) rfl (e := 57) rfl (by decide) ?_
          refine wn_ic_ne rfl (e := 60) rfl (by omega) (by omega) (fun c_57 => ?_) (fun c_57 => ?_)
          · have hif : (if kd b n (sT S + 3) = 11 then 11 else 10) = 10 := if_neg c_57
            refine wx_iconst (v := (nI 0)) rfl (e := 65) rfl (by decide) ?_
            refine wx_istore_n (L2 := [_, _, _]) rfl (e := 66) rfl (by decide) rfl ?_
            refine wx_aload_n rfl (e := 67) rfl rfl ?_
            refine wx_iload_n rfl (e := 68) rfl rfl ?_
            refine wn_if_eq rfl (e := 71) rfl (by omega) (fun c_68 => ?_) (fun c_68 => absurd c_68 (by omega))
            refine wx_bipush (v := (nI 10)) rfl (e := 78) rfl (by decide) ?_
            refine wx_cv1 (mc := 0) (ms := 0) rfl (e := 81) rfl rfl (Nat.le_of_ble_eq_true rfl) ⟨by decide, by decide⟩ ?_
            refine c_X4_take R3 (k := 10) (by first | omega | (split <;> omega)) (by first | omega | (split <;> omega)) (fun hk4 h44 I4 f4 R4 => ?_) (fun e4 he4 I4 f4 g3 g5 => ?_)
            · refine wn_if_eq rfl (e := 84) rfl (by omega) (fun c_81 => absurd c_81 (by omega)) (fun c_81 => ?_)
              refine wx_aload_n rfl (e := 85) rfl rfl ?_
              refine wx_bipush (v := (nI 59)) rfl (e := 87) rfl (by decide) ?_
              refine wx_cv1 (mc := 0) (ms := 0) rfl (e := 90) rfl rfl (Nat.le_of_ble_eq_true rfl) ⟨by decide, by decide⟩ ?_
              refine c_X4_take R4 (k := 59) (by first | omega | (split <;> omega)) (by first | omega | (split <;> omega)) (fun hk5 h45 I5 f5 R5 => ?_) (fun e5 he5 I5 f5 g3 g5 => ?_)
              · refine wn_if_ne rfl (e := 93) rfl (by omega) (fun c_90 => ?_) (fun c_90 => absurd c_90 (by omega))
                refine wx_aload_n rfl (e := 96) rfl rfl ?_
                refine wx_iload_n rfl (e := 97) rfl rfl ?_
                refine wx_iconst (v := (nI 1)) rfl (e := 98) rfl (by decide) ?_
                refine wn_iadd rfl (e := 99) rfl ?_
                refine wx_cv1 (mc := 0) (ms := 0) rfl (e := 102) rfl rfl (Nat.le_of_ble_eq_true rfl) ⟨by decide, by decide⟩ ?_
                have FT : frt I I5 := ((((f1.tr f2).tr f3).tr f4).tr f5)
                have hg5 := R5.2.2.1
                have hE0 : LT_ (sE S) I5 := hE.t (FT.2 7 (by decide) (by decide) (by decide)) (FT.2 8 (by decide) (by decide) (by decide))
                have hsq : (sqT b n [2, 24, 24, if kd b n (sT S + 3) = 11 then 11 else 10, 59] (sT S)).1 = 0 := by rw [hif, sqT_y hk1 h41, sqT_y hk2 h42, sqT_y hk3 h43, sqT_y hk4 h44, sqT_y hk5 h45]; rfl
                refine c_X4_addName ho R5.1 (tok := sT S + 1) (by omega) (fun j hj => hg5 j (by omega)) hk2 hE0 (N := sM S) (hNs.kept (by rw [FT.1 o (by omega)]) rfl) (by omega) (a := -1) (fun I7 G7 a1 a2 a3 a4 E7 N7 => ?_)
                have K7 : RK b n I7 G7 := RK.kept R5.1 (a1 34 (by omega) (by omega)) (a1 36 (by omega) (by omega)) (a1 37 (by omega) (by omega)) (a3 38 (by omega))
                refine wx_aload_n rfl (e := 103) rfl rfl ?_
                refine wx_getr rfl (e := 106) rfl rfl rfl ?_
                refine wx_aload_n rfl (e := 107) rfl rfl ?_
                refine wx_iload_n rfl (e := 108) rfl rfl ?_
                refine wx_iconst (v := (nI 2)) rfl (e := 109) rfl (by decide) ?_
                refine wn_iadd rfl (e := 110) rfl ?_
                refine wx_cv1 (mc := 0) (ms := 0) rfl (e := 113) rfl rfl (Nat.le_of_ble_eq_true rfl) ⟨by decide, by decide⟩ ?_
                refine c_X4_churchAt ho K7 (tok := sT S + 2) (by omega) (fun j hj => hg5 j (by omega)) hk3 E7 (N := sM S) (C := sC S) (by rw [a4 10 (by decide), FT.1 o (by omega)]; exact c1) v1 (hNc.kept (a3 (o + 8) (by omega))) (fun I8 f8 E8 => ?_)
                refine wx_iload_n rfl (e := 114) rfl rfl ?_
                refine wn_if_ne rfl (e := 117) rfl (by omega) (fun c_114 => absurd c_114 (by omega)) (fun c_114 => ?_)
                refine wx_iconst (v := (nI 1)) rfl (e := 118) rfl (by decide) ?_
                refine wx_goto rfl ?_
                refine wx_cv2 (mc := 0) (ms := 0) rfl (e := 125) rfl (sh_t ho) (Nat.le_of_ble_eq_true rfl) ⟨by decide, by decide⟩ ?_
                refine c_X7_addRelic ho (R := sR S) (by rw [f8.1 o (by omega), a4 12 (by decide), FT.1 o (by omega)]; exact c3) (by omega) (f := fun i => decide (i < sR S) && sU S i) (by rw [f8.1 o (by omega), a4 13 (by decide), FT.1 o (by omega)]; exact c6) (by show (decide (sR S < sR S) && _) = false; rw [decide_eq_false (by omega), Bool.false_and]) (b := true) ?_
                refine wx_iconst (v := (nI 1)) rfl (e := 126) rfl (by decide) ?_
                refine wx_iret rfl rfl rfl ⟨by decide, by decide⟩ ?_
                have hb : ∀ q, q ≠ 33 → q ≠ o → q ≠ o + 11 → (wr (wr (wr I8 (o + 11) (sR S) (chS (sM S).1 (sM S).2.1 (wdT b n (sT S + 2)) (sM S).2.2)) o 13 (nI (bsF (set1 (fun i => decide (i < sR S) && sU S i) (sR S) true)))) o 12 (nI (sR S + 1))) q = I q := fun q y1 y2 y3 => by rw [wr_other _ _ _ _ y2, wr_other _ _ _ _ y2, wr_other _ _ _ _ y3, f8.1 q y1, a1 q y1 y2, FT.1 q y1]
                have hoo : ∀ k, k ≠ 9 → k ≠ 12 → k ≠ 13 → (wr (wr (wr I8 (o + 11) (sR S) (chS (sM S).1 (sM S).2.1 (wdT b n (sT S + 2)) (sM S).2.2)) o 13 (nI (bsF (set1 (fun i => decide (i < sR S) && sU S i) (sR S) true)))) o 12 (nI (sR S + 1))) o k = I o k := fun k y1 y2 y3 => by rw [wr_ne _ _ _ _ y2, wr_ne _ _ _ _ y3, wr_other _ _ _ _ (by omega), f8.1 o (by omega), a4 k y1, FT.1 o (by omega)]
                have h33 : ∀ k, k ≠ 7 → k ≠ 8 → (wr (wr (wr I8 (o + 11) (sR S) (chS (sM S).1 (sM S).2.1 (wdT b n (sT S + 2)) (sM S).2.2)) o 13 (nI (bsF (set1 (fun i => decide (i < sR S) && sU S i) (sR S) true)))) o 12 (nI (sR S + 1))) 33 k = I5 33 k := fun k y1 y2 => by rw [wr_other _ _ _ _ (by omega), wr_other _ _ _ _ (by omega), wr_other _ _ _ _ (by omega), f8.2 k y1 y2, a2 k y1 y2]
                have ev : decide (¬ kd b n (sT S + 3) = 11) = true := decide_eq_true c_57
                refine hy (by omega) hsq (wr (wr (wr I8 (o + 11) (sR S) (chS (sM S).1 (sM S).2.1 (wdT b n (sT S + 2)) (sM S).2.2)) o 13 (nI (bsF (set1 (fun i => decide (i < sR S) && sU S i) (sR S) true)))) o 12 (nI (sR S + 1))) G7 ⟨fun q y1 y2 => hb q y1 (by omega) (by omega), fun k y1 y2 y3 y4 y5 => (h33 k y4 y5).trans (FT.2 k y1 y2 y3), fun q y1 y2 => a3 q y1⟩ ⟨R5.f ho (fun q y1 y2 => (hb q (by omega) (by omega) (by omega)).trans (FT.1 q (by omega)).symm) (h33 3 (by decide) (by decide)) (h33 4 (by decide) (by decide)) (h33 5 (by decide) (by decide)) (a3 38 (by omega)), E8.t (by rw [wr_other _ _ _ _ (by omega), wr_other _ _ _ _ (by omega), wr_other _ _ _ _ (by omega)]) (by rw [wr_other _ _ _ _ (by omega), wr_other _ _ _ _ (by omega), wr_other _ _ _ _ (by omega)]), N7.kept (by rw [wr_ne _ _ _ _ (by decide), wr_ne _ _ _ _ (by decide), wr_other _ _ _ _ (by omega), f8.1 o (by omega)]) rfl, (hNc.kept (a3 (o + 8) (by omega))).push v1 _, ?_, x, hW.kept (hb _ (by omega) (by omega) (by omega)) (hb _ (by omega) (by omega) (by omega)) (hb _ (by omega) (by omega) (by omega)) (hb _ (by omega) (by omega) (by omega)), by show x ≤ 16 + (sT S + 5); omega⟩
                refine ⟨⟨(hoo 10 (by decide) (by decide) (by decide)).trans c1, (hoo 11 (by decide) (by decide) (by decide)).trans c2, wr_eq _ _ _ _, (hoo 14 (by decide) (by decide) (by decide)).trans c4, (hoo 15 (by decide) (by decide) (by decide)).trans c5, ?_⟩, ?_, fun y => ?_, fun e he => ?_, ?_⟩
                · rw [wr_ne _ _ _ _ (by decide), wr_eq, bs_set]; show _ = nI (bsF (fun i => decide (i < sR S + 1) && set1 (sU S) (sR S) (decide (¬ kd b n (sT S + 3) = 11)) i)); rw [ev]
                · rw [hb (o + 9) (by omega) (by omega) (by omega)]; exact c7
                · rw [hb (o + 10) (by omega) (by omega) (by omega)]; exact c8 (lte_0 (by decide) (lte_0 (by decide) y))
                · have he : e < sR S + 1 := he
                  rw [wr_other _ _ _ _ (by omega), wr_other _ _ _ _ (by omega)]
                  show _ = set1 (sQ S) (sR S) _ e
                  unfold set1
                  by_cases ze : e = sR S
                  · rw [if_pos ze, ze, wr_eq]; rfl
                  · rw [if_neg ze, wr_ne _ _ _ _ ze, f8.1 (o + 11) (by omega), a1 (o + 11) (by omega) (by omega), FT.1 (o + 11) (by omega)]; exact c9 e (by omega)
                · rw [hb (o + 12) (by omega) (by omega) (by omega), hb (o + 13) (by omega) (by omega) (by omega), hb (o + 14) (by omega) (by omega) (by omega)]; exact c10
              · refine wn_if_ne rfl (e := 93) rfl (by omega) (fun c_90 => absurd c_90 (by omega)) (fun c_90 => ?_)
                refine wx_iconst (v := (nI 0)) rfl (e := 94) rfl (by decide) ?_
                refine wx_iret rfl rfl rfl ⟨by decide, by decide⟩ ?_
                rcases he5 with ⟨w1, w⟩ | ⟨w1, w, w2⟩
                · subst w1; exact hn 1 _ (by decide) (Or.inr ⟨by omega, by rw [hif, sqT_y hk1 h41, sqT_y hk2 h42, sqT_y hk3 h43, sqT_y hk4 h44, sqT_1 w]⟩) _ ((((f1.tr f2).tr f3).tr f4).tr f5).S g3 g5
                · subst w1; exact hn 2 _ (by decide) (Or.inr ⟨by omega, by rw [hif, sqT_y hk1 h41, sqT_y hk2 h42, sqT_y hk3 h43, sqT_y hk4 h44, sqT_2 w w2]⟩) _ ((((f1.tr f2).tr f3).tr f4).tr f5).S g3 g5
            · refine wn_if_eq rfl (e := 84) rfl (by omega) (fun c_81 => ?_) (fun c_81 => absurd c_81 (by omega))
              refine wx_iconst (v := (nI 0)) rfl (e := 94) rfl (by decide) ?_
              refine wx_iret rfl rfl rfl ⟨by decide, by decide⟩ ?_
              rcases he4 with ⟨w1, w⟩ | ⟨w1, w, w2⟩
              · subst w1; exact hn 1 _ (by decide) (Or.inr ⟨by omega, by rw [hif, sqT_y hk1 h41, sqT_y hk2 h42, sqT_y hk3 h43, sqT_1 w]⟩) _ (((f1.tr f2).tr f3).tr f4).S g3 g5
              · subst w1; exact hn 2 _ (by decide) (Or.inr ⟨by omega, by rw [hif, sqT_y hk1 h41, sqT_y hk2 h42, sqT_y hk3 h43, sqT_2 w w2]⟩) _ (((f1.tr f2).tr f3).tr f4).S g3 g5
          · have hif : (if kd b n (sT S + 3) = 11 then 11 else 10) = 11 := if_pos c_57
            refine wx_iconst (v := (nI 1)) rfl (e := 61) rfl (by decide) ?_
            refine wx_goto rfl ?_
            refine wx_istore_n (L2 := [_, _, _]) rfl (e := 66) rfl (by decide) rfl ?_
            refine wx_aload_n rfl (e := 67) rfl rfl ?_
            refine wx_iload_n rfl (e := 68) rfl rfl ?_
            refine wn_if_eq rfl (e := 71) rfl (by omega) (fun c_68 => absurd c_68 (by omega)) (fun c_68 => ?_)
            refine wx_bipush (v := (nI 11)) rfl (e := 73) rfl (by decide) ?_
            refine wx_goto rfl ?_
            refine wx_cv1 (mc := 0) (ms := 0) rfl (e := 81) rfl rfl (Nat.le_of_ble_eq_true rfl) ⟨by decide, by decide⟩ ?_
            refine c_X4_take R3 (k := 11) (by first | omega | (split <;> omega)) (by first | omega | (split <;> omega)) (fun hk4 h44 I4 f4 R4 => ?_) (fun e4 he4 I4 f4 g3 g5 => ?_)
            · refine wn_if_eq rfl (e := 84) rfl (by omega) (fun c_81 => absurd c_81 (by omega)) (fun c_81 => ?_)
              refine wx_aload_n rfl (e := 85) rfl rfl ?_
              refine wx_bipush (v := (nI 59)) rfl (e := 87) rfl (by decide) ?_
              refine wx_cv1 (mc := 0) (ms := 0) rfl (e := 90) rfl rfl (Nat.le_of_ble_eq_true rfl) ⟨by decide, by decide⟩ ?_
              refine c_X4_take R4 (k := 59) (by first | omega | (split <;> omega)) (by first | omega | (split <;> omega)) (fun hk5 h45 I5 f5 R5 => ?_) (fun e5 he5 I5 f5 g3 g5 => ?_)
              · refine wn_if_ne rfl (e := 93) rfl (by omega) (fun c_90 => ?_) (fun c_90 => absurd c_90 (by omega))
                refine wx_aload_n rfl (e := 96) rfl rfl ?_
                refine wx_iload_n rfl (e := 97) rfl rfl ?_
                refine wx_iconst (v := (nI 1)) rfl (e := 98) rfl (by decide) ?_
                refine wn_iadd rfl (e := 99) rfl ?_
                refine wx_cv1 (mc := 0) (ms := 0) rfl (e := 102) rfl rfl (Nat.le_of_ble_eq_true rfl) ⟨by decide, by decide⟩ ?_
                have FT : frt I I5 := ((((f1.tr f2).tr f3).tr f4).tr f5)
                have hg5 := R5.2.2.1
                have hE0 : LT_ (sE S) I5 := hE.t (FT.2 7 (by decide) (by decide) (by decide)) (FT.2 8 (by decide) (by decide) (by decide))
                have hsq : (sqT b n [2, 24, 24, if kd b n (sT S + 3) = 11 then 11 else 10, 59] (sT S)).1 = 0 := by rw [hif, sqT_y hk1 h41, sqT_y hk2 h42, sqT_y hk3 h43, sqT_y hk4 h44, sqT_y hk5 h45]; rfl
                refine c_X4_addName ho R5.1 (tok := sT S + 1) (by omega) (fun j hj => hg5 j (by omega)) hk2 hE0 (N := sM S) (hNs.kept (by rw [FT.1 o (by omega)]) rfl) (by omega) (a := -1) (fun I7 G7 a1 a2 a3 a4 E7 N7 => ?_)
                have K7 : RK b n I7 G7 := RK.kept R5.1 (a1 34 (by omega) (by omega)) (a1 36 (by omega) (by omega)) (a1 37 (by omega) (by omega)) (a3 38 (by omega))
                refine wx_aload_n rfl (e := 103) rfl rfl ?_
                refine wx_getr rfl (e := 106) rfl rfl rfl ?_
                refine wx_aload_n rfl (e := 107) rfl rfl ?_
                refine wx_iload_n rfl (e := 108) rfl rfl ?_
                refine wx_iconst (v := (nI 2)) rfl (e := 109) rfl (by decide) ?_
                refine wn_iadd rfl (e := 110) rfl ?_
                refine wx_cv1 (mc := 0) (ms := 0) rfl (e := 113) rfl rfl (Nat.le_of_ble_eq_true rfl) ⟨by decide, by decide⟩ ?_
                refine c_X4_churchAt ho K7 (tok := sT S + 2) (by omega) (fun j hj => hg5 j (by omega)) hk3 E7 (N := sM S) (C := sC S) (by rw [a4 10 (by decide), FT.1 o (by omega)]; exact c1) v1 (hNc.kept (a3 (o + 8) (by omega))) (fun I8 f8 E8 => ?_)
                refine wx_iload_n rfl (e := 114) rfl rfl ?_
                refine wn_if_ne rfl (e := 117) rfl (by omega) (fun c_114 => ?_) (fun c_114 => absurd c_114 (by omega))
                refine wx_iconst (v := (nI 0)) rfl (e := 122) rfl (by decide) ?_
                refine wx_cv2 (mc := 0) (ms := 0) rfl (e := 125) rfl (sh_t ho) (Nat.le_of_ble_eq_true rfl) ⟨by decide, by decide⟩ ?_
                refine c_X7_addRelic ho (R := sR S) (by rw [f8.1 o (by omega), a4 12 (by decide), FT.1 o (by omega)]; exact c3) (by omega) (f := fun i => decide (i < sR S) && sU S i) (by rw [f8.1 o (by omega), a4 13 (by decide), FT.1 o (by omega)]; exact c6) (by show (decide (sR S < sR S) && _) = false; rw [decide_eq_false (by omega), Bool.false_and]) (b := false) ?_
                refine wx_iconst (v := (nI 1)) rfl (e := 126) rfl (by decide) ?_
                refine wx_iret rfl rfl rfl ⟨by decide, by decide⟩ ?_
                have hb : ∀ q, q ≠ 33 → q ≠ o → q ≠ o + 11 → (wr (wr (wr I8 (o + 11) (sR S) (chS (sM S).1 (sM S).2.1 (wdT b n (sT S + 2)) (sM S).2.2)) o 13 (nI (bsF (set1 (fun i => decide (i < sR S) && sU S i) (sR S) false)))) o 12 (nI (sR S + 1))) q = I q := fun q y1 y2 y3 => by rw [wr_other _ _ _ _ y2, wr_other _ _ _ _ y2, wr_other _ _ _ _ y3, f8.1 q y1, a1 q y1 y2, FT.1 q y1]
                have hoo : ∀ k, k ≠ 9 → k ≠ 12 → k ≠ 13 → (wr (wr (wr I8 (o + 11) (sR S) (chS (sM S).1 (sM S).2.1 (wdT b n (sT S + 2)) (sM S).2.2)) o 13 (nI (bsF (set1 (fun i => decide (i < sR S) && sU S i) (sR S) false)))) o 12 (nI (sR S + 1))) o k = I o k := fun k y1 y2 y3 => by rw [wr_ne _ _ _ _ y2, wr_ne _ _ _ _ y3, wr_other _ _ _ _ (by omega), f8.1 o (by omega), a4 k y1, FT.1 o (by omega)]
                have h33 : ∀ k, k ≠ 7 → k ≠ 8 → (wr (wr (wr I8 (o + 11) (sR S) (chS (sM S).1 (sM S).2.1 (wdT b n (sT S + 2)) (sM S).2.2)) o 13 (nI (bsF (set1 (fun i => decide (i < sR S) && sU S i) (sR S) false)))) o 12 (nI (sR S + 1))) 33 k = I5 33 k := fun k y1 y2 => by rw [wr_other _ _ _ _ (by omega), wr_other _ _ _ _ (by omega), wr_other _ _ _ _ (by omega), f8.2 k y1 y2, a2 k y1 y2]
                have ev : decide (¬ kd b n (sT S + 3) = 11) = false := decide_eq_false (fun w => w c_57)
                refine hy (by omega) hsq (wr (wr (wr I8 (o + 11) (sR S) (chS (sM S).1 (sM S).2.1 (wdT b n (sT S + 2)) (sM S).2.2)) o 13 (nI (bsF (set1 (fun i => decide (i < sR S) && sU S i) (sR S) false)))) o 12 (nI (sR S + 1))) G7 ⟨fun q y1 y2 => hb q y1 (by omega) (by omega), fun k y1 y2 y3 y4 y5 => (h33 k y4 y5).trans (FT.2 k y1 y2 y3), fun q y1 y2 => a3 q y1⟩ ⟨R5.f ho (fun q y1 y2 => (hb q (by omega) (by omega) (by omega)).trans (FT.1 q (by omega)).symm) (h33 3 (by decide) (by decide)) (h33 4 (by decide) (by decide)) (h33 5 (by decide) (by decide)) (a3 38 (by omega)), E8.t (by rw [wr_other _ _ _ _ (by omega), wr_other _ _ _ _ (by omega), wr_other _ _ _ _ (by omega)]) (by rw [wr_other _ _ _ _ (by omega), wr_other _ _ _ _ (by omega), wr_other _ _ _ _ (by omega)]), N7.kept (by rw [wr_ne _ _ _ _ (by decide), wr_ne _ _ _ _ (by decide), wr_other _ _ _ _ (by omega), f8.1 o (by omega)]) rfl, (hNc.kept (a3 (o + 8) (by omega))).push v1 _, ?_, x, hW.kept (hb _ (by omega) (by omega) (by omega)) (hb _ (by omega) (by omega) (by omega)) (hb _ (by omega) (by omega) (by omega)) (hb _ (by omega) (by omega) (by omega)), by show x ≤ 16 + (sT S + 5); omega⟩
                refine ⟨⟨(hoo 10 (by decide) (by decide) (by decide)).trans c1, (hoo 11 (by decide) (by decide) (by decide)).trans c2, wr_eq _ _ _ _, (hoo 14 (by decide) (by decide) (by decide)).trans c4, (hoo 15 (by decide) (by decide) (by decide)).trans c5, ?_⟩, ?_, fun y => ?_, fun e he => ?_, ?_⟩
                · rw [wr_ne _ _ _ _ (by decide), wr_eq, bs_set]; show _ = nI (bsF (fun i => decide (i < sR S + 1) && set1 (sU S) (sR S) (decide (¬ kd b n (sT S + 3) = 11)) i)); rw [ev]
                · rw [hb (o + 9) (by omega) (by omega) (by omega)]; exact c7
                · rw [hb (o + 10) (by omega) (by omega) (by omega)]; exact c8 (lte_0 (by decide) (lte_0 (by decide) y))
                · have he : e < sR S + 1 := he
                  rw [wr_other _ _ _ _ (by omega), wr_other _ _ _ _ (by omega)]
                  show _ = set1 (sQ S) (sR S) _ e
                  unfold set1
                  by_cases ze : e = sR S
                  · rw [if_pos ze, ze, wr_eq]; rfl
                  · rw [if_neg ze, wr_ne _ _ _ _ ze, f8.1 (o + 11) (by omega), a1 (o + 11) (by omega) (by omega), FT.1 (o + 11) (by omega)]; exact c9 e (by omega)
                · rw [hb (o + 12) (by omega) (by omega) (by omega), hb (o + 13) (by omega) (by omega) (by omega), hb (o + 14) (by omega) (by omega) (by omega)]; exact c10
              · refine wn_if_ne rfl (e := 93) rfl (by omega) (fun c_90 => absurd c_90 (by omega)) (fun c_90 => ?_)
                refine wx_iconst (v := (nI 0)) rfl (e := 94) rfl (by decide) ?_
                refine wx_iret rfl rfl rfl ⟨by decide, by decide⟩ ?_
                rcases he5 with ⟨w1, w⟩ | ⟨w1, w, w2⟩
                · subst w1; exact hn 1 _ (by decide) (Or.inr ⟨by omega, by rw [hif, sqT_y hk1 h41, sqT_y hk2 h42, sqT_y hk3 h43, sqT_y hk4 h44, sqT_1 w]⟩) _ ((((f1.tr f2).tr f3).tr f4).tr f5).S g3 g5
                · subst w1; exact hn 2 _ (by decide) (Or.inr ⟨by omega, by rw [hif, sqT_y hk1 h41, sqT_y hk2 h42, sqT_y hk3 h43, sqT_y hk4 h44, sqT_2 w w2]⟩) _ ((((f1.tr f2).tr f3).tr f4).tr f5).S g3 g5
            · refine wn_if_eq rfl (e := 84) rfl (by omega) (fun c_81 => ?_) (fun c_81 => absurd c_81 (by omega))
              refine wx_iconst (v := (nI 0)) rfl (e := 94) rfl (by decide) ?_
              refine wx_iret rfl rfl rfl ⟨by decide, by decide⟩ ?_
              rcases he4 with ⟨w1, w⟩ | ⟨w1, w, w2⟩
              · subst w1; exact hn 1 _ (by decide) (Or.inr ⟨by omega, by rw [hif, sqT_y hk1 h41, sqT_y hk2 h42, sqT_y hk3 h43, sqT_1 w]⟩) _ (((f1.tr f2).tr f3).tr f4).S g3 g5
              · subst w1; exact hn 2 _ (by decide) (Or.inr ⟨by omega, by rw [hif, sqT_y hk1 h41, sqT_y hk2 h42, sqT_y hk3 h43, sqT_2 w w2]⟩) _ (((f1.tr f2).tr f3).tr f4).S g3 g5
        · refine wn_if_ne rfl (e := 49) rfl (by omega) (fun c_46 => absurd c_46 (by omega)) (fun c_46 => ?_)
          refine wx_iconst (v := (nI 0)) rfl (e := 50) rfl (by decide) ?_
          refine wx_iret rfl rfl rfl ⟨by decide, by decide⟩ ?_
          rcases he3 with ⟨w1, w⟩ | ⟨w1, w, w2⟩
          · subst w1; exact hn 1 _ (by decide) (Or.inr ⟨by omega, by rw [sqT_y hk1 h41, sqT_y hk2 h42, sqT_1 w]⟩) _ ((f1.tr f2).tr f3).S g3 g5
          · subst w1; exact hn 2 _ (by decide) (Or.inr ⟨by omega, by rw [sqT_y hk1 h41, sqT_y hk2 h42, sqT_2 w w2]⟩) _ ((f1.tr f2).tr f3).S g3 g5
      · refine wn_if_eq rfl (e := 40) rfl (by omega) (fun c_37 => ?_) (fun c_37 => absurd c_37 (by omega))
        refine wx_iconst (v := (nI 0)) rfl (e := 50) rfl (by decide) ?_
        refine wx_iret rfl rfl rfl ⟨by decide, by decide⟩ ?_
        rcases he2 with ⟨w1, w⟩ | ⟨w1, w, w2⟩
        · subst w1; exact hn 1 _ (by decide) (Or.inr ⟨by omega, by rw [sqT_y hk1 h41, sqT_1 w]⟩) _ (f1.tr f2).S g3 g5
        · subst w1; exact hn 2 _ (by decide) (Or.inr ⟨by omega, by rw [sqT_y hk1 h41, sqT_2 w w2]⟩) _ (f1.tr f2).S g3 g5
    · refine wn_if_eq rfl (e := 31) rfl (by omega) (fun c_28 => ?_) (fun c_28 => absurd c_28 (by omega))
      refine wx_iconst (v := (nI 0)) rfl (e := 50) rfl (by decide) ?_
      refine wx_iret rfl rfl rfl ⟨by decide, by decide⟩ ?_
      rcases he1 with ⟨w1, w⟩ | ⟨w1, w, w2⟩
      · subst w1; exact hn 1 _ (by decide) (Or.inr ⟨by omega, by exact sqT_1 w⟩) _ f1.S g3 g5
      · subst w1; exact hn 2 _ (by decide) (Or.inr ⟨by omega, by exact sqT_2 w w2⟩) _ f1.S g3 g5
  · refine wx_aload_n rfl (e := 18) rfl rfl ?_
    refine wx_iconst (v := (nI 2)) rfl (e := 19) rfl (by decide) ?_
    refine wx_cv1 (mc := 0) (ms := 0) rfl (e := 22) rfl rfl (Nat.le_of_ble_eq_true rfl) ⟨by decide, by decide⟩ ?_
    refine c_X4_refuse ?_
    refine wx_iret rfl rfl rfl ⟨by decide, by decide⟩ ?_
    exact hn 2 _ (by decide) (Or.inl ⟨by omega, rfl, rfl⟩) _ (frt.S ⟨fun q h => wr_other _ _ _ _ h, fun k _ _ h => wr_ne _ _ _ _ h⟩) ((wr_ne _ _ _ _ (by decide)).trans r3) (wr_eq _ _ _ _)

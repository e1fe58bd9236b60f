/-! the class: roads -/
set_option maxHeartbeats 4000000 in
theorem c_X4_readRoad {d Lx tt u : Nat} {I : Nat → Nat → Int32} {G : Nat → Nat → Int64} {Q : ab_Q} {b : Nat → Nat} {n o : Nat} {S : ps} (ho : o = 1 ∨ o = 16) (hV : PV S) (hC : CP b n o S I G) (hy : ¬ sD S = 9 → (sqT b n [1, 24, 24, 25, 59] (sT S)).1 = 0 → ∀ I2 G2, frS o I I2 G G2 → CP b n o (nwD b n S) I2 G2 → Q (some (.int (nI 1))) (hp Lx tt o u I2 G2)) (hn : ∀ k tok, ¬ k = 0 → (sD S = 9 ∧ k = 2 ∧ tok = sT S) ∨ (¬ sD S = 9 ∧ sqT b n [1, 24, 24, 25, 59] (sT S) = (k, tok)) → ∀ I2, frS o I I2 G G → I2 33 3 = nI tok → I2 33 5 = nI k → Q (some (.int (nI 0))) (hp Lx tt o u I2 G)) : ab_call ab_MT (d + 4) 62 [.ref 33] (hp Lx tt o u I G) 0 0 Q := by
  obtain ⟨hR, hE, hNs, hNc, hQ, x, hW, hx⟩ := id hC
  obtain ⟨v1, v2, v3, v4, v5, v6⟩ := id hV
  obtain ⟨-, ht, hgd, r3, r4, r5⟩ := id hR
  obtain ⟨⟨c1, c2, c3, c4, c5, c6⟩, c7, c8, c9, c10⟩ := id hQ
  have c1 : I o 10 = nI (sC S) := c1
  have c2 : I o 11 = nI (sD S) := c2
  have c3 : I o 12 = nI (sR S) := c3
  have c4 : I o 14 = nI (sP S) := c4
  have c7 : ∀ c, c < sC S → I (o + 9) c = sW S c := c7
  have c9 : ∀ i, i < sR S → I (o + 11) i = sQ S i := c9
  have c10 : ∀ a, a < sP S → I (o + 12) a = (sH S).1 a ∧ I (o + 13) a = (sH S).2.1 a ∧ I (o + 14) a = (sH S).2.2 a := c10
  refine wx_in (M := mX4_readRoad) rfl rfl rfl (Nat.le_of_ble_eq_true rfl) ?_
  refine wx_aload_n rfl (e := 1) rfl rfl ?_
  refine wx_geti rfl (e := 4) rfl rfl ?_
  rw [r3]
  refine wx_istore_n (L2 := [_, _, _, _]) rfl (e := 5) rfl (by decide) rfl ?_
  refine wx_aload_n rfl (e := 6) rfl rfl ?_
  refine wx_getr rfl (e := 9) rfl rfl rfl ?_
  refine wx_cv0 (mc := 0) (ms := 0) rfl (e := 12) rfl (sh_t ho) (Nat.le_of_ble_eq_true rfl) ⟨by decide, by decide⟩ ?_
  refine c_X7_roads ho ?_
  rw [c2]
  refine wx_bipush (v := (nI 9)) rfl (e := 14) rfl (by decide) ?_
  refine wn_ic_lt rfl (e := 17) rfl (by omega) (by omega) (fun c_14 => ?_) (fun c_14 => ?_)
  · refine wx_aload_n rfl (e := 24) rfl rfl ?_
    refine wx_iconst (v := (nI 1)) rfl (e := 25) rfl (by decide) ?_
    refine wx_cv1 (mc := 0) (ms := 0) rfl (e := 28) rfl rfl (Nat.le_of_ble_eq_true rfl) ⟨by decide, by decide⟩ ?_
    refine c_X4_take hR (k := 1) (by first | omega | (split <;> omega)) (by first | omega | (split <;> omega)) (fun hk1 h41 I1 f1 R1 => ?_) (fun e1 he1 I1 f1 g3 g5 => ?_)
    · refine wn_if_eq rfl (e := 31) rfl (by omega) (fun c_28 => absurd c_28 (by omega)) (fun c_28 => ?_)
      refine wx_aload_n rfl (e := 32) rfl rfl ?_
      refine wx_bipush (v := (nI 24)) rfl (e := 34) rfl (by decide) ?_
      refine wx_cv1 (mc := 0) (ms := 0) rfl (e := 37) rfl rfl (Nat.le_of_ble_eq_true rfl) ⟨by decide, by decide⟩ ?_
      refine c_X4_take R1 (k := 24) (by first | omega | (split <;> omega)) (by first | omega | (split <;> omega)) (fun hk2 h42 I2 f2 R2 => ?_) (fun e2 he2 I2 f2 g3 g5 => ?_)
      · refine wn_if_eq rfl (e := 40) rfl (by omega) (fun c_37 => absurd c_37 (by omega)) (fun c_37 => ?_)
        refine wx_aload_n rfl (e := 41) rfl rfl ?_
        refine wx_bipush (v := (nI 24)) rfl (e := 43) rfl (by decide) ?_
        refine wx_cv1 (mc := 0) (ms := 0) rfl (e := 46) rfl rfl (Nat.le_of_ble_eq_true rfl) ⟨by decide, by decide⟩ ?_
        refine c_X4_take R2 (k := 24) (by first | omega | (split <;> omega)) (by first | omega | (split <;> omega)) (fun hk3 h43 I3 f3 R3 => ?_) (fun e3 he3 I3 f3 g3 g5 => ?_)
        · refine wn_if_eq rfl (e := 49) rfl (by omega) (fun c_46 => absurd c_46 (by omega)) (fun c_46 => ?_)
          refine wx_aload_n rfl (e := 50) rfl rfl ?_
          refine wx_bipush (v := (nI 25)) rfl (e := 52) rfl (by decide) ?_
          refine wx_cv1 (mc := 0) (ms := 0) rfl (e := 55) rfl rfl (Nat.le_of_ble_eq_true rfl) ⟨by decide, by decide⟩ ?_
          refine c_X4_take R3 (k := 25) (by first | omega | (split <;> omega)) (by first | omega | (split <;> omega)) (fun hk4 h44 I4 f4 R4 => ?_) (fun e4 he4 I4 f4 g3 g5 => ?_)
          · refine wn_if_eq rfl (e := 58) rfl (by omega) (fun c_55 => absurd c_55 (by omega)) (fun c_55 => ?_)
            refine wx_aload_n rfl (e := 59) rfl rfl ?_
            refine wx_bipush (v := (nI 59)) rfl (e := 61) rfl (by decide) ?_
            refine wx_cv1 (mc := 0) (ms := 0) rfl (e := 64) rfl rfl (Nat.le_of_ble_eq_true rfl) ⟨by decide, by decide⟩ ?_
            refine c_X4_take R4 (k := 59) (by first | omega | (split <;> omega)) (by first | omega | (split <;> omega)) (fun hk5 h45 I5 f5 R5 => ?_) (fun e5 he5 I5 f5 g3 g5 => ?_)
            · refine wn_if_ne rfl (e := 67) rfl (by omega) (fun c_64 => ?_) (fun c_64 => absurd c_64 (by omega))
              refine wx_aload_n rfl (e := 70) rfl rfl ?_
              refine wx_iload_n rfl (e := 71) rfl rfl ?_
              refine wx_iconst (v := (nI 1)) rfl (e := 72) rfl (by decide) ?_
              refine wn_iadd rfl (e := 73) rfl ?_
              refine wx_cv1 (mc := 0) (ms := 0) rfl (e := 76) rfl rfl (Nat.le_of_ble_eq_true rfl) ⟨by decide, by decide⟩ ?_
              have FT : frt I I5 := ((((f1.tr f2).tr f3).tr f4).tr f5)
              have hg5 := R5.2.2.1
              have hE0 : LT_ (sE S) I5 := hE.t (FT.2 7 (by decide) (by decide) (by decide)) (FT.2 8 (by decide) (by decide) (by decide))
              have hsq : (sqT b n [1, 24, 24, 25, 59] (sT S)).1 = 0 := by rw [sqT_y hk1 h41, sqT_y hk2 h42, sqT_y hk3 h43, sqT_y hk4 h44, sqT_y hk5 h45]; rfl
              refine c_X4_churchAt ho R5.1 (tok := sT S + 1) (by omega) (fun j hj => hg5 j (by omega)) hk2 hE0 (N := sM S) (C := sC S) (by rw [FT.1 o (by omega)]; exact c1) v1 (hNc) (fun I6 f6 E6 => ?_)
              refine wx_istore_n (L2 := [_, _, _, _]) rfl (e := 77) rfl (by decide) rfl ?_
              refine wx_aload_n rfl (e := 78) rfl rfl ?_
              refine wx_iload_n rfl (e := 79) rfl rfl ?_
              refine wx_iconst (v := (nI 2)) rfl (e := 80) rfl (by decide) ?_
              refine wn_iadd rfl (e := 81) rfl ?_
              refine wx_cv1 (mc := 0) (ms := 0) rfl (e := 84) rfl rfl (Nat.le_of_ble_eq_true rfl) ⟨by decide, by decide⟩ ?_
              refine c_X4_churchAt ho (RK.k R5.1 f6) (tok := sT S + 2) (by omega) (fun j hj => hg5 j (by omega)) hk3 E6 (N := sM S) (C := sC S) (by rw [f6.1 o (by omega), FT.1 o (by omega)]; exact c1) v1 (hNc) (fun I7 f7 E7 => ?_)
              have fin : ∀ I8, frk I7 I8 → LT_ (lte (lte (lte (sE S) (decide ((rdA b n S) < nI 0)) 4 (sT S + 1)) (decide ((rdB b n S) < nI 0)) 4 (sT S + 2)) (decide (¬ (rdA b n S) < nI 0 ∧ ¬ (rdB b n S) < nI 0 ∧ ¬ sF S (kS (rdA b n S)) (kS (rdB b n S)) = nI 999)) 3 (sT S + 2)) I8 → WP (d + 3) mX4_readRoad Q 116 [some (.ref 33), some (.int (nI (sT S))), some (.int (rdA b n S)), some (.int (rdB b n S))] [] (hp Lx tt o u I8 G) 0 0 := by
                intro I8 f8 E8
                refine wx_aload_n rfl (e := 117) rfl rfl ?_
                refine wx_getr rfl (e := 120) rfl rfl rfl ?_
                refine wx_iload_n rfl (e := 121) rfl rfl ?_
                refine wx_iload_n rfl (e := 122) rfl rfl ?_
                refine wx_aload_n rfl (e := 123) rfl rfl ?_
                refine wx_iload_n rfl (e := 124) rfl rfl ?_
                refine wx_iconst (v := (nI 3)) rfl (e := 125) rfl (by decide) ?_
                refine wn_iadd rfl (e := 126) rfl ?_
                refine wx_iconst (v := (nI 1)) rfl (e := 127) rfl (by decide) ?_
                refine wx_bipush (v := (nI 99)) rfl (e := 129) rfl (by decide) ?_
                refine wx_cv3 (mc := 0) (ms := 0) rfl (e := 132) rfl rfl (Nat.le_of_ble_eq_true rfl) ⟨by decide, by decide⟩ ?_
                refine c_X4_numberAt ho (((RK.k R5.1 f6).k f7).k f8) (tok := sT S + 3) (by omega) (fun j hj => hg5 j (by omega)) hk4 E8 (lo := 1) (hi := 99) (by omega) (by omega) (c := decide (nuT b n (sT S + 3) < 1 ∨ 99 < nuT b n (sT S + 3))) (by rw [decide_eq_true_iff]; omega) (fun I9 f9 E9 => ?_)
                refine wx_cv3 (mc := 0) (ms := 0) rfl (e := 135) rfl (sh_t ho) (Nat.le_of_ble_eq_true rfl) ⟨by decide, by decide⟩ ?_
                refine c_X7_addRoad ho (C := sC S) (D := sD S) (by rw [f9.1 o (by omega), f8.1 o (by omega), f7.1 o (by omega), f6.1 o (by omega), FT.1 o (by omega)]; exact c1) v1 (by rw [f9.1 o (by omega), f8.1 o (by omega), f7.1 o (by omega), f6.1 o (by omega), FT.1 o (by omega)]; exact c2) (fun i j hi hj ea eb => ?_) (fun hno => ?_)
                · refine wx_iconst (v := (nI 1)) rfl (e := 136) rfl (by decide) ?_
                  refine wx_iret rfl rfl rfl ⟨by decide, by decide⟩ ?_
                  have F8 : frk I5 I9 := f6.tr (f7.tr (f8.tr f9))
                  have hb : ∀ q, q ≠ 33 → q ≠ o → q ≠ o + 10 → (wr (wr (wr I9 o 11 (nI (sD S + 1))) (o + 10) (i * 6 + j) (nI (nuT b n (sT S + 3)))) (o + 10) (j * 6 + i) (nI (nuT b n (sT S + 3)))) q = I q := fun q y1 y2 y3 => by rw [wr_other _ _ _ _ y3, wr_other _ _ _ _ y3, wr_other _ _ _ _ y2, F8.1 q y1, FT.1 q y1]
                  have hoo : ∀ k, k ≠ 11 → (wr (wr (wr I9 o 11 (nI (sD S + 1))) (o + 10) (i * 6 + j) (nI (nuT b n (sT S + 3)))) (o + 10) (j * 6 + i) (nI (nuT b n (sT S + 3)))) o k = I o k := fun k y1 => by rw [wr_other _ _ _ _ (by omega), wr_other _ _ _ _ (by omega), wr_ne _ _ _ _ y1, F8.1 o (by omega), FT.1 o (by omega)]
                  have h33 : ∀ k, k ≠ 7 → k ≠ 8 → (wr (wr (wr I9 o 11 (nI (sD S + 1))) (o + 10) (i * 6 + j) (nI (nuT b n (sT S + 3)))) (o + 10) (j * 6 + i) (nI (nuT b n (sT S + 3)))) 33 k = I5 33 k := fun k y1 y2 => by rw [wr_other _ _ _ _ (by omega), wr_other _ _ _ _ (by omega), wr_other _ _ _ _ (by omega), F8.2 k y1 y2]
                  have hnA : ¬ (rdA b n S) < nI 0 := by rw [ea]; exact nI_nn (by omega)
                  have hnB : ¬ (rdB b n S) < nI 0 := by rw [eb]; exact nI_nn (by omega)
                  have kA : kS (rdA b n S) = i := by rw [ea]; exact kS_n (by omega)
                  have kB : kS (rdB b n S) = j := by rw [eb]; exact kS_n (by omega)
                  refine hy (by omega) hsq (wr (wr (wr I9 o 11 (nI (sD S + 1))) (o + 10) (i * 6 + j) (nI (nuT b n (sT S + 3)))) (o + 10) (j * 6 + i) (nI (nuT b n (sT S + 3)))) G ⟨fun q y1 y2 => hb q y1 (by omega) (by omega), fun k y1 y2 y3 y4 y5 => (h33 k y4 y5).trans (FT.2 k y1 y2 y3), fun q y1 y2 => rfl⟩ ⟨R5.f ho (fun q y1 y2 => (hb q (by omega) (by omega) (by omega)).trans (FT.1 q (by omega)).symm) (h33 3 (by decide) (by decide)) (h33 4 (by decide) (by decide)) (h33 5 (by decide) (by decide)) rfl, E9.t (by rw [wr_other _ _ _ _ (by omega), wr_other _ _ _ _ (by omega), wr_other _ _ _ _ (by omega)]) (by rw [wr_other _ _ _ _ (by omega), wr_other _ _ _ _ (by omega), wr_other _ _ _ _ (by omega)]), hNs.kept (hoo 9 (by decide)) rfl, hNc, ?_, x, hW.kept (hb _ (by omega) (by omega) (by omega)) (hb _ (by omega) (by omega) (by omega)) (hb _ (by omega) (by omega) (by omega)) (hb _ (by omega) (by omega) (by omega)), by show x ≤ 16 + (sT S + 5); omega⟩
                  refine ⟨⟨(hoo 10 (by decide)).trans c1, by rw [wr_other _ _ _ _ (by omega), wr_other _ _ _ _ (by omega), wr_eq]; rfl, (hoo 12 (by decide)).trans c3, (hoo 14 (by decide)).trans c4, (hoo 15 (by decide)).trans c5, (hoo 13 (by decide)).trans c6⟩, ?_, fun y a c ha hc => ?_, ?_, ?_⟩
                  · rw [hb (o + 9) (by omega) (by omega) (by omega)]; exact c7
                  · have y0 := lte_0 (by decide) (lte_0 (by decide) (lte_0 (by decide) (lte_0 (by decide) y)))
                    have old : (wr I9 o 11 (nI (sD S + 1))) (o + 10) (a * 6 + c) = sF S a c := by rw [wr_other _ _ _ _ (by omega), F8.1 (o + 10) (by omega), FT.1 (o + 10) (by omega)]; exact c8 y0 a c ha hc
                    show _ = (if ¬ (rdA b n S) < nI 0 ∧ ¬ (rdB b n S) < nI 0 then set2 (set2 (sF S) (kS (rdA b n S)) (kS (rdB b n S)) (nI (nuT b n (sT S + 3)))) (kS (rdB b n S)) (kS (rdA b n S)) (nI (nuT b n (sT S + 3))) else sF S) a c
                    rw [if_pos ⟨hnA, hnB⟩, kA, kB, wr_at, if_pos rfl]
                    unfold set2
                    by_cases z1 : a = j ∧ c = i
                    · rw [if_pos z1, if_pos (by omega)]
                    · rw [if_neg z1, if_neg (by omega), wr_at, if_pos rfl]
                      by_cases z2 : a = i ∧ c = j
                      · rw [if_pos z2, if_pos (by omega)]
                      · rw [if_neg z2, if_neg (by omega)]; exact old
                  · rw [hb (o + 11) (by omega) (by omega) (by omega)]; exact c9
                  · rw [hb (o + 12) (by omega) (by omega) (by omega), hb (o + 13) (by omega) (by omega) (by omega), hb (o + 14) (by omega) (by omega) (by omega)]; exact c10
                · refine wx_iconst (v := (nI 1)) rfl (e := 136) rfl (by decide) ?_
                  refine wx_iret rfl rfl rfl ⟨by decide, by decide⟩ ?_
                  have F8 : frk I5 I9 := f6.tr (f7.tr (f8.tr f9))
                  have hb : ∀ q, q ≠ 33 → q ≠ o → q ≠ o + 10 → (wr I9 o 11 (nI (sD S + 1))) q = I q := fun q y1 y2 y3 => by rw [wr_other _ _ _ _ y2, F8.1 q y1, FT.1 q y1]
                  have hoo : ∀ k, k ≠ 11 → (wr I9 o 11 (nI (sD S + 1))) o k = I o k := fun k y1 => by rw [wr_ne _ _ _ _ y1, F8.1 o (by omega), FT.1 o (by omega)]
                  have h33 : ∀ k, k ≠ 7 → k ≠ 8 → (wr I9 o 11 (nI (sD S + 1))) 33 k = I5 33 k := fun k y1 y2 => by rw [wr_other _ _ _ _ (by omega), F8.2 k y1 y2]
                  refine hy (by omega) hsq (wr I9 o 11 (nI (sD S + 1))) G ⟨fun q y1 y2 => hb q y1 (by omega) (by omega), fun k y1 y2 y3 y4 y5 => (h33 k y4 y5).trans (FT.2 k y1 y2 y3), fun q y1 y2 => rfl⟩ ⟨R5.f ho (fun q y1 y2 => (hb q (by omega) (by omega) (by omega)).trans (FT.1 q (by omega)).symm) (h33 3 (by decide) (by decide)) (h33 4 (by decide) (by decide)) (h33 5 (by decide) (by decide)) rfl, E9.t (by rw [wr_other _ _ _ _ (by omega)]) (by rw [wr_other _ _ _ _ (by omega)]), hNs.kept (hoo 9 (by decide)) rfl, hNc, ?_, x, hW.kept (hb _ (by omega) (by omega) (by omega)) (hb _ (by omega) (by omega) (by omega)) (hb _ (by omega) (by omega) (by omega)) (hb _ (by omega) (by omega) (by omega)), by show x ≤ 16 + (sT S + 5); omega⟩
                  refine ⟨⟨(hoo 10 (by decide)).trans c1, by rw [wr_eq]; rfl, (hoo 12 (by decide)).trans c3, (hoo 14 (by decide)).trans c4, (hoo 15 (by decide)).trans c5, (hoo 13 (by decide)).trans c6⟩, ?_, fun y a c ha hc => ?_, ?_, ?_⟩
                  · rw [hb (o + 9) (by omega) (by omega) (by omega)]; exact c7
                  · have y0 := lte_0 (by decide) (lte_0 (by decide) (lte_0 (by decide) (lte_0 (by decide) y)))
                    show _ = (if ¬ (rdA b n S) < nI 0 ∧ ¬ (rdB b n S) < nI 0 then set2 (set2 (sF S) (kS (rdA b n S)) (kS (rdB b n S)) (nI (nuT b n (sT S + 3)))) (kS (rdB b n S)) (kS (rdA b n S)) (nI (nuT b n (sT S + 3))) else sF S) a c
                    rw [if_neg, wr_other _ _ _ _ (by omega), F8.1 (o + 10) (by omega), FT.1 (o + 10) (by omega)]
                    · exact c8 y0 a c ha hc
                    · rintro ⟨hA, hB⟩
                      rcases chS_in (w := wdT b n (sT S + 1)) (nm := (sM S).1) (sM S).2.2 v6 with h1 | ⟨i, h1, h2⟩
                      · exact hA (by show chS _ _ _ _ < _; rw [h1]; decide)
                      · rcases chS_in (w := wdT b n (sT S + 2)) (nm := (sM S).1) (sM S).2.2 v6 with h3 | ⟨j, h3, h4⟩
                        · exact hB (by show chS _ _ _ _ < _; rw [h3]; decide)
                        · exact hno ⟨i, j, h1, h3, h2, h4⟩
                  · rw [hb (o + 11) (by omega) (by omega) (by omega)]; exact c9
                  · rw [hb (o + 12) (by omega) (by omega) (by omega), hb (o + 13) (by omega) (by omega) (by omega), hb (o + 14) (by omega) (by omega) (by omega)]; exact c10
              refine wx_istore_n (L2 := [_, _, _, _]) rfl (e := 85) rfl (by decide) rfl ?_
              refine wx_iload_n rfl (e := 86) rfl rfl ?_
              refine wx_if_lt rfl (e := 89) rfl (fun c_86 => ?_) (fun c_86 => ?_)
              · rw [← nI_0] at c_86
                exact fin I7 frk.rf (by rw [show (decide (¬ (rdA b n S) < nI 0 ∧ ¬ (rdB b n S) < nI 0 ∧ ¬ sF S (kS (rdA b n S)) (kS (rdB b n S)) = nI 999)) = false from decide_eq_false (fun w => w.1 c_86), lte_f]; exact E7)
              · rw [← nI_0] at c_86
                refine wx_iload_n rfl (e := 90) rfl rfl ?_
                refine wx_if_lt rfl (e := 93) rfl (fun c_90 => ?_) (fun c_90 => ?_)
                · rw [← nI_0] at c_90
                  exact fin I7 frk.rf (by rw [show (decide (¬ (rdA b n S) < nI 0 ∧ ¬ (rdB b n S) < nI 0 ∧ ¬ sF S (kS (rdA b n S)) (kS (rdB b n S)) = nI 999)) = false from decide_eq_false (fun w => w.2.1 c_90), lte_f]; exact E7)
                · rw [← nI_0] at c_90
                  obtain ⟨i, hi, ei⟩ := (chS_in (w := wdT b n (sT S + 1)) (nm := (sM S).1) (sM S).2.2 v6).resolve_left (fun w => c_86 (by show chS _ _ _ _ < nI 0; rw [w]; decide))
                  obtain ⟨j, hj, ej⟩ := (chS_in (w := wdT b n (sT S + 2)) (nm := (sM S).1) (sM S).2.2 v6).resolve_left (fun w => c_90 (by show chS _ _ _ _ < nI 0; rw [w]; decide))
                  have kA : kS (rdA b n S) = i := by rw [show (rdA b n S) = nI i from ei]; exact kS_n (by omega)
                  have kB : kS (rdB b n S) = j := by rw [show (rdB b n S) = nI j from ej]; exact kS_n (by omega)
                  have hold : (lte (lte (sE S) (decide ((rdA b n S) < nI 0)) 4 (sT S + 1)) (decide ((rdB b n S) < nI 0)) 4 (sT S + 2)).1 = 0 → I7 (o + 10) (i * 6 + j) = sF S i j := fun y => by rw [f7.1 (o + 10) (by omega), f6.1 (o + 10) (by omega), FT.1 (o + 10) (by omega)]; exact c8 (lte_0 (by decide) (lte_0 (by decide) y)) i j (by omega) (by omega)
                  refine wx_aload_n rfl (e := 94) rfl rfl ?_
                  refine wx_getr rfl (e := 97) rfl rfl rfl ?_
                  refine wx_iload_n rfl (e := 98) rfl rfl ?_
                  refine wx_iload_n rfl (e := 99) rfl rfl ?_
                  refine wx_cv2 (mc := 0) (ms := 0) rfl (e := 102) rfl (sh_t ho) (Nat.le_of_ble_eq_true rfl) ⟨by decide, by decide⟩ ?_
                  rw [ei, ej]
                  refine c_X7_far ho (n := sC S) (by rw [f7.1 o (by omega), f6.1 o (by omega), FT.1 o (by omega)]; exact c1) hi hj v1 ?_
                  refine wx_sipush (v := (nI 999)) rfl (e := 105) rfl (by decide) ?_
                  refine wx_ic_eq rfl (e := 108) rfl (fun c_105 => ?_) (fun c_105 => ?_)
                  · rw [← ei, ← ej]
                    refine fin I7 frk.rf ?_
                    by_cases y : (lte (lte (sE S) (decide ((rdA b n S) < nI 0)) 4 (sT S + 1)) (decide ((rdB b n S) < nI 0)) 4 (sT S + 2)).1 = 0
                    · rw [show (decide (¬ (rdA b n S) < nI 0 ∧ ¬ (rdB b n S) < nI 0 ∧ ¬ sF S (kS (rdA b n S)) (kS (rdB b n S)) = nI 999)) = false from decide_eq_false (fun w => w.2.2 (by rw [kA, kB, ← hold y]; exact c_105)), lte_f]; exact E7
                    · rw [lte_o y]; exact E7
                  · refine wx_aload_n rfl (e := 109) rfl rfl ?_
                    refine wx_iconst (v := (nI 3)) rfl (e := 110) rfl (by decide) ?_
                    refine wx_iload_n rfl (e := 111) rfl rfl ?_
                    refine wx_iconst (v := (nI 2)) rfl (e := 112) rfl (by decide) ?_
                    refine wn_iadd rfl (e := 113) rfl ?_
                    refine wx_cv2 (mc := 0) (ms := 0) rfl (e := 116) rfl rfl (Nat.le_of_ble_eq_true rfl) ⟨by decide, by decide⟩ ?_
                    refine c_X4_refuseLate E7 (k := 3) (tok := sT S + 2) (by decide) (fun I8 f8 E8 => ?_)
                    rw [← ei, ← ej]
                    refine fin I8 f8 ?_
                    by_cases y : (lte (lte (sE S) (decide ((rdA b n S) < nI 0)) 4 (sT S + 1)) (decide ((rdB b n S) < nI 0)) 4 (sT S + 2)).1 = 0
                    · rw [show (decide (¬ (rdA b n S) < nI 0 ∧ ¬ (rdB b n S) < nI 0 ∧ ¬ sF S (kS (rdA b n S)) (kS (rdB b n S)) = nI 999)) = true from decide_eq_true ⟨c_86, c_90, by rw [kA, kB, ← hold y]; exact c_105⟩]; exact E8
                    · rw [lte_o y]; have E8 : LT_ (lte (lte (lte (sE S) (decide ((rdA b n S) < nI 0)) 4 (sT S + 1)) (decide ((rdB b n S) < nI 0)) 4 (sT S + 2)) true 3 (sT S + 2)) I8 := E8; rw [lte_o y] at E8; exact E8
            · refine wn_if_ne rfl (e := 67) rfl (by omega) (fun c_64 => absurd c_64 (by omega)) (fun c_64 => ?_)
              refine wx_iconst (v := (nI 0)) rfl (e := 68) rfl (by decide) ?_
              refine wx_iret rfl rfl rfl ⟨by decide, by decide⟩ ?_
              rcases he5 with ⟨w1, w⟩ | ⟨w1, w, w2⟩
              · subst w1; exact hn 1 _ (by decide) (Or.inr ⟨by omega, by rw [sqT_y hk1 h41, sqT_y hk2 h42, sqT_y hk3 h43, sqT_y hk4 h44, sqT_1 w]⟩) _ ((((f1.tr f2).tr f3).tr f4).tr f5).S g3 g5
              · subst w1; exact hn 2 _ (by decide) (Or.inr ⟨by omega, by rw [sqT_y hk1 h41, sqT_y hk2 h42, sqT_y hk3 h43, sqT_y hk4 h44, sqT_2 w w2]⟩) _ ((((f1.tr f2).tr f3).tr f4).tr f5).S g3 g5
          · refine wn_if_eq rfl (e := 58) rfl (by omega) (fun c_55 => ?_) (fun c_55 => absurd c_55 (by omega))
            refine wx_iconst (v := (nI 0)) rfl (e := 68) rfl (by decide) ?_
            refine wx_iret rfl rfl rfl ⟨by decide, by decide⟩ ?_
            rcases he4 with ⟨w1, w⟩ | ⟨w1, w, w2⟩
            · subst w1; exact hn 1 _ (by decide) (Or.inr ⟨by omega, by rw [sqT_y hk1 h41, sqT_y hk2 h42, sqT_y hk3 h43, sqT_1 w]⟩) _ (((f1.tr f2).tr f3).tr f4).S g3 g5
            · subst w1; exact hn 2 _ (by decide) (Or.inr ⟨by omega, by rw [sqT_y hk1 h41, sqT_y hk2 h42, sqT_y hk3 h43, sqT_2 w w2]⟩) _ (((f1.tr f2).tr f3).tr f4).S g3 g5
        · refine wn_if_eq rfl (e := 49) rfl (by omega) (fun c_46 => ?_) (fun c_46 => absurd c_46 (by omega))
          refine wx_iconst (v := (nI 0)) rfl (e := 68) rfl (by decide) ?_
          refine wx_iret rfl rfl rfl ⟨by decide, by decide⟩ ?_
          rcases he3 with ⟨w1, w⟩ | ⟨w1, w, w2⟩
          · subst w1; exact hn 1 _ (by decide) (Or.inr ⟨by omega, by rw [sqT_y hk1 h41, sqT_y hk2 h42, sqT_1 w]⟩) _ ((f1.tr f2).tr f3).S g3 g5
          · subst w1; exact hn 2 _ (by decide) (Or.inr ⟨by omega, by rw [sqT_y hk1 h41, sqT_y hk2 h42, sqT_2 w w2]⟩) _ ((f1.tr f2).tr f3).S g3 g5
      · refine wn_if_eq rfl (e := 40) rfl (by omega) (fun c_37 => ?_) (fun c_37 => absurd c_37 (by omega))
        refine wx_iconst (v := (nI 0)) rfl (e := 68) rfl (by decide) ?_
        refine wx_iret rfl rfl rfl ⟨by decide, by decide⟩ ?_
        rcases he2 with ⟨w1, w⟩ | ⟨w1, w, w2⟩
        · subst w1; exact hn 1 _ (by decide) (Or.inr ⟨by omega, by rw [sqT_y hk1 h41, sqT_1 w]⟩) _ (f1.tr f2).S g3 g5
        · subst w1; exact hn 2 _ (by decide) (Or.inr ⟨by omega, by rw [sqT_y hk1 h41, sqT_2 w w2]⟩) _ (f1.tr f2).S g3 g5
    · refine wn_if_eq rfl (e := 31) rfl (by omega) (fun c_28 => ?_) (fun c_28 => absurd c_28 (by omega))
      refine wx_iconst (v := (nI 0)) rfl (e := 68) rfl (by decide) ?_
      refine wx_iret rfl rfl rfl ⟨by decide, by decide⟩ ?_
      rcases he1 with ⟨w1, w⟩ | ⟨w1, w, w2⟩
      · subst w1; exact hn 1 _ (by decide) (Or.inr ⟨by omega, by exact sqT_1 w⟩) _ f1.S g3 g5
      · subst w1; exact hn 2 _ (by decide) (Or.inr ⟨by omega, by exact sqT_2 w w2⟩) _ f1.S g3 g5
  · refine wx_aload_n rfl (e := 18) rfl rfl ?_
    refine wx_iconst (v := (nI 2)) rfl (e := 19) rfl (by decide) ?_
    refine wx_cv1 (mc := 0) (ms := 0) rfl (e := 22) rfl rfl (Nat.le_of_ble_eq_true rfl) ⟨by decide, by decide⟩ ?_
    refine c_X4_refuse ?_
    refine wx_iret rfl rfl rfl ⟨by decide, by decide⟩ ?_
    exact hn 2 _ (by decide) (Or.inl ⟨by omega, rfl, rfl⟩) _ (frt.S ⟨fun q h => wr_other _ _ _ _ h, fun k _ _ h => wr_ne _ _ _ _ h⟩) ((wr_ne _ _ _ _ (by decide)).trans r3) (wr_eq _ _ _ _)

/-! the model: roads -/
set_option maxHeartbeats 8000000 in
theorem c_tellRoad {d Lx tt rt u : Nat} {I : Nat → Nat → Int32} {G : Nat → Nat → Int64} {Q : ab_Q} {b : Nat → Nat} {n sd : Nat} {S : ps} (hn2 : n ≤ 2000) (hV : PV S) (hW : PW S) (hP : MP b n sd S (sT S + 1) I G) (hf : sD S < 9) (hy : (sqT b n [24, 24, 25, 59] (sT S + 1)).1 = 0 → ∀ I2 G2, fmp sd I I2 → (∀ q, q ≠ 63 → G2 q = G q) → MP b n sd (nwD b n S) (sT S + 5) I2 G2 → Q none (hp Lx tt rt u I2 G2)) (hn : ∀ k tok, ¬ k = 0 → sqT b n [24, 24, 25, 59] (sT S + 1) = (k, tok) → ∀ I2, fmp sd I I2 → FM b n k tok I2 → Q none (hp Lx tt rt u I2 G)) : ab_call ab_MT (d + 5) 208 [.ref 55] (hp Lx tt rt u I G) 0 0 Q := by
  obtain ⟨hM, hE, hN, hQ, hX⟩ := id hP
  obtain ⟨v1, v2, v3, v4, v5, v6⟩ := id hV
  obtain ⟨-, ht, hgd, r11, r13⟩ := id hM
  obtain ⟨⟨c1, c2, c3, c4, c5⟩, c6, c7, c8, c9⟩ := id hQ
  have c1 : I 65 sd = nI (sC S) := c1
  have c2 : I 67 sd = nI (sD S) := c2
  have c3 : I 69 sd = nI (sR S) := c3
  have c4 : I 72 sd = nI (sP S) := c4
  have c6 : ∀ c, c < sC S → I 66 (6 * sd + c) = sW S c := c6
  have c8 : ∀ i, i < sR S → I 70 (6 * sd + i) = sQ S i ∧ I 71 (6 * sd + i) = b1 (sU S i) := c8
  have c9 : ∀ a, a < sP S → I 73 (5 * sd + a) = (sH S).1 a ∧ I 74 (5 * sd + a) = (sH S).2.1 a ∧ I 75 (5 * sd + a) = (sH S).2.2 a := c9
  have hsd := hX.2.1
  have hsd1 := hX.2.2.1
  have hs9 := v5
  have hn_1 : ∀ k, ((k = 1 ∧ ¬ kd b n (sT S + 1) = 24) ∨ (k = 2 ∧ kd b n (sT S + 1) = 24 ∧ 400 ≤ sT S + 1)) → FM b n k (sT S + 1) (ft k (stA b n (sT S + 1)) I) → Q none (hp Lx tt rt u (ft k (stA b n (sT S + 1)) I) G) := fun k hc1 FF => by
    rcases hc1 with ⟨w1, w2⟩ | ⟨w1, w2, w3⟩
    · subst w1; exact hn 1 _ (by decide) (by exact sqT_1 w2) _ ft.p FF
    · subst w1; exact hn 2 _ (by decide) (by exact sqT_2 w2 w3) _ ft.p FF
  refine wx_in (M := mX11_tellRoad) rfl rfl rfl (Nat.le_of_ble_eq_true rfl) ?_
  refine wx_aload_n rfl (e := 1) rfl rfl ?_
  refine wx_cv0 (mc := 0) (ms := 0) rfl (e := 4) rfl rfl (Nat.le_of_ble_eq_true rfl) ⟨by decide, by decide⟩ ?_
  refine c_known hn2 hM hE (fun w => Nat.lt_of_lt_of_le (hW.1 w) (by omega)) hN (fun hk1 h41 I2 f2 M2 E2 => ?_) (fun k1 hc1 FF => ?_)
  · refine wx_istore_n (L2 := [_, _, _, _, _, _]) rfl (e := 5) rfl (by decide) rfl ?_
    refine wx_aload_n rfl (e := 6) rfl rfl ?_
    refine wx_geti rfl (e := 9) rfl rfl ?_
    first | rw [M2.2.2.2.1] | skip
    refine wx_istore_n (L2 := [_, _, _, _, _, _]) rfl (e := 10) rfl (by decide) rfl ?_
    refine wx_aload_n rfl (e := 11) rfl rfl ?_
    refine wx_cv0 (mc := 0) (ms := 0) rfl (e := 14) rfl rfl (Nat.le_of_ble_eq_true rfl) ⟨by decide, by decide⟩ ?_
    refine c_known hn2 M2 E2 (lte_2 (fun w => Nat.lt_of_lt_of_le (hW.1 w) (by omega)) (by omega)) (N := sM S) (hN.kept (f2.2 20 (by omega)) (f2.1 64 (by decide)) rfl) (fun hk2 h42 I3 f3 M3 E3 => ?_) (fun k2 hc2 FF => ?_)
    · have fin1 : ∀ (i j : Nat) (hi : i < sC S) (hj : j < sC S) (ei : (rdA b n S) = nI i) (ej : (rdB b n S) = nI j)  (I4 : Nat → Nat → Int32) (g4 : frg I3 I4) (M4 : MS b n (sT S + 1 + 1 + 1) I4 G) (E4 : LTm b n (lte (lte (lte (sE S) (decide ((rdA b n S) < nI 0)) 4 (sT S + 1)) (decide ((rdB b n S) < nI 0)) 4 (sT S + 2)) (decide (¬ (rdA b n S) < nI 0 ∧ ¬ (rdB b n S) < nI 0 ∧ ¬ sF S (kS (rdA b n S)) (kS (rdB b n S)) = nI 999)) 3 (sT S + 2)) I4) (x2 x5 : Option Value), WP (d + 4) mX11_tellRoad Q 73 [some (.ref 55), some (.int (nI i)), x2, some (.int (nI j)), some (.int (nI 1)), x5] [] (hp Lx tt rt u I4 G) 0 0 := by
        intro i j hi hj ei ej I4 g4 M4 E4 x2 x5
        have P4 : fmp sd I I4 := f2.p.tr (f3.p.tr g4.p)
        have SD4 : I4 55 19 = nI sd := by rw [g4.2 19 (by decide) (by decide), f3.2 19 (by omega), f2.2 19 (by omega)]; exact hsd
        have hnA : ¬ (rdA b n S) < nI 0 := by rw [ei]; exact nI_nn (by omega)
        have hnB : ¬ (rdB b n S) < nI 0 := by rw [ej]; exact nI_nn (by omega)
        have kA : kS (rdA b n S) = i := by rw [ei]; exact kS_n (by omega)
        have kB : kS (rdB b n S) = j := by rw [ej]; exact kS_n (by omega)
        refine wx_aload_n rfl (e := 74) rfl rfl ?_
        refine wx_iconst (v := (nI 1)) rfl (e := 75) rfl (by decide) ?_
        refine wx_bipush (v := (nI 99)) rfl (e := 77) rfl (by decide) ?_
        refine wx_cv2 (mc := 0) (ms := 0) rfl (e := 80) rfl rfl (Nat.le_of_ble_eq_true rfl) ⟨by decide, by decide⟩ ?_
        refine c_bounded hn2 M4 E4 (lte_2 (lte_2 (lte_2 (fun w => Nat.lt_of_lt_of_le (hW.1 w) (by omega)) (by omega)) (by omega)) (by omega)) (lo := 1) (hi := 99) (by decide) (by decide) (c := decide (nuT b n (sT S + 3) < 1 ∨ 99 < nuT b n (sT S + 3))) (fun _ => by rw [decide_eq_true_iff]; show (nuT b n (sT S + 3) < 1 ∨ 99 < nuT b n (sT S + 3)) ↔ ¬ (1 ≤ nuT b n (sT S + 3) ∧ nuT b n (sT S + 3) ≤ 99); omega) (fun hk3 h43 I5 f5 M5 E5 => ?_) (fun k3 hc3 I5 v5_ f5 FF => ?_)
        · refine wx_istore (L2 := [_, _, _, _, _, _]) rfl (e := 82) rfl (by decide) rfl ?_
          refine wx_aload_n rfl (e := 83) rfl rfl ?_
          refine wx_iconst (v := (nI 4)) rfl (e := 84) rfl (by decide) ?_
          refine wx_cv1 (mc := 0) (ms := 0) rfl (e := 87) rfl rfl (Nat.le_of_ble_eq_true rfl) ⟨by decide, by decide⟩ ?_
          refine c_must M5 (κ := 59) (by decide) (by decide) (by decide) (by decide) (fun hk4 h44 M6 => ?_) (fun k4 hc4 FF => ?_)
          · refine wx_aload_n rfl (e := 88) rfl rfl ?_
            refine wx_geti rfl (e := 91) rfl rfl ?_
            first | rw [M6.2.2.2.2] | rw [FF.2.2.1]
            refine wn_if_le rfl (e := 94) rfl (by omega) (fun c_91 => ?_) (fun c_91 => absurd c_91 (by omega))
            refine wx_aload_n rfl (e := 96) rfl rfl ?_
            refine wx_getr rfl (e := 99) rfl rfl rfl ?_
            refine wx_aload_n rfl (e := 100) rfl rfl ?_
            refine wx_geti rfl (e := 103) rfl rfl ?_
            rw [nx.f (by decide), f5.2 19 (by omega), SD4]
            refine wx_dup2 rfl (e := 104) rfl ⟨rfl, rfl⟩ ?_
            refine wn_iald rfl (e := 105) rfl rfl (by omega) (by decide) ?_
            rw [nx.q (by decide), f5.1 67 (by decide), g4.1 67 (by decide), f3.1 67 (by decide), f2.1 67 (by decide), c2]
            refine wx_iconst (v := (nI 1)) rfl (e := 106) rfl (by decide) ?_
            refine wn_iadd rfl (e := 107) rfl ?_
            refine wn_iast rfl (e := 108) rfl rfl (by decide) (by omega) (by decide) ?_
            refine wx_iload rfl (e := 110) rfl rfl ?_
            refine wn_if_eq rfl (e := 113) rfl (by omega) (fun c_110 => absurd c_110 (by omega)) (fun c_110 => ?_)
            refine wx_iload_n rfl (e := 114) rfl rfl ?_
            refine wx_iload_n rfl (e := 115) rfl rfl ?_
            refine wn_ic_ne rfl (e := 118) rfl (by omega) (by omega) (fun c_115 => ?_) (fun c_115 => ?_)
            · refine wx_aload_n rfl (e := 120) rfl rfl ?_
              refine wx_getr rfl (e := 123) rfl rfl rfl ?_
              refine wx_bipush (v := (nI 36)) rfl (e := 125) rfl (by decide) ?_
              refine wx_aload_n rfl (e := 126) rfl rfl ?_
              refine wx_geti rfl (e := 129) rfl rfl ?_
              rw [wr_other _ _ _ _ (by decide), nx.f (by decide), f5.2 19 (by omega), SD4]
              refine wn_imul rfl (e := 130) rfl ?_
              refine wx_bipush (v := (nI 6)) rfl (e := 132) rfl (by decide) ?_
              refine wx_iload_n rfl (e := 133) rfl rfl ?_
              refine wn_imul rfl (e := 134) rfl ?_
              refine wn_iadd rfl (e := 135) rfl ?_
              refine wx_iload_n rfl (e := 136) rfl rfl ?_
              refine wn_iadd rfl (e := 137) rfl ?_
              refine wx_iload rfl (e := 139) rfl rfl ?_
              refine wn_iast rfl (e := 140) rfl rfl (by decide) (by omega) (by decide) ?_
              refine wx_aload_n rfl (e := 141) rfl rfl ?_
              refine wx_getr rfl (e := 144) rfl rfl rfl ?_
              refine wx_bipush (v := (nI 36)) rfl (e := 146) rfl (by decide) ?_
              refine wx_aload_n rfl (e := 147) rfl rfl ?_
              refine wx_geti rfl (e := 150) rfl rfl ?_
              rw [wr_other _ _ _ _ (by decide), wr_other _ _ _ _ (by decide), nx.f (by decide), f5.2 19 (by omega), SD4]
              refine wn_imul rfl (e := 151) rfl ?_
              refine wx_bipush (v := (nI 6)) rfl (e := 153) rfl (by decide) ?_
              refine wx_iload_n rfl (e := 154) rfl rfl ?_
              refine wn_imul rfl (e := 155) rfl ?_
              refine wn_iadd rfl (e := 156) rfl ?_
              refine wx_iload_n rfl (e := 157) rfl rfl ?_
              refine wn_iadd rfl (e := 158) rfl ?_
              refine wx_iload rfl (e := 160) rfl rfl ?_
              refine wn_iast rfl (e := 161) rfl rfl (by decide) (by omega) (by decide) ?_
              refine wx_ret rfl rfl ⟨by decide, by decide⟩ ?_
              have row : ∀ q, q ≠ 55 → q ≠ 67 → q ≠ 68 → (wr (wr (wr (nx (sT S + 1 + 1 + 1 + 1) I5) 67 sd (nI (sD S + 1))) 68 (36 * sd + 6 * i + j) (nI (nuT b n (sT S + 3)))) 68 (36 * sd + 6 * j + i) (nI (nuT b n (sT S + 3)))) q = I q := fun q y1 y2 y3 => by rw [wr_other _ _ _ _ y3, wr_other _ _ _ _ y3, wr_other _ _ _ _ y2, nx.q y1, f5.1 q y1, g4.1 q y1, f3.1 q y1, f2.1 q y1]
              have fld : ∀ k, ¬ (k = 11 ∨ (13 ≤ k ∧ k ≤ 16)) → (wr (wr (wr (nx (sT S + 1 + 1 + 1 + 1) I5) 67 sd (nI (sD S + 1))) 68 (36 * sd + 6 * i + j) (nI (nuT b n (sT S + 3)))) 68 (36 * sd + 6 * j + i) (nI (nuT b n (sT S + 3)))) 55 k = I 55 k := fun k hk => by rw [wr_other _ _ _ _ (by decide), wr_other _ _ _ _ (by decide), wr_other _ _ _ _ (by decide), nx.f (by omega), f5.2 k (by omega), g4.2 k (by omega) (by omega), f3.2 k (by omega), f2.2 k (by omega)]
              refine hy (by rw [sqT_y hk1 h41, sqT_y hk2 h42, sqT_y hk3 h43, sqT_y hk4 h44]; rfl) (wr (wr (wr (nx (sT S + 1 + 1 + 1 + 1) I5) 67 sd (nI (sD S + 1))) 68 (36 * sd + 6 * i + j) (nI (nuT b n (sT S + 3)))) 68 (36 * sd + 6 * j + i) (nI (nuT b n (sT S + 3)))) G (P4.tr (f5.p.tr (nx.p.tr ((fmp.w (by unfold own; omega)).tr ((fmp.w (by unfold own; omega)).tr (fmp.w (by unfold own; omega))))))) (fun _ _ => rfl) ⟨M6.q (fun q h => by rw [wr_other _ _ _ _ (by omega), wr_other _ _ _ _ (by omega), wr_other _ _ _ _ (by omega)]) (fun k h => by rw [wr_other _ _ _ _ (by omega), wr_other _ _ _ _ (by omega), wr_other _ _ _ _ (by omega)]), E5.t (by rw [wr_other _ _ _ _ (by decide), wr_other _ _ _ _ (by decide), wr_other _ _ _ _ (by decide), nx.f (by decide)]) (by rw [wr_other _ _ _ _ (by decide), wr_other _ _ _ _ (by decide), wr_other _ _ _ _ (by decide), nx.f (by decide)]), hN.kept (fld 20 (by decide)) (row 64 (by decide) (by decide) (by decide)) rfl, ?_, hX.kept (by show sT S + 1 ≤ sT S + 5; omega) (fun q y1 y2 => row q (by omega) (by omega) (by omega)) (fld 12 (by decide)) (fld 19 (by decide)) (fld 43 (by decide)) (fld 37 (by decide))⟩
              refine ⟨⟨by rw [row 65 (by decide) (by decide) (by decide)]; exact c1, by rw [wr_other _ _ _ _ (by decide), wr_other _ _ _ _ (by decide), wr_eq]; rfl, by rw [row 69 (by decide) (by decide) (by decide)]; exact c3, by rw [row 72 (by decide) (by decide) (by decide)]; exact c4, by rw [row 76 (by decide) (by decide) (by decide)]; exact c5⟩, by rw [row 66 (by decide) (by decide) (by decide)]; exact c6, fun y a c ha hc => ?_, by rw [row 70 (by decide) (by decide) (by decide), row 71 (by decide) (by decide) (by decide)]; exact c8, by rw [row 73 (by decide) (by decide) (by decide), row 74 (by decide) (by decide) (by decide), row 75 (by decide) (by decide) (by decide)]; exact c9⟩
              have y3 := lte_0 (by decide) y
              have y0 := lte_0 (by decide) (lte_0 (by decide) (lte_0 (by decide) y3))
              show _ = (if ¬ (rdA b n S) < nI 0 ∧ ¬ (rdB b n S) < nI 0 then set2 (set2 (sF S) (kS (rdA b n S)) (kS (rdB b n S)) (nI (nuT b n (sT S + 3)))) (kS (rdB b n S)) (kS (rdA b n S)) (nI (nuT b n (sT S + 3))) else sF S) a c
              have old : I5 68 (36 * sd + 6 * a + c) = sF S a c := by rw [f5.1 68 (by decide), g4.1 68 (by decide), f3.1 68 (by decide), f2.1 68 (by decide)]; exact c7 y0 a c ha hc
              rw [if_pos ⟨hnA, hnB⟩, kA, kB]
              rw [wr_at, if_pos rfl]
              unfold set2
              by_cases z1 : a = j ∧ c = i
              · rw [if_pos z1, if_pos (by omega)]
              · rw [if_neg z1, if_neg (by omega), wr_at, if_pos rfl]
                by_cases z2 : a = i ∧ c = j
                · rw [if_pos z2, if_pos (by omega)]
                · rw [if_neg z2, if_neg (by omega), wr_other _ _ _ _ (by decide), nx.q (by decide)]; exact old
            · refine wx_ret rfl rfl ⟨by decide, by decide⟩ ?_
              have row : ∀ q, q ≠ 55 → q ≠ 67 → q ≠ 68 → (wr (nx (sT S + 1 + 1 + 1 + 1) I5) 67 sd (nI (sD S + 1))) q = I q := fun q y1 y2 y3 => by rw [wr_other _ _ _ _ y2, nx.q y1, f5.1 q y1, g4.1 q y1, f3.1 q y1, f2.1 q y1]
              have fld : ∀ k, ¬ (k = 11 ∨ (13 ≤ k ∧ k ≤ 16)) → (wr (nx (sT S + 1 + 1 + 1 + 1) I5) 67 sd (nI (sD S + 1))) 55 k = I 55 k := fun k hk => by rw [wr_other _ _ _ _ (by decide), nx.f (by omega), f5.2 k (by omega), g4.2 k (by omega) (by omega), f3.2 k (by omega), f2.2 k (by omega)]
              refine hy (by rw [sqT_y hk1 h41, sqT_y hk2 h42, sqT_y hk3 h43, sqT_y hk4 h44]; rfl) (wr (nx (sT S + 1 + 1 + 1 + 1) I5) 67 sd (nI (sD S + 1))) G (P4.tr (f5.p.tr (nx.p.tr (fmp.w (by unfold own; omega))))) (fun _ _ => rfl) ⟨M6.q (fun q h => by rw [wr_other _ _ _ _ (by omega)]) (fun k h => by rw [wr_other _ _ _ _ (by omega)]), E5.t (by rw [wr_other _ _ _ _ (by decide), nx.f (by decide)]) (by rw [wr_other _ _ _ _ (by decide), nx.f (by decide)]), hN.kept (fld 20 (by decide)) (row 64 (by decide) (by decide) (by decide)) rfl, ?_, hX.kept (by show sT S + 1 ≤ sT S + 5; omega) (fun q y1 y2 => row q (by omega) (by omega) (by omega)) (fld 12 (by decide)) (fld 19 (by decide)) (fld 43 (by decide)) (fld 37 (by decide))⟩
              refine ⟨⟨by rw [row 65 (by decide) (by decide) (by decide)]; exact c1, by rw [wr_eq]; rfl, by rw [row 69 (by decide) (by decide) (by decide)]; exact c3, by rw [row 72 (by decide) (by decide) (by decide)]; exact c4, by rw [row 76 (by decide) (by decide) (by decide)]; exact c5⟩, by rw [row 66 (by decide) (by decide) (by decide)]; exact c6, fun y a c ha hc => ?_, by rw [row 70 (by decide) (by decide) (by decide), row 71 (by decide) (by decide) (by decide)]; exact c8, by rw [row 73 (by decide) (by decide) (by decide), row 74 (by decide) (by decide) (by decide), row 75 (by decide) (by decide) (by decide)]; exact c9⟩
              have y3 := lte_0 (by decide) y
              have y0 := lte_0 (by decide) (lte_0 (by decide) (lte_0 (by decide) y3))
              show _ = (if ¬ (rdA b n S) < nI 0 ∧ ¬ (rdB b n S) < nI 0 then set2 (set2 (sF S) (kS (rdA b n S)) (kS (rdB b n S)) (nI (nuT b n (sT S + 3)))) (kS (rdB b n S)) (kS (rdA b n S)) (nI (nuT b n (sT S + 3))) else sF S) a c
              have old : I5 68 (36 * sd + 6 * a + c) = sF S a c := by rw [f5.1 68 (by decide), g4.1 68 (by decide), f3.1 68 (by decide), f2.1 68 (by decide)]; exact c7 y0 a c ha hc
              rw [if_pos ⟨hnA, hnB⟩, kA, kB]
              exfalso
              have h3c := of_decide_eq_false (lte_c (by decide) y3)
              have eij : i = j := by omega
              exact h3c ⟨hnA, hnB, by rw [kA, kB, ((hW.2.1 y0).2.1 i j (by omega) (by omega)).1 eij]; decide⟩
          · have k1_ := FF.1
            have k2_ := FF.2.1
            refine wx_aload_n rfl (e := 88) rfl rfl ?_
            refine wx_geti rfl (e := 91) rfl rfl ?_
            first | rw [M6.2.2.2.2] | rw [FF.2.2.1]
            refine wn_if_le rfl (e := 94) rfl (by omega) (fun c_91 => absurd c_91 (by omega)) (fun c_91 => ?_)
            refine wx_ret rfl rfl ⟨by decide, by decide⟩ ?_
            rcases hc4 with ⟨w1, w2⟩ | ⟨w1, w2, w3⟩
            · subst w1; exact hn 1 _ (by decide) (by rw [sqT_y hk1 h41, sqT_y hk2 h42, sqT_y hk3 h43]; exact sqT_1 w2) _ (P4.tr (f5.p.tr ft.p)) FF
            · subst w1; exact hn 2 _ (by decide) (by rw [sqT_y hk1 h41, sqT_y hk2 h42, sqT_y hk3 h43]; exact sqT_2 w2 w3) _ (P4.tr (f5.p.tr ft.p)) FF
        · have k1_ := FF.1
          have k2_ := FF.2.1
          refine wx_istore (L2 := [_, _, _, _, _, _]) rfl (e := 82) rfl (by decide) rfl ?_
          refine wx_aload_n rfl (e := 83) rfl rfl ?_
          refine wx_iconst (v := (nI 4)) rfl (e := 84) rfl (by decide) ?_
          refine wx_cv1 (mc := 0) (ms := 0) rfl (e := 87) rfl rfl (Nat.le_of_ble_eq_true rfl) ⟨by decide, by decide⟩ ?_
          refine c_must0 FF.1 (by have := FF.2.1; omega) FF.2.2.1 ?_
          refine wx_aload_n rfl (e := 88) rfl rfl ?_
          refine wx_geti rfl (e := 91) rfl rfl ?_
          first | rw [M6.2.2.2.2] | rw [FF.2.2.1]
          refine wn_if_le rfl (e := 94) rfl (by omega) (fun c_91 => absurd c_91 (by omega)) (fun c_91 => ?_)
          refine wx_ret rfl rfl ⟨by decide, by decide⟩ ?_
          rcases hc3 with ⟨w1, w2⟩ | ⟨w1, w2, w3⟩
          · subst w1; exact hn 1 _ (by decide) (by rw [sqT_y hk1 h41, sqT_y hk2 h42]; exact sqT_1 w2) _ (P4.tr f5.p) FF
          · subst w1; exact hn 2 _ (by decide) (by rw [sqT_y hk1 h41, sqT_y hk2 h42]; exact sqT_2 w2 w3) _ (P4.tr f5.p) FF
      have fin0 : ∀ (hneg : ¬ (¬ (rdA b n S) < nI 0 ∧ ¬ (rdB b n S) < nI 0))  (I4 : Nat → Nat → Int32) (g4 : frg I3 I4) (M4 : MS b n (sT S + 1 + 1 + 1) I4 G) (E4 : LTm b n (lte (lte (lte (sE S) (decide ((rdA b n S) < nI 0)) 4 (sT S + 1)) (decide ((rdB b n S) < nI 0)) 4 (sT S + 2)) (decide (¬ (rdA b n S) < nI 0 ∧ ¬ (rdB b n S) < nI 0 ∧ ¬ sF S (kS (rdA b n S)) (kS (rdB b n S)) = nI 999)) 3 (sT S + 2)) I4) (x2 x5 : Option Value), WP (d + 4) mX11_tellRoad Q 73 [some (.ref 55), some (.int (rdA b n S)), x2, some (.int (rdB b n S)), some (.int (nI 0)), x5] [] (hp Lx tt rt u I4 G) 0 0 := by
        intro hneg I4 g4 M4 E4 x2 x5
        have P4 : fmp sd I I4 := f2.p.tr (f3.p.tr g4.p)
        have SD4 : I4 55 19 = nI sd := by rw [g4.2 19 (by decide) (by decide), f3.2 19 (by omega), f2.2 19 (by omega)]; exact hsd
        refine wx_aload_n rfl (e := 74) rfl rfl ?_
        refine wx_iconst (v := (nI 1)) rfl (e := 75) rfl (by decide) ?_
        refine wx_bipush (v := (nI 99)) rfl (e := 77) rfl (by decide) ?_
        refine wx_cv2 (mc := 0) (ms := 0) rfl (e := 80) rfl rfl (Nat.le_of_ble_eq_true rfl) ⟨by decide, by decide⟩ ?_
        refine c_bounded hn2 M4 E4 (lte_2 (lte_2 (lte_2 (fun w => Nat.lt_of_lt_of_le (hW.1 w) (by omega)) (by omega)) (by omega)) (by omega)) (lo := 1) (hi := 99) (by decide) (by decide) (c := decide (nuT b n (sT S + 3) < 1 ∨ 99 < nuT b n (sT S + 3))) (fun _ => by rw [decide_eq_true_iff]; show (nuT b n (sT S + 3) < 1 ∨ 99 < nuT b n (sT S + 3)) ↔ ¬ (1 ≤ nuT b n (sT S + 3) ∧ nuT b n (sT S + 3) ≤ 99); omega) (fun hk3 h43 I5 f5 M5 E5 => ?_) (fun k3 hc3 I5 v5_ f5 FF => ?_)
        · refine wx_istore (L2 := [_, _, _, _, _, _]) rfl (e := 82) rfl (by decide) rfl ?_
          refine wx_aload_n rfl (e := 83) rfl rfl ?_
          refine wx_iconst (v := (nI 4)) rfl (e := 84) rfl (by decide) ?_
          refine wx_cv1 (mc := 0) (ms := 0) rfl (e := 87) rfl rfl (Nat.le_of_ble_eq_true rfl) ⟨by decide, by decide⟩ ?_
          refine c_must M5 (κ := 59) (by decide) (by decide) (by decide) (by decide) (fun hk4 h44 M6 => ?_) (fun k4 hc4 FF => ?_)
          · refine wx_aload_n rfl (e := 88) rfl rfl ?_
            refine wx_geti rfl (e := 91) rfl rfl ?_
            first | rw [M6.2.2.2.2] | rw [FF.2.2.1]
            refine wn_if_le rfl (e := 94) rfl (by omega) (fun c_91 => ?_) (fun c_91 => absurd c_91 (by omega))
            refine wx_aload_n rfl (e := 96) rfl rfl ?_
            refine wx_getr rfl (e := 99) rfl rfl rfl ?_
            refine wx_aload_n rfl (e := 100) rfl rfl ?_
            refine wx_geti rfl (e := 103) rfl rfl ?_
            rw [nx.f (by decide), f5.2 19 (by omega), SD4]
            refine wx_dup2 rfl (e := 104) rfl ⟨rfl, rfl⟩ ?_
            refine wn_iald rfl (e := 105) rfl rfl (by omega) (by decide) ?_
            rw [nx.q (by decide), f5.1 67 (by decide), g4.1 67 (by decide), f3.1 67 (by decide), f2.1 67 (by decide), c2]
            refine wx_iconst (v := (nI 1)) rfl (e := 106) rfl (by decide) ?_
            refine wn_iadd rfl (e := 107) rfl ?_
            refine wn_iast rfl (e := 108) rfl rfl (by decide) (by omega) (by decide) ?_
            refine wx_iload rfl (e := 110) rfl rfl ?_
            refine wn_if_eq rfl (e := 113) rfl (by omega) (fun c_110 => ?_) (fun c_110 => absurd c_110 (by omega))
            refine wx_ret rfl rfl ⟨by decide, by decide⟩ ?_
            have row : ∀ q, q ≠ 55 → q ≠ 67 → q ≠ 68 → (wr (nx (sT S + 1 + 1 + 1 + 1) I5) 67 sd (nI (sD S + 1))) q = I q := fun q y1 y2 y3 => by rw [wr_other _ _ _ _ y2, nx.q y1, f5.1 q y1, g4.1 q y1, f3.1 q y1, f2.1 q y1]
            have fld : ∀ k, ¬ (k = 11 ∨ (13 ≤ k ∧ k ≤ 16)) → (wr (nx (sT S + 1 + 1 + 1 + 1) I5) 67 sd (nI (sD S + 1))) 55 k = I 55 k := fun k hk => by rw [wr_other _ _ _ _ (by decide), nx.f (by omega), f5.2 k (by omega), g4.2 k (by omega) (by omega), f3.2 k (by omega), f2.2 k (by omega)]
            refine hy (by rw [sqT_y hk1 h41, sqT_y hk2 h42, sqT_y hk3 h43, sqT_y hk4 h44]; rfl) (wr (nx (sT S + 1 + 1 + 1 + 1) I5) 67 sd (nI (sD S + 1))) G (P4.tr (f5.p.tr (nx.p.tr (fmp.w (by unfold own; omega))))) (fun _ _ => rfl) ⟨M6.q (fun q h => by rw [wr_other _ _ _ _ (by omega)]) (fun k h => by rw [wr_other _ _ _ _ (by omega)]), E5.t (by rw [wr_other _ _ _ _ (by decide), nx.f (by decide)]) (by rw [wr_other _ _ _ _ (by decide), nx.f (by decide)]), hN.kept (fld 20 (by decide)) (row 64 (by decide) (by decide) (by decide)) rfl, ?_, hX.kept (by show sT S + 1 ≤ sT S + 5; omega) (fun q y1 y2 => row q (by omega) (by omega) (by omega)) (fld 12 (by decide)) (fld 19 (by decide)) (fld 43 (by decide)) (fld 37 (by decide))⟩
            refine ⟨⟨by rw [row 65 (by decide) (by decide) (by decide)]; exact c1, by rw [wr_eq]; rfl, by rw [row 69 (by decide) (by decide) (by decide)]; exact c3, by rw [row 72 (by decide) (by decide) (by decide)]; exact c4, by rw [row 76 (by decide) (by decide) (by decide)]; exact c5⟩, by rw [row 66 (by decide) (by decide) (by decide)]; exact c6, fun y a c ha hc => ?_, by rw [row 70 (by decide) (by decide) (by decide), row 71 (by decide) (by decide) (by decide)]; exact c8, by rw [row 73 (by decide) (by decide) (by decide), row 74 (by decide) (by decide) (by decide), row 75 (by decide) (by decide) (by decide)]; exact c9⟩
            have y3 := lte_0 (by decide) y
            have y0 := lte_0 (by decide) (lte_0 (by decide) (lte_0 (by decide) y3))
            show _ = (if ¬ (rdA b n S) < nI 0 ∧ ¬ (rdB b n S) < nI 0 then set2 (set2 (sF S) (kS (rdA b n S)) (kS (rdB b n S)) (nI (nuT b n (sT S + 3)))) (kS (rdB b n S)) (kS (rdA b n S)) (nI (nuT b n (sT S + 3))) else sF S) a c
            have old : I5 68 (36 * sd + 6 * a + c) = sF S a c := by rw [f5.1 68 (by decide), g4.1 68 (by decide), f3.1 68 (by decide), f2.1 68 (by decide)]; exact c7 y0 a c ha hc
            rw [if_neg hneg, wr_other _ _ _ _ (by decide), nx.q (by decide)]; exact old
          · have k1_ := FF.1
            have k2_ := FF.2.1
            refine wx_aload_n rfl (e := 88) rfl rfl ?_
            refine wx_geti rfl (e := 91) rfl rfl ?_
            first | rw [M6.2.2.2.2] | rw [FF.2.2.1]
            refine wn_if_le rfl (e := 94) rfl (by omega) (fun c_91 => absurd c_91 (by omega)) (fun c_91 => ?_)
            refine wx_ret rfl rfl ⟨by decide, by decide⟩ ?_
            rcases hc4 with ⟨w1, w2⟩ | ⟨w1, w2, w3⟩
            · subst w1; exact hn 1 _ (by decide) (by rw [sqT_y hk1 h41, sqT_y hk2 h42, sqT_y hk3 h43]; exact sqT_1 w2) _ (P4.tr (f5.p.tr ft.p)) FF
            · subst w1; exact hn 2 _ (by decide) (by rw [sqT_y hk1 h41, sqT_y hk2 h42, sqT_y hk3 h43]; exact sqT_2 w2 w3) _ (P4.tr (f5.p.tr ft.p)) FF
        · have k1_ := FF.1
          have k2_ := FF.2.1
          refine wx_istore (L2 := [_, _, _, _, _, _]) rfl (e := 82) rfl (by decide) rfl ?_
          refine wx_aload_n rfl (e := 83) rfl rfl ?_
          refine wx_iconst (v := (nI 4)) rfl (e := 84) rfl (by decide) ?_
          refine wx_cv1 (mc := 0) (ms := 0) rfl (e := 87) rfl rfl (Nat.le_of_ble_eq_true rfl) ⟨by decide, by decide⟩ ?_
          refine c_must0 FF.1 (by have := FF.2.1; omega) FF.2.2.1 ?_
          refine wx_aload_n rfl (e := 88) rfl rfl ?_
          refine wx_geti rfl (e := 91) rfl rfl ?_
          first | rw [M6.2.2.2.2] | rw [FF.2.2.1]
          refine wn_if_le rfl (e := 94) rfl (by omega) (fun c_91 => absurd c_91 (by omega)) (fun c_91 => ?_)
          refine wx_ret rfl rfl ⟨by decide, by decide⟩ ?_
          rcases hc3 with ⟨w1, w2⟩ | ⟨w1, w2, w3⟩
          · subst w1; exact hn 1 _ (by decide) (by rw [sqT_y hk1 h41, sqT_y hk2 h42]; exact sqT_1 w2) _ (P4.tr f5.p) FF
          · subst w1; exact hn 2 _ (by decide) (by rw [sqT_y hk1 h41, sqT_y hk2 h42]; exact sqT_2 w2 w3) _ (P4.tr f5.p) FF
      refine wx_istore_n (L2 := [_, _, _, _, _, _]) rfl (e := 15) rfl (by decide) rfl ?_
      refine wx_aload_n rfl (e := 16) rfl rfl ?_
      refine wx_geti rfl (e := 19) rfl rfl ?_
      first | rw [M3.2.2.2.2] | rw [FF.2.2.1]
      refine wn_if_ne rfl (e := 22) rfl (by omega) (fun c_19 => absurd c_19 (by omega)) (fun c_19 => ?_)
      refine wx_iload_n rfl (e := 23) rfl rfl ?_
      refine wx_if_lt rfl (e := 26) rfl (fun c_23 => ?_) (fun c_23 => ?_)
      · rw [← nI_0] at c_23
        refine wx_iconst (v := (nI 0)) rfl (e := 35) rfl (by decide) ?_
        refine wx_istore (L2 := [_, _, _, _, _, _]) rfl (e := 37) rfl (by decide) rfl ?_
        refine wx_iload rfl (e := 39) rfl rfl ?_
        refine wn_if_eq rfl (e := 42) rfl (by omega) (fun c_39 => ?_) (fun c_39 => absurd c_39 (by omega))
        exact fin0 (fun w => w.1 c_23) I3 frg.rf M3 (by rw [show (decide (¬ (rdA b n S) < nI 0 ∧ ¬ (rdB b n S) < nI 0 ∧ ¬ sF S (kS (rdA b n S)) (kS (rdB b n S)) = nI 999)) = false from decide_eq_false (fun w => w.1 c_23), lte_f]; exact E3) _ _
      · rw [← nI_0] at c_23
        refine wx_iload_n rfl (e := 27) rfl rfl ?_
        refine wx_if_lt rfl (e := 30) rfl (fun c_27 => ?_) (fun c_27 => ?_)
        · rw [← nI_0] at c_27
          refine wx_iconst (v := (nI 0)) rfl (e := 35) rfl (by decide) ?_
          refine wx_istore (L2 := [_, _, _, _, _, _]) rfl (e := 37) rfl (by decide) rfl ?_
          refine wx_iload rfl (e := 39) rfl rfl ?_
          refine wn_if_eq rfl (e := 42) rfl (by omega) (fun c_39 => ?_) (fun c_39 => absurd c_39 (by omega))
          exact fin0 (fun w => w.2 c_27) I3 frg.rf M3 (by rw [show (decide (¬ (rdA b n S) < nI 0 ∧ ¬ (rdB b n S) < nI 0 ∧ ¬ sF S (kS (rdA b n S)) (kS (rdB b n S)) = nI 999)) = false from decide_eq_false (fun w => w.2.1 c_27), lte_f]; exact E3) _ _
        · rw [← nI_0] at c_27
          obtain ⟨i, hi, ei⟩ := (chS_in (w := wdT b n (sT S + 1)) (nm := (sM S).1) (sM S).2.2 v6).resolve_left (fun w => c_23 (by show chS _ _ _ _ < nI 0; rw [w]; decide))
          obtain ⟨j, hj, ej⟩ := (chS_in (w := wdT b n (sT S + 2)) (nm := (sM S).1) (sM S).2.2 v6).resolve_left (fun w => c_27 (by show chS _ _ _ _ < nI 0; rw [w]; decide))
          have kA : kS (rdA b n S) = i := by rw [show (rdA b n S) = nI i from ei]; exact kS_n (by omega)
          have kB : kS (rdB b n S) = j := by rw [show (rdB b n S) = nI j from ej]; exact kS_n (by omega)
          have hold : (lte (lte (sE S) (decide ((rdA b n S) < nI 0)) 4 (sT S + 1)) (decide ((rdB b n S) < nI 0)) 4 (sT S + 2)).1 = 0 → I3 68 (36 * sd + 6 * i + j) = sF S i j := fun y => by rw [f3.1 68 (by decide), f2.1 68 (by decide)]; exact c7 (lte_0 (by decide) (lte_0 (by decide) y)) i j (by omega) (by omega)
          have hval : (lte (lte (sE S) (decide ((rdA b n S) < nI 0)) 4 (sT S + 1)) (decide ((rdB b n S) < nI 0)) 4 (sT S + 2)).1 = 0 → (nI 999 ≤ I3 68 (36 * sd + 6 * i + j) ↔ sF S i j = nI 999) := fun y => by
            rw [hold y]
            obtain ⟨v, y1, y2, _⟩ := hW.ln (lte_0 (by decide) (lte_0 (by decide) y)) i j (by omega) (by omega)
            rw [y2, nI_leI (by omega) (by omega), nI_eq (by omega) (by omega)]; omega
          rw [ei, ej]
          refine wx_iconst (v := (nI 1)) rfl (e := 31) rfl (by decide) ?_
          refine wx_goto rfl ?_
          refine wx_istore (L2 := [_, _, _, _, _, _]) rfl (e := 37) rfl (by decide) rfl ?_
          refine wx_iload rfl (e := 39) rfl rfl ?_
          refine wn_if_eq rfl (e := 42) rfl (by omega) (fun c_39 => absurd c_39 (by omega)) (fun c_39 => ?_)
          refine wx_aload_n rfl (e := 43) rfl rfl ?_
          refine wx_getr rfl (e := 46) rfl rfl rfl ?_
          refine wx_bipush (v := (nI 36)) rfl (e := 48) rfl (by decide) ?_
          refine wx_aload_n rfl (e := 49) rfl rfl ?_
          refine wx_geti rfl (e := 52) rfl rfl ?_
          rw [f3.2 19 (by omega), f2.2 19 (by omega), hsd]
          refine wn_imul rfl (e := 53) rfl ?_
          refine wx_bipush (v := (nI 6)) rfl (e := 55) rfl (by decide) ?_
          refine wx_iload_n rfl (e := 56) rfl rfl ?_
          refine wn_imul rfl (e := 57) rfl ?_
          refine wn_iadd rfl (e := 58) rfl ?_
          refine wx_iload_n rfl (e := 59) rfl rfl ?_
          refine wn_iadd rfl (e := 60) rfl ?_
          refine wn_iald rfl (e := 61) rfl rfl (by omega) (by decide) ?_
          refine wx_sipush (v := (nI 999)) rfl (e := 64) rfl (by decide) ?_
          refine wx_ic_ge rfl (e := 67) rfl (fun c_64 => ?_) (fun c_64 => ?_)
          · refine fin1 i j hi hj ei ej I3 frg.rf M3 ?_ _ _
            by_cases y : (lte (lte (sE S) (decide ((rdA b n S) < nI 0)) 4 (sT S + 1)) (decide ((rdB b n S) < nI 0)) 4 (sT S + 2)).1 = 0
            · rw [show (decide (¬ (rdA b n S) < nI 0 ∧ ¬ (rdB b n S) < nI 0 ∧ ¬ sF S (kS (rdA b n S)) (kS (rdB b n S)) = nI 999)) = false from decide_eq_false (fun w => w.2.2 (by rw [kA, kB]; exact (hval y).mp c_64)), lte_f]; exact E3
            · rw [lte_o y]; exact E3
          · refine wx_aload_n rfl (e := 68) rfl rfl ?_
            refine wx_iconst (v := (nI 3)) rfl (e := 69) rfl (by decide) ?_
            refine wx_iload_n rfl (e := 70) rfl rfl ?_
            refine wx_cv2 (mc := 0) (ms := 0) rfl (e := 73) rfl rfl (Nat.le_of_ble_eq_true rfl) ⟨by decide, by decide⟩ ?_
            have hb0 : decide ((rdB b n S) < nI 0) = false := decide_eq_false (show ¬ (rdB b n S) < nI 0 from c_27)
            refine c_wrong hn2 M3 E3 (k := 3) (tok := sT S + 1 + 1) (by decide) (by omega) (fun w => Or.inl (by have w9 : ¬ (lte (lte (sE S) (decide ((rdA b n S) < nI 0)) 4 (sT S + 1)) (decide ((rdB b n S) < nI 0)) 4 (sT S + 2)).1 = 0 := w; show (lte (lte (sE S) (decide ((rdA b n S) < nI 0)) 4 (sT S + 1)) (decide ((rdB b n S) < nI 0)) 4 (sT S + 2)).2 < sT S + 1 + 1; rw [hb0, lte_f] at w9 ⊢; exact lte_2 (fun w => Nat.lt_of_lt_of_le (hW.1 w) (by omega)) (by omega) w9)) (fun I4 g4 E4 => ?_)
            refine fin1 i j hi hj ei ej I4 g4 (M3.g g4) ?_ _ _
            by_cases y : (lte (lte (sE S) (decide ((rdA b n S) < nI 0)) 4 (sT S + 1)) (decide ((rdB b n S) < nI 0)) 4 (sT S + 2)).1 = 0
            · rw [show (decide (¬ (rdA b n S) < nI 0 ∧ ¬ (rdB b n S) < nI 0 ∧ ¬ sF S (kS (rdA b n S)) (kS (rdB b n S)) = nI 999)) = true from decide_eq_true ⟨by rw [show (rdA b n S) = nI i from ei]; exact nI_nn (by omega), by rw [show (rdB b n S) = nI j from ej]; exact nI_nn (by omega), by rw [kA, kB]; exact fun w => c_64 ((hval y).mpr w)⟩]; exact E4
            · have E4 : LTm b n (lte (lte (lte (sE S) (decide ((rdA b n S) < nI 0)) 4 (sT S + 1)) (decide ((rdB b n S) < nI 0)) 4 (sT S + 2)) true 3 (sT S + 2)) I4 := E4
              rw [lte_o y] at E4 ⊢; exact E4
    · have k1_ := FF.1
      have k2_ := FF.2.1
      refine wx_istore_n (L2 := [_, _, _, _, _, _]) rfl (e := 15) rfl (by decide) rfl ?_
      refine wx_aload_n rfl (e := 16) rfl rfl ?_
      refine wx_geti rfl (e := 19) rfl rfl ?_
      first | rw [M3.2.2.2.2] | rw [FF.2.2.1]
      refine wn_if_ne rfl (e := 22) rfl (by omega) (fun c_19 => ?_) (fun c_19 => absurd c_19 (by omega))
      refine wx_iconst (v := (nI 0)) rfl (e := 35) rfl (by decide) ?_
      refine wx_istore (L2 := [_, _, _, _, _, _]) rfl (e := 37) rfl (by decide) rfl ?_
      refine wx_iload rfl (e := 39) rfl rfl ?_
      refine wn_if_eq rfl (e := 42) rfl (by omega) (fun c_39 => ?_) (fun c_39 => absurd c_39 (by omega))
      refine wx_aload_n rfl (e := 74) rfl rfl ?_
      refine wx_iconst (v := (nI 1)) rfl (e := 75) rfl (by decide) ?_
      refine wx_bipush (v := (nI 99)) rfl (e := 77) rfl (by decide) ?_
      refine wx_cv2 (mc := 0) (ms := 0) rfl (e := 80) rfl rfl (Nat.le_of_ble_eq_true rfl) ⟨by decide, by decide⟩ ?_
      refine c_bounded0 FF.1 (by have := FF.2.1; omega) FF.2.2.1 ?_
      refine wx_istore (L2 := [_, _, _, _, _, _]) rfl (e := 82) rfl (by decide) rfl ?_
      refine wx_aload_n rfl (e := 83) rfl rfl ?_
      refine wx_iconst (v := (nI 4)) rfl (e := 84) rfl (by decide) ?_
      refine wx_cv1 (mc := 0) (ms := 0) rfl (e := 87) rfl rfl (Nat.le_of_ble_eq_true rfl) ⟨by decide, by decide⟩ ?_
      refine c_must0 FF.1 (by have := FF.2.1; omega) FF.2.2.1 ?_
      refine wx_aload_n rfl (e := 88) rfl rfl ?_
      refine wx_geti rfl (e := 91) rfl rfl ?_
      rw [FF.2.2.1]
      refine wn_if_le rfl (e := 94) rfl (by omega) (fun c_91 => absurd c_91 (by omega)) (fun c_91 => ?_)
      refine wx_ret rfl rfl ⟨by decide, by decide⟩ ?_
      first
      | (exact hn_1 k1 hc1 FF)
      | (rcases hc2 with ⟨w1, w2⟩ | ⟨w1, w2, w3⟩; (subst w1; exact hn 1 _ (by decide) (by rw [sqT_y hk1 h41]; exact sqT_1 w2) _ (f2.p.tr ft.p) FF); (subst w1; exact hn 2 _ (by decide) (by rw [sqT_y hk1 h41]; exact sqT_2 w2 w3) _ (f2.p.tr ft.p) FF))
  · have k1_ := FF.1
    have k2_ := FF.2.1
    refine wx_istore_n (L2 := [_, _, _, _, _, _]) rfl (e := 5) rfl (by decide) rfl ?_
    refine wx_aload_n rfl (e := 6) rfl rfl ?_
    refine wx_geti rfl (e := 9) rfl rfl ?_
    first | rw [M2.2.2.2.1] | skip
    refine wx_istore_n (L2 := [_, _, _, _, _, _]) rfl (e := 10) rfl (by decide) rfl ?_
    refine wx_aload_n rfl (e := 11) rfl rfl ?_
    refine wx_cv0 (mc := 0) (ms := 0) rfl (e := 14) rfl rfl (Nat.le_of_ble_eq_true rfl) ⟨by decide, by decide⟩ ?_
    refine c_known0 FF.1 (by have := FF.2.1; omega) FF.2.2.1 ?_
    refine wx_istore_n (L2 := [_, _, _, _, _, _]) rfl (e := 15) rfl (by decide) rfl ?_
    refine wx_aload_n rfl (e := 16) rfl rfl ?_
    refine wx_geti rfl (e := 19) rfl rfl ?_
    first | rw [M3.2.2.2.2] | rw [FF.2.2.1]
    refine wn_if_ne rfl (e := 22) rfl (by omega) (fun c_19 => ?_) (fun c_19 => absurd c_19 (by omega))
    refine wx_iconst (v := (nI 0)) rfl (e := 35) rfl (by decide) ?_
    refine wx_istore (L2 := [_, _, _, _, _, _]) rfl (e := 37) rfl (by decide) rfl ?_
    refine wx_iload rfl (e := 39) rfl rfl ?_
    refine wn_if_eq rfl (e := 42) rfl (by omega) (fun c_39 => ?_) (fun c_39 => absurd c_39 (by omega))
    refine wx_aload_n rfl (e := 74) rfl rfl ?_
    refine wx_iconst (v := (nI 1)) rfl (e := 75) rfl (by decide) ?_
    refine wx_bipush (v := (nI 99)) rfl (e := 77) rfl (by decide) ?_
    refine wx_cv2 (mc := 0) (ms := 0) rfl (e := 80) rfl rfl (Nat.le_of_ble_eq_true rfl) ⟨by decide, by decide⟩ ?_
    refine c_bounded0 FF.1 (by have := FF.2.1; omega) FF.2.2.1 ?_
    refine wx_istore (L2 := [_, _, _, _, _, _]) rfl (e := 82) rfl (by decide) rfl ?_
    refine wx_aload_n rfl (e := 83) rfl rfl ?_
    refine wx_iconst (v := (nI 4)) rfl (e := 84) rfl (by decide) ?_
    refine wx_cv1 (mc := 0) (ms := 0) rfl (e := 87) rfl rfl (Nat.le_of_ble_eq_true rfl) ⟨by decide, by decide⟩ ?_
    refine c_must0 FF.1 (by have := FF.2.1; omega) FF.2.2.1 ?_
    refine wx_aload_n rfl (e := 88) rfl rfl ?_
    refine wx_geti rfl (e := 91) rfl rfl ?_
    rw [FF.2.2.1]
    refine wn_if_le rfl (e := 94) rfl (by omega) (fun c_91 => absurd c_91 (by omega)) (fun c_91 => ?_)
    refine wx_ret rfl rfl ⟨by decide, by decide⟩ ?_
    first
    | (exact hn_1 k1 hc1 FF)
    | (rcases hc2 with ⟨w1, w2⟩ | ⟨w1, w2, w3⟩; (subst w1; exact hn 1 _ (by decide) (by rw [sqT_y hk1 h41]; exact sqT_1 w2) _ (f2.p.tr ft.p) FF); (subst w1; exact hn 2 _ (by decide) (by rw [sqT_y hk1 h41]; exact sqT_2 w2 w3) _ (f2.p.tr ft.p) FF))

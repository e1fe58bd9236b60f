/-! the model: relics, roads -/
set_option maxHeartbeats 8000000 in
theorem c_tellRelic {d Lx tt rt u : Nat} {I : Nat → Nat → Int32} {G : Nat → Nat → Int64} {Q : ab_Q} {b : Nat → Nat} {n sd : Nat} {S : ps} (hn2 : n ≤ 2000) (hV : PV S) (hW : PW S) (hP : MP b n sd S (sT S + 1) I G) (hf : sR S < 6) (hy : (sqT b n [24, 24, (if kd b n (sT S + 3) = 11 then 11 else 10), 59] (sT S + 1)).1 = 0 → ∀ I2 G2, fmp sd I I2 → (∀ q, q ≠ 63 → G2 q = G q) → MP b n sd (nwR b n S) (sT S + 5) I2 G2 → Q none (hp Lx tt rt u I2 G2)) (hn : ∀ k tok, ¬ k = 0 → sqT b n [24, 24, (if kd b n (sT S + 3) = 11 then 11 else 10), 59] (sT S + 1) = (k, tok) → ∀ I2, fmp sd I I2 → FM b n k tok I2 → Q none (hp Lx tt rt u I2 G)) : ab_call ab_MT (d + 5) 209 [.ref 55] (hp Lx tt rt u I G) 0 0 Q := by
  obtain ⟨hM, hE, hN, hQ, hX⟩ := id hP
  obtain ⟨v1, v2, v3, v4, v5, v6⟩ := id hV
  obtain ⟨-, ht, hgd, r11, r13⟩ := id hM
  obtain ⟨⟨c1, c2, c3, c4, c5⟩, c6, c7, c8, c9⟩ := id hQ
  have c1 : I 65 sd = nI (sC S) := c1
  have c2 : I 67 sd = nI (sD S) := c2
  have c3 : I 69 sd = nI (sR S) := c3
  have c4 : I 72 sd = nI (sP S) := c4
  have c6 : ∀ c, c < sC S → I 66 (6 * sd + c) = sW S c := c6
  have c8 : ∀ i, i < sR S → I 70 (6 * sd + i) = sQ S i ∧ I 71 (6 * sd + i) = b1 (sU S i) := c8
  have c9 : ∀ a, a < sP S → I 73 (5 * sd + a) = (sH S).1 a ∧ I 74 (5 * sd + a) = (sH S).2.1 a ∧ I 75 (5 * sd + a) = (sH S).2.2 a := c9
  have hsd := hX.2.1
  have hsd1 := hX.2.2.1
  have hs9 := v5
  refine wx_in (M := mX11_tellRelic) rfl rfl rfl (Nat.le_of_ble_eq_true rfl) ?_
  refine wx_bipush (v := (nI 6)) rfl (e := 2) rfl (by decide) ?_
  refine wx_aload_n rfl (e := 3) rfl rfl ?_
  refine wx_geti rfl (e := 6) rfl rfl ?_
  rw [hsd]
  refine wn_imul rfl (e := 7) rfl ?_
  refine wx_aload_n rfl (e := 8) rfl rfl ?_
  refine wx_getr rfl (e := 11) rfl rfl rfl ?_
  refine wx_aload_n rfl (e := 12) rfl rfl ?_
  refine wx_geti rfl (e := 15) rfl rfl ?_
  rw [hsd]
  refine wn_iald rfl (e := 16) rfl rfl (by omega) (by decide) ?_
  rw [c3]
  refine wn_iadd rfl (e := 17) rfl ?_
  refine wx_istore_n (L2 := [_, _, _]) rfl (e := 18) rfl (by decide) rfl ?_
  refine wx_aload_n rfl (e := 19) rfl rfl ?_
  refine wx_cv0 (mc := 0) (ms := 0) rfl (e := 22) rfl rfl (Nat.le_of_ble_eq_true rfl) ⟨by decide, by decide⟩ ?_
  refine c_named hn2 hM hE (fun w => Nat.lt_of_lt_of_le (hW.1 w) (by omega)) hN (fun hk1 h41 I2 f2 M2 E2 => ?_) (fun k1 hc1 FF => ?_)
  · refine wx_istore_n (L2 := [_, _, _]) rfl (e := 23) rfl (by decide) rfl ?_
    refine wx_aload_n rfl (e := 24) rfl rfl ?_
    refine wx_getr rfl (e := 27) rfl rfl rfl ?_
    refine wx_iload_n rfl (e := 28) rfl rfl ?_
    refine wx_aload_n rfl (e := 29) rfl rfl ?_
    refine wx_cv0 (mc := 0) (ms := 0) rfl (e := 32) rfl rfl (Nat.le_of_ble_eq_true rfl) ⟨by decide, by decide⟩ ?_
    refine c_known hn2 M2 E2 (lte_2 (fun w => Nat.lt_of_lt_of_le (hW.1 w) (by omega)) (by omega)) (N := sM S) (hN.kept (f2.2 20 (by omega)) (f2.1 64 (by decide)) rfl) (fun hk2 h42 I3 f3 M3 E3 => ?_) (fun k2 hc2 FF => ?_)
    · have M3b : MS b n (sT S + 1 + 1 + 1) (wr I3 70 (6 * sd + sR S) (chN_ b n S (sT S + 2))) G := M3.q (fun q h => wr_other _ _ _ _ (by omega)) (fun k h => by rw [wr_other _ _ _ _ (by omega)])
      have r34 := M3b.2.2.2.2
      have P3 : fmp sd I (wr I3 70 (6 * sd + sR S) (chN_ b n S (sT S + 2))) := f2.p.tr (f3.p.tr (fmp.w (by unfold own; omega)))
      have hkl := kd62 b n (sT S + 1 + 1 + 1)
      refine wn_iast rfl (e := 33) rfl rfl (by decide) (by omega) (by decide) ?_
      refine wx_aload_n rfl (e := 34) rfl rfl ?_
      refine wx_geti rfl (e := 37) rfl rfl ?_
      first | rw [wr_other _ _ _ _ (by decide), M3.2.2.2.2] | rw [wr_other _ _ _ _ (by decide), FF.2.2.1]
      refine wn_if_ne rfl (e := 40) rfl (by omega) (fun c_37 => absurd c_37 (by omega)) (fun c_37 => ?_)
      refine wx_aload_n rfl (e := 41) rfl rfl ?_
      refine wx_bipush (v := (nI 24)) rfl (e := 43) rfl (by decide) ?_
      refine wx_cv1 (mc := 0) (ms := 0) rfl (e := 46) rfl rfl (Nat.le_of_ble_eq_true rfl) ⟨by decide, by decide⟩ ?_
      refine c_is M3b (κ := 10) (by decide) (by decide) (by decide) (fun hzt => ?_) (fun hzt => ?_)
      · have r84 : (wr (wr I3 70 (6 * sd + sR S) (chN_ b n S (sT S + 2))) 71 (6 * sd + sR S) (nI 1)) 55 13 = nI 0 := by rw [wr_other _ _ _ _ (by decide)]; exact M3b.2.2.2.2
        refine wn_if_ne rfl (e := 49) rfl (by omega) (fun c_46 => ?_) (fun c_46 => absurd c_46 (by omega))
        refine wx_aload_n rfl (e := 64) rfl rfl ?_
        refine wx_getr rfl (e := 67) rfl rfl rfl ?_
        refine wx_iload_n rfl (e := 68) rfl rfl ?_
        refine wx_aload_n rfl (e := 69) rfl rfl ?_
        refine wx_bipush (v := (nI 24)) rfl (e := 71) rfl (by decide) ?_
        refine wx_cv1 (mc := 0) (ms := 0) rfl (e := 74) rfl rfl (Nat.le_of_ble_eq_true rfl) ⟨by decide, by decide⟩ ?_
        refine c_is M3b (κ := 10) (by decide) (by decide) (by decide) (fun hq1 => ?_) (fun hq1 => absurd hzt hq1)
        refine wn_if_eq rfl (e := 77) rfl (by omega) (fun c_74 => absurd c_74 (by omega)) (fun c_74 => ?_)
        refine wx_iconst (v := (nI 1)) rfl (e := 78) rfl (by decide) ?_
        refine wx_goto rfl ?_
        refine wn_iast rfl (e := 83) rfl rfl (by decide) (by omega) (by decide) ?_
        refine wx_aload_n rfl (e := 84) rfl rfl ?_
        refine wx_geti rfl (e := 87) rfl rfl ?_
        first | rw [wr_other _ _ _ _ (by decide), wr_other _ _ _ _ (by decide), M3.2.2.2.2] | rw [wr_other _ _ _ _ (by decide), FF.2.2.1] | rw [wr_other _ _ _ _ (by decide), wr_other _ _ _ _ (by decide), FF.2.2.1]
        refine wn_if_ne rfl (e := 90) rfl (by omega) (fun c_87 => absurd c_87 (by omega)) (fun c_87 => ?_)
        refine wx_aload_n rfl (e := 91) rfl rfl ?_
        refine wx_cv0 (mc := 0) (ms := 0) rfl (e := 94) rfl rfl (Nat.le_of_ble_eq_true rfl) ⟨by decide, by decide⟩ ?_
        have M4b : MS b n (sT S + 1 + 1 + 1) (wr (wr I3 70 (6 * sd + sR S) (chN_ b n S (sT S + 2))) 71 (6 * sd + sR S) (nI 1)) G := M3b.q (fun q h => wr_other _ _ _ _ (by omega)) (fun k h => by rw [wr_other _ _ _ _ (by omega)])
        have hkt : kd b n (sT S + 1 + 1 + 1) = (if kd b n (sT S + 3) = 11 then 11 else 10) := by show kd b n (sT S + 3) = _; rw [if_neg (by rw [show kd b n (sT S + 3) = 10 from hzt]; decide)]; exact hzt
        refine c_goes M4b (fun h4 => ?_) (fun h4 => ?_)
        · have M5b := M4b.nx h4 (by omega)
          refine wx_aload_n rfl (e := 95) rfl rfl ?_
          refine wx_iload_n rfl (e := 96) rfl rfl ?_
          refine wx_iconst (v := (-1)) rfl (e := 97) rfl (by decide) ?_
          refine wx_cv2 (mc := 0) (ms := 0) rfl (e := 100) rfl rfl (Nat.le_of_ble_eq_true rfl) ⟨by decide, by decide⟩ ?_
          have q20 : nx (sT S + 1 + 1 + 1) (wr (wr I3 70 (6 * sd + sR S) (chN_ b n S (sT S + 2))) 71 (6 * sd + sR S) (nI 1)) 55 20 = I 55 20 := by rw [nx.f (by decide), wr_other _ _ _ _ (by decide), wr_other _ _ _ _ (by decide), f3.2 20 (by omega), f2.2 20 (by omega)]
          have q64 : nx (sT S + 1 + 1 + 1) (wr (wr I3 70 (6 * sd + sR S) (chN_ b n S (sT S + 2))) 71 (6 * sd + sR S) (nI 1)) 64 = I 64 := by rw [nx.q (by decide), wr_other _ _ _ _ (by decide), wr_other _ _ _ _ (by decide), f3.1 64 (by decide), f2.1 64 (by decide)]
          refine c_ends M5b (N := sM S) (hN.kept q20 q64 rfl) (by omega) (tok := sT S + 1) (by omega) hk1 (fun hk5 h45 I6 G6 a1 a2 a3 M6 N6 => ?_) (fun k5 hc5 FF => ?_)
          · have r65 := M6.2.2.2.2
            have row : ∀ q, q ≠ 55 → q ≠ 64 → q ≠ 70 → q ≠ 71 → I6 q = I q := fun q y1 y2 y3 y4 => by rw [a1 q y1 y2, nx.q y1, wr_other _ _ _ _ y4, wr_other _ _ _ _ y3, f3.1 q y1, f2.1 q y1]
            have fld : ∀ k, ¬ (k = 11 ∨ (13 ≤ k ∧ k ≤ 16) ∨ k = 20) → I6 55 k = I 55 k := fun k hk => by rw [a2 k (by omega) (by omega), nx.f (by omega), wr_other _ _ _ _ (by decide), wr_other _ _ _ _ (by decide), f3.2 k (by omega), f2.2 k (by omega)]
            have SD6 : I6 55 19 = nI sd := (fld 19 (by decide)).trans hsd
            have PP6 : I6 69 sd = nI (sR S) := by rw [row 69 (by decide) (by decide) (by decide) (by decide)]; exact c3
            have e70 : ∀ a, I6 70 (6 * sd + a) = if 6 * sd + a = (6 * sd + sR S) then chN_ b n S (sT S + 2) else I 70 (6 * sd + a) := fun a => by rw [a1 70 (by decide) (by decide), nx.q (by decide), wr_other _ _ _ _ (by decide), wr_at, if_pos rfl, f3.1 70 (by decide), f2.1 70 (by decide)]
            have e71 : ∀ a, I6 71 (6 * sd + a) = if 6 * sd + a = (6 * sd + sR S) then nI 1 else I 71 (6 * sd + a) := fun a => by rw [a1 71 (by decide) (by decide), nx.q (by decide), wr_at, if_pos rfl, wr_other _ _ _ _ (by decide), f3.1 71 (by decide), f2.1 71 (by decide)]
            refine wx_aload_n rfl (e := 101) rfl rfl ?_
            refine wx_geti rfl (e := 104) rfl rfl ?_
            first | rw [r65] | rw [FF.2.2.1] | rw [wr_other _ _ _ _ (by decide), FF.2.2.1] | rw [wr_other _ _ _ _ (by decide), wr_other _ _ _ _ (by decide), FF.2.2.1]
            refine wn_if_ne rfl (e := 107) rfl (by omega) (fun c_104 => absurd c_104 (by omega)) (fun c_104 => ?_)
            refine wx_aload_n rfl (e := 108) rfl rfl ?_
            refine wx_getr rfl (e := 111) rfl rfl rfl ?_
            refine wx_aload_n rfl (e := 112) rfl rfl ?_
            refine wx_geti rfl (e := 115) rfl rfl ?_
            rw [SD6]
            refine wx_dup2 rfl (e := 116) rfl ⟨rfl, rfl⟩ ?_
            refine wn_iald rfl (e := 117) rfl rfl (by omega) (by decide) ?_
            rw [PP6]
            refine wx_iconst (v := (nI 1)) rfl (e := 118) rfl (by decide) ?_
            refine wn_iadd rfl (e := 119) rfl ?_
            refine wn_iast rfl (e := 120) rfl rfl (by decide) (by omega) (by decide) ?_
            refine wx_ret rfl rfl ⟨by decide, by decide⟩ ?_
            have P6 : fmp sd I I6 := P3.tr ((fmp.w (by unfold own; omega)).tr (nx.p.tr (fm6 a1 a2)))
            have ev : decide (¬ kd b n (sT S + 3) = 11) = true := decide_eq_true (by rw [show kd b n (sT S + 3) = 10 from hzt]; decide)
            refine hy (by rw [sqT_y hk1 h41, sqT_y hk2 h42, sqT_y hkt h4, sqT_y hk5 h45]; rfl) (wr I6 69 sd (nI (sR S + 1))) G6 (P6.tr (fmp.w (by unfold own; omega))) a3 ⟨M6.q (fun q h => wr_other _ _ _ _ (by omega)) (fun k h => by rw [wr_other _ _ _ _ (by omega)]), ?_, N6.kept (by rw [wr_other _ _ _ _ (by decide)]) (wr_other _ _ _ _ (by decide)) rfl, ?_, hX.kept (by show sT S + 1 ≤ sT S + 5; omega) (fun q y1 y2 => ?_) ?_ ?_ ?_ ?_⟩
            · exact E3.t (by rw [wr_other _ _ _ _ (by decide), a2 15 (by decide) (by decide), nx.f (by decide), wr_other _ _ _ _ (by decide), wr_other _ _ _ _ (by decide)]) (by rw [wr_other _ _ _ _ (by decide), a2 16 (by decide) (by decide), nx.f (by decide), wr_other _ _ _ _ (by decide), wr_other _ _ _ _ (by decide)])
            · refine ⟨⟨by rw [wr_other _ _ _ _ (by decide), row 65 (by decide) (by decide) (by decide) (by decide)]; exact c1, by rw [wr_other _ _ _ _ (by decide), row 67 (by decide) (by decide) (by decide) (by decide)]; exact c2, by rw [wr_eq]; rfl, by rw [wr_other _ _ _ _ (by decide), row 72 (by decide) (by decide) (by decide) (by decide)]; exact c4, by rw [wr_other _ _ _ _ (by decide), row 76 (by decide) (by decide) (by decide) (by decide)]; exact c5⟩, by rw [wr_other _ _ _ _ (by decide), row 66 (by decide) (by decide) (by decide) (by decide)]; exact c6, fun y => by rw [wr_other _ _ _ _ (by decide), row 68 (by decide) (by decide) (by decide) (by decide)]; exact c7 (lte_0 (by decide) (lte_0 (by decide) y)), fun e he => ?_, by rw [wr_other _ _ _ _ (by decide), wr_other _ _ _ _ (by decide), wr_other _ _ _ _ (by decide), row 73 (by decide) (by decide) (by decide) (by decide), row 74 (by decide) (by decide) (by decide) (by decide), row 75 (by decide) (by decide) (by decide) (by decide)]; exact c9⟩
              have he : e < sR S + 1 := he
              rw [wr_other _ _ _ _ (by decide), wr_other _ _ _ _ (by decide), e70, e71]
              show _ = set1 (sQ S) (sR S) _ e ∧ _ = b1 (set1 (sU S) (sR S) (decide (¬ kd b n (sT S + 3) = 11)) e)
              rw [ev]
              unfold set1
              by_cases ze : e = sR S
              · rw [if_pos ze, if_pos ze, if_pos (by omega), if_pos (by omega)]; exact ⟨rfl, rfl⟩
              · rw [if_neg ze, if_neg ze, if_neg (by omega), if_neg (by omega)]; exact c8 e (by omega)
            · rw [wr_other _ _ _ _ (by omega), row q (by omega) (by omega) (by omega) (by omega)]
            · rw [wr_other _ _ _ _ (by decide)]; exact fld 12 (by decide)
            · rw [wr_other _ _ _ _ (by decide)]; exact fld 19 (by decide)
            · rw [wr_other _ _ _ _ (by decide)]; exact fld 43 (by decide)
            · rw [wr_other _ _ _ _ (by decide)]; exact fld 37 (by decide)
          · have k1_ := FF.1
            have k2_ := FF.2.1
            refine wx_aload_n rfl (e := 101) rfl rfl ?_
            refine wx_geti rfl (e := 104) rfl rfl ?_
            first | rw [r65] | rw [FF.2.2.1] | rw [wr_other _ _ _ _ (by decide), FF.2.2.1] | rw [wr_other _ _ _ _ (by decide), wr_other _ _ _ _ (by decide), FF.2.2.1]
            refine wn_if_ne rfl (e := 107) rfl (by omega) (fun c_104 => ?_) (fun c_104 => absurd c_104 (by omega))
            refine wx_ret rfl rfl ⟨by decide, by decide⟩ ?_
            rcases hc5 with ⟨w1, w2⟩ | ⟨w1, w2, w3⟩
            · subst w1; exact hn 1 _ (by decide) (by rw [sqT_y hk1 h41, sqT_y hk2 h42, sqT_y hkt h4]; exact sqT_1 w2) _ (P3.tr ((fmp.w (by unfold own; omega)).tr (nx.p.tr ft.p))) FF
            · subst w1; exact hn 2 _ (by decide) (by rw [sqT_y hk1 h41, sqT_y hk2 h42, sqT_y hkt h4]; exact sqT_2 w2 w3) _ (P3.tr ((fmp.w (by unfold own; omega)).tr (nx.p.tr ft.p))) FF
        · have FF : FM b n 2 (sT S + 1 + 1 + 1) (ft 2 (stA b n (sT S + 1 + 1 + 1)) (wr (wr I3 70 (6 * sd + sR S) (chN_ b n S (sT S + 2))) 71 (6 * sd + sR S) (nI 1))) := ft.m (by decide) (by decide)
          refine wx_aload_n rfl (e := 95) rfl rfl ?_
          refine wx_iload_n rfl (e := 96) rfl rfl ?_
          refine wx_iconst (v := (-1)) rfl (e := 97) rfl (by decide) ?_
          refine wx_cv2 (mc := 0) (ms := 0) rfl (e := 100) rfl rfl (Nat.le_of_ble_eq_true rfl) ⟨by decide, by decide⟩ ?_
          refine c_ends0 FF.1 (by have := FF.2.1; omega) FF.2.2.1 ?_
          refine wx_aload_n rfl (e := 101) rfl rfl ?_
          refine wx_geti rfl (e := 104) rfl rfl ?_
          first | rw [r65] | rw [FF.2.2.1] | rw [wr_other _ _ _ _ (by decide), FF.2.2.1] | rw [wr_other _ _ _ _ (by decide), wr_other _ _ _ _ (by decide), FF.2.2.1]
          refine wn_if_ne rfl (e := 107) rfl (by omega) (fun c_104 => ?_) (fun c_104 => absurd c_104 (by omega))
          refine wx_ret rfl rfl ⟨by decide, by decide⟩ ?_
          exact hn 2 _ (by decide) (by rw [sqT_y hk1 h41, sqT_y hk2 h42]; exact sqT_2 (by rw [if_neg (by rw [show kd b n (sT S + 3) = 10 from hzt]; decide)]; exact hzt) h4) _ (P3.tr ((fmp.w (by unfold own; omega)).tr ft.p)) FF
      · refine wn_if_ne rfl (e := 49) rfl (by omega) (fun c_46 => absurd c_46 (by omega)) (fun c_46 => ?_)
        refine wx_aload_n rfl (e := 50) rfl rfl ?_
        refine wx_bipush (v := (nI 25)) rfl (e := 52) rfl (by decide) ?_
        refine wx_cv1 (mc := 0) (ms := 0) rfl (e := 55) rfl rfl (Nat.le_of_ble_eq_true rfl) ⟨by decide, by decide⟩ ?_
        refine c_is M3b (κ := 11) (by decide) (by decide) (by decide) (fun hzc => ?_) (fun hzc => ?_)
        · have r84 : (wr (wr I3 70 (6 * sd + sR S) (chN_ b n S (sT S + 2))) 71 (6 * sd + sR S) (nI 0)) 55 13 = nI 0 := by rw [wr_other _ _ _ _ (by decide)]; exact M3b.2.2.2.2
          refine wn_if_ne rfl (e := 58) rfl (by omega) (fun c_55 => ?_) (fun c_55 => absurd c_55 (by omega))
          refine wx_aload_n rfl (e := 64) rfl rfl ?_
          refine wx_getr rfl (e := 67) rfl rfl rfl ?_
          refine wx_iload_n rfl (e := 68) rfl rfl ?_
          refine wx_aload_n rfl (e := 69) rfl rfl ?_
          refine wx_bipush (v := (nI 24)) rfl (e := 71) rfl (by decide) ?_
          refine wx_cv1 (mc := 0) (ms := 0) rfl (e := 74) rfl rfl (Nat.le_of_ble_eq_true rfl) ⟨by decide, by decide⟩ ?_
          refine c_is M3b (κ := 10) (by decide) (by decide) (by decide) (fun hq1 => absurd hq1 (by omega)) (fun hq1 => ?_)
          refine wn_if_eq rfl (e := 77) rfl (by omega) (fun c_74 => ?_) (fun c_74 => absurd c_74 (by omega))
          refine wx_iconst (v := (nI 0)) rfl (e := 82) rfl (by decide) ?_
          refine wn_iast rfl (e := 83) rfl rfl (by decide) (by omega) (by decide) ?_
          refine wx_aload_n rfl (e := 84) rfl rfl ?_
          refine wx_geti rfl (e := 87) rfl rfl ?_
          first | rw [wr_other _ _ _ _ (by decide), wr_other _ _ _ _ (by decide), M3.2.2.2.2] | rw [wr_other _ _ _ _ (by decide), FF.2.2.1] | rw [wr_other _ _ _ _ (by decide), wr_other _ _ _ _ (by decide), FF.2.2.1]
          refine wn_if_ne rfl (e := 90) rfl (by omega) (fun c_87 => absurd c_87 (by omega)) (fun c_87 => ?_)
          refine wx_aload_n rfl (e := 91) rfl rfl ?_
          refine wx_cv0 (mc := 0) (ms := 0) rfl (e := 94) rfl rfl (Nat.le_of_ble_eq_true rfl) ⟨by decide, by decide⟩ ?_
          have M4b : MS b n (sT S + 1 + 1 + 1) (wr (wr I3 70 (6 * sd + sR S) (chN_ b n S (sT S + 2))) 71 (6 * sd + sR S) (nI 0)) G := M3b.q (fun q h => wr_other _ _ _ _ (by omega)) (fun k h => by rw [wr_other _ _ _ _ (by omega)])
          have hkt : kd b n (sT S + 1 + 1 + 1) = (if kd b n (sT S + 3) = 11 then 11 else 10) := by show kd b n (sT S + 3) = _; rw [if_pos hzc]; exact hzc
          refine c_goes M4b (fun h4 => ?_) (fun h4 => ?_)
          · have M5b := M4b.nx h4 (by omega)
            refine wx_aload_n rfl (e := 95) rfl rfl ?_
            refine wx_iload_n rfl (e := 96) rfl rfl ?_
            refine wx_iconst (v := (-1)) rfl (e := 97) rfl (by decide) ?_
            refine wx_cv2 (mc := 0) (ms := 0) rfl (e := 100) rfl rfl (Nat.le_of_ble_eq_true rfl) ⟨by decide, by decide⟩ ?_
            have q20 : nx (sT S + 1 + 1 + 1) (wr (wr I3 70 (6 * sd + sR S) (chN_ b n S (sT S + 2))) 71 (6 * sd + sR S) (nI 0)) 55 20 = I 55 20 := by rw [nx.f (by decide), wr_other _ _ _ _ (by decide), wr_other _ _ _ _ (by decide), f3.2 20 (by omega), f2.2 20 (by omega)]
            have q64 : nx (sT S + 1 + 1 + 1) (wr (wr I3 70 (6 * sd + sR S) (chN_ b n S (sT S + 2))) 71 (6 * sd + sR S) (nI 0)) 64 = I 64 := by rw [nx.q (by decide), wr_other _ _ _ _ (by decide), wr_other _ _ _ _ (by decide), f3.1 64 (by decide), f2.1 64 (by decide)]
            refine c_ends M5b (N := sM S) (hN.kept q20 q64 rfl) (by omega) (tok := sT S + 1) (by omega) hk1 (fun hk5 h45 I6 G6 a1 a2 a3 M6 N6 => ?_) (fun k5 hc5 FF => ?_)
            · have r65 := M6.2.2.2.2
              have row : ∀ q, q ≠ 55 → q ≠ 64 → q ≠ 70 → q ≠ 71 → I6 q = I q := fun q y1 y2 y3 y4 => by rw [a1 q y1 y2, nx.q y1, wr_other _ _ _ _ y4, wr_other _ _ _ _ y3, f3.1 q y1, f2.1 q y1]
              have fld : ∀ k, ¬ (k = 11 ∨ (13 ≤ k ∧ k ≤ 16) ∨ k = 20) → I6 55 k = I 55 k := fun k hk => by rw [a2 k (by omega) (by omega), nx.f (by omega), wr_other _ _ _ _ (by decide), wr_other _ _ _ _ (by decide), f3.2 k (by omega), f2.2 k (by omega)]
              have SD6 : I6 55 19 = nI sd := (fld 19 (by decide)).trans hsd
              have PP6 : I6 69 sd = nI (sR S) := by rw [row 69 (by decide) (by decide) (by decide) (by decide)]; exact c3
              have e70 : ∀ a, I6 70 (6 * sd + a) = if 6 * sd + a = (6 * sd + sR S) then chN_ b n S (sT S + 2) else I 70 (6 * sd + a) := fun a => by rw [a1 70 (by decide) (by decide), nx.q (by decide), wr_other _ _ _ _ (by decide), wr_at, if_pos rfl, f3.1 70 (by decide), f2.1 70 (by decide)]
              have e71 : ∀ a, I6 71 (6 * sd + a) = if 6 * sd + a = (6 * sd + sR S) then nI 0 else I 71 (6 * sd + a) := fun a => by rw [a1 71 (by decide) (by decide), nx.q (by decide), wr_at, if_pos rfl, wr_other _ _ _ _ (by decide), f3.1 71 (by decide), f2.1 71 (by decide)]
              refine wx_aload_n rfl (e := 101) rfl rfl ?_
              refine wx_geti rfl (e := 104) rfl rfl ?_
              first | rw [r65] | rw [FF.2.2.1] | rw [wr_other _ _ _ _ (by decide), FF.2.2.1] | rw [wr_other _ _ _ _ (by decide), wr_other _ _ _ _ (by decide), FF.2.2.1]
              refine wn_if_ne rfl (e := 107) rfl (by omega) (fun c_104 => absurd c_104 (by omega)) (fun c_104 => ?_)
              refine wx_aload_n rfl (e := 108) rfl rfl ?_
              refine wx_getr rfl (e := 111) rfl rfl rfl ?_
              refine wx_aload_n rfl (e := 112) rfl rfl ?_
              refine wx_geti rfl (e := 115) rfl rfl ?_
              rw [SD6]
              refine wx_dup2 rfl (e := 116) rfl ⟨rfl, rfl⟩ ?_
              refine wn_iald rfl (e := 117) rfl rfl (by omega) (by decide) ?_
              rw [PP6]
              refine wx_iconst (v := (nI 1)) rfl (e := 118) rfl (by decide) ?_
              refine wn_iadd rfl (e := 119) rfl ?_
              refine wn_iast rfl (e := 120) rfl rfl (by decide) (by omega) (by decide) ?_
              refine wx_ret rfl rfl ⟨by decide, by decide⟩ ?_
              have P6 : fmp sd I I6 := P3.tr ((fmp.w (by unfold own; omega)).tr (nx.p.tr (fm6 a1 a2)))
              have ev : decide (¬ kd b n (sT S + 3) = 11) = false := decide_eq_false (fun w => w hzc)
              refine hy (by rw [sqT_y hk1 h41, sqT_y hk2 h42, sqT_y hkt h4, sqT_y hk5 h45]; rfl) (wr I6 69 sd (nI (sR S + 1))) G6 (P6.tr (fmp.w (by unfold own; omega))) a3 ⟨M6.q (fun q h => wr_other _ _ _ _ (by omega)) (fun k h => by rw [wr_other _ _ _ _ (by omega)]), ?_, N6.kept (by rw [wr_other _ _ _ _ (by decide)]) (wr_other _ _ _ _ (by decide)) rfl, ?_, hX.kept (by show sT S + 1 ≤ sT S + 5; omega) (fun q y1 y2 => ?_) ?_ ?_ ?_ ?_⟩
              · exact E3.t (by rw [wr_other _ _ _ _ (by decide), a2 15 (by decide) (by decide), nx.f (by decide), wr_other _ _ _ _ (by decide), wr_other _ _ _ _ (by decide)]) (by rw [wr_other _ _ _ _ (by decide), a2 16 (by decide) (by decide), nx.f (by decide), wr_other _ _ _ _ (by decide), wr_other _ _ _ _ (by decide)])
              · refine ⟨⟨by rw [wr_other _ _ _ _ (by decide), row 65 (by decide) (by decide) (by decide) (by decide)]; exact c1, by rw [wr_other _ _ _ _ (by decide), row 67 (by decide) (by decide) (by decide) (by decide)]; exact c2, by rw [wr_eq]; rfl, by rw [wr_other _ _ _ _ (by decide), row 72 (by decide) (by decide) (by decide) (by decide)]; exact c4, by rw [wr_other _ _ _ _ (by decide), row 76 (by decide) (by decide) (by decide) (by decide)]; exact c5⟩, by rw [wr_other _ _ _ _ (by decide), row 66 (by decide) (by decide) (by decide) (by decide)]; exact c6, fun y => by rw [wr_other _ _ _ _ (by decide), row 68 (by decide) (by decide) (by decide) (by decide)]; exact c7 (lte_0 (by decide) (lte_0 (by decide) y)), fun e he => ?_, by rw [wr_other _ _ _ _ (by decide), wr_other _ _ _ _ (by decide), wr_other _ _ _ _ (by decide), row 73 (by decide) (by decide) (by decide) (by decide), row 74 (by decide) (by decide) (by decide) (by decide), row 75 (by decide) (by decide) (by decide) (by decide)]; exact c9⟩
                have he : e < sR S + 1 := he
                rw [wr_other _ _ _ _ (by decide), wr_other _ _ _ _ (by decide), e70, e71]
                show _ = set1 (sQ S) (sR S) _ e ∧ _ = b1 (set1 (sU S) (sR S) (decide (¬ kd b n (sT S + 3) = 11)) e)
                rw [ev]
                unfold set1
                by_cases ze : e = sR S
                · rw [if_pos ze, if_pos ze, if_pos (by omega), if_pos (by omega)]; exact ⟨rfl, rfl⟩
                · rw [if_neg ze, if_neg ze, if_neg (by omega), if_neg (by omega)]; exact c8 e (by omega)
              · rw [wr_other _ _ _ _ (by omega), row q (by omega) (by omega) (by omega) (by omega)]
              · rw [wr_other _ _ _ _ (by decide)]; exact fld 12 (by decide)
              · rw [wr_other _ _ _ _ (by decide)]; exact fld 19 (by decide)
              · rw [wr_other _ _ _ _ (by decide)]; exact fld 43 (by decide)
              · rw [wr_other _ _ _ _ (by decide)]; exact fld 37 (by decide)
            · have k1_ := FF.1
              have k2_ := FF.2.1
              refine wx_aload_n rfl (e := 101) rfl rfl ?_
              refine wx_geti rfl (e := 104) rfl rfl ?_
              first | rw [r65] | rw [FF.2.2.1] | rw [wr_other _ _ _ _ (by decide), FF.2.2.1] | rw [wr_other _ _ _ _ (by decide), wr_other _ _ _ _ (by decide), FF.2.2.1]
              refine wn_if_ne rfl (e := 107) rfl (by omega) (fun c_104 => ?_) (fun c_104 => absurd c_104 (by omega))
              refine wx_ret rfl rfl ⟨by decide, by decide⟩ ?_
              rcases hc5 with ⟨w1, w2⟩ | ⟨w1, w2, w3⟩
              · subst w1; exact hn 1 _ (by decide) (by rw [sqT_y hk1 h41, sqT_y hk2 h42, sqT_y hkt h4]; exact sqT_1 w2) _ (P3.tr ((fmp.w (by unfold own; omega)).tr (nx.p.tr ft.p))) FF
              · subst w1; exact hn 2 _ (by decide) (by rw [sqT_y hk1 h41, sqT_y hk2 h42, sqT_y hkt h4]; exact sqT_2 w2 w3) _ (P3.tr ((fmp.w (by unfold own; omega)).tr (nx.p.tr ft.p))) FF
          · have FF : FM b n 2 (sT S + 1 + 1 + 1) (ft 2 (stA b n (sT S + 1 + 1 + 1)) (wr (wr I3 70 (6 * sd + sR S) (chN_ b n S (sT S + 2))) 71 (6 * sd + sR S) (nI 0))) := ft.m (by decide) (by decide)
            refine wx_aload_n rfl (e := 95) rfl rfl ?_
            refine wx_iload_n rfl (e := 96) rfl rfl ?_
            refine wx_iconst (v := (-1)) rfl (e := 97) rfl (by decide) ?_
            refine wx_cv2 (mc := 0) (ms := 0) rfl (e := 100) rfl rfl (Nat.le_of_ble_eq_true rfl) ⟨by decide, by decide⟩ ?_
            refine c_ends0 FF.1 (by have := FF.2.1; omega) FF.2.2.1 ?_
            refine wx_aload_n rfl (e := 101) rfl rfl ?_
            refine wx_geti rfl (e := 104) rfl rfl ?_
            first | rw [r65] | rw [FF.2.2.1] | rw [wr_other _ _ _ _ (by decide), FF.2.2.1] | rw [wr_other _ _ _ _ (by decide), wr_other _ _ _ _ (by decide), FF.2.2.1]
            refine wn_if_ne rfl (e := 107) rfl (by omega) (fun c_104 => ?_) (fun c_104 => absurd c_104 (by omega))
            refine wx_ret rfl rfl ⟨by decide, by decide⟩ ?_
            exact hn 2 _ (by decide) (by rw [sqT_y hk1 h41, sqT_y hk2 h42]; exact sqT_2 (by rw [if_pos hzc]; exact hzc) h4) _ (P3.tr ((fmp.w (by unfold own; omega)).tr ft.p)) FF
        · refine wn_if_ne rfl (e := 58) rfl (by omega) (fun c_55 => absurd c_55 (by omega)) (fun c_55 => ?_)
          refine wx_aload_n rfl (e := 59) rfl rfl ?_
          refine wx_iconst (v := (nI 1)) rfl (e := 60) rfl (by decide) ?_
          refine wx_cv1 (mc := 0) (ms := 0) rfl (e := 63) rfl rfl (Nat.le_of_ble_eq_true rfl) ⟨by decide, by decide⟩ ?_
          refine c_fail M3b (k := 1) ?_
          have FF : FM b n 1 (sT S + 1 + 1 + 1) (ft 1 (stA b n (sT S + 1 + 1 + 1)) (wr I3 70 (6 * sd + sR S) (chN_ b n S (sT S + 2)))) := ft.m (by decide) (by decide)
          refine wx_aload_n rfl (e := 64) rfl rfl ?_
          refine wx_getr rfl (e := 67) rfl rfl rfl ?_
          refine wx_iload_n rfl (e := 68) rfl rfl ?_
          refine wx_aload_n rfl (e := 69) rfl rfl ?_
          refine wx_bipush (v := (nI 24)) rfl (e := 71) rfl (by decide) ?_
          refine wx_cv1 (mc := 0) (ms := 0) rfl (e := 74) rfl rfl (Nat.le_of_ble_eq_true rfl) ⟨by decide, by decide⟩ ?_
          refine c_is0 FF.1 (by have := FF.2.1; omega) FF.2.2.1 ?_
          refine wn_if_eq rfl (e := 77) rfl (by omega) (fun c_74 => ?_) (fun c_74 => absurd c_74 (by omega))
          refine wx_iconst (v := (nI 0)) rfl (e := 82) rfl (by decide) ?_
          refine wn_iast rfl (e := 83) rfl rfl (by decide) (by omega) (by decide) ?_
          refine wx_aload_n rfl (e := 84) rfl rfl ?_
          refine wx_geti rfl (e := 87) rfl rfl ?_
          first | rw [wr_other _ _ _ _ (by decide), wr_other _ _ _ _ (by decide), M3.2.2.2.2] | rw [wr_other _ _ _ _ (by decide), FF.2.2.1] | rw [wr_other _ _ _ _ (by decide), wr_other _ _ _ _ (by decide), FF.2.2.1]
          refine wn_if_ne rfl (e := 90) rfl (by omega) (fun c_87 => ?_) (fun c_87 => absurd c_87 (by omega))
          refine wx_aload_n rfl (e := 95) rfl rfl ?_
          refine wx_iload_n rfl (e := 96) rfl rfl ?_
          refine wx_iconst (v := (-1)) rfl (e := 97) rfl (by decide) ?_
          refine wx_cv2 (mc := 0) (ms := 0) rfl (e := 100) rfl rfl (Nat.le_of_ble_eq_true rfl) ⟨by decide, by decide⟩ ?_
          refine c_ends0 FF.1 (by have := FF.2.1; omega) (by rw [wr_other _ _ _ _ (by decide)]; exact FF.2.2.1) ?_
          refine wx_aload_n rfl (e := 101) rfl rfl ?_
          refine wx_geti rfl (e := 104) rfl rfl ?_
          first | rw [r65] | rw [FF.2.2.1] | rw [wr_other _ _ _ _ (by decide), FF.2.2.1] | rw [wr_other _ _ _ _ (by decide), wr_other _ _ _ _ (by decide), FF.2.2.1]
          refine wn_if_ne rfl (e := 107) rfl (by omega) (fun c_104 => ?_) (fun c_104 => absurd c_104 (by omega))
          refine wx_ret rfl rfl ⟨by decide, by decide⟩ ?_
          exact hn 1 _ (by decide) (by rw [sqT_y hk1 h41, sqT_y hk2 h42]; exact sqT_1 (by rw [if_neg hzc]; exact hzt)) _ (P3.tr (ft.p.tr (fmp.w (by unfold own; omega)))) (FF.co (by rw [wr_other _ _ _ _ (by decide)]) (by rw [wr_other _ _ _ _ (by decide)]))
    · have k1_ := FF.1
      have k2_ := FF.2.1
      refine wn_iast rfl (e := 33) rfl rfl (by decide) (by omega) (by decide) ?_
      refine wx_aload_n rfl (e := 34) rfl rfl ?_
      refine wx_geti rfl (e := 37) rfl rfl ?_
      first | rw [wr_other _ _ _ _ (by decide), M3.2.2.2.2] | rw [wr_other _ _ _ _ (by decide), FF.2.2.1]
      refine wn_if_ne rfl (e := 40) rfl (by omega) (fun c_37 => ?_) (fun c_37 => absurd c_37 (by omega))
      refine wx_aload_n rfl (e := 64) rfl rfl ?_
      refine wx_getr rfl (e := 67) rfl rfl rfl ?_
      refine wx_iload_n rfl (e := 68) rfl rfl ?_
      refine wx_aload_n rfl (e := 69) rfl rfl ?_
      refine wx_bipush (v := (nI 24)) rfl (e := 71) rfl (by decide) ?_
      refine wx_cv1 (mc := 0) (ms := 0) rfl (e := 74) rfl rfl (Nat.le_of_ble_eq_true rfl) ⟨by decide, by decide⟩ ?_
      refine c_is0 FF.1 (by have := FF.2.1; omega) (by rw [wr_other _ _ _ _ (by decide)]; exact FF.2.2.1) ?_
      refine wn_if_eq rfl (e := 77) rfl (by omega) (fun c_74 => ?_) (fun c_74 => absurd c_74 (by omega))
      refine wx_iconst (v := (nI 0)) rfl (e := 82) rfl (by decide) ?_
      refine wn_iast rfl (e := 83) rfl rfl (by decide) (by omega) (by decide) ?_
      refine wx_aload_n rfl (e := 84) rfl rfl ?_
      refine wx_geti rfl (e := 87) rfl rfl ?_
      first | rw [wr_other _ _ _ _ (by decide), wr_other _ _ _ _ (by decide), M3.2.2.2.2] | rw [wr_other _ _ _ _ (by decide), FF.2.2.1] | rw [wr_other _ _ _ _ (by decide), wr_other _ _ _ _ (by decide), FF.2.2.1]
      refine wn_if_ne rfl (e := 90) rfl (by omega) (fun c_87 => ?_) (fun c_87 => absurd c_87 (by omega))
      refine wx_aload_n rfl (e := 95) rfl rfl ?_
      refine wx_iload_n rfl (e := 96) rfl rfl ?_
      refine wx_iconst (v := (-1)) rfl (e := 97) rfl (by decide) ?_
      refine wx_cv2 (mc := 0) (ms := 0) rfl (e := 100) rfl rfl (Nat.le_of_ble_eq_true rfl) ⟨by decide, by decide⟩ ?_
      refine c_ends0 FF.1 (by have := FF.2.1; omega) (by rw [wr_other _ _ _ _ (by decide), wr_other _ _ _ _ (by decide)]; exact FF.2.2.1) ?_
      refine wx_aload_n rfl (e := 101) rfl rfl ?_
      refine wx_geti rfl (e := 104) rfl rfl ?_
      first | rw [r65] | rw [FF.2.2.1] | rw [wr_other _ _ _ _ (by decide), FF.2.2.1] | rw [wr_other _ _ _ _ (by decide), wr_other _ _ _ _ (by decide), FF.2.2.1]
      refine wn_if_ne rfl (e := 107) rfl (by omega) (fun c_104 => ?_) (fun c_104 => absurd c_104 (by omega))
      refine wx_ret rfl rfl ⟨by decide, by decide⟩ ?_
      rcases hc2 with ⟨w1, w2⟩ | ⟨w1, w2, w3⟩
      · subst w1; exact hn 1 _ (by decide) (by rw [sqT_y hk1 h41, sqT_1 w2]) _ ((f2.p.tr ft.p).tr ((fmp.w (by unfold own; omega)).tr (fmp.w (by unfold own; omega)))) (FF.co (by rw [wr_other _ _ _ _ (by decide), wr_other _ _ _ _ (by decide)]) (by rw [wr_other _ _ _ _ (by decide), wr_other _ _ _ _ (by decide)]))
      · subst w1; exact hn 2 _ (by decide) (by rw [sqT_y hk1 h41, sqT_2 w2 w3]) _ ((f2.p.tr ft.p).tr ((fmp.w (by unfold own; omega)).tr (fmp.w (by unfold own; omega)))) (FF.co (by rw [wr_other _ _ _ _ (by decide), wr_other _ _ _ _ (by decide)]) (by rw [wr_other _ _ _ _ (by decide), wr_other _ _ _ _ (by decide)]))
  · have k1_ := FF.1
    have k2_ := FF.2.1
    refine wx_istore_n (L2 := [_, _, _]) rfl (e := 23) rfl (by decide) rfl ?_
    refine wx_aload_n rfl (e := 24) rfl rfl ?_
    refine wx_getr rfl (e := 27) rfl rfl rfl ?_
    refine wx_iload_n rfl (e := 28) rfl rfl ?_
    refine wx_aload_n rfl (e := 29) rfl rfl ?_
    refine wx_cv0 (mc := 0) (ms := 0) rfl (e := 32) rfl rfl (Nat.le_of_ble_eq_true rfl) ⟨by decide, by decide⟩ ?_
    refine c_known0 FF.1 (by have := FF.2.1; omega) FF.2.2.1 ?_
    refine wn_iast rfl (e := 33) rfl rfl (by decide) (by omega) (by decide) ?_
    refine wx_aload_n rfl (e := 34) rfl rfl ?_
    refine wx_geti rfl (e := 37) rfl rfl ?_
    first | rw [wr_other _ _ _ _ (by decide), M3.2.2.2.2] | rw [wr_other _ _ _ _ (by decide), FF.2.2.1]
    refine wn_if_ne rfl (e := 40) rfl (by omega) (fun c_37 => ?_) (fun c_37 => absurd c_37 (by omega))
    refine wx_aload_n rfl (e := 64) rfl rfl ?_
    refine wx_getr rfl (e := 67) rfl rfl rfl ?_
    refine wx_iload_n rfl (e := 68) rfl rfl ?_
    refine wx_aload_n rfl (e := 69) rfl rfl ?_
    refine wx_bipush (v := (nI 24)) rfl (e := 71) rfl (by decide) ?_
    refine wx_cv1 (mc := 0) (ms := 0) rfl (e := 74) rfl rfl (Nat.le_of_ble_eq_true rfl) ⟨by decide, by decide⟩ ?_
    refine c_is0 FF.1 (by have := FF.2.1; omega) (by rw [wr_other _ _ _ _ (by decide)]; exact FF.2.2.1) ?_
    refine wn_if_eq rfl (e := 77) rfl (by omega) (fun c_74 => ?_) (fun c_74 => absurd c_74 (by omega))
    refine wx_iconst (v := (nI 0)) rfl (e := 82) rfl (by decide) ?_
    refine wn_iast rfl (e := 83) rfl rfl (by decide) (by omega) (by decide) ?_
    refine wx_aload_n rfl (e := 84) rfl rfl ?_
    refine wx_geti rfl (e := 87) rfl rfl ?_
    first | rw [wr_other _ _ _ _ (by decide), wr_other _ _ _ _ (by decide), M3.2.2.2.2] | rw [wr_other _ _ _ _ (by decide), FF.2.2.1] | rw [wr_other _ _ _ _ (by decide), wr_other _ _ _ _ (by decide), FF.2.2.1]
    refine wn_if_ne rfl (e := 90) rfl (by omega) (fun c_87 => ?_) (fun c_87 => absurd c_87 (by omega))
    refine wx_aload_n rfl (e := 95) rfl rfl ?_
    refine wx_iload_n rfl (e := 96) rfl rfl ?_
    refine wx_iconst (v := (-1)) rfl (e := 97) rfl (by decide) ?_
    refine wx_cv2 (mc := 0) (ms := 0) rfl (e := 100) rfl rfl (Nat.le_of_ble_eq_true rfl) ⟨by decide, by decide⟩ ?_
    refine c_ends0 FF.1 (by have := FF.2.1; omega) (by rw [wr_other _ _ _ _ (by decide), wr_other _ _ _ _ (by decide)]; exact FF.2.2.1) ?_
    refine wx_aload_n rfl (e := 101) rfl rfl ?_
    refine wx_geti rfl (e := 104) rfl rfl ?_
    first | rw [r65] | rw [FF.2.2.1] | rw [wr_other _ _ _ _ (by decide), FF.2.2.1] | rw [wr_other _ _ _ _ (by decide), wr_other _ _ _ _ (by decide), FF.2.2.1]
    refine wn_if_ne rfl (e := 107) rfl (by omega) (fun c_104 => ?_) (fun c_104 => absurd c_104 (by omega))
    refine wx_ret rfl rfl ⟨by decide, by decide⟩ ?_
    rcases hc1 with ⟨w1, w2⟩ | ⟨w1, w2, w3⟩
    · subst w1; exact hn 1 _ (by decide) (by exact sqT_1 w2) _ (ft.p.tr ((fmp.w (by unfold own; omega)).tr (fmp.w (by unfold own; omega)))) (FF.co (by rw [wr_other _ _ _ _ (by decide), wr_other _ _ _ _ (by decide)]) (by rw [wr_other _ _ _ _ (by decide), wr_other _ _ _ _ (by decide)]))
    · subst w1; exact hn 2 _ (by decide) (by exact sqT_2 w2 w3) _ (ft.p.tr ((fmp.w (by unfold own; omega)).tr (fmp.w (by unfold own; omega)))) (FF.co (by rw [wr_other _ _ _ _ (by decide), wr_other _ _ _ _ (by decide)]) (by rw [wr_other _ _ _ _ (by decide), wr_other _ _ _ _ (by decide)]))

/-! the model: one statement, whole -/
set_option maxHeartbeats 8000000 in
theorem fdf {d Lx tt rt u : Nat} {I : Nat → Nat → Int32} {G : Nat → Nat → Int64} {Q : ab_Q} {b : Nat → Nat} {n sd : Nat} {S : ps} (hn2 : n ≤ 2000) (hV : PV S) (hW : PW S) (hP : MP b n sd S (sT S) I G) (h26 : ¬ kd b n (sT S) = 26) (h0 : ¬ (kd b n (sT S)) = 0) (h1 : ¬ (kd b n (sT S)) = 1) (h2 : ¬ (kd b n (sT S)) = 2) (h3 : ¬ (kd b n (sT S)) = 3) (h9 : ¬ (kd b n (sT S)) = 9) {x1 : Option Value} (hy : (stX b n S).1 = 0 → ∀ I2 G2, fmp sd I I2 → (∀ q, q ≠ 63 → G2 q = G q) → MP b n sd (stX b n S).2.2 (sT (stX b n S).2.2) I2 G2 → Q none (hp Lx tt rt u I2 G2)) (hn : ¬ (stX b n S).1 = 0 → ∀ I2, fmp sd I I2 → FM b n (stX b n S).1 (stX b n S).2.1 I2 → Q none (hp Lx tt rt u I2 G)) : WP (d + 7) mX11_tellOne Q 281 [some (.ref 55), x1] [] (hp Lx tt rt u I G) 0 0 := by
  obtain ⟨hM, hE, hN, hQ, hX⟩ := id hP
  obtain ⟨v1, v2, v3, v4, v5, v6⟩ := id hV
  obtain ⟨-, ht, hgd, r11, r13⟩ := id hM
  obtain ⟨⟨c1, c2, c3, c4, c5⟩, c6, c7, c8, c9⟩ := id hQ
  have c1 : I 65 sd = nI (sC S) := c1
  have c2 : I 67 sd = nI (sD S) := c2
  have c3 : I 69 sd = nI (sR S) := c3
  have c4 : I 72 sd = nI (sP S) := c4
  have c6 : ∀ c, c < sC S → I 66 (6 * sd + c) = sW S c := c6
  have c8 : ∀ i, i < sR S → I 70 (6 * sd + i) = sQ S i ∧ I 71 (6 * sd + i) = b1 (sU S i) := c8
  have c9 : ∀ a, a < sP S → I 73 (5 * sd + a) = (sH S).1 a ∧ I 74 (5 * sd + a) = (sH S).2.1 a ∧ I 75 (5 * sd + a) = (sH S).2.2 a := c9
  have hsd := hX.2.1
  have hsd1 := hX.2.2.1
  obtain ⟨⟨m, hK, hm⟩, -, -, -, -⟩ := id hM
  have hlt := hm (sT S) ht hgd
  have hkl := kd62 b n (sT S)
  have hkv := kd_vld b n (sT S)
  have hml := mk_lt _ hkl
  have hK1 := hK.1
  have s1 := mk_sw1 _ hkl hkv
  have s2 := mk_sw2 _ hkl hkv
  have s3 := mk_sw3 _ hkl hkv
  refine wx_aload_n rfl (e := 282) rfl rfl ?_
  refine wx_getr rfl (e := 285) rfl rfl rfl ?_
  refine wx_aload_n rfl (e := 286) rfl rfl ?_
  refine wx_geti rfl (e := 289) rfl rfl ?_
  rw [r11]
  refine wn_iald rfl (e := 290) rfl rfl (by omega) (by decide) ?_
  rw [(hK.2.2 (sT S) hlt).1]
  refine wx_bipush (v := (nI 26)) rfl (e := 292) rfl (by decide) ?_
  refine wx_isub rfl (e := 293) rfl ?_
  refine wx_istore_n (L2 := [_, _]) rfl (e := 294) rfl (by decide) rfl ?_
  refine wx_iload_n rfl (e := 295) rfl rfl ?_
  refine wx_if_lt rfl (e := 298) rfl (fun c_295 => ?_) (fun c_295 => ?_)
  · have hlo := (sub26 _ hml).mp (by rw [nI_0]; exact c_295)
    refine wx_aload_n rfl (e := 313) rfl rfl ?_
    refine wx_iconst (v := (nI 1)) rfl (e := 314) rfl (by decide) ?_
    refine wx_cv1 (mc := 0) (ms := 0) rfl (e := 317) rfl rfl (Nat.le_of_ble_eq_true rfl) ⟨by decide, by decide⟩ ?_
    refine c_fail hM (k := 1) ?_
    have FF : FM b n 1 (sT S) (ft 1 (stA b n (sT S)) I) := ft.m (by decide) (by decide)
    have hl : lwQ b n (sT S) = (1, sT S, [], []) := by unfold lwQ; rw [if_neg (by omega)]
    have hst : stX b n S = (1, sT S, S) := by rw [stX_l h0 h1 h2 h3 h9, hl]; rfl
    refine wx_aload_n rfl (e := 318) rfl rfl ?_
    refine wx_geti rfl (e := 321) rfl rfl ?_
    first | rw [r13] | rw [FF.2.2.1]
    refine wn_if_le rfl (e := 324) rfl (by omega) (fun c_321 => absurd c_321 (by omega)) (fun c_321 => ?_)
    refine wx_ret rfl rfl ⟨by decide, by decide⟩ ?_
    rw [hst] at hn
    exact hn (show ¬ 1 = 0 by decide) _ ft.p FF
  · have hlo : ¬ mk (kd b n (sT S)) < 26 := fun w => c_295 (by rw [← nI_0]; exact (sub26 _ hml).mpr w)
    refine wx_aload_n rfl (e := 299) rfl rfl ?_
    refine wx_getr rfl (e := 302) rfl rfl rfl ?_
    refine wx_aload_n rfl (e := 303) rfl rfl ?_
    refine wx_geti rfl (e := 306) rfl rfl ?_
    rw [r11]
    refine wn_iald rfl (e := 307) rfl rfl (by omega) (by decide) ?_
    rw [(hK.2.2 (sT S) hlt).1]
    refine wx_bipush (v := (nI 30)) rfl (e := 309) rfl (by decide) ?_
    refine wn_ic_le rfl (e := 312) rfl (by omega) (by omega) (fun c_309 => ?_) (fun c_309 => ?_)
    · refine wx_aload_n rfl (e := 318) rfl rfl ?_
      refine wx_geti rfl (e := 321) rfl rfl ?_
      first | rw [r13] | rw [FF.2.2.1]
      refine wn_if_le rfl (e := 324) rfl (by omega) (fun c_321 => ?_) (fun c_321 => absurd c_321 (by omega))
      have hkk := s2.2.mp ⟨by omega, by omega⟩
      have hm3 := s3 hkk.1 hkk.2
      have hvv : nI (mk (kd b n (sT S))) - nI 26 = nI ((kd b n (sT S)) - 4) := by rw [hm3, pk_sub (by omega)]; congr 1
      rw [hvv]
      refine fla (S := S) hn2 hP hkk rfl (fun w I2 f2 P2 => ?_) (fun w I2 f2 FF => ?_)
      · have hst : stX b n S = (0, 0, nwL S ((kd b n (sT S)) - 4) (lwQ b n (sT S))) := by rw [stX_l h0 h1 h2 h3 h9, if_pos w]
        rw [hst] at hy
        exact hy rfl I2 G f2 (fun _ _ => rfl) P2
      · have hst : stX b n S = ((lwQ b n (sT S)).1, (lwQ b n (sT S)).2.1, S) := by rw [stX_l h0 h1 h2 h3 h9, if_neg w]
        rw [hst] at hn
        exact hn w I2 f2 FF
    · refine wx_aload_n rfl (e := 313) rfl rfl ?_
      refine wx_iconst (v := (nI 1)) rfl (e := 314) rfl (by decide) ?_
      refine wx_cv1 (mc := 0) (ms := 0) rfl (e := 317) rfl rfl (Nat.le_of_ble_eq_true rfl) ⟨by decide, by decide⟩ ?_
      refine c_fail hM (k := 1) ?_
      have FF : FM b n 1 (sT S) (ft 1 (stA b n (sT S)) I) := ft.m (by decide) (by decide)
      have hl : lwQ b n (sT S) = (1, sT S, [], []) := by unfold lwQ; rw [if_neg (by omega)]
      have hst : stX b n S = (1, sT S, S) := by rw [stX_l h0 h1 h2 h3 h9, hl]; rfl
      refine wx_aload_n rfl (e := 318) rfl rfl ?_
      refine wx_geti rfl (e := 321) rfl rfl ?_
      first | rw [r13] | rw [FF.2.2.1]
      refine wn_if_le rfl (e := 324) rfl (by omega) (fun c_321 => absurd c_321 (by omega)) (fun c_321 => ?_)
      refine wx_ret rfl rfl ⟨by decide, by decide⟩ ?_
      rw [hst] at hn
      exact hn (show ¬ 1 = 0 by decide) _ ft.p FF
set_option maxHeartbeats 8000000 in
theorem c_tellOne {d Lx tt rt u : Nat} {I : Nat → Nat → Int32} {G : Nat → Nat → Int64} {Q : ab_Q} {b : Nat → Nat} {n sd : Nat} {S : ps} (hn2 : n ≤ 2000) (hV : PV S) (hW : PW S) (hP : MP b n sd S (sT S) I G) (h26 : ¬ kd b n (sT S) = 26) (hy : (stX b n S).1 = 0 → ∀ I2 G2, fmp sd I I2 → (∀ q, q ≠ 63 → G2 q = G q) → MP b n sd (stX b n S).2.2 (sT (stX b n S).2.2) I2 G2 → Q none (hp Lx tt rt u I2 G2)) (hn : ¬ (stX b n S).1 = 0 → ∀ I2, fmp sd I I2 → FM b n (stX b n S).1 (stX b n S).2.1 I2 → Q none (hp Lx tt rt u I2 G)) : ab_call ab_MT (d + 8) 203 [.ref 55] (hp Lx tt rt u I G) 0 0 Q := by
  obtain ⟨hM, hE, hN, hQ, hX⟩ := id hP
  obtain ⟨v1, v2, v3, v4, v5, v6⟩ := id hV
  obtain ⟨-, ht, hgd, r11, r13⟩ := id hM
  obtain ⟨⟨c1, c2, c3, c4, c5⟩, c6, c7, c8, c9⟩ := id hQ
  have c1 : I 65 sd = nI (sC S) := c1
  have c2 : I 67 sd = nI (sD S) := c2
  have c3 : I 69 sd = nI (sR S) := c3
  have c4 : I 72 sd = nI (sP S) := c4
  have c6 : ∀ c, c < sC S → I 66 (6 * sd + c) = sW S c := c6
  have c8 : ∀ i, i < sR S → I 70 (6 * sd + i) = sQ S i ∧ I 71 (6 * sd + i) = b1 (sU S i) := c8
  have c9 : ∀ a, a < sP S → I 73 (5 * sd + a) = (sH S).1 a ∧ I 74 (5 * sd + a) = (sH S).2.1 a ∧ I 75 (5 * sd + a) = (sH S).2.2 a := c9
  have hsd := hX.2.1
  have hsd1 := hX.2.2.1
  obtain ⟨⟨m, hK, hm⟩, -, -, -, -⟩ := id hM
  have hlt := hm (sT S) ht hgd
  have hkl := kd62 b n (sT S)
  have hkv := kd_vld b n (sT S)
  have hml := mk_lt _ hkl
  have hK1 := hK.1
  have s1 := mk_sw1 _ hkl hkv
  have s2 := mk_sw2 _ hkl hkv
  have s3 := mk_sw3 _ hkl hkv
  have hti : (nI (mk (kd b n (sT S)))).toInt = (mk (kd b n (sT S)) : Int) := nI_toInt (by omega)
  refine wx_in (M := mX11_tellOne) rfl rfl rfl (Nat.le_of_ble_eq_true rfl) ?_
  refine wx_aload_n rfl (e := 1) rfl rfl ?_
  refine wx_getr rfl (e := 4) rfl rfl rfl ?_
  refine wx_aload_n rfl (e := 5) rfl rfl ?_
  refine wx_geti rfl (e := 8) rfl rfl ?_
  rw [r11]
  refine wn_iald rfl (e := 9) rfl rfl (by omega) (by decide) ?_
  rw [(hK.2.2 (sT S) hlt).1]
  refine wx_sw rfl (fun c_9 => ?_) (List.forall_mem_cons.mpr ⟨fun c_9 => ?_, (List.forall_mem_cons.mpr ⟨fun c_9 => ?_, (List.forall_mem_cons.mpr ⟨fun c_9 => ?_, (List.forall_mem_cons.mpr ⟨fun c_9 => ?_, (List.forall_mem_cons.mpr ⟨fun c_9 => ?_, (List.forall_mem_cons.mpr ⟨fun c_9 => ?_, (List.forall_mem_cons.mpr ⟨fun c_9 => ?_, (List.forall_mem_cons.mpr ⟨fun c_9 => ?_, (List.forall_mem_cons.mpr ⟨fun c_9 => ?_, (List.forall_mem_cons.mpr ⟨fun c_9 => ?_, (List.forall_mem_cons.mpr ⟨fun c_9 => ?_, (List.forall_mem_cons.mpr ⟨fun c_9 => ?_, (fun _ h => absurd h List.not_mem_nil)⟩)⟩)⟩)⟩)⟩)⟩)⟩)⟩)⟩)⟩)⟩)⟩)
  · have c_9 : (mk (kd b n (sT S)) : Int) < 20 ∨ 31 < (mk (kd b n (sT S)) : Int) := by rw [← hti]; exact c_9
    exact fdf hn2 hV hW hP h26 (by omega) (by omega) (by omega) (by omega) (by omega) hy hn
  · have c_9 : Int32.toInt _ = 20 := c_9
    show WP _ _ _ _ _ _ _ _ _
    rw [hti] at c_9
    have hz : (kd b n (sT S)) = 0 := s1.1.mp (by omega)
    refine wx_aload_n rfl (e := 73) rfl rfl ?_
    refine wx_aload_n rfl (e := 74) rfl rfl ?_
    refine wx_getr rfl (e := 77) rfl rfl rfl ?_
    refine wx_aload_n rfl (e := 78) rfl rfl ?_
    refine wx_geti rfl (e := 81) rfl rfl ?_
    rw [hsd]
    refine wn_iald rfl (e := 82) rfl rfl (by omega) (by decide) ?_
    rw [c1]
    refine wx_bipush (v := (nI 6)) rfl (e := 84) rfl (by decide) ?_
    refine wx_cv2 (mc := 0) (ms := 0) rfl (e := 87) rfl rfl (Nat.le_of_ble_eq_true rfl) ⟨by decide, by decide⟩ ?_
    refine c_roomFor hM (v := sC S) (N := 6) (by omega) (by decide) (fun hr h4 => ?_) (fun hr => ?_)
    · have P1 := hP.nx h4 (by omega)
      have g13 : nx (sT S) I 55 13 = nI 0 := by rw [nx.f (by decide)]; exact r13
      refine wx_aload_n rfl (e := 88) rfl rfl ?_
      refine wx_geti rfl (e := 91) rfl rfl ?_
      first | rw [g13] | rw [FF.2.2.1]
      refine wn_if_le rfl (e := 94) rfl (by omega) (fun c_91 => ?_) (fun c_91 => absurd c_91 (by omega))
      refine fch hn2 hV hW P1 (by omega) (fun w I2 G2 f2 g2 P2 => ?_) (fun k2 tok2 hk2 hs2 I2 f2 FF => ?_)
      · have hst : stX b n S = (0, 0, nwC b n S) := by rw [stX_0 hz, if_neg hr, stq_y hz h4, if_pos w]
        rw [hst] at hy
        exact hy rfl I2 G2 (nx.p.tr f2) g2 P2
      · have hst : stX b n S = (k2, tok2, S) := by rw [stX_0 hz, if_neg hr, stq_y hz h4, if_neg (by rw [hs2]; exact hk2), hs2]
        rw [hst] at hn
        exact hn hk2 I2 (nx.p.tr f2) FF
    · have FF : FM b n 2 (sT S) (ft 2 (stA b n (sT S)) I) := ft.m (by decide) (by decide)
      have hst : stX b n S = (2, sT S, S) := by
        rw [stX_0 hz]
        by_cases w : sC S = 6
        · rw [if_pos w]
        · rw [if_neg w, stq_2 hz (by omega)]
      refine wx_aload_n rfl (e := 88) rfl rfl ?_
      refine wx_geti rfl (e := 91) rfl rfl ?_
      first | rw [g13] | rw [FF.2.2.1]
      refine wn_if_le rfl (e := 94) rfl (by omega) (fun c_91 => absurd c_91 (by omega)) (fun c_91 => ?_)
      refine wx_ret rfl rfl ⟨by decide, by decide⟩ ?_
      rw [hst] at hn
      exact hn (show ¬ 2 = 0 by decide) _ ft.p FF
  · have c_9 : Int32.toInt _ = 21 := c_9
    show WP _ _ _ _ _ _ _ _ _
    rw [hti] at c_9
    have hz : (kd b n (sT S)) = 1 := s1.2.1.mp (by omega)
    refine wx_aload_n rfl (e := 167) rfl rfl ?_
    refine wx_aload_n rfl (e := 168) rfl rfl ?_
    refine wx_getr rfl (e := 171) rfl rfl rfl ?_
    refine wx_aload_n rfl (e := 172) rfl rfl ?_
    refine wx_geti rfl (e := 175) rfl rfl ?_
    rw [hsd]
    refine wn_iald rfl (e := 176) rfl rfl (by omega) (by decide) ?_
    rw [c2]
    refine wx_bipush (v := (nI 9)) rfl (e := 178) rfl (by decide) ?_
    refine wx_cv2 (mc := 0) (ms := 0) rfl (e := 181) rfl rfl (Nat.le_of_ble_eq_true rfl) ⟨by decide, by decide⟩ ?_
    refine c_roomFor hM (v := sD S) (N := 9) (by omega) (by decide) (fun hr h4 => ?_) (fun hr => ?_)
    · have P1 := hP.nx h4 (by omega)
      have g13 : nx (sT S) I 55 13 = nI 0 := by rw [nx.f (by decide)]; exact r13
      refine wx_aload_n rfl (e := 182) rfl rfl ?_
      refine wx_geti rfl (e := 185) rfl rfl ?_
      first | rw [g13] | rw [FF.2.2.1]
      refine wn_if_ne rfl (e := 188) rfl (by omega) (fun c_185 => absurd c_185 (by omega)) (fun c_185 => ?_)
      refine wx_aload_n rfl (e := 189) rfl rfl ?_
      refine wx_cv0 (mc := 0) (ms := 0) rfl (e := 192) rfl rfl (Nat.le_of_ble_eq_true rfl) ⟨by decide, by decide⟩ ?_
      refine c_tellRoad hn2 hV hW P1 (by omega) (fun w I2 G2 f2 g2 P2 => ?_) (fun k2 tok2 hk2 hs2 I2 f2 FF => ?_)
      · have hst : stX b n S = (0, 0, nwD b n S) := by rw [stX_1 hz, if_neg hr, stq_y hz h4, if_pos w]
        refine wx_goto rfl ?_
        refine wx_ret rfl rfl ⟨by decide, by decide⟩ ?_
        rw [hst] at hy
        exact hy rfl I2 G2 (nx.p.tr f2) g2 P2
      · have hst : stX b n S = (k2, tok2, S) := by rw [stX_1 hz, if_neg hr, stq_y hz h4, if_neg (by rw [hs2]; exact hk2), hs2]
        refine wx_goto rfl ?_
        refine wx_ret rfl rfl ⟨by decide, by decide⟩ ?_
        rw [hst] at hn
        exact hn hk2 I2 (nx.p.tr f2) FF
    · have FF : FM b n 2 (sT S) (ft 2 (stA b n (sT S)) I) := ft.m (by decide) (by decide)
      have hst : stX b n S = (2, sT S, S) := by
        rw [stX_1 hz]
        by_cases w : sD S = 9
        · rw [if_pos w]
        · rw [if_neg w, stq_2 hz (by omega)]
      refine wx_aload_n rfl (e := 182) rfl rfl ?_
      refine wx_geti rfl (e := 185) rfl rfl ?_
      first | rw [g13] | rw [FF.2.2.1]
      refine wn_if_ne rfl (e := 188) rfl (by omega) (fun c_185 => ?_) (fun c_185 => absurd c_185 (by omega))
      refine wx_ret rfl rfl ⟨by decide, by decide⟩ ?_
      rw [hst] at hn
      exact hn (show ¬ 2 = 0 by decide) _ ft.p FF
  · have c_9 : Int32.toInt _ = 22 := c_9
    show WP _ _ _ _ _ _ _ _ _
    rw [hti] at c_9
    have hz : (kd b n (sT S)) = 2 := s1.2.2.1.mp (by omega)
    refine wx_aload_n rfl (e := 196) rfl rfl ?_
    refine wx_aload_n rfl (e := 197) rfl rfl ?_
    refine wx_getr rfl (e := 200) rfl rfl rfl ?_
    refine wx_aload_n rfl (e := 201) rfl rfl ?_
    refine wx_geti rfl (e := 204) rfl rfl ?_
    rw [hsd]
    refine wn_iald rfl (e := 205) rfl rfl (by omega) (by decide) ?_
    rw [c3]
    refine wx_bipush (v := (nI 6)) rfl (e := 207) rfl (by decide) ?_
    refine wx_cv2 (mc := 0) (ms := 0) rfl (e := 210) rfl rfl (Nat.le_of_ble_eq_true rfl) ⟨by decide, by decide⟩ ?_
    refine c_roomFor hM (v := sR S) (N := 6) (by omega) (by decide) (fun hr h4 => ?_) (fun hr => ?_)
    · have P1 := hP.nx h4 (by omega)
      have g13 : nx (sT S) I 55 13 = nI 0 := by rw [nx.f (by decide)]; exact r13
      refine wx_aload_n rfl (e := 211) rfl rfl ?_
      refine wx_geti rfl (e := 214) rfl rfl ?_
      first | rw [g13] | rw [FF.2.2.1]
      refine wn_if_ne rfl (e := 217) rfl (by omega) (fun c_214 => absurd c_214 (by omega)) (fun c_214 => ?_)
      refine wx_aload_n rfl (e := 218) rfl rfl ?_
      refine wx_cv0 (mc := 0) (ms := 0) rfl (e := 221) rfl rfl (Nat.le_of_ble_eq_true rfl) ⟨by decide, by decide⟩ ?_
      refine c_tellRelic hn2 hV hW P1 (by omega) (fun w I2 G2 f2 g2 P2 => ?_) (fun k2 tok2 hk2 hs2 I2 f2 FF => ?_)
      · have hst : stX b n S = (0, 0, nwR b n S) := by rw [stX_2 hz, if_neg hr, stq_y hz h4, if_pos w]
        refine wx_goto rfl ?_
        refine wx_ret rfl rfl ⟨by decide, by decide⟩ ?_
        rw [hst] at hy
        exact hy rfl I2 G2 (nx.p.tr f2) g2 P2
      · have hst : stX b n S = (k2, tok2, S) := by rw [stX_2 hz, if_neg hr, stq_y hz h4, if_neg (by rw [hs2]; exact hk2), hs2]
        refine wx_goto rfl ?_
        refine wx_ret rfl rfl ⟨by decide, by decide⟩ ?_
        rw [hst] at hn
        exact hn hk2 I2 (nx.p.tr f2) FF
    · have FF : FM b n 2 (sT S) (ft 2 (stA b n (sT S)) I) := ft.m (by decide) (by decide)
      have hst : stX b n S = (2, sT S, S) := by
        rw [stX_2 hz]
        by_cases w : sR S = 6
        · rw [if_pos w]
        · rw [if_neg w, stq_2 hz (by omega)]
      refine wx_aload_n rfl (e := 211) rfl rfl ?_
      refine wx_geti rfl (e := 214) rfl rfl ?_
      first | rw [g13] | rw [FF.2.2.1]
      refine wn_if_ne rfl (e := 217) rfl (by omega) (fun c_214 => ?_) (fun c_214 => absurd c_214 (by omega))
      refine wx_ret rfl rfl ⟨by decide, by decide⟩ ?_
      rw [hst] at hn
      exact hn (show ¬ 2 = 0 by decide) _ ft.p FF
  · have c_9 : Int32.toInt _ = 23 := c_9
    show WP _ _ _ _ _ _ _ _ _
    rw [hti] at c_9
    have hz : (kd b n (sT S)) = 3 := s1.2.2.2.mp (by omega)
    refine wx_aload_n rfl (e := 225) rfl rfl ?_
    refine wx_aload_n rfl (e := 226) rfl rfl ?_
    refine wx_getr rfl (e := 229) rfl rfl rfl ?_
    refine wx_aload_n rfl (e := 230) rfl rfl ?_
    refine wx_geti rfl (e := 233) rfl rfl ?_
    rw [hsd]
    refine wn_iald rfl (e := 234) rfl rfl (by omega) (by decide) ?_
    rw [c4]
    refine wx_iconst (v := (nI 5)) rfl (e := 235) rfl (by decide) ?_
    refine wx_cv2 (mc := 0) (ms := 0) rfl (e := 238) rfl rfl (Nat.le_of_ble_eq_true rfl) ⟨by decide, by decide⟩ ?_
    refine c_roomFor hM (v := sP S) (N := 5) (by omega) (by decide) (fun hr h4 => ?_) (fun hr => ?_)
    · have P1 := hP.nx h4 (by omega)
      have g13 : nx (sT S) I 55 13 = nI 0 := by rw [nx.f (by decide)]; exact r13
      refine wx_aload_n rfl (e := 239) rfl rfl ?_
      refine wx_geti rfl (e := 242) rfl rfl ?_
      first | rw [g13] | rw [FF.2.2.1]
      refine wn_if_ne rfl (e := 245) rfl (by omega) (fun c_242 => absurd c_242 (by omega)) (fun c_242 => ?_)
      refine wx_aload_n rfl (e := 246) rfl rfl ?_
      refine wx_cv0 (mc := 0) (ms := 0) rfl (e := 249) rfl rfl (Nat.le_of_ble_eq_true rfl) ⟨by decide, by decide⟩ ?_
      refine c_tellPilgrim hn2 hV hW P1 (by omega) (fun w I2 G2 f2 g2 P2 => ?_) (fun k2 tok2 hk2 hs2 I2 f2 FF => ?_)
      · have hst : stX b n S = (0, 0, nwP b n S) := by rw [stX_3 hz, if_neg hr, stq_y hz h4, if_pos w]
        refine wx_goto rfl ?_
        refine wx_ret rfl rfl ⟨by decide, by decide⟩ ?_
        rw [hst] at hy
        exact hy rfl I2 G2 (nx.p.tr f2) g2 P2
      · have hst : stX b n S = (k2, tok2, S) := by rw [stX_3 hz, if_neg hr, stq_y hz h4, if_neg (by rw [hs2]; exact hk2), hs2]
        refine wx_goto rfl ?_
        refine wx_ret rfl rfl ⟨by decide, by decide⟩ ?_
        rw [hst] at hn
        exact hn hk2 I2 (nx.p.tr f2) FF
    · have FF : FM b n 2 (sT S) (ft 2 (stA b n (sT S)) I) := ft.m (by decide) (by decide)
      have hst : stX b n S = (2, sT S, S) := by
        rw [stX_3 hz]
        by_cases w : sP S = 5
        · rw [if_pos w]
        · rw [if_neg w, stq_2 hz (by omega)]
      refine wx_aload_n rfl (e := 239) rfl rfl ?_
      refine wx_geti rfl (e := 242) rfl rfl ?_
      first | rw [g13] | rw [FF.2.2.1]
      refine wn_if_ne rfl (e := 245) rfl (by omega) (fun c_242 => ?_) (fun c_242 => absurd c_242 (by omega))
      refine wx_ret rfl rfl ⟨by decide, by decide⟩ ?_
      rw [hst] at hn
      exact hn (show ¬ 2 = 0 by decide) _ ft.p FF
  · have c_9 : Int32.toInt _ = 24 := c_9
    show WP _ _ _ _ _ _ _ _ _
    rw [hti] at c_9
    exact fdf hn2 hV hW hP h26 (by omega) (by omega) (by omega) (by omega) (by omega) hy hn
  · have c_9 : Int32.toInt _ = 25 := c_9
    show WP _ _ _ _ _ _ _ _ _
    rw [hti] at c_9
    exact fdf hn2 hV hW hP h26 (by omega) (by omega) (by omega) (by omega) (by omega) hy hn
  · have c_9 : Int32.toInt _ = 26 := c_9
    show WP _ _ _ _ _ _ _ _ _
    rw [hti] at c_9
    exact fdf hn2 hV hW hP h26 (by omega) (by omega) (by omega) (by omega) (by omega) hy hn
  · have c_9 : Int32.toInt _ = 27 := c_9
    show WP _ _ _ _ _ _ _ _ _
    rw [hti] at c_9
    exact fdf hn2 hV hW hP h26 (by omega) (by omega) (by omega) (by omega) (by omega) hy hn
  · have c_9 : Int32.toInt _ = 28 := c_9
    show WP _ _ _ _ _ _ _ _ _
    rw [hti] at c_9
    exact fdf hn2 hV hW hP h26 (by omega) (by omega) (by omega) (by omega) (by omega) hy hn
  · have c_9 : Int32.toInt _ = 29 := c_9
    show WP _ _ _ _ _ _ _ _ _
    rw [hti] at c_9
    exact fdf hn2 hV hW hP h26 (by omega) (by omega) (by omega) (by omega) (by omega) hy hn
  · have c_9 : Int32.toInt _ = 30 := c_9
    show WP _ _ _ _ _ _ _ _ _
    rw [hti] at c_9
    exact fdf hn2 hV hW hP h26 (by omega) (by omega) (by omega) (by omega) (by omega) hy hn
  · have c_9 : Int32.toInt _ = 31 := c_9
    show WP _ _ _ _ _ _ _ _ _
    rw [hti] at c_9
    have hz : (kd b n (sT S)) = 9 := s2.1.mp (by omega)
    refine wx_aload_n rfl (e := 253) rfl rfl ?_
    refine wx_cv0 (mc := 0) (ms := 0) rfl (e := 256) rfl rfl (Nat.le_of_ble_eq_true rfl) ⟨by decide, by decide⟩ ?_
    refine c_goes hM (fun h4 => ?_) (fun h4 => ?_)
    · have P1 := hP.nx h4 (by omega)
      refine fse hn2 hV hW P1 (fun w I2 G2 f2 g2 P2 => ?_) (fun k2 tok2 hk2 hs2 I2 f2 FF => ?_)
      · have hst : stX b n S = (0, 0, nwS b n S) := by rw [stX_9 hz, stq_y hz h4, if_pos w]
        rw [hst] at hy
        exact hy rfl I2 G2 (nx.p.tr f2) g2 P2
      · have hst : stX b n S = (k2, tok2, S) := by rw [stX_9 hz, stq_y hz h4, if_neg (by rw [hs2]; exact hk2), hs2]
        rw [hst] at hn
        exact hn hk2 I2 (nx.p.tr f2) FF
    · have FF : FM b n 2 (sT S) (ft 2 (stA b n (sT S)) I) := ft.m (by decide) (by decide)
      have hst : stX b n S = (2, sT S, S) := by rw [stX_9 hz, stq_2 hz h4]
      refine wx_aload_n rfl (e := 257) rfl rfl ?_
      refine wx_getr rfl (e := 260) rfl rfl rfl ?_
      refine wx_aload_n rfl (e := 261) rfl rfl ?_
      refine wx_geti rfl (e := 264) rfl rfl ?_
      rw [ft.m2.2 19 (by omega), hsd]
      refine wx_aload_n rfl (e := 265) rfl rfl ?_
      refine wx_iconst (v := (nI 0)) rfl (e := 266) rfl (by decide) ?_
      refine wx_sipush (v := (nI 9999)) rfl (e := 269) rfl (by decide) ?_
      refine wx_cv2 (mc := 0) (ms := 0) rfl (e := 272) rfl rfl (Nat.le_of_ble_eq_true rfl) ⟨by decide, by decide⟩ ?_
      refine c_bounded0 FF.1 (by have := FF.2.1; omega) FF.2.2.1 ?_
      refine wn_iast rfl (e := 273) rfl rfl (by decide) (by omega) (by decide) ?_
      refine wx_aload_n rfl (e := 274) rfl rfl ?_
      refine wx_iconst (v := (nI 4)) rfl (e := 275) rfl (by decide) ?_
      refine wx_cv1 (mc := 0) (ms := 0) rfl (e := 278) rfl rfl (Nat.le_of_ble_eq_true rfl) ⟨by decide, by decide⟩ ?_
      refine c_must0 FF.1 (by have := FF.2.1; omega) (by rw [wr_other _ _ _ _ (by decide)]; exact FF.2.2.1) ?_
      refine wx_goto rfl ?_
      refine wx_ret rfl rfl ⟨by decide, by decide⟩ ?_
      rw [hst] at hn
      exact hn (show ¬ 2 = 0 by decide) _ (ft.p.tr (fmp.w (by unfold own; omega))) (FF.co (by rw [wr_other _ _ _ _ (by decide)]) (by rw [wr_other _ _ _ _ (by decide)]))

/-! the model: whole terms -/
theorem pd_len0 (w : Nat) (W : List Nat) : (pd w 0 W).length ≤ W.length + 1 := by
  show ([] ++ ((if w = 0 then [] else [w]) ++ W)).length ≤ _
  rw [List.nil_append, List.length_append]
  have h2 : (if w = 0 then [] else [w]).length ≤ 1 := by
    split
    · exact Nat.zero_le _
    · exact Nat.le_refl _
  omega
theorem wtC_len2 (w : Nat) (c : rpn) : (wtC w c).length = c.length + (if w = 0 then 0 else 1) := by
  unfold wtC
  by_cases z : w = 0
  · rw [if_pos z, if_pos z]; rfl
  · rw [if_neg z, if_neg z, List.length_append]; rfl
set_option maxHeartbeats 8000000 in
theorem xqA_s {b : Nat → Nat} {n a0 B f : Nat} (hB840 : B + 420 ≤ 840) (hU : xqU b n a0 B f) (hA : xqA b n a0 B f) : xqA b n a0 B (f + 1) := by
  intro e d w s t Lx tt rt u c W I G Q hd hf hw hs hW X hWl hx hE hF
  have hkl := kd62 b n t
  obtain ⟨-, ht, hgd, -, r13⟩ := id X.1
  have hpl := pd_len w s W
  have hs1 := wtC_len2 w (wtC s c)
  have hs2 := wtC_len2 s c
  rw [ex, if_neg (by decide)] at hE hF
  by_cases hop : kd b n t = 42 ∨ kd b n t = 47 ∨ kd b n t = 43 ∨ kd b n t = 45
  · have hk0 := hop
    rcases hop with hk | hk | hk | hk
    · have k0 := True.intro
      refine wx_aload_n rfl (e := 97) rfl rfl ?_
      refine wx_bipush (v := (nI 7)) rfl (e := 99) rfl (by decide) ?_
      refine wx_cv1 (mc := 0) (ms := 0) rfl (e := 102) rfl rfl (Nat.le_of_ble_eq_true rfl) ⟨by decide, by decide⟩ ?_
      refine c_is X.1 (κ := 41) (by decide) (by decide) (by decide) (fun hz => absurd hz (by omega)) (fun hz => ?_)
      refine wn_if_eq rfl (e := 105) rfl (by omega) (fun c_102 => ?_) (fun c_102 => absurd c_102 (by omega))
      refine wx_aload_n rfl (e := 146) rfl rfl ?_
      refine wx_bipush (v := (nI 8)) rfl (e := 148) rfl (by decide) ?_
      refine wx_cv1 (mc := 0) (ms := 0) rfl (e := 151) rfl rfl (Nat.le_of_ble_eq_true rfl) ⟨by decide, by decide⟩ ?_
      refine c_is X.1 (κ := 43) (by decide) (by decide) (by decide) (fun hz => absurd hz (by omega)) (fun hz => ?_)
      refine wn_if_ne rfl (e := 154) rfl (by omega) (fun c_151 => absurd c_151 (by omega)) (fun c_151 => ?_)
      refine wx_aload_n rfl (e := 155) rfl rfl ?_
      refine wx_bipush (v := (nI 9)) rfl (e := 157) rfl (by decide) ?_
      refine wx_cv1 (mc := 0) (ms := 0) rfl (e := 160) rfl rfl (Nat.le_of_ble_eq_true rfl) ⟨by decide, by decide⟩ ?_
      refine c_is X.1 (κ := 45) (by decide) (by decide) (by decide) (fun hz => absurd hz (by omega)) (fun hz => ?_)
      refine wn_if_ne rfl (e := 163) rfl (by omega) (fun c_160 => absurd c_160 (by omega)) (fun c_160 => ?_)
      refine wx_aload_n rfl (e := 164) rfl rfl ?_
      refine wx_bipush (v := (nI 10)) rfl (e := 166) rfl (by decide) ?_
      refine wx_cv1 (mc := 0) (ms := 0) rfl (e := 169) rfl rfl (Nat.le_of_ble_eq_true rfl) ⟨by decide, by decide⟩ ?_
      refine c_is X.1 (κ := 42) (by decide) (by decide) (by decide) (fun hz => ?_) (fun hz => absurd hk hz)
      refine wn_if_ne rfl (e := 172) rfl (by omega) (fun c_169 => ?_) (fun c_169 => absurd c_169 (by omega))
      refine wx_iconst (v := (nI 1)) rfl (e := 182) rfl (by decide) ?_
      refine wx_goto rfl ?_
      refine wx_istore_n (L2 := [_, _, _]) rfl (e := 187) rfl (by decide) rfl ?_
      refine wx_iload_n rfl (e := 188) rfl rfl ?_
      refine wn_if_ne rfl (e := 191) rfl (by omega) (fun c_188 => ?_) (fun c_188 => absurd c_188 (by omega))
      refine wx_aload_n rfl (e := 211) rfl rfl ?_
      refine wx_aload_n rfl (e := 212) rfl rfl ?_
      refine wx_bipush (v := (nI 10)) rfl (e := 214) rfl (by decide) ?_
      refine wx_cv1 (mc := 0) (ms := 0) rfl (e := 217) rfl rfl (Nat.le_of_ble_eq_true rfl) ⟨by decide, by decide⟩ ?_
      refine c_is X.1 (κ := 42) (by decide) (by decide) (by decide) (fun hz => ?_) (fun hz => absurd hk hz)
      refine wn_if_ne rfl (e := 220) rfl (by omega) (fun c_217 => ?_) (fun c_217 => absurd c_217 (by omega))
      refine wx_iconst (v := (nI 1)) rfl (e := 230) rfl (by decide) ?_
      refine wx_goto rfl ?_
      refine wx_cv1 (mc := 0) (ms := 0) rfl (e := 237) rfl rfl (Nat.le_of_ble_eq_true rfl) ⟨by decide, by decide⟩ ?_
      refine c_comes (st := true) X.2.2.1 X.2.2.2 (h := B + 420) hB840 (by omega) (by omega) (fun I5 f5 m5 W5 L5 => ?_)
      rw [co_pd hw hs hW, if_pos rfl] at W5 L5
      have W5 : WS (pd w 0 W) I5 := W5
      have L5 : LM a0 (wtC s c) I5 := L5
      have M5 := X.1.co f5 m5
      have hpl0 := pd_len0 w W
      obtain ⟨⟨m, hK, hm⟩, -, -, r11, -⟩ := id M5
      have hlt := hm t ht hgd
      have hK1 := hK.1
      refine wx_aload_n rfl (e := 238) rfl rfl ?_
      refine wx_getr rfl (e := 241) rfl rfl rfl ?_
      refine wx_aload_n rfl (e := 242) rfl rfl ?_
      refine wx_geti rfl (e := 245) rfl rfl ?_
      rw [W5.2.1]
      refine wx_aload_n rfl (e := 246) rfl rfl ?_
      refine wx_getr rfl (e := 249) rfl rfl rfl ?_
      refine wx_aload_n rfl (e := 250) rfl rfl ?_
      refine wx_geti rfl (e := 253) rfl rfl ?_
      rw [r11]
      refine wn_iald rfl (e := 254) rfl rfl (by omega) (by decide) ?_
      rw [(hK.2.2 t hlt).1]
      refine wn_iast rfl (e := 255) rfl rfl (by decide) (by omega) (by decide) ?_
      refine wx_aload_n rfl (e := 256) rfl rfl ?_
      refine wx_dup rfl (e := 257) rfl rfl ?_
      refine wx_geti rfl (e := 260) rfl rfl ?_
      rw [wr_other _ _ _ _ (by decide), W5.2.1]
      refine wx_iconst (v := (nI 1)) rfl (e := 261) rfl (by decide) ?_
      refine wn_iadd rfl (e := 262) rfl ?_
      refine wx_puti rfl (e := 265) rfl rfl (by decide) ?_
      refine wx_aload_n rfl (e := 266) rfl rfl ?_
      refine wx_cv0 (mc := 0) (ms := 0) rfl (e := 269) rfl rfl (Nat.le_of_ble_eq_true rfl) ⟨by decide, by decide⟩ ?_
      have M6 : MS b n t (wr (wr I5 86 (pd w 0 W).length (nI (mk (kd b n t)))) 55 47 (nI ((pd w 0 W).length + 1))) G := M5.k (by rw [wr_ne _ _ _ _ (by decide), wr_other _ _ _ _ (by decide)]) (by rw [wr_other _ _ _ _ (by decide), wr_other _ _ _ _ (by decide)]) (by rw [wr_other _ _ _ _ (by decide), wr_other _ _ _ _ (by decide)]) (by rw [wr_other _ _ _ _ (by decide), wr_other _ _ _ _ (by decide)]) (by rw [wr_ne _ _ _ _ (by decide), wr_other _ _ _ _ (by decide)]) (by rw [wr_ne _ _ _ _ (by decide), wr_other _ _ _ _ (by decide)])
      have F6 : frx a0 (B + 420) I (wr (wr I5 86 (pd w 0 W).length (nI (mk (kd b n t)))) 55 47 (nI ((pd w 0 W).length + 1))) := f5.tr (frx.w6.tr (frx.w (by omega)))
      refine c_goes M6 (fun h4 => ?_) (fun h4 => ?_)
      · have h13 : nx t (wr (wr I5 86 (pd w 0 W).length (nI (mk (kd b n t)))) 55 47 (nI ((pd w 0 W).length + 1))) 55 13 = nI 0 := by rw [nx.f (by decide)]; exact M6.2.2.2.2
        refine wx_goto rfl ?_
        refine wx_iload_n rfl (e := 13) rfl rfl ?_
        refine wn_if_eq rfl (e := 16) rfl (by omega) (fun c_13 => absurd c_13 (by omega)) (fun c_13 => ?_)
        refine wx_aload_n rfl (e := 17) rfl rfl ?_
        refine wx_geti rfl (e := 20) rfl rfl ?_
        rw [h13]
        refine wn_if_ne rfl (e := 23) rfl (by omega) (fun c_20 => absurd c_20 (by omega)) (fun c_20 => ?_)
        rw [if_pos (by omega), if_neg (by omega)] at hE hF
        have X7 : XS b n a0 (t + 1) d (kd b n t :: (pd w 0 W)) (wtC s c) (nx t (wr (wr I5 86 (pd w 0 W).length (nI (mk (kd b n t)))) 55 47 (nI ((pd w 0 W).length + 1)))) G := ⟨M6.nx h4 (by omega), by rw [nx.f (by decide), wr_ne _ _ _ _ (by decide), wr_other _ _ _ _ (by decide), m5 12 (by decide) (by decide)]; exact X.2.1, (W5.push (w := kd b n t) (by omega) rfl).k (nx.f (by decide)) (nx.q (by decide)), L5.k (by rw [nx.f (by decide), wr_ne _ _ _ _ (by decide), wr_other _ _ _ _ (by decide)]) (by rw [nx.q (by decide), wr_other _ _ _ _ (by decide), wr_other _ _ _ _ (by decide)]) (by rw [nx.q (by decide), wr_other _ _ _ _ (by decide), wr_other _ _ _ _ (by decide)])⟩
        obtain ⟨g1, g2, g3, g4, g5, g6⟩ := ex_far b n f 0 0 d (t + 1) (wtC s c) (by omega) X7.1.2.2.1 (by omega)
        refine hU e d (t + 1) Lx tt rt u (wtC s c) (kd b n t :: (pd w 0 W)) _ G Q hd (by omega) X7 (by rw [List.length_cons]; omega) (by omega) (fun z1 I8 f8 X8 => ?_) (fun z1 I8 f8 F8 => hF (by rw [bnd_1 z1]; exact z1) I8 (F6.tr (frx.n.tr f8)) (by rw [bnd_1 z1]; exact F8))
        have g5 := g5 z1
        rw [if_pos (Or.inl rfl)] at g5
        have g4 := g4 z1 rfl
        rw [bnd_0 z1] at hE hF
        have e1 : (ex b n f 0 0 d (t + 1) (wtC s c)).2.2 ++ [(opK (kd b n t), nI 0)] = wtC (kd b n t) (ex b n f 0 0 d (t + 1) (wtC s c)).2.2 := (if_neg (by omega)).symm
        rw [e1] at hE hF
        have ep : pd w (kd b n t) W = kd b n t :: pd w 0 W := by unfold pd; rw [if_neg (by omega)]; rfl
        have hl1 := wtC_len w (wtC (kd b n t) (ex b n f 0 0 d (t + 1) (wtC s c)).2.2)
        have hl2 : (wtC (kd b n t) (ex b n f 0 0 d (t + 1) (wtC s c)).2.2).length = (ex b n f 0 0 d (t + 1) (wtC s c)).2.2.length + 1 := by rw [← e1, List.length_append]; rfl
        have hl3 := wtC_len2 w (wtC s c)
        exact hA e d w (kd b n t) _ Lx tt rt u (ex b n f 0 0 d (t + 1) (wtC s c)).2.2 W I8 G Q hd (by omega) hw (by omega) hW (by rw [ep]; exact X8) hWl (by omega) (fun y w2 s2 c2 I9 p1 p2 p3 p4 p5 p6 p7 => hE y w2 s2 c2 I9 p1 p2 (F6.tr (frx.n.tr (f8.tr p3))) p4 p5 p6 p7) (fun y I9 p3 p4 => hF y I9 (F6.tr (frx.n.tr (f8.tr p3))) p4)
      · have h13 : ft 2 (stA b n t) (wr (wr I5 86 (pd w 0 W).length (nI (mk (kd b n t)))) 55 47 (nI ((pd w 0 W).length + 1))) 55 13 = nI 2 := by unfold ft; rw [wr_ne _ _ _ _ (by decide), wr_eq]
        refine wx_goto rfl ?_
        refine wx_iload_n rfl (e := 13) rfl rfl ?_
        refine wn_if_eq rfl (e := 16) rfl (by omega) (fun c_13 => absurd c_13 (by omega)) (fun c_13 => ?_)
        refine wx_aload_n rfl (e := 17) rfl rfl ?_
        refine wx_geti rfl (e := 20) rfl rfl ?_
        rw [h13]
        refine wn_if_ne rfl (e := 23) rfl (by omega) (fun c_20 => ?_) (fun c_20 => absurd c_20 (by omega))
        refine wx_ret rfl rfl ⟨by decide, by decide⟩ ?_
        rw [if_pos (by omega), if_pos h4] at hF
        exact hF (show ¬ 2 = 0 by decide) _ (F6.tr frx.t) (ft.m (k := 2) (tok := t) (by decide) (by decide))
    · have k0 := True.intro
      refine wx_aload_n rfl (e := 97) rfl rfl ?_
      refine wx_bipush (v := (nI 7)) rfl (e := 99) rfl (by decide) ?_
      refine wx_cv1 (mc := 0) (ms := 0) rfl (e := 102) rfl rfl (Nat.le_of_ble_eq_true rfl) ⟨by decide, by decide⟩ ?_
      refine c_is X.1 (κ := 41) (by decide) (by decide) (by decide) (fun hz => absurd hz (by omega)) (fun hz => ?_)
      refine wn_if_eq rfl (e := 105) rfl (by omega) (fun c_102 => ?_) (fun c_102 => absurd c_102 (by omega))
      refine wx_aload_n rfl (e := 146) rfl rfl ?_
      refine wx_bipush (v := (nI 8)) rfl (e := 148) rfl (by decide) ?_
      refine wx_cv1 (mc := 0) (ms := 0) rfl (e := 151) rfl rfl (Nat.le_of_ble_eq_true rfl) ⟨by decide, by decide⟩ ?_
      refine c_is X.1 (κ := 43) (by decide) (by decide) (by decide) (fun hz => absurd hz (by omega)) (fun hz => ?_)
      refine wn_if_ne rfl (e := 154) rfl (by omega) (fun c_151 => absurd c_151 (by omega)) (fun c_151 => ?_)
      refine wx_aload_n rfl (e := 155) rfl rfl ?_
      refine wx_bipush (v := (nI 9)) rfl (e := 157) rfl (by decide) ?_
      refine wx_cv1 (mc := 0) (ms := 0) rfl (e := 160) rfl rfl (Nat.le_of_ble_eq_true rfl) ⟨by decide, by decide⟩ ?_
      refine c_is X.1 (κ := 45) (by decide) (by decide) (by decide) (fun hz => absurd hz (by omega)) (fun hz => ?_)
      refine wn_if_ne rfl (e := 163) rfl (by omega) (fun c_160 => absurd c_160 (by omega)) (fun c_160 => ?_)
      refine wx_aload_n rfl (e := 164) rfl rfl ?_
      refine wx_bipush (v := (nI 10)) rfl (e := 166) rfl (by decide) ?_
      refine wx_cv1 (mc := 0) (ms := 0) rfl (e := 169) rfl rfl (Nat.le_of_ble_eq_true rfl) ⟨by decide, by decide⟩ ?_
      refine c_is X.1 (κ := 42) (by decide) (by decide) (by decide) (fun hz => absurd hz (by omega)) (fun hz => ?_)
      refine wn_if_ne rfl (e := 172) rfl (by omega) (fun c_169 => absurd c_169 (by omega)) (fun c_169 => ?_)
      refine wx_aload_n rfl (e := 173) rfl rfl ?_
      refine wx_bipush (v := (nI 15)) rfl (e := 175) rfl (by decide) ?_
      refine wx_cv1 (mc := 0) (ms := 0) rfl (e := 178) rfl rfl (Nat.le_of_ble_eq_true rfl) ⟨by decide, by decide⟩ ?_
      refine c_is X.1 (κ := 47) (by decide) (by decide) (by decide) (fun hz => ?_) (fun hz => absurd hk hz)
      refine wn_if_eq rfl (e := 181) rfl (by omega) (fun c_178 => absurd c_178 (by omega)) (fun c_178 => ?_)
      refine wx_iconst (v := (nI 1)) rfl (e := 182) rfl (by decide) ?_
      refine wx_goto rfl ?_
      refine wx_istore_n (L2 := [_, _, _]) rfl (e := 187) rfl (by decide) rfl ?_
      refine wx_iload_n rfl (e := 188) rfl rfl ?_
      refine wn_if_ne rfl (e := 191) rfl (by omega) (fun c_188 => ?_) (fun c_188 => absurd c_188 (by omega))
      refine wx_aload_n rfl (e := 211) rfl rfl ?_
      refine wx_aload_n rfl (e := 212) rfl rfl ?_
      refine wx_bipush (v := (nI 10)) rfl (e := 214) rfl (by decide) ?_
      refine wx_cv1 (mc := 0) (ms := 0) rfl (e := 217) rfl rfl (Nat.le_of_ble_eq_true rfl) ⟨by decide, by decide⟩ ?_
      refine c_is X.1 (κ := 42) (by decide) (by decide) (by decide) (fun hz => absurd hz (by omega)) (fun hz => ?_)
      refine wn_if_ne rfl (e := 220) rfl (by omega) (fun c_217 => absurd c_217 (by omega)) (fun c_217 => ?_)
      refine wx_aload_n rfl (e := 221) rfl rfl ?_
      refine wx_bipush (v := (nI 15)) rfl (e := 223) rfl (by decide) ?_
      refine wx_cv1 (mc := 0) (ms := 0) rfl (e := 226) rfl rfl (Nat.le_of_ble_eq_true rfl) ⟨by decide, by decide⟩ ?_
      refine c_is X.1 (κ := 47) (by decide) (by decide) (by decide) (fun hz => ?_) (fun hz => absurd hk hz)
      refine wn_if_eq rfl (e := 229) rfl (by omega) (fun c_226 => absurd c_226 (by omega)) (fun c_226 => ?_)
      refine wx_iconst (v := (nI 1)) rfl (e := 230) rfl (by decide) ?_
      refine wx_goto rfl ?_
      refine wx_cv1 (mc := 0) (ms := 0) rfl (e := 237) rfl rfl (Nat.le_of_ble_eq_true rfl) ⟨by decide, by decide⟩ ?_
      refine c_comes (st := true) X.2.2.1 X.2.2.2 (h := B + 420) hB840 (by omega) (by omega) (fun I5 f5 m5 W5 L5 => ?_)
      rw [co_pd hw hs hW, if_pos rfl] at W5 L5
      have W5 : WS (pd w 0 W) I5 := W5
      have L5 : LM a0 (wtC s c) I5 := L5
      have M5 := X.1.co f5 m5
      have hpl0 := pd_len0 w W
      obtain ⟨⟨m, hK, hm⟩, -, -, r11, -⟩ := id M5
      have hlt := hm t ht hgd
      have hK1 := hK.1
      refine wx_aload_n rfl (e := 238) rfl rfl ?_
      refine wx_getr rfl (e := 241) rfl rfl rfl ?_
      refine wx_aload_n rfl (e := 242) rfl rfl ?_
      refine wx_geti rfl (e := 245) rfl rfl ?_
      rw [W5.2.1]
      refine wx_aload_n rfl (e := 246) rfl rfl ?_
      refine wx_getr rfl (e := 249) rfl rfl rfl ?_
      refine wx_aload_n rfl (e := 250) rfl rfl ?_
      refine wx_geti rfl (e := 253) rfl rfl ?_
      rw [r11]
      refine wn_iald rfl (e := 254) rfl rfl (by omega) (by decide) ?_
      rw [(hK.2.2 t hlt).1]
      refine wn_iast rfl (e := 255) rfl rfl (by decide) (by omega) (by decide) ?_
      refine wx_aload_n rfl (e := 256) rfl rfl ?_
      refine wx_dup rfl (e := 257) rfl rfl ?_
      refine wx_geti rfl (e := 260) rfl rfl ?_
      rw [wr_other _ _ _ _ (by decide), W5.2.1]
      refine wx_iconst (v := (nI 1)) rfl (e := 261) rfl (by decide) ?_
      refine wn_iadd rfl (e := 262) rfl ?_
      refine wx_puti rfl (e := 265) rfl rfl (by decide) ?_
      refine wx_aload_n rfl (e := 266) rfl rfl ?_
      refine wx_cv0 (mc := 0) (ms := 0) rfl (e := 269) rfl rfl (Nat.le_of_ble_eq_true rfl) ⟨by decide, by decide⟩ ?_
      have M6 : MS b n t (wr (wr I5 86 (pd w 0 W).length (nI (mk (kd b n t)))) 55 47 (nI ((pd w 0 W).length + 1))) G := M5.k (by rw [wr_ne _ _ _ _ (by decide), wr_other _ _ _ _ (by decide)]) (by rw [wr_other _ _ _ _ (by decide), wr_other _ _ _ _ (by decide)]) (by rw [wr_other _ _ _ _ (by decide), wr_other _ _ _ _ (by decide)]) (by rw [wr_other _ _ _ _ (by decide), wr_other _ _ _ _ (by decide)]) (by rw [wr_ne _ _ _ _ (by decide), wr_other _ _ _ _ (by decide)]) (by rw [wr_ne _ _ _ _ (by decide), wr_other _ _ _ _ (by decide)])
      have F6 : frx a0 (B + 420) I (wr (wr I5 86 (pd w 0 W).length (nI (mk (kd b n t)))) 55 47 (nI ((pd w 0 W).length + 1))) := f5.tr (frx.w6.tr (frx.w (by omega)))
      refine c_goes M6 (fun h4 => ?_) (fun h4 => ?_)
      · have h13 : nx t (wr (wr I5 86 (pd w 0 W).length (nI (mk (kd b n t)))) 55 47 (nI ((pd w 0 W).length + 1))) 55 13 = nI 0 := by rw [nx.f (by decide)]; exact M6.2.2.2.2
        refine wx_goto rfl ?_
        refine wx_iload_n rfl (e := 13) rfl rfl ?_
        refine wn_if_eq rfl (e := 16) rfl (by omega) (fun c_13 => absurd c_13 (by omega)) (fun c_13 => ?_)
        refine wx_aload_n rfl (e := 17) rfl rfl ?_
        refine wx_geti rfl (e := 20) rfl rfl ?_
        rw [h13]
        refine wn_if_ne rfl (e := 23) rfl (by omega) (fun c_20 => absurd c_20 (by omega)) (fun c_20 => ?_)
        rw [if_pos (by omega), if_neg (by omega)] at hE hF
        have X7 : XS b n a0 (t + 1) d (kd b n t :: (pd w 0 W)) (wtC s c) (nx t (wr (wr I5 86 (pd w 0 W).length (nI (mk (kd b n t)))) 55 47 (nI ((pd w 0 W).length + 1)))) G := ⟨M6.nx h4 (by omega), by rw [nx.f (by decide), wr_ne _ _ _ _ (by decide), wr_other _ _ _ _ (by decide), m5 12 (by decide) (by decide)]; exact X.2.1, (W5.push (w := kd b n t) (by omega) rfl).k (nx.f (by decide)) (nx.q (by decide)), L5.k (by rw [nx.f (by decide), wr_ne _ _ _ _ (by decide), wr_other _ _ _ _ (by decide)]) (by rw [nx.q (by decide), wr_other _ _ _ _ (by decide), wr_other _ _ _ _ (by decide)]) (by rw [nx.q (by decide), wr_other _ _ _ _ (by decide), wr_other _ _ _ _ (by decide)])⟩
        obtain ⟨g1, g2, g3, g4, g5, g6⟩ := ex_far b n f 0 0 d (t + 1) (wtC s c) (by omega) X7.1.2.2.1 (by omega)
        refine hU e d (t + 1) Lx tt rt u (wtC s c) (kd b n t :: (pd w 0 W)) _ G Q hd (by omega) X7 (by rw [List.length_cons]; omega) (by omega) (fun z1 I8 f8 X8 => ?_) (fun z1 I8 f8 F8 => hF (by rw [bnd_1 z1]; exact z1) I8 (F6.tr (frx.n.tr f8)) (by rw [bnd_1 z1]; exact F8))
        have g5 := g5 z1
        rw [if_pos (Or.inl rfl)] at g5
        have g4 := g4 z1 rfl
        rw [bnd_0 z1] at hE hF
        have e1 : (ex b n f 0 0 d (t + 1) (wtC s c)).2.2 ++ [(opK (kd b n t), nI 0)] = wtC (kd b n t) (ex b n f 0 0 d (t + 1) (wtC s c)).2.2 := (if_neg (by omega)).symm
        rw [e1] at hE hF
        have ep : pd w (kd b n t) W = kd b n t :: pd w 0 W := by unfold pd; rw [if_neg (by omega)]; rfl
        have hl1 := wtC_len w (wtC (kd b n t) (ex b n f 0 0 d (t + 1) (wtC s c)).2.2)
        have hl2 : (wtC (kd b n t) (ex b n f 0 0 d (t + 1) (wtC s c)).2.2).length = (ex b n f 0 0 d (t + 1) (wtC s c)).2.2.length + 1 := by rw [← e1, List.length_append]; rfl
        have hl3 := wtC_len2 w (wtC s c)
        exact hA e d w (kd b n t) _ Lx tt rt u (ex b n f 0 0 d (t + 1) (wtC s c)).2.2 W I8 G Q hd (by omega) hw (by omega) hW (by rw [ep]; exact X8) hWl (by omega) (fun y w2 s2 c2 I9 p1 p2 p3 p4 p5 p6 p7 => hE y w2 s2 c2 I9 p1 p2 (F6.tr (frx.n.tr (f8.tr p3))) p4 p5 p6 p7) (fun y I9 p3 p4 => hF y I9 (F6.tr (frx.n.tr (f8.tr p3))) p4)
      · have h13 : ft 2 (stA b n t) (wr (wr I5 86 (pd w 0 W).length (nI (mk (kd b n t)))) 55 47 (nI ((pd w 0 W).length + 1))) 55 13 = nI 2 := by unfold ft; rw [wr_ne _ _ _ _ (by decide), wr_eq]
        refine wx_goto rfl ?_
        refine wx_iload_n rfl (e := 13) rfl rfl ?_
        refine wn_if_eq rfl (e := 16) rfl (by omega) (fun c_13 => absurd c_13 (by omega)) (fun c_13 => ?_)
        refine wx_aload_n rfl (e := 17) rfl rfl ?_
        refine wx_geti rfl (e := 20) rfl rfl ?_
        rw [h13]
        refine wn_if_ne rfl (e := 23) rfl (by omega) (fun c_20 => ?_) (fun c_20 => absurd c_20 (by omega))
        refine wx_ret rfl rfl ⟨by decide, by decide⟩ ?_
        rw [if_pos (by omega), if_pos h4] at hF
        exact hF (show ¬ 2 = 0 by decide) _ (F6.tr frx.t) (ft.m (k := 2) (tok := t) (by decide) (by decide))
    · have k0 := True.intro
      refine wx_aload_n rfl (e := 97) rfl rfl ?_
      refine wx_bipush (v := (nI 7)) rfl (e := 99) rfl (by decide) ?_
      refine wx_cv1 (mc := 0) (ms := 0) rfl (e := 102) rfl rfl (Nat.le_of_ble_eq_true rfl) ⟨by decide, by decide⟩ ?_
      refine c_is X.1 (κ := 41) (by decide) (by decide) (by decide) (fun hz => absurd hz (by omega)) (fun hz => ?_)
      refine wn_if_eq rfl (e := 105) rfl (by omega) (fun c_102 => ?_) (fun c_102 => absurd c_102 (by omega))
      refine wx_aload_n rfl (e := 146) rfl rfl ?_
      refine wx_bipush (v := (nI 8)) rfl (e := 148) rfl (by decide) ?_
      refine wx_cv1 (mc := 0) (ms := 0) rfl (e := 151) rfl rfl (Nat.le_of_ble_eq_true rfl) ⟨by decide, by decide⟩ ?_
      refine c_is X.1 (κ := 43) (by decide) (by decide) (by decide) (fun hz => ?_) (fun hz => absurd hk hz)
      refine wn_if_ne rfl (e := 154) rfl (by omega) (fun c_151 => ?_) (fun c_151 => absurd c_151 (by omega))
      refine wx_iconst (v := (nI 1)) rfl (e := 182) rfl (by decide) ?_
      refine wx_goto rfl ?_
      refine wx_istore_n (L2 := [_, _, _]) rfl (e := 187) rfl (by decide) rfl ?_
      refine wx_iload_n rfl (e := 188) rfl rfl ?_
      refine wn_if_ne rfl (e := 191) rfl (by omega) (fun c_188 => ?_) (fun c_188 => absurd c_188 (by omega))
      refine wx_aload_n rfl (e := 211) rfl rfl ?_
      refine wx_aload_n rfl (e := 212) rfl rfl ?_
      refine wx_bipush (v := (nI 10)) rfl (e := 214) rfl (by decide) ?_
      refine wx_cv1 (mc := 0) (ms := 0) rfl (e := 217) rfl rfl (Nat.le_of_ble_eq_true rfl) ⟨by decide, by decide⟩ ?_
      refine c_is X.1 (κ := 42) (by decide) (by decide) (by decide) (fun hz => absurd hz (by omega)) (fun hz => ?_)
      refine wn_if_ne rfl (e := 220) rfl (by omega) (fun c_217 => absurd c_217 (by omega)) (fun c_217 => ?_)
      refine wx_aload_n rfl (e := 221) rfl rfl ?_
      refine wx_bipush (v := (nI 15)) rfl (e := 223) rfl (by decide) ?_
      refine wx_cv1 (mc := 0) (ms := 0) rfl (e := 226) rfl rfl (Nat.le_of_ble_eq_true rfl) ⟨by decide, by decide⟩ ?_
      refine c_is X.1 (κ := 47) (by decide) (by decide) (by decide) (fun hz => absurd hz (by omega)) (fun hz => ?_)
      refine wn_if_eq rfl (e := 229) rfl (by omega) (fun c_226 => ?_) (fun c_226 => absurd c_226 (by omega))
      refine wx_iconst (v := (nI 0)) rfl (e := 234) rfl (by decide) ?_
      refine wx_cv1 (mc := 0) (ms := 0) rfl (e := 237) rfl rfl (Nat.le_of_ble_eq_true rfl) ⟨by decide, by decide⟩ ?_
      refine c_comes (st := false) X.2.2.1 X.2.2.2 (h := B + 420) hB840 (by omega) (by omega) (fun I5 f5 m5 W5 L5 => ?_)
      rw [co_pd hw hs hW, if_neg (by decide)] at W5 L5
      have W5 : WS W I5 := W5
      have L5 : LM a0 (wtC w (wtC s c)) I5 := L5
      have M5 := X.1.co f5 m5
      have hpl0 := pd_len0 w W
      obtain ⟨⟨m, hK, hm⟩, -, -, r11, -⟩ := id M5
      have hlt := hm t ht hgd
      have hK1 := hK.1
      refine wx_aload_n rfl (e := 238) rfl rfl ?_
      refine wx_getr rfl (e := 241) rfl rfl rfl ?_
      refine wx_aload_n rfl (e := 242) rfl rfl ?_
      refine wx_geti rfl (e := 245) rfl rfl ?_
      rw [W5.2.1]
      refine wx_aload_n rfl (e := 246) rfl rfl ?_
      refine wx_getr rfl (e := 249) rfl rfl rfl ?_
      refine wx_aload_n rfl (e := 250) rfl rfl ?_
      refine wx_geti rfl (e := 253) rfl rfl ?_
      rw [r11]
      refine wn_iald rfl (e := 254) rfl rfl (by omega) (by decide) ?_
      rw [(hK.2.2 t hlt).1]
      refine wn_iast rfl (e := 255) rfl rfl (by decide) (by omega) (by decide) ?_
      refine wx_aload_n rfl (e := 256) rfl rfl ?_
      refine wx_dup rfl (e := 257) rfl rfl ?_
      refine wx_geti rfl (e := 260) rfl rfl ?_
      rw [wr_other _ _ _ _ (by decide), W5.2.1]
      refine wx_iconst (v := (nI 1)) rfl (e := 261) rfl (by decide) ?_
      refine wn_iadd rfl (e := 262) rfl ?_
      refine wx_puti rfl (e := 265) rfl rfl (by decide) ?_
      refine wx_aload_n rfl (e := 266) rfl rfl ?_
      refine wx_cv0 (mc := 0) (ms := 0) rfl (e := 269) rfl rfl (Nat.le_of_ble_eq_true rfl) ⟨by decide, by decide⟩ ?_
      have M6 : MS b n t (wr (wr I5 86 W.length (nI (mk (kd b n t)))) 55 47 (nI (W.length + 1))) G := M5.k (by rw [wr_ne _ _ _ _ (by decide), wr_other _ _ _ _ (by decide)]) (by rw [wr_other _ _ _ _ (by decide), wr_other _ _ _ _ (by decide)]) (by rw [wr_other _ _ _ _ (by decide), wr_other _ _ _ _ (by decide)]) (by rw [wr_other _ _ _ _ (by decide), wr_other _ _ _ _ (by decide)]) (by rw [wr_ne _ _ _ _ (by decide), wr_other _ _ _ _ (by decide)]) (by rw [wr_ne _ _ _ _ (by decide), wr_other _ _ _ _ (by decide)])
      have F6 : frx a0 (B + 420) I (wr (wr I5 86 W.length (nI (mk (kd b n t)))) 55 47 (nI (W.length + 1))) := f5.tr (frx.w6.tr (frx.w (by omega)))
      refine c_goes M6 (fun h4 => ?_) (fun h4 => ?_)
      · have h13 : nx t (wr (wr I5 86 W.length (nI (mk (kd b n t)))) 55 47 (nI (W.length + 1))) 55 13 = nI 0 := by rw [nx.f (by decide)]; exact M6.2.2.2.2
        refine wx_goto rfl ?_
        refine wx_iload_n rfl (e := 13) rfl rfl ?_
        refine wn_if_eq rfl (e := 16) rfl (by omega) (fun c_13 => absurd c_13 (by omega)) (fun c_13 => ?_)
        refine wx_aload_n rfl (e := 17) rfl rfl ?_
        refine wx_geti rfl (e := 20) rfl rfl ?_
        rw [h13]
        refine wn_if_ne rfl (e := 23) rfl (by omega) (fun c_20 => absurd c_20 (by omega)) (fun c_20 => ?_)
        rw [if_neg (by omega), if_pos (by omega), if_neg (by omega)] at hE hF
        have X7 : XS b n a0 (t + 1) d (kd b n t :: W) (wtC w (wtC s c)) (nx t (wr (wr I5 86 W.length (nI (mk (kd b n t)))) 55 47 (nI (W.length + 1)))) G := ⟨M6.nx h4 (by omega), by rw [nx.f (by decide), wr_ne _ _ _ _ (by decide), wr_other _ _ _ _ (by decide), m5 12 (by decide) (by decide)]; exact X.2.1, (W5.push (w := kd b n t) (by omega) rfl).k (nx.f (by decide)) (nx.q (by decide)), L5.k (by rw [nx.f (by decide), wr_ne _ _ _ _ (by decide), wr_other _ _ _ _ (by decide)]) (by rw [nx.q (by decide), wr_other _ _ _ _ (by decide), wr_other _ _ _ _ (by decide)]) (by rw [nx.q (by decide), wr_other _ _ _ _ (by decide), wr_other _ _ _ _ (by decide)])⟩
        obtain ⟨g1, g2, g3, g4, g5, g6⟩ := ex_far b n f 0 0 d (t + 1) (wtC w (wtC s c)) (by omega) X7.1.2.2.1 (by omega)
        refine hU e d (t + 1) Lx tt rt u (wtC w (wtC s c)) (kd b n t :: W) _ G Q hd (by omega) X7 (by rw [List.length_cons]; omega) (by omega) (fun z1 I8 f8 X8 => ?_) (fun z1 I8 f8 F8 => hF (by rw [bnd_1 z1]; exact z1) I8 (F6.tr (frx.n.tr f8)) (by rw [bnd_1 z1]; exact F8))
        have g5 := g5 z1
        rw [if_pos (Or.inl rfl)] at g5
        have g4 := g4 z1 rfl
        rw [bnd_0 z1] at hE hF
        have ep : pd (kd b n t) 0 W = kd b n t :: W := by unfold pd; rw [if_neg (show ¬ kd b n t = 0 by omega)]; rfl
        have hl1 := wtC_len (kd b n t) (ex b n f 0 0 d (t + 1) (wtC w (wtC s c))).2.2
        rw [if_neg (show ¬ kd b n t = 0 by omega)] at hl1
        exact hA e d (kd b n t) 0 _ Lx tt rt u (ex b n f 0 0 d (t + 1) (wtC w (wtC s c))).2.2 W I8 G Q hd (by omega) (by omega) (Or.inl rfl) hW (by rw [ep]; exact X8) hWl (by show a0 + (wtC (kd b n t) (ex b n f 0 0 d (t + 1) (wtC w (wtC s c))).2.2).length ≤ _; omega) (fun y w2 s2 c2 I9 p1 p2 p3 p4 p5 p6 p7 => hE y w2 s2 c2 I9 p1 p2 (F6.tr (frx.n.tr (f8.tr p3))) p4 p5 p6 p7) (fun y I9 p3 p4 => hF y I9 (F6.tr (frx.n.tr (f8.tr p3))) p4)
      · have h13 : ft 2 (stA b n t) (wr (wr I5 86 W.length (nI (mk (kd b n t)))) 55 47 (nI (W.length + 1))) 55 13 = nI 2 := by unfold ft; rw [wr_ne _ _ _ _ (by decide), wr_eq]
        refine wx_goto rfl ?_
        refine wx_iload_n rfl (e := 13) rfl rfl ?_
        refine wn_if_eq rfl (e := 16) rfl (by omega) (fun c_13 => absurd c_13 (by omega)) (fun c_13 => ?_)
        refine wx_aload_n rfl (e := 17) rfl rfl ?_
        refine wx_geti rfl (e := 20) rfl rfl ?_
        rw [h13]
        refine wn_if_ne rfl (e := 23) rfl (by omega) (fun c_20 => ?_) (fun c_20 => absurd c_20 (by omega))
        refine wx_ret rfl rfl ⟨by decide, by decide⟩ ?_
        rw [if_neg (by omega), if_pos (by omega), if_pos h4] at hF
        exact hF (show ¬ 2 = 0 by decide) _ (F6.tr frx.t) (ft.m (k := 2) (tok := t) (by decide) (by decide))
    · have k0 := True.intro
      refine wx_aload_n rfl (e := 97) rfl rfl ?_
      refine wx_bipush (v := (nI 7)) rfl (e := 99) rfl (by decide) ?_
      refine wx_cv1 (mc := 0) (ms := 0) rfl (e := 102) rfl rfl (Nat.le_of_ble_eq_true rfl) ⟨by decide, by decide⟩ ?_
      refine c_is X.1 (κ := 41) (by decide) (by decide) (by decide) (fun hz => absurd hz (by omega)) (fun hz => ?_)
      refine wn_if_eq rfl (e := 105) rfl (by omega) (fun c_102 => ?_) (fun c_102 => absurd c_102 (by omega))
      refine wx_aload_n rfl (e := 146) rfl rfl ?_
      refine wx_bipush (v := (nI 8)) rfl (e := 148) rfl (by decide) ?_
      refine wx_cv1 (mc := 0) (ms := 0) rfl (e := 151) rfl rfl (Nat.le_of_ble_eq_true rfl) ⟨by decide, by decide⟩ ?_
      refine c_is X.1 (κ := 43) (by decide) (by decide) (by decide) (fun hz => absurd hz (by omega)) (fun hz => ?_)
      refine wn_if_ne rfl (e := 154) rfl (by omega) (fun c_151 => absurd c_151 (by omega)) (fun c_151 => ?_)
      refine wx_aload_n rfl (e := 155) rfl rfl ?_
      refine wx_bipush (v := (nI 9)) rfl (e := 157) rfl (by decide) ?_
      refine wx_cv1 (mc := 0) (ms := 0) rfl (e := 160) rfl rfl (Nat.le_of_ble_eq_true rfl) ⟨by decide, by decide⟩ ?_
      refine c_is X.1 (κ := 45) (by decide) (by decide) (by decide) (fun hz => ?_) (fun hz => absurd hk hz)
      refine wn_if_ne rfl (e := 163) rfl (by omega) (fun c_160 => ?_) (fun c_160 => absurd c_160 (by omega))
      refine wx_iconst (v := (nI 1)) rfl (e := 182) rfl (by decide) ?_
      refine wx_goto rfl ?_
      refine wx_istore_n (L2 := [_, _, _]) rfl (e := 187) rfl (by decide) rfl ?_
      refine wx_iload_n rfl (e := 188) rfl rfl ?_
      refine wn_if_ne rfl (e := 191) rfl (by omega) (fun c_188 => ?_) (fun c_188 => absurd c_188 (by omega))
      refine wx_aload_n rfl (e := 211) rfl rfl ?_
      refine wx_aload_n rfl (e := 212) rfl rfl ?_
      refine wx_bipush (v := (nI 10)) rfl (e := 214) rfl (by decide) ?_
      refine wx_cv1 (mc := 0) (ms := 0) rfl (e := 217) rfl rfl (Nat.le_of_ble_eq_true rfl) ⟨by decide, by decide⟩ ?_
      refine c_is X.1 (κ := 42) (by decide) (by decide) (by decide) (fun hz => absurd hz (by omega)) (fun hz => ?_)
      refine wn_if_ne rfl (e := 220) rfl (by omega) (fun c_217 => absurd c_217 (by omega)) (fun c_217 => ?_)
      refine wx_aload_n rfl (e := 221) rfl rfl ?_
      refine wx_bipush (v := (nI 15)) rfl (e := 223) rfl (by decide) ?_
      refine wx_cv1 (mc := 0) (ms := 0) rfl (e := 226) rfl rfl (Nat.le_of_ble_eq_true rfl) ⟨by decide, by decide⟩ ?_
      refine c_is X.1 (κ := 47) (by decide) (by decide) (by decide) (fun hz => absurd hz (by omega)) (fun hz => ?_)
      refine wn_if_eq rfl (e := 229) rfl (by omega) (fun c_226 => ?_) (fun c_226 => absurd c_226 (by omega))
      refine wx_iconst (v := (nI 0)) rfl (e := 234) rfl (by decide) ?_
      refine wx_cv1 (mc := 0) (ms := 0) rfl (e := 237) rfl rfl (Nat.le_of_ble_eq_true rfl) ⟨by decide, by decide⟩ ?_
      refine c_comes (st := false) X.2.2.1 X.2.2.2 (h := B + 420) hB840 (by omega) (by omega) (fun I5 f5 m5 W5 L5 => ?_)
      rw [co_pd hw hs hW, if_neg (by decide)] at W5 L5
      have W5 : WS W I5 := W5
      have L5 : LM a0 (wtC w (wtC s c)) I5 := L5
      have M5 := X.1.co f5 m5
      have hpl0 := pd_len0 w W
      obtain ⟨⟨m, hK, hm⟩, -, -, r11, -⟩ := id M5
      have hlt := hm t ht hgd
      have hK1 := hK.1
      refine wx_aload_n rfl (e := 238) rfl rfl ?_
      refine wx_getr rfl (e := 241) rfl rfl rfl ?_
      refine wx_aload_n rfl (e := 242) rfl rfl ?_
      refine wx_geti rfl (e := 245) rfl rfl ?_
      rw [W5.2.1]
      refine wx_aload_n rfl (e := 246) rfl rfl ?_
      refine wx_getr rfl (e := 249) rfl rfl rfl ?_
      refine wx_aload_n rfl (e := 250) rfl rfl ?_
      refine wx_geti rfl (e := 253) rfl rfl ?_
      rw [r11]
      refine wn_iald rfl (e := 254) rfl rfl (by omega) (by decide) ?_
      rw [(hK.2.2 t hlt).1]
      refine wn_iast rfl (e := 255) rfl rfl (by decide) (by omega) (by decide) ?_
      refine wx_aload_n rfl (e := 256) rfl rfl ?_
      refine wx_dup rfl (e := 257) rfl rfl ?_
      refine wx_geti rfl (e := 260) rfl rfl ?_
      rw [wr_other _ _ _ _ (by decide), W5.2.1]
      refine wx_iconst (v := (nI 1)) rfl (e := 261) rfl (by decide) ?_
      refine wn_iadd rfl (e := 262) rfl ?_
      refine wx_puti rfl (e := 265) rfl rfl (by decide) ?_
      refine wx_aload_n rfl (e := 266) rfl rfl ?_
      refine wx_cv0 (mc := 0) (ms := 0) rfl (e := 269) rfl rfl (Nat.le_of_ble_eq_true rfl) ⟨by decide, by decide⟩ ?_
      have M6 : MS b n t (wr (wr I5 86 W.length (nI (mk (kd b n t)))) 55 47 (nI (W.length + 1))) G := M5.k (by rw [wr_ne _ _ _ _ (by decide), wr_other _ _ _ _ (by decide)]) (by rw [wr_other _ _ _ _ (by decide), wr_other _ _ _ _ (by decide)]) (by rw [wr_other _ _ _ _ (by decide), wr_other _ _ _ _ (by decide)]) (by rw [wr_other _ _ _ _ (by decide), wr_other _ _ _ _ (by decide)]) (by rw [wr_ne _ _ _ _ (by decide), wr_other _ _ _ _ (by decide)]) (by rw [wr_ne _ _ _ _ (by decide), wr_other _ _ _ _ (by decide)])
      have F6 : frx a0 (B + 420) I (wr (wr I5 86 W.length (nI (mk (kd b n t)))) 55 47 (nI (W.length + 1))) := f5.tr (frx.w6.tr (frx.w (by omega)))
      refine c_goes M6 (fun h4 => ?_) (fun h4 => ?_)
      · have h13 : nx t (wr (wr I5 86 W.length (nI (mk (kd b n t)))) 55 47 (nI (W.length + 1))) 55 13 = nI 0 := by rw [nx.f (by decide)]; exact M6.2.2.2.2
        refine wx_goto rfl ?_
        refine wx_iload_n rfl (e := 13) rfl rfl ?_
        refine wn_if_eq rfl (e := 16) rfl (by omega) (fun c_13 => absurd c_13 (by omega)) (fun c_13 => ?_)
        refine wx_aload_n rfl (e := 17) rfl rfl ?_
        refine wx_geti rfl (e := 20) rfl rfl ?_
        rw [h13]
        refine wn_if_ne rfl (e := 23) rfl (by omega) (fun c_20 => absurd c_20 (by omega)) (fun c_20 => ?_)
        rw [if_neg (by omega), if_pos (by omega), if_neg (by omega)] at hE hF
        have X7 : XS b n a0 (t + 1) d (kd b n t :: W) (wtC w (wtC s c)) (nx t (wr (wr I5 86 W.length (nI (mk (kd b n t)))) 55 47 (nI (W.length + 1)))) G := ⟨M6.nx h4 (by omega), by rw [nx.f (by decide), wr_ne _ _ _ _ (by decide), wr_other _ _ _ _ (by decide), m5 12 (by decide) (by decide)]; exact X.2.1, (W5.push (w := kd b n t) (by omega) rfl).k (nx.f (by decide)) (nx.q (by decide)), L5.k (by rw [nx.f (by decide), wr_ne _ _ _ _ (by decide), wr_other _ _ _ _ (by decide)]) (by rw [nx.q (by decide), wr_other _ _ _ _ (by decide), wr_other _ _ _ _ (by decide)]) (by rw [nx.q (by decide), wr_other _ _ _ _ (by decide), wr_other _ _ _ _ (by decide)])⟩
        obtain ⟨g1, g2, g3, g4, g5, g6⟩ := ex_far b n f 0 0 d (t + 1) (wtC w (wtC s c)) (by omega) X7.1.2.2.1 (by omega)
        refine hU e d (t + 1) Lx tt rt u (wtC w (wtC s c)) (kd b n t :: W) _ G Q hd (by omega) X7 (by rw [List.length_cons]; omega) (by omega) (fun z1 I8 f8 X8 => ?_) (fun z1 I8 f8 F8 => hF (by rw [bnd_1 z1]; exact z1) I8 (F6.tr (frx.n.tr f8)) (by rw [bnd_1 z1]; exact F8))
        have g5 := g5 z1
        rw [if_pos (Or.inl rfl)] at g5
        have g4 := g4 z1 rfl
        rw [bnd_0 z1] at hE hF
        have ep : pd (kd b n t) 0 W = kd b n t :: W := by unfold pd; rw [if_neg (show ¬ kd b n t = 0 by omega)]; rfl
        have hl1 := wtC_len (kd b n t) (ex b n f 0 0 d (t + 1) (wtC w (wtC s c))).2.2
        rw [if_neg (show ¬ kd b n t = 0 by omega)] at hl1
        exact hA e d (kd b n t) 0 _ Lx tt rt u (ex b n f 0 0 d (t + 1) (wtC w (wtC s c))).2.2 W I8 G Q hd (by omega) (by omega) (Or.inl rfl) hW (by rw [ep]; exact X8) hWl (by show a0 + (wtC (kd b n t) (ex b n f 0 0 d (t + 1) (wtC w (wtC s c))).2.2).length ≤ _; omega) (fun y w2 s2 c2 I9 p1 p2 p3 p4 p5 p6 p7 => hE y w2 s2 c2 I9 p1 p2 (F6.tr (frx.n.tr (f8.tr p3))) p4 p5 p6 p7) (fun y I9 p3 p4 => hF y I9 (F6.tr (frx.n.tr (f8.tr p3))) p4)
      · have h13 : ft 2 (stA b n t) (wr (wr I5 86 W.length (nI (mk (kd b n t)))) 55 47 (nI (W.length + 1))) 55 13 = nI 2 := by unfold ft; rw [wr_ne _ _ _ _ (by decide), wr_eq]
        refine wx_goto rfl ?_
        refine wx_iload_n rfl (e := 13) rfl rfl ?_
        refine wn_if_eq rfl (e := 16) rfl (by omega) (fun c_13 => absurd c_13 (by omega)) (fun c_13 => ?_)
        refine wx_aload_n rfl (e := 17) rfl rfl ?_
        refine wx_geti rfl (e := 20) rfl rfl ?_
        rw [h13]
        refine wn_if_ne rfl (e := 23) rfl (by omega) (fun c_20 => ?_) (fun c_20 => absurd c_20 (by omega))
        refine wx_ret rfl rfl ⟨by decide, by decide⟩ ?_
        rw [if_neg (by omega), if_pos (by omega), if_pos h4] at hF
        exact hF (show ¬ 2 = 0 by decide) _ (F6.tr frx.t) (ft.m (k := 2) (tok := t) (by decide) (by decide))
  · rw [if_neg (by omega), if_neg (by omega)] at hE
    exact hE rfl w s c I hw hs frx.rf X rfl (by show a0 + c.length ≤ B + t; omega) hop
theorem xq_all {b : Nat → Nat} {n a0 B : Nat} (hB840 : B + 420 ≤ 840) : ∀ f, xqU b n a0 B f ∧ xqA b n a0 B f
  | 0 => ⟨fun e d t Lx tt rt u c W I G Q _ h X => absurd X.1.2.1 (by omega), fun e d w s t Lx tt rt u c W I G Q _ h _ _ _ X => absurd X.1.2.1 (by omega)⟩
  | f + 1 => ⟨xqU_s hB840 (xq_all hB840 f).1 (xq_all hB840 f).2, xqA_s hB840 (xq_all hB840 f).1 (xq_all hB840 f).2⟩
set_option maxHeartbeats 4000000 in
theorem c_expr {d Lx tt rt u : Nat} {I : Nat → Nat → Int32} {G : Nat → Nat → Int64} {Q : ab_Q} {b : Nat → Nat} {n t a0 B : Nat} (hB840 : B + 420 ≤ 840) (hM : MS b n t I G) (h12 : I 55 12 = nI 0) (h43 : I 55 43 = nI a0) (hx : a0 ≤ B + t) (hy : (sumS b n t).1 = 0 → ∀ I2, frx a0 (B + 420) I I2 → MS b n (sumS b n t).2.1 I2 G → LM a0 (sumS b n t).2.2 I2 → I2 55 12 = nI 0 → Q none (hp Lx tt rt u I2 G)) (hn : ¬ (sumS b n t).1 = 0 → ∀ I2, frx a0 (B + 420) I I2 → FM b n (sumS b n t).1 (sumS b n t).2.1 I2 → Q none (hp Lx tt rt u I2 G)) : ab_call ab_MT (d + 5) 215 [.ref 55] (hp Lx tt rt u I G) 0 0 Q := by
  refine wx_in (M := mX11_expression) rfl rfl rfl (Nat.le_of_ble_eq_true rfl) ?_
  refine wx_aload_n rfl (e := 1) rfl rfl ?_
  refine wx_iconst (v := (nI 0)) rfl (e := 2) rfl (by decide) ?_
  refine wx_puti rfl (e := 5) rfl rfl (by decide) ?_
  refine wx_aload_n rfl (e := 6) rfl rfl ?_
  refine wx_geti rfl (e := 9) rfl rfl ?_
  rw [wr_ne _ _ _ _ (by decide), h12]
  refine wx_istore_n (L2 := [_, _, _]) rfl (e := 10) rfl (by decide) rfl ?_
  refine wx_iconst (v := (nI 1)) rfl (e := 11) rfl (by decide) ?_
  refine wx_istore_n (L2 := [_, _, _]) rfl (e := 12) rfl (by decide) rfl ?_
  refine wx_iload_n rfl (e := 13) rfl rfl ?_
  refine wn_if_eq rfl (e := 16) rfl (by omega) (fun c_13 => absurd c_13 (by omega)) (fun c_13 => ?_)
  refine wx_aload_n rfl (e := 17) rfl rfl ?_
  refine wx_geti rfl (e := 20) rfl rfl ?_
  rw [wr_ne _ _ _ _ (by decide), hM.2.2.2.2]
  refine wn_if_ne rfl (e := 23) rfl (by omega) (fun c_20 => absurd c_20 (by omega)) (fun c_20 => ?_)
  have X0 : XS b n a0 t 0 [] [] (wr I 55 47 (nI 0)) G := ⟨hM.k (by rw [wr_ne _ _ _ _ (by decide)]) (by rw [wr_other _ _ _ _ (by decide)]) (by rw [wr_other _ _ _ _ (by decide)]) (by rw [wr_other _ _ _ _ (by decide)]) (by rw [wr_ne _ _ _ _ (by decide)]) (by rw [wr_ne _ _ _ _ (by decide)]), by rw [wr_ne _ _ _ _ (by decide)]; exact h12, ⟨fun y hy => absurd hy List.not_mem_nil, wr_eq _ _ _ _, True.intro⟩, ⟨by rw [wr_ne _ _ _ _ (by decide)]; exact h43, rfl⟩⟩
  have F0 : frx a0 (B + 420) I (wr I 55 47 (nI 0)) := frx.w (by omega)
  have ht := hM.2.1
  obtain ⟨g1, g2, g3, g4, g5, g6⟩ := ex_far b n 402 0 0 0 t [] ht hM.2.2.1 (by omega)
  refine (xq_all hB840 402).1 d 0 t Lx tt rt u [] [] _ G Q (by omega) (by omega) X0 (by decide) (by show a0 + 0 ≤ B + t; omega) (fun z1 I3 f3 X3 => ?_) (fun z1 I3 f3 F3 => ?_)
  · have g5 := g5 z1
    rw [if_pos (Or.inl rfl)] at g5
    have g5 : (ex b n 402 0 0 0 t []).2.2.length + t ≤ 0 + (ex b n 402 0 0 0 t []).2.1 + 0 := g5
    have hsum : sumS b n t = (ex b n 402 1 0 0 (ex b n 402 0 0 0 t []).2.1 (ex b n 402 0 0 0 t []).2.2) := bnd_0 z1
    obtain ⟨k1, k2, k3, k4, k5, k6⟩ := ex_far b n 402 1 0 0 (ex b n 402 0 0 0 t []).2.1 (ex b n 402 0 0 0 t []).2.2 g2 g3 (by omega)
    refine (xq_all hB840 402).2.z d 0 (ex b n 402 0 0 0 t []).2.1 Lx tt rt u (ex b n 402 0 0 0 t []).2.2 [] I3 G Q (by omega) (by omega) (Or.inl rfl) X3 (Nat.zero_le _) (by omega) (fun z2 w2 s2 c2 I4 hw2 hs2 f4 X4 hc2 hb2 hnop => ?_) (fun z2 I4 f4 F4 => hn (by rw [hsum]; exact z2) I4 (F0.tr (f3.tr f4)) (by rw [hsum]; exact F4))
    have F4 := F0.tr (f3.tr f4)
    have hpl := pd_len w2 s2 []
    have hpl : (pd w2 s2 []).length ≤ 0 + 2 := hpl
    have hkl2 := kd62 b n (ex b n 402 1 0 0 (ex b n 402 0 0 0 t []).2.1 (ex b n 402 0 0 0 t []).2.2).2.1
    refine wx_aload_n rfl (e := 97) rfl rfl ?_
    refine wx_bipush (v := (nI 7)) rfl (e := 99) rfl (by decide) ?_
    refine wx_cv1 (mc := 0) (ms := 0) rfl (e := 102) rfl rfl (Nat.le_of_ble_eq_true rfl) ⟨by decide, by decide⟩ ?_
    refine c_is X4.1 (κ := 41) (by decide) (by decide) (by decide) (fun hz41 => ?_) (fun hz41 => ?_)
    · refine wn_if_eq rfl (e := 105) rfl (by omega) (fun c_102 => absurd c_102 (by omega)) (fun c_102 => ?_)
      refine wx_aload_n rfl (e := 106) rfl rfl ?_
      refine wx_geti rfl (e := 109) rfl rfl ?_
      rw [X4.2.1]
      refine wx_iload_n rfl (e := 110) rfl rfl ?_
      refine wn_ic_le rfl (e := 113) rfl (by omega) (by omega) (fun c_110 => ?_) (fun c_110 => absurd c_110 (by omega))
      refine wx_aload_n rfl (e := 146) rfl rfl ?_
      refine wx_bipush (v := (nI 8)) rfl (e := 148) rfl (by decide) ?_
      refine wx_cv1 (mc := 0) (ms := 0) rfl (e := 151) rfl rfl (Nat.le_of_ble_eq_true rfl) ⟨by decide, by decide⟩ ?_
      refine c_is X4.1 (κ := 43) (by decide) (by decide) (by decide) (fun hz => absurd hz (by omega)) (fun hz => ?_)
      refine wn_if_ne rfl (e := 154) rfl (by omega) (fun c_151 => absurd c_151 (by omega)) (fun c_151 => ?_)
      refine wx_aload_n rfl (e := 155) rfl rfl ?_
      refine wx_bipush (v := (nI 9)) rfl (e := 157) rfl (by decide) ?_
      refine wx_cv1 (mc := 0) (ms := 0) rfl (e := 160) rfl rfl (Nat.le_of_ble_eq_true rfl) ⟨by decide, by decide⟩ ?_
      refine c_is X4.1 (κ := 45) (by decide) (by decide) (by decide) (fun hz => absurd hz (by omega)) (fun hz => ?_)
      refine wn_if_ne rfl (e := 163) rfl (by omega) (fun c_160 => absurd c_160 (by omega)) (fun c_160 => ?_)
      refine wx_aload_n rfl (e := 164) rfl rfl ?_
      refine wx_bipush (v := (nI 10)) rfl (e := 166) rfl (by decide) ?_
      refine wx_cv1 (mc := 0) (ms := 0) rfl (e := 169) rfl rfl (Nat.le_of_ble_eq_true rfl) ⟨by decide, by decide⟩ ?_
      refine c_is X4.1 (κ := 42) (by decide) (by decide) (by decide) (fun hz => absurd hz (by omega)) (fun hz => ?_)
      refine wn_if_ne rfl (e := 172) rfl (by omega) (fun c_169 => absurd c_169 (by omega)) (fun c_169 => ?_)
      refine wx_aload_n rfl (e := 173) rfl rfl ?_
      refine wx_bipush (v := (nI 15)) rfl (e := 175) rfl (by decide) ?_
      refine wx_cv1 (mc := 0) (ms := 0) rfl (e := 178) rfl rfl (Nat.le_of_ble_eq_true rfl) ⟨by decide, by decide⟩ ?_
      refine c_is X4.1 (κ := 47) (by decide) (by decide) (by decide) (fun hz => absurd hz (by omega)) (fun hz => ?_)
      refine wn_if_eq rfl (e := 181) rfl (by omega) (fun c_178 => ?_) (fun c_178 => absurd c_178 (by omega))
      refine wx_iconst (v := (nI 0)) rfl (e := 186) rfl (by decide) ?_
      refine wx_istore_n (L2 := [_, _, _]) rfl (e := 187) rfl (by decide) rfl ?_
      refine wx_iload_n rfl (e := 188) rfl rfl ?_
      refine wn_if_ne rfl (e := 191) rfl (by omega) (fun c_188 => absurd c_188 (by omega)) (fun c_188 => ?_)
      refine wx_aload_n rfl (e := 192) rfl rfl ?_
      refine wx_geti rfl (e := 195) rfl rfl ?_
      rw [X4.2.1]
      refine wx_iload_n rfl (e := 196) rfl rfl ?_
      refine wn_ic_le rfl (e := 199) rfl (by omega) (by omega) (fun c_196 => ?_) (fun c_196 => absurd c_196 (by omega))
      refine wx_aload_n rfl (e := 205) rfl rfl ?_
      refine wx_iconst (v := (nI 0)) rfl (e := 206) rfl (by decide) ?_
      refine wx_cv1 (mc := 0) (ms := 0) rfl (e := 209) rfl rfl (Nat.le_of_ble_eq_true rfl) ⟨by decide, by decide⟩ ?_
      refine c_comes (st := false) X4.2.2.1 X4.2.2.2 (h := B + 420) hB840 (by omega) (by omega) (fun I5 f5 m5 W5 L5 => ?_)
      rw [co_pd hw2 hs2 (Or.inl rfl), if_neg (by decide)] at W5 L5
      rw [← hc2] at L5
      refine wx_ret rfl rfl ⟨by decide, by decide⟩ ?_
      exact hy (by rw [hsum]; exact z2) I5 (F4.tr f5) (by rw [hsum]; exact X4.1.co f5 m5) (by rw [hsum]; exact L5) ((m5 12 (by decide) (by decide)).trans X4.2.1)
    · refine wn_if_eq rfl (e := 105) rfl (by omega) (fun c_102 => ?_) (fun c_102 => absurd c_102 (by omega))
      refine wx_aload_n rfl (e := 146) rfl rfl ?_
      refine wx_bipush (v := (nI 8)) rfl (e := 148) rfl (by decide) ?_
      refine wx_cv1 (mc := 0) (ms := 0) rfl (e := 151) rfl rfl (Nat.le_of_ble_eq_true rfl) ⟨by decide, by decide⟩ ?_
      refine c_is X4.1 (κ := 43) (by decide) (by decide) (by decide) (fun hz => absurd hz (by omega)) (fun hz => ?_)
      refine wn_if_ne rfl (e := 154) rfl (by omega) (fun c_151 => absurd c_151 (by omega)) (fun c_151 => ?_)
      refine wx_aload_n rfl (e := 155) rfl rfl ?_
      refine wx_bipush (v := (nI 9)) rfl (e := 157) rfl (by decide) ?_
      refine wx_cv1 (mc := 0) (ms := 0) rfl (e := 160) rfl rfl (Nat.le_of_ble_eq_true rfl) ⟨by decide, by decide⟩ ?_
      refine c_is X4.1 (κ := 45) (by decide) (by decide) (by decide) (fun hz => absurd hz (by omega)) (fun hz => ?_)
      refine wn_if_ne rfl (e := 163) rfl (by omega) (fun c_160 => absurd c_160 (by omega)) (fun c_160 => ?_)
      refine wx_aload_n rfl (e := 164) rfl rfl ?_
      refine wx_bipush (v := (nI 10)) rfl (e := 166) rfl (by decide) ?_
      refine wx_cv1 (mc := 0) (ms := 0) rfl (e := 169) rfl rfl (Nat.le_of_ble_eq_true rfl) ⟨by decide, by decide⟩ ?_
      refine c_is X4.1 (κ := 42) (by decide) (by decide) (by decide) (fun hz => absurd hz (by omega)) (fun hz => ?_)
      refine wn_if_ne rfl (e := 172) rfl (by omega) (fun c_169 => absurd c_169 (by omega)) (fun c_169 => ?_)
      refine wx_aload_n rfl (e := 173) rfl rfl ?_
      refine wx_bipush (v := (nI 15)) rfl (e := 175) rfl (by decide) ?_
      refine wx_cv1 (mc := 0) (ms := 0) rfl (e := 178) rfl rfl (Nat.le_of_ble_eq_true rfl) ⟨by decide, by decide⟩ ?_
      refine c_is X4.1 (κ := 47) (by decide) (by decide) (by decide) (fun hz => absurd hz (by omega)) (fun hz => ?_)
      refine wn_if_eq rfl (e := 181) rfl (by omega) (fun c_178 => ?_) (fun c_178 => absurd c_178 (by omega))
      refine wx_iconst (v := (nI 0)) rfl (e := 186) rfl (by decide) ?_
      refine wx_istore_n (L2 := [_, _, _]) rfl (e := 187) rfl (by decide) rfl ?_
      refine wx_iload_n rfl (e := 188) rfl rfl ?_
      refine wn_if_ne rfl (e := 191) rfl (by omega) (fun c_188 => absurd c_188 (by omega)) (fun c_188 => ?_)
      refine wx_aload_n rfl (e := 192) rfl rfl ?_
      refine wx_geti rfl (e := 195) rfl rfl ?_
      rw [X4.2.1]
      refine wx_iload_n rfl (e := 196) rfl rfl ?_
      refine wn_ic_le rfl (e := 199) rfl (by omega) (by omega) (fun c_196 => ?_) (fun c_196 => absurd c_196 (by omega))
      refine wx_aload_n rfl (e := 205) rfl rfl ?_
      refine wx_iconst (v := (nI 0)) rfl (e := 206) rfl (by decide) ?_
      refine wx_cv1 (mc := 0) (ms := 0) rfl (e := 209) rfl rfl (Nat.le_of_ble_eq_true rfl) ⟨by decide, by decide⟩ ?_
      refine c_comes (st := false) X4.2.2.1 X4.2.2.2 (h := B + 420) hB840 (by omega) (by omega) (fun I5 f5 m5 W5 L5 => ?_)
      rw [co_pd hw2 hs2 (Or.inl rfl), if_neg (by decide)] at W5 L5
      rw [← hc2] at L5
      refine wx_ret rfl rfl ⟨by decide, by decide⟩ ?_
      exact hy (by rw [hsum]; exact z2) I5 (F4.tr f5) (by rw [hsum]; exact X4.1.co f5 m5) (by rw [hsum]; exact L5) ((m5 12 (by decide) (by decide)).trans X4.2.1)
  · have hsum : sumS b n t = (ex b n 402 0 0 0 t []) := bnd_1 z1
    exact hn (by rw [hsum]; exact z1) I3 (F0.tr f3) (by rw [hsum]; exact F3)

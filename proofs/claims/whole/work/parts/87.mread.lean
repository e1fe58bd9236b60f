/-! the model: a text read -/
theorem rd_f0 {d Lx t rt u : Nat} {I : Nat → Nat → Int32} {G : Nat → Nat → Int64} {Q : ab_Q} {s : gs} {lv : Nat} (hI : MI lv I s) (hL : MLS lv I (tL (gT s))) (hW : CWm G) (hq : ∀ lv2 I2 G2, (∀ q, q < 55 ∨ 98 < q → I2 q = I q) → (∀ q, q ≠ 61 → q ≠ 63 → G2 q = G q) → MI lv2 I2 (tRead s).2 → MLS lv2 I2 (tL (gT (tRead s).2)) → Q (some (.int (tRead s).1)) (hp Lx t rt u I2 G2)) {k tok : Nat} {S2 : ps} {I2 : Nat → Nat → Int32} {G2 : Nat → Nat → Int64} {x1 : Option Value} (hk : ¬ k = 0) (hk2 : k ≤ 2) (hR : (rdS (bt (gB s).1) (gB s).2 402 ps0) = (k, tok, S2)) (FF : FM (bt (gB s).1) (gB s).2 k tok I2) (F2 : frD (1 - lv) I I2) (g2 : (∀ q, q ≠ 61 → q ≠ 63 → G2 q = G q)) (h2 : I2 55 2 = nI 0) : WP (d + 8) mX11_read Q 112 [some (.ref 55), x1] [] (hp Lx t rt u I2 G2) 0 0 := by
  obtain ⟨hM, hD1, hN, hHh, hSs, hDd, hPp, hpl⟩ := id hI
  have hlv := hM.1
  have m18 := hM.2.2.1
  refine wx_aload_n rfl (e := 113) rfl rfl ?_
  refine wx_geti rfl (e := 116) rfl rfl ?_
  rw [FF.2.2.1]
  refine wn_if_ne rfl (e := 119) rfl (by omega) (fun c_116 => ?_) (fun c_116 => absurd c_116 (by omega))
  refine wx_aload_n rfl (e := 135) rfl rfl ?_
  refine wx_aload_n rfl (e := 136) rfl rfl ?_
  refine wx_geti rfl (e := 139) rfl rfl ?_
  rw [FF.2.2.1]
  refine wn_if_le rfl (e := 142) rfl (by omega) (fun c_139 => absurd c_139 (by omega)) (fun c_139 => ?_)
  refine wx_aload_n rfl (e := 143) rfl rfl ?_
  refine wx_geti rfl (e := 146) rfl rfl ?_
  rw [FF.2.2.2]
  refine wx_goto rfl ?_
  refine wx_puti rfl (e := 167) rfl rfl (by decide) ?_
  refine wx_aload_n rfl (e := 168) rfl rfl ?_
  refine wx_geti rfl (e := 171) rfl rfl ?_
  rw [wr_ne _ _ _ _ (by decide), FF.2.2.1]
  refine wn_if_le rfl (e := 174) rfl (by omega) (fun c_171 => absurd c_171 (by omega)) (fun c_171 => ?_)
  refine wx_aload_n rfl (e := 175) rfl rfl ?_
  refine wx_geti rfl (e := 178) rfl rfl ?_
  rw [wr_ne _ _ _ _ (by decide), FF.2.2.1]
  refine wx_iret rfl rfl rfl ⟨by decide, by decide⟩ ?_
  have hr : tRead s = (nI k, ftG s (stA (bt (gB s).1) (gB s).2 tok)) := by
    unfold tRead
    rw [hR, if_neg hk]
  obtain ⟨z1, z2⟩ := hI.fault hL F2 h2 (p := stA (bt (gB s).1) (gB s).2 tok)
  rw [hr] at hq
  exact hq lv _ G2 (fun q h => by rw [wr_other _ _ _ _ (by omega)]; exact F2.q (by omega)) g2 z1 z2
theorem rd_f1 {d Lx t rt u : Nat} {I : Nat → Nat → Int32} {G : Nat → Nat → Int64} {Q : ab_Q} {s : gs} {lv : Nat} (hI : MI lv I s) (hL : MLS lv I (tL (gT s))) (hW : CWm G) (hq : ∀ lv2 I2 G2, (∀ q, q < 55 ∨ 98 < q → I2 q = I q) → (∀ q, q ≠ 61 → q ≠ 63 → G2 q = G q) → MI lv2 I2 (tRead s).2 → MLS lv2 I2 (tL (gT (tRead s).2)) → Q (some (.int (tRead s).1)) (hp Lx t rt u I2 G2)) {S : ps} {I2 : Nat → Nat → Int32} {G2 : Nat → Nat → Int64} {x1 : Option Value} (hV : PV S) (hPW : PW S) (hP : MP (bt (gB s).1) (gB s).2 (1 - lv) S (sT S) I2 G2) (h26 : kd (bt (gB s).1) (gB s).2 (sT S) = 26) (hR : (rdS (bt (gB s).1) (gB s).2 402 ps0) = (0, 0, S)) (F2 : frD (1 - lv) I I2) (g2 : (∀ q, q ≠ 61 → q ≠ 63 → G2 q = G q)) (h2 : I2 55 2 = nI 0) (hl : ¬ (sE S).1 = 0) : WP (d + 8) mX11_read Q 112 [some (.ref 55), x1] [] (hp Lx t rt u I2 G2) 0 0 := by
  obtain ⟨hM, hD1, hN, hHh, hSs, hDd, hPp, hpl⟩ := id hI
  have hlv := hM.1
  have m18 := hM.2.2.1
  obtain ⟨hMS, hE, hNm, hQ, hX⟩ := id hP
  obtain ⟨-, ht, hgd, r11, r13⟩ := id hMS
  obtain ⟨e5, e15, e16⟩ := id hE
  have hsd := hX.2.1
  refine wx_aload_n rfl (e := 113) rfl rfl ?_
  refine wx_geti rfl (e := 116) rfl rfl ?_
  rw [r13]
  refine wn_if_ne rfl (e := 119) rfl (by omega) (fun c_116 => absurd c_116 (by omega)) (fun c_116 => ?_)
  refine wx_aload_n rfl (e := 120) rfl rfl ?_
  refine wx_iconst (v := (nI 0)) rfl (e := 121) rfl (by decide) ?_
  refine wx_cv1 (mc := 0) (ms := 0) rfl (e := 124) rfl rfl (Nat.le_of_ble_eq_true rfl) ⟨by decide, by decide⟩ ?_
  refine c_is hMS (κ := 26) (by decide) (by decide) (by decide) (fun _ => ?_) (fun w => absurd h26 w)
  refine wn_if_ne rfl (e := 127) rfl (by omega) (fun c_124 => ?_) (fun c_124 => absurd c_124 (by omega))
  refine wx_aload_n rfl (e := 135) rfl rfl ?_
  refine wx_aload_n rfl (e := 136) rfl rfl ?_
  refine wx_geti rfl (e := 139) rfl rfl ?_
  rw [r13]
  refine wn_if_le rfl (e := 142) rfl (by omega) (fun c_139 => ?_) (fun c_139 => absurd c_139 (by omega))
  refine wx_aload_n rfl (e := 150) rfl rfl ?_
  refine wx_geti rfl (e := 153) rfl rfl ?_
  rw [e15]
  refine wn_if_le rfl (e := 156) rfl (by omega) (fun c_153 => absurd c_153 (by omega)) (fun c_153 => ?_)
  refine wx_aload_n rfl (e := 157) rfl rfl ?_
  refine wx_geti rfl (e := 160) rfl rfl ?_
  rw [e16 hl]
  refine wx_goto rfl ?_
  refine wx_puti rfl (e := 167) rfl rfl (by decide) ?_
  refine wx_aload_n rfl (e := 168) rfl rfl ?_
  refine wx_geti rfl (e := 171) rfl rfl ?_
  rw [wr_ne _ _ _ _ (by decide), r13]
  refine wn_if_le rfl (e := 174) rfl (by omega) (fun c_171 => ?_) (fun c_171 => absurd c_171 (by omega))
  refine wx_aload_n rfl (e := 180) rfl rfl ?_
  refine wx_geti rfl (e := 183) rfl rfl ?_
  rw [wr_ne _ _ _ _ (by decide), e15]
  refine wn_if_le rfl (e := 186) rfl (by omega) (fun c_183 => absurd c_183 (by omega)) (fun c_183 => ?_)
  refine wx_aload_n rfl (e := 187) rfl rfl ?_
  refine wx_geti rfl (e := 190) rfl rfl ?_
  rw [wr_ne _ _ _ _ (by decide), e15]
  refine wx_iret rfl rfl rfl ⟨by decide, by decide⟩ ?_
  have hr : tRead s = (nI (sE S).1, ftG s (stA (bt (gB s).1) (gB s).2 (sE S).2)) := by
    unfold tRead
    rw [hR, if_pos rfl, if_neg hl]
  obtain ⟨z1, z2⟩ := hI.fault hL F2 h2 (p := stA (bt (gB s).1) (gB s).2 (sE S).2)
  rw [hr] at hq
  exact hq lv _ G2 (fun q h => by rw [wr_other _ _ _ _ (by omega)]; exact F2.q (by omega)) g2 z1 z2
set_option maxHeartbeats 4000000 in
theorem rd_f2 {d Lx t rt u : Nat} {I : Nat → Nat → Int32} {G : Nat → Nat → Int64} {Q : ab_Q} {s : gs} {lv : Nat} (hI : MI lv I s) (hL : MLS lv I (tL (gT s))) (hW : CWm G) (hq : ∀ lv2 I2 G2, (∀ q, q < 55 ∨ 98 < q → I2 q = I q) → (∀ q, q ≠ 61 → q ≠ 63 → G2 q = G q) → MI lv2 I2 (tRead s).2 → MLS lv2 I2 (tL (gT (tRead s).2)) → Q (some (.int (tRead s).1)) (hp Lx t rt u I2 G2)) {S : ps} {I2 : Nat → Nat → Int32} {G2 : Nat → Nat → Int64} {x1 : Option Value} (hV : PV S) (hPW : PW S) (hP : MP (bt (gB s).1) (gB s).2 (1 - lv) S (sT S) I2 G2) (h26 : kd (bt (gB s).1) (gB s).2 (sT S) = 26) (hR : (rdS (bt (gB s).1) (gB s).2 402 ps0) = (0, 0, S)) (F2 : frD (1 - lv) I I2) (g2 : (∀ q, q ≠ 61 → q ≠ 63 → G2 q = G q)) (h2 : I2 55 2 = nI 0) (hl : (sE S).1 = 0) : WP (d + 8) mX11_read Q 112 [some (.ref 55), x1] [] (hp Lx t rt u I2 G2) 0 0 := by
  obtain ⟨hM, hD1, hN, hHh, hSs, hDd, hPp, hpl⟩ := id hI
  have hlv := hM.1
  have m18 := hM.2.2.1
  obtain ⟨hMS, hE, hNm, hQ, hX⟩ := id hP
  obtain ⟨-, ht, hgd, r11, r13⟩ := id hMS
  obtain ⟨e5, e15, e16⟩ := id hE
  have hsd := hX.2.1
  refine wx_aload_n rfl (e := 113) rfl rfl ?_
  refine wx_geti rfl (e := 116) rfl rfl ?_
  rw [r13]
  refine wn_if_ne rfl (e := 119) rfl (by omega) (fun c_116 => absurd c_116 (by omega)) (fun c_116 => ?_)
  refine wx_aload_n rfl (e := 120) rfl rfl ?_
  refine wx_iconst (v := (nI 0)) rfl (e := 121) rfl (by decide) ?_
  refine wx_cv1 (mc := 0) (ms := 0) rfl (e := 124) rfl rfl (Nat.le_of_ble_eq_true rfl) ⟨by decide, by decide⟩ ?_
  refine c_is hMS (κ := 26) (by decide) (by decide) (by decide) (fun _ => ?_) (fun w => absurd h26 w)
  refine wn_if_ne rfl (e := 127) rfl (by omega) (fun c_124 => ?_) (fun c_124 => absurd c_124 (by omega))
  refine wx_aload_n rfl (e := 135) rfl rfl ?_
  refine wx_aload_n rfl (e := 136) rfl rfl ?_
  refine wx_geti rfl (e := 139) rfl rfl ?_
  rw [r13]
  refine wn_if_le rfl (e := 142) rfl (by omega) (fun c_139 => ?_) (fun c_139 => absurd c_139 (by omega))
  refine wx_aload_n rfl (e := 150) rfl rfl ?_
  refine wx_geti rfl (e := 153) rfl rfl ?_
  rw [e15, hl]
  refine wn_if_le rfl (e := 156) rfl (by omega) (fun c_153 => ?_) (fun c_153 => absurd c_153 (by omega))
  refine wx_iconst (v := (-1)) rfl (e := 164) rfl (by decide) ?_
  refine wx_puti rfl (e := 167) rfl rfl (by decide) ?_
  refine wx_aload_n rfl (e := 168) rfl rfl ?_
  refine wx_geti rfl (e := 171) rfl rfl ?_
  rw [wr_ne _ _ _ _ (by decide), r13]
  refine wn_if_le rfl (e := 174) rfl (by omega) (fun c_171 => ?_) (fun c_171 => absurd c_171 (by omega))
  refine wx_aload_n rfl (e := 180) rfl rfl ?_
  refine wx_geti rfl (e := 183) rfl rfl ?_
  rw [wr_ne _ _ _ _ (by decide), e15, hl]
  refine wn_if_le rfl (e := 186) rfl (by omega) (fun c_183 => ?_) (fun c_183 => absurd c_183 (by omega))
  refine wx_aload_n rfl (e := 192) rfl rfl ?_
  refine wx_aload_n rfl (e := 193) rfl rfl ?_
  refine wx_geti rfl (e := 196) rfl rfl ?_
  rw [wr_ne _ _ _ _ (by decide), hsd]
  refine wx_puti rfl (e := 199) rfl rfl (by decide) ?_
  refine wx_aload_n rfl (e := 200) rfl rfl ?_
  refine wx_cv0 (mc := 0) (ms := 0) rfl (e := 203) rfl rfl (Nat.le_of_ble_eq_true rfl) ⟨by decide, by decide⟩ ?_
  refine c_X11_fillsFar (lv := 1 - lv) (F := sF S) (wr_eq _ _ _ _) (by omega) (hPW.ln hl) (fun a c ha hc => by rw [wr_other _ _ _ _ (by decide), wr_other _ _ _ _ (by decide)]; exact hQ.2.2.1 hl a c ha hc) (fun J2 f2_ j2 => ?_)
  refine wx_aload_n rfl (e := 204) rfl rfl ?_
  refine wx_cv0 (mc := 0) (ms := 0) rfl (e := 207) rfl rfl (Nat.le_of_ble_eq_true rfl) ⟨by decide, by decide⟩ ?_
  refine c_X11_begins (lv := 1 - lv) (C := sC S) (R := sR S) (by rw [f2_ 55 (by decide), wr_eq]) (by omega) (by rw [f2_ 65 (by decide), wr_other _ _ _ _ (by decide), wr_other _ _ _ _ (by decide)]; exact hQ.1.1) (by rw [f2_ 69 (by decide), wr_other _ _ _ _ (by decide), wr_other _ _ _ _ (by decide)]; exact hQ.1.2.2.1) hV.1 hV.2.2.1 (fun J3 f3 k3 j3 => ?_)
  refine wx_aload_n rfl (e := 208) rfl rfl ?_
  refine wx_cv0 (mc := 0) (ms := 0) rfl (e := 211) rfl rfl (Nat.le_of_ble_eq_true rfl) ⟨by decide, by decide⟩ ?_
  refine c_X11_keepsRow (fun J4 f4 j4 => ?_)
  refine wx_aload_n rfl (e := 212) rfl rfl ?_
  refine wx_iconst (v := (nI 0)) rfl (e := 213) rfl (by decide) ?_
  refine wx_puti rfl (e := 216) rfl rfl (by decide) ?_
  refine wx_aload_n rfl (e := 217) rfl rfl ?_
  refine wx_iconst (v := (nI 0)) rfl (e := 218) rfl (by decide) ?_
  refine wx_puti rfl (e := 221) rfl rfl (by decide) ?_
  refine wx_iconst (v := (nI 0)) rfl (e := 222) rfl (by decide) ?_
  refine wx_istore_n (L2 := [_, _]) rfl (e := 223) rfl (by decide) rfl ?_
  have loop : ∀ (m i : Nat) (J7 : Nat → Nat → Int32), i ≤ 3 → 3 - i < m → (∀ q, q ≠ 97 → J7 q = (wr (wr J4 55 57 (nI 0)) 55 61 (nI 0)) q) → (∀ j, j < i → J7 97 j = nI 0) → WP (d + 8) mX11_read Q 223 [some (.ref 55), some (.int (nI i))] [] (hp Lx t rt u J7 G2) 0 0 := by
    intro m
    induction m with
    | zero => intro i J7 h1 h2; omega
    | succ m ih =>
      intro i J7 h1 h2_ g7 h7
      refine wx_iload_n rfl (e := 224) rfl rfl ?_
      refine wx_iconst (v := (nI 3)) rfl (e := 225) rfl (by decide) ?_
      refine wn_ic_ge rfl (e := 228) rfl (by omega) (by omega) (fun c_225 => ?_) (fun c_225 => ?_)
      · refine wx_iconst (v := (nI 0)) rfl (e := 242) rfl (by decide) ?_
        refine wx_iret rfl rfl rfl ⟨by decide, by decide⟩ ?_
        have ei : i = 3 := by omega
        subst ei
        have hr : tRead s = (nI 0, nwG s S) := by
          unfold tRead
          rw [hR, if_pos rfl, if_pos hl]
        have k7 : ∀ k, k ≠ 17 → k ≠ 18 → k ≠ 54 → k ≠ 57 → k ≠ 61 → J7 55 k = I2 55 k := fun k y1 y2 y3 y4 y5 => by rw [g7 55 (by decide), wr_ne _ _ _ _ y5, wr_ne _ _ _ _ y4, f4 55 (by decide), k3 k y3, f2_ 55 (by decide), wr_ne _ _ _ _ y2, wr_ne _ _ _ _ y1]
        have s7 : ∀ q, q ≠ 55 → q ≠ 89 → q ≠ 90 → q ≠ 91 → q ≠ 97 → J7 q = I2 q := fun q y1 y2 y3 y4 y5 => by rw [g7 q y5, wr_other _ _ _ _ y1, wr_other _ _ _ _ y1, f4 q y3, f3 q y1 y4, f2_ q y2, wr_other _ _ _ _ y1, wr_other _ _ _ _ y1]
        obtain ⟨z1, z2⟩ := MI.new (s := s) (I9 := J7) hV hPW hP hl (fun q y0 y1 y2 y3 y4 => s7 q (by omega) y1 y2 y3 y4) (by rw [g7 55 (by decide), wr_ne _ _ _ _ (by decide), wr_ne _ _ _ _ (by decide), f4 55 (by decide), k3 18 (by decide), f2_ 55 (by decide), wr_eq]) (by rw [g7 55 (by decide), wr_ne _ _ _ _ (by decide), wr_ne _ _ _ _ (by decide), f4 55 (by decide), k3 17 (by decide), f2_ 55 (by decide), wr_ne _ _ _ _ (by decide), wr_eq]) (by rw [g7 55 (by decide), wr_ne _ _ _ _ (by decide), wr_eq]) (by rw [g7 55 (by decide), wr_eq]) (by rw [k7 2 (by decide) (by decide) (by decide) (by decide) (by decide)]; exact h2) (fun a c ha hc => by rw [g7 89 (by decide), wr_other _ _ _ _ (by decide), wr_other _ _ _ _ (by decide), f4 89 (by decide), f3 89 (by decide) (by decide)]; exact j2 a c ha hc) (fun k hk => by rw [g7 90 (by decide), wr_other _ _ _ _ (by decide), wr_other _ _ _ _ (by decide), j4 k hk, j3 k hk, f2_ 66 (by decide), f2_ 70 (by decide), wr_other _ _ _ _ (by decide), wr_other _ _ _ _ (by decide), wr_other _ _ _ _ (by decide), wr_other _ _ _ _ (by decide)]) h7
        rw [hr] at hq
        exact hq (1 - lv) J7 G2 (fun q h => by rw [s7 q (by omega) (by omega) (by omega) (by omega) (by omega)]; exact F2.q (by omega)) g2 z1 z2
      · refine wx_aload_n rfl (e := 229) rfl rfl ?_
        refine wx_getr rfl (e := 232) rfl rfl rfl ?_
        refine wx_iload_n rfl (e := 233) rfl rfl ?_
        refine wx_iconst (v := (nI 0)) rfl (e := 234) rfl (by decide) ?_
        refine wn_zast rfl (e := 235) rfl rfl (by decide) (by omega) (by decide) ?_
        refine wn_iinc (m := 1) (L2 := [_, _]) rfl (e := 238) rfl rfl (by decide) rfl ?_
        refine wx_goto rfl ?_
        exact ih (i + 1) _ (by omega) (by omega) (fun q h => by rw [wr_other _ _ _ _ h]; exact g7 q h) (wr_ext (f := fun _ => nI 0) rfl (fun k hk hne => h7 k (by omega)))
  exact loop 4 0 _ (by omega) (by omega) (fun _ _ => rfl) (fun j hj => absurd hj (Nat.not_lt_zero _))
set_option maxHeartbeats 4000000 in
theorem rd_lp {d Lx t rt u : Nat} {I : Nat → Nat → Int32} {G : Nat → Nat → Int64} {Q : ab_Q} {s : gs} {lv : Nat} (hI : MI lv I s) (hL : MLS lv I (tL (gT s))) (hW : CWm G) (hq : ∀ lv2 I2 G2, (∀ q, q < 55 ∨ 98 < q → I2 q = I q) → (∀ q, q ≠ 61 → q ≠ 63 → G2 q = G q) → MI lv2 I2 (tRead s).2 → MLS lv2 I2 (tL (gT (tRead s).2)) → Q (some (.int (tRead s).1)) (hp Lx t rt u I2 G2)) : ∀ (m f : Nat) (S : ps) (I2 : Nat → Nat → Int32) (G2 : Nat → Nat → Int64) (x1 : Option Value), PV S → PW S → MP (bt (gB s).1) (gB s).2 (1 - lv) S (sT S) I2 G2 → frD (1 - lv) I I2 → (∀ q, q ≠ 61 → q ≠ 63 → G2 q = G q) → I2 55 2 = nI 0 → 402 ≤ f + sT S → 402 - sT S < m → rdS (bt (gB s).1) (gB s).2 f S = (rdS (bt (gB s).1) (gB s).2 402 ps0) → WP (d + 8) mX11_read Q 112 [some (.ref 55), x1] [] (hp Lx t rt u I2 G2) 0 0 := by
  obtain ⟨hM, hD1, hN, hHh, hSs, hDd, hPp, hpl⟩ := id hI
  have hlv := hM.1
  have m18 := hM.2.2.1
  have hn2 := hPp.1
  intro m
  induction m with
  | zero => intro f S I2 G2 x1 _ _ _ _ _ _ _ h; omega
  | succ m ih =>
    intro f0 S I2 G2 x1 V2 W2 P2 F2 g2 h2 hf hm hR
    obtain ⟨hMS, hE, hNm, hQ, hX⟩ := id P2
    obtain ⟨-, ht, hgd, r11, r13⟩ := id hMS
    obtain ⟨f, rfl⟩ : ∃ f, f0 = f + 1 := ⟨f0 - 1, by omega⟩
    have so := st_ok2 V2 W2 ht hgd
    by_cases h26 : kd (bt (gB s).1) (gB s).2 (sT S) = 26
    · have hR2 : (rdS (bt (gB s).1) (gB s).2 402 ps0) = (0, 0, S) := by rw [← hR, rdS, if_pos h26]
      by_cases hl : (sE S).1 = 0
      · exact rd_f2 hI hL hW hq V2 W2 P2 h26 hR2 F2 g2 h2 hl
      · exact rd_f1 hI hL hW hq V2 W2 P2 h26 hR2 F2 g2 h2 hl
    · refine wx_aload_n rfl (e := 113) rfl rfl ?_
      refine wx_geti rfl (e := 116) rfl rfl ?_
      rw [r13]
      refine wn_if_ne rfl (e := 119) rfl (by omega) (fun c_116 => absurd c_116 (by omega)) (fun c_116 => ?_)
      refine wx_aload_n rfl (e := 120) rfl rfl ?_
      refine wx_iconst (v := (nI 0)) rfl (e := 121) rfl (by decide) ?_
      refine wx_cv1 (mc := 0) (ms := 0) rfl (e := 124) rfl rfl (Nat.le_of_ble_eq_true rfl) ⟨by decide, by decide⟩ ?_
      refine c_is hMS (κ := 26) (by decide) (by decide) (by decide) (fun w => absurd w h26) (fun _ => ?_)
      refine wn_if_ne rfl (e := 127) rfl (by omega) (fun c_124 => absurd c_124 (by omega)) (fun c_124 => ?_)
      refine wx_aload_n rfl (e := 128) rfl rfl ?_
      refine wx_cv0 (mc := 0) (ms := 0) rfl (e := 131) rfl rfl (Nat.le_of_ble_eq_true rfl) ⟨by decide, by decide⟩ ?_
      refine c_tellOne hn2 V2 W2 P2 h26 (fun z0 I3 G3 f3 g3 P3 => ?_) (fun z0 I3 f3 FF => ?_)
      · refine wx_goto rfl ?_
        obtain ⟨-, -, s3⟩ := so
        obtain ⟨s4, s5, s6⟩ := s3 z0
        exact ih f _ I3 G3 _ s4 s5 P3 (F2.tr f3.D) (fun q y1 y2 => (g3 q y2).trans (g2 q y1 y2)) (by rw [f3.f (by omega)]; exact h2) (by omega) (by omega) (by rw [← hR, rdS, if_neg h26, if_pos z0])
      · refine wx_goto rfl ?_
        obtain ⟨s1, s2, -⟩ := so
        exact rd_f0 hI hL hW hq (S2 := (stX (bt (gB s).1) (gB s).2 S).2.2) z0 s1 (by rw [← hR, rdS, if_neg h26, if_neg z0]) FF (F2.tr f3.D) g2 (by rw [f3.f (by omega)]; exact h2)
set_option maxHeartbeats 8000000 in
theorem c_X11_read {d Lx t rt u : Nat} {I : Nat → Nat → Int32} {G : Nat → Nat → Int64} {Q : ab_Q} {s : gs} {lv : Nat} (hI : MI lv I s) (hL : MLS lv I (tL (gT s))) (hW : CWm G) (hq : ∀ lv2 I2 G2, (∀ q, q < 55 ∨ 98 < q → I2 q = I q) → (∀ q, q ≠ 61 → q ≠ 63 → G2 q = G q) → MI lv2 I2 (tRead s).2 → MLS lv2 I2 (tL (gT (tRead s).2)) → Q (some (.int (tRead s).1)) (hp Lx t rt u I2 G2)) : ab_call ab_MT (d + 9) 200 [.ref 55] (hp Lx t rt u I G) 0 0 Q := by
  obtain ⟨hM, hD1, hN, hHh, hSs, hDd, hPp, hpl⟩ := id hI
  have hlv := hM.1
  have m18 := hM.2.2.1
  have hn2 := hPp.1
  have mid : ∀ (I2 : Nat → Nat → Int32) (x1 : Option Value), (∀ q, q ≠ 57 → I2 q = (wr I 55 4 (nI (gB s).2)) q) → (∀ j, j < (gB s).2 → I2 57 j = vp_nar .byte ((gB s).1 j)) → WP (d + 8) mX11_read Q 36 [some (.ref 55), x1] [] (hp Lx t rt u I2 G) 0 0 := by
    intro I2 x1 g2 j2
    refine wx_aload_n rfl (e := 37) rfl rfl ?_
    refine wx_iconst (v := (nI 0)) rfl (e := 38) rfl (by decide) ?_
    refine wx_puti rfl (e := 41) rfl rfl (by decide) ?_
    refine wx_aload_n rfl (e := 42) rfl rfl ?_
    refine wx_cv0 (mc := 0) (ms := 0) rfl (e := 45) rfl rfl (Nat.le_of_ble_eq_true rfl) ⟨by decide, by decide⟩ ?_
    refine c_X11_cut (B := fun j => vp_nar .byte ((gB s).1 j)) (n := (gB s).2) ⟨hPp.1, by rw [wr_ne _ _ _ _ (by decide), g2 55 (by decide), wr_eq], fun j hj => by rw [wr_other _ _ _ _ (by decide)]; exact j2 j hj⟩ hW (fun I4 G4 m f4 C4 m4 => ?_)
    rw [nar_fn] at C4 m4
    refine wx_aload_n rfl (e := 46) rfl rfl ?_
    refine wx_iconst (v := (nI 0)) rfl (e := 47) rfl (by decide) ?_
    refine wx_puti rfl (e := 50) rfl rfl (by decide) ?_
    refine wx_aload_n rfl (e := 51) rfl rfl ?_
    refine wx_iconst (v := (nI 0)) rfl (e := 52) rfl (by decide) ?_
    refine wx_puti rfl (e := 55) rfl rfl (by decide) ?_
    refine wx_aload_n rfl (e := 56) rfl rfl ?_
    refine wx_iconst (v := (nI 0)) rfl (e := 57) rfl (by decide) ?_
    refine wx_puti rfl (e := 60) rfl rfl (by decide) ?_
    refine wx_aload_n rfl (e := 61) rfl rfl ?_
    refine wx_iconst (v := (nI 0)) rfl (e := 62) rfl (by decide) ?_
    refine wx_puti rfl (e := 65) rfl rfl (by decide) ?_
    refine wx_aload_n rfl (e := 66) rfl rfl ?_
    refine wx_iconst (v := (nI 1)) rfl (e := 67) rfl (by decide) ?_
    refine wx_aload_n rfl (e := 68) rfl rfl ?_
    refine wx_geti rfl (e := 71) rfl rfl ?_
    rw [wr_ne _ _ _ _ (by decide), wr_ne _ _ _ _ (by decide), wr_ne _ _ _ _ (by decide), wr_ne _ _ _ _ (by decide), f4.2.1 18 (by decide), wr_ne _ _ _ _ (by decide), g2 55 (by decide), wr_ne _ _ _ _ (by decide), m18]
    refine wn_isub rfl (e := 72) rfl (by omega) ?_
    refine wx_puti rfl (e := 75) rfl rfl (by decide) ?_
    refine wx_aload_n rfl (e := 76) rfl rfl ?_
    refine wx_iconst (v := (nI 0)) rfl (e := 77) rfl (by decide) ?_
    refine wx_puti rfl (e := 80) rfl rfl (by decide) ?_
    refine wx_aload_n rfl (e := 81) rfl rfl ?_
    refine wx_aload_n rfl (e := 82) rfl rfl ?_
    refine wx_geti rfl (e := 85) rfl rfl ?_
    rw [wr_ne _ _ _ _ (by decide), wr_eq]
    refine wx_cv1 (mc := 0) (ms := 0) rfl (e := 88) rfl rfl (Nat.le_of_ble_eq_true rfl) ⟨by decide, by decide⟩ ?_
    refine c_X11_plain (sd := 1 - lv) (by omega) (fun I6 f6 g6 z6 l6 j6 => ?_)
    refine wx_aload_n rfl (e := 89) rfl rfl ?_
    refine wx_sipush (v := (nI 130)) rfl (e := 92) rfl (by decide) ?_
    refine wx_aload_n rfl (e := 93) rfl rfl ?_
    refine wx_geti rfl (e := 96) rfl rfl ?_
    rw [g6, wr_ne _ _ _ _ (by decide), wr_eq]
    refine wn_imul rfl (e := 97) rfl ?_
    refine wx_puti rfl (e := 100) rfl rfl (by decide) ?_
    refine wx_aload_n rfl (e := 101) rfl rfl ?_
    refine wx_sipush (v := (nI 420)) rfl (e := 104) rfl (by decide) ?_
    refine wx_aload_n rfl (e := 105) rfl rfl ?_
    refine wx_geti rfl (e := 108) rfl rfl ?_
    rw [wr_ne _ _ _ _ (by decide), g6, wr_ne _ _ _ _ (by decide), wr_eq]
    refine wn_imul rfl (e := 109) rfl ?_
    refine wx_puti rfl (e := 112) rfl rfl (by decide) ?_
    have F2 : frD (1 - lv) I I2 := fun q k h1 h2 h3 => by rw [g2 q (by omega)]; exact frD.w (by omega) q k h1 h2 h3
    have F4 : frD (1 - lv) (wr I2 55 2 (nI 0)) I4 := fun q k h1 h2 h3 => by
      by_cases e : q = 55
      · subst e; exact f4.2.1 k (by omega)
      · rw [f4.1 q e (by omega) (by omega) (by omega)]
    have F5 : frD (1 - lv) I4 (wr (wr (wr (wr (wr (wr I4 55 11 (nI 0)) 55 12 (nI 0)) 55 13 (nI 0)) 55 15 (nI 0)) 55 19 (nI (1 - lv))) 55 20 (nI 0)) := (frD.w (by unfold own; omega)).tr ((frD.w (by unfold own; omega)).tr ((frD.w (by unfold own; omega)).tr ((frD.w (by unfold own; omega)).tr ((frD.w (by unfold own; omega)).tr ((frD.w (by unfold own; omega)))))))
    have F7 : frD (1 - lv) I (wr (wr I6 55 37 (nI (130 * (1 - lv)))) 55 43 (nI (420 * (1 - lv)))) := F2.tr ((frD.w (by omega)).tr (F4.tr (F5.tr (f6.D.tr ((frD.w (by unfold own; omega)).tr (frD.w (by unfold own; omega)))))))
    have a10 : (wr (wr I6 55 37 (nI (130 * (1 - lv)))) 55 43 (nI (420 * (1 - lv)))) 55 10 = I4 55 10 := by rw [wr_ne _ _ _ _ (by decide), wr_ne _ _ _ _ (by decide), g6, wr_ne _ _ _ _ (by decide), wr_ne _ _ _ _ (by decide), wr_ne _ _ _ _ (by decide), wr_ne _ _ _ _ (by decide), wr_ne _ _ _ _ (by decide), wr_ne _ _ _ _ (by decide)]
    have a11 : (wr (wr I6 55 37 (nI (130 * (1 - lv)))) 55 43 (nI (420 * (1 - lv)))) 55 11 = nI 0 := by rw [wr_ne _ _ _ _ (by decide), wr_ne _ _ _ _ (by decide), g6, wr_ne _ _ _ _ (by decide), wr_ne _ _ _ _ (by decide), wr_ne _ _ _ _ (by decide), wr_ne _ _ _ _ (by decide), wr_ne _ _ _ _ (by decide), wr_eq]
    have a12 : (wr (wr I6 55 37 (nI (130 * (1 - lv)))) 55 43 (nI (420 * (1 - lv)))) 55 12 = nI 0 := by rw [wr_ne _ _ _ _ (by decide), wr_ne _ _ _ _ (by decide), g6, wr_ne _ _ _ _ (by decide), wr_ne _ _ _ _ (by decide), wr_ne _ _ _ _ (by decide), wr_ne _ _ _ _ (by decide), wr_eq]
    have a13 : (wr (wr I6 55 37 (nI (130 * (1 - lv)))) 55 43 (nI (420 * (1 - lv)))) 55 13 = nI 0 := by rw [wr_ne _ _ _ _ (by decide), wr_ne _ _ _ _ (by decide), g6, wr_ne _ _ _ _ (by decide), wr_ne _ _ _ _ (by decide), wr_ne _ _ _ _ (by decide), wr_eq]
    have a15 : (wr (wr I6 55 37 (nI (130 * (1 - lv)))) 55 43 (nI (420 * (1 - lv)))) 55 15 = nI 0 := by rw [wr_ne _ _ _ _ (by decide), wr_ne _ _ _ _ (by decide), g6, wr_ne _ _ _ _ (by decide), wr_ne _ _ _ _ (by decide), wr_eq]
    have a19 : (wr (wr I6 55 37 (nI (130 * (1 - lv)))) 55 43 (nI (420 * (1 - lv)))) 55 19 = nI (1 - lv) := by rw [wr_ne _ _ _ _ (by decide), wr_ne _ _ _ _ (by decide), g6, wr_ne _ _ _ _ (by decide), wr_eq]
    have a20 : (wr (wr I6 55 37 (nI (130 * (1 - lv)))) 55 43 (nI (420 * (1 - lv)))) 55 20 = nI 0 := by rw [wr_ne _ _ _ _ (by decide), wr_ne _ _ _ _ (by decide), g6, wr_eq]
    have a2 : (wr (wr I6 55 37 (nI (130 * (1 - lv)))) 55 43 (nI (420 * (1 - lv)))) 55 2 = nI 0 := by rw [wr_ne _ _ _ _ (by decide), wr_ne _ _ _ _ (by decide), g6, wr_ne _ _ _ _ (by decide), wr_ne _ _ _ _ (by decide), wr_ne _ _ _ _ (by decide), wr_ne _ _ _ _ (by decide), wr_ne _ _ _ _ (by decide), wr_ne _ _ _ _ (by decide), f4.2.1 2 (by decide), wr_eq]
    have rq : ∀ q, 58 ≤ q → q ≤ 60 → (wr (wr I6 55 37 (nI (130 * (1 - lv)))) 55 43 (nI (420 * (1 - lv)))) q = I4 q := fun q y1 y2 => by rw [wr_other _ _ _ _ (by omega), wr_other _ _ _ _ (by omega), f6.q (by omega), wr_other _ _ _ _ (by omega), wr_other _ _ _ _ (by omega), wr_other _ _ _ _ (by omega), wr_other _ _ _ _ (by omega), wr_other _ _ _ _ (by omega), wr_other _ _ _ _ (by omega)]
    have P7 : MP (bt (gB s).1) (gB s).2 (1 - lv) ps0 (sT ps0) (wr (wr I6 55 37 (nI (130 * (1 - lv)))) 55 43 (nI (420 * (1 - lv)))) G4 := by
      refine ⟨⟨⟨m, C4.kept a10 (rq 58 (by decide) (by decide)) (rq 59 (by decide) (by decide)) (rq 60 (by decide) (by decide)) rfl, m4⟩, Nat.zero_le _, fun j hj => absurd hj (Nat.not_lt_zero _), a11, a13⟩, ⟨Nat.zero_le _, a15, fun w => absurd rfl w⟩, ⟨Nat.zero_le _, a20, fun i hi => absurd hi (Nat.not_lt_zero _)⟩, ⟨⟨by rw [wr_other _ _ _ _ (by decide), wr_other _ _ _ _ (by decide)]; exact z6.1, by rw [wr_other _ _ _ _ (by decide), wr_other _ _ _ _ (by decide)]; exact z6.2.1, by rw [wr_other _ _ _ _ (by decide), wr_other _ _ _ _ (by decide)]; exact z6.2.2.1, by rw [wr_other _ _ _ _ (by decide), wr_other _ _ _ _ (by decide)]; exact z6.2.2.2.1, by rw [wr_other _ _ _ _ (by decide), wr_other _ _ _ _ (by decide)]; exact z6.2.2.2.2⟩, fun c hc => absurd hc (Nat.not_lt_zero _), fun _ a c ha hc => ?_, fun i hi => absurd hi (Nat.not_lt_zero _), fun i hi => absurd hi (Nat.not_lt_zero _)⟩, a12, a19, by omega, 420 * (1 - lv), 130 * (1 - lv), wr_eq _ _ _ _, Nat.le_refl _, Nat.le_add_right _ _, by rw [wr_ne _ _ _ _ (by decide), wr_eq], Nat.le_refl _, Nat.le_add_right _ _, fun k hk => ⟨0, 0, Nat.zero_le _, Nat.zero_le _, by rw [wr_other _ _ _ _ (by decide), wr_other _ _ _ _ (by decide)]; exact (j6 k hk).1, by rw [wr_other _ _ _ _ (by decide), wr_other _ _ _ _ (by decide)]; exact (j6 k hk).2, Or.inl ⟨rfl, fun vs => rfl⟩⟩⟩
      rw [wr_other _ _ _ _ (by decide), wr_other _ _ _ _ (by decide), Nat.add_assoc, l6 (6 * a + c) (by omega)]
      show _ = if a = c then nI 0 else nI 999
      rw [show (6 * a + c) / 6 = a by omega, show (6 * a + c) % 6 = c by omega]
    exact rd_lp hI hL hW hq 403 402 ps0 (wr (wr I6 55 37 (nI (130 * (1 - lv)))) 55 43 (nI (420 * (1 - lv)))) G4 _ V_0.1 V_0.2 P7 F7 (fun q y1 y2 => f4.2.2 q y1) a2 (by show 402 ≤ 402 + 0; omega) (by show 402 - 0 < 403; omega) rfl
  have cp : ∀ (m i : Nat) (I2 : Nat → Nat → Int32), i ≤ (gB s).2 → (gB s).2 - i < m → (∀ q, q ≠ 57 → I2 q = (wr I 55 4 (nI (gB s).2)) q) → (∀ j, j < i → I2 57 j = vp_nar .byte ((gB s).1 j)) → WP (d + 8) mX11_read Q 10 [some (.ref 55), some (.int (nI i))] [] (hp Lx t rt u I2 G) 0 0 := by
    intro m
    induction m with
    | zero => intro i I2 h1 h2; omega
    | succ m ih =>
      intro i I2 h1 h2 g2 j2
      refine wx_iload_n rfl (e := 11) rfl rfl ?_
      refine wx_aload_n rfl (e := 12) rfl rfl ?_
      refine wx_geti rfl (e := 15) rfl rfl ?_
      rw [g2 55 (by decide), wr_eq]
      refine wn_ic_ge rfl (e := 18) rfl (by omega) (by omega) (fun c_15 => ?_) (fun c_15 => ?_)
      · exact mid I2 _ g2 (fun j hj => j2 j (by omega))
      · refine wx_aload_n rfl (e := 19) rfl rfl ?_
        refine wx_getr rfl (e := 22) rfl rfl rfl ?_
        refine wx_iload_n rfl (e := 23) rfl rfl ?_
        refine wx_aload_n rfl (e := 24) rfl rfl ?_
        refine wx_getr rfl (e := 27) rfl rfl rfl ?_
        refine wx_iload_n rfl (e := 28) rfl rfl ?_
        refine wn_bald rfl (e := 29) rfl rfl (by omega) (by decide) ?_
        rw [g2 56 (by decide), wr_other _ _ _ _ (by decide), hPp.2.2 i (by omega)]
        refine wn_bast rfl (e := 30) rfl rfl (by decide) (by omega) (by decide) ?_
        refine wn_iinc (m := 1) (L2 := [_, _]) rfl (e := 33) rfl rfl (by decide) rfl ?_
        refine wx_goto rfl ?_
        exact ih (i + 1) _ (by omega) (by omega) (fun q h => by rw [wr_other _ _ _ _ h]; exact g2 q h) (wr_ext (f := fun j => vp_nar .byte ((gB s).1 j)) rfl (fun k hk hne => j2 k (by omega)))
  refine wx_in (M := mX11_read) rfl rfl rfl (Nat.le_of_ble_eq_true rfl) ?_
  refine wx_aload_n rfl (e := 1) rfl rfl ?_
  refine wx_aload_n rfl (e := 2) rfl rfl ?_
  refine wx_geti rfl (e := 5) rfl rfl ?_
  rw [hPp.2.1]
  refine wx_puti rfl (e := 8) rfl rfl (by decide) ?_
  refine wx_iconst (v := (nI 0)) rfl (e := 9) rfl (by decide) ?_
  refine wx_istore_n (L2 := [_, _]) rfl (e := 10) rfl (by decide) rfl ?_
  exact cp ((gB s).2 + 1) 0 _ (by omega) (by omega) (fun _ _ => rfl) (fun j hj => absurd hj (Nat.not_lt_zero _))

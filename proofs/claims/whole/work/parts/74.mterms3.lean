/-! the model: terms -/
theorem xqA.z {b : Nat → Nat} {n a0 B f : Nat} (h : xqA b n a0 B f) : ∀ (e d t Lx tt rt u : Nat) (c : rpn) (W : List Nat) (I : Nat → Nat → Int32) (G : Nat → Nat → Int64) (Q : ab_Q), d ≤ 6 → 402 ≤ f + t → (W = [] ∨ ∃ V, W = 40 :: V) → XS b n a0 t d W c I G → W.length ≤ 3 * d → a0 + c.length ≤ B + t → ((ex b n f 1 0 d t c).1 = 0 → ∀ w2 s2 c2 I2, (w2 = 0 ∨ w2 = 43 ∨ w2 = 45) → (s2 = 0 ∨ s2 = 42 ∨ s2 = 47) → frx a0 (B + 420) I I2 → XS b n a0 (ex b n f 1 0 d t c).2.1 d (pd w2 s2 W) c2 I2 G → (ex b n f 1 0 d t c).2.2 = wtC w2 (wtC s2 c2) → a0 + c2.length ≤ B + (ex b n f 1 0 d t c).2.1 → ¬ (kd b n (ex b n f 1 0 d t c).2.1 = 42 ∨ kd b n (ex b n f 1 0 d t c).2.1 = 47 ∨ kd b n (ex b n f 1 0 d t c).2.1 = 43 ∨ kd b n (ex b n f 1 0 d t c).2.1 = 45) → WP (e + 4) mX11_expression Q 96 xl [] (hp Lx tt rt u I2 G) 0 0) → xqF b n a0 B Lx tt rt u I G Q (ex b n f 1 0 d t c) → WP (e + 4) mX11_expression Q 96 xl [] (hp Lx tt rt u I G) 0 0 := fun e d t Lx tt rt u c W I G Q h1 h2 h3 h4 h5 h6 h7 h8 => h e d 0 0 t Lx tt rt u c W I G Q h1 h2 (Or.inl rfl) (Or.inl rfl) h3 h4 h5 h6 h7 h8
theorem MS.co {b : Nat → Nat} {n t a0 h : Nat} {I I2 : Nat → Nat → Int32} {G : Nat → Nat → Int64} (hM : MS b n t I G) (f : frx a0 h I I2) (mm : ∀ k, k ≠ 43 → k ≠ 47 → I2 55 k = I 55 k) : MS b n t I2 G := hM.k (mm 10 (by decide) (by decide)) (f.1 58 (by decide) (by decide) (by decide) (by decide)) (f.1 59 (by decide) (by decide) (by decide) (by decide)) (f.1 60 (by decide) (by decide) (by decide) (by decide)) (mm 11 (by decide) (by decide)) (mm 13 (by decide) (by decide))
theorem FM.co {b : Nat → Nat} {n k tok : Nat} {I I2 : Nat → Nat → Int32} (h : FM b n k tok I) (h3 : I2 55 13 = I 55 13) (h4 : I2 55 14 = I 55 14) : FM b n k tok I2 := ⟨h.1, h.2.1, h3.trans h.2.2.1, h4.trans h.2.2.2⟩
theorem flt23 {e2 Lx tt rt u : Nat} {I : Nat → Nat → Int32} {G : Nat → Nat → Int64} {Q : ab_Q} {e : Nat} (he : ¬ e = 0) (he2 : e ≤ 5) (h13 : I 55 13 = nI e) (hq : Q none (hp Lx tt rt u I G)) : WP (e2 + 4) mX11_expression Q 23 xl [] (hp Lx tt rt u I G) 0 0 := by
  refine wx_aload_n rfl (e := 24) rfl rfl ?_
  refine wx_bipush (v := (nI 6)) rfl (e := 26) rfl (by decide) ?_
  refine wx_cv1 (mc := 0) (ms := 0) rfl (e := 29) rfl rfl (Nat.le_of_ble_eq_true rfl) ⟨by decide, by decide⟩ ?_
  refine c_is0 he he2 h13 ?_
  refine wn_if_eq rfl (e := 32) rfl (by omega) (fun c_29 => ?_) (fun c_29 => absurd c_29 (by omega))
  refine wx_aload_n rfl (e := 85) rfl rfl ?_
  refine wx_cv0 (mc := 0) (ms := 0) rfl (e := 88) rfl rfl (Nat.le_of_ble_eq_true rfl) ⟨by decide, by decide⟩ ?_
  refine c_unit0 he he2 h13 ?_
  refine wx_aload_n rfl (e := 89) rfl rfl ?_
  refine wx_geti rfl (e := 92) rfl rfl ?_
  rw [h13]
  refine wn_if_le rfl (e := 95) rfl (by omega) (fun c_92 => absurd c_92 (by omega)) (fun c_92 => ?_)
  refine wx_ret rfl rfl ⟨by decide, by decide⟩ ?_
  exact hq
theorem flt96 {e2 Lx tt rt u : Nat} {I : Nat → Nat → Int32} {G : Nat → Nat → Int64} {Q : ab_Q} {e : Nat} (he : ¬ e = 0) (he2 : e ≤ 5) (h13 : I 55 13 = nI e) {a0 h : Nat} {c : rpn} {W : List Nat} (hW : WS W I) (hL : LM a0 c I) (hh : h ≤ 840) (hb : a0 + c.length + W.length ≤ h) (h60 : W.length ≤ 60) (hq : ∀ I3, frx a0 h I I3 → (∀ k, k ≠ 43 → k ≠ 47 → I3 55 k = I 55 k) → Q none (hp Lx tt rt u I3 G)) : WP (e2 + 4) mX11_expression Q 96 xl [] (hp Lx tt rt u I G) 0 0 := by
  refine wx_aload_n rfl (e := 97) rfl rfl ?_
  refine wx_bipush (v := (nI 7)) rfl (e := 99) rfl (by decide) ?_
  refine wx_cv1 (mc := 0) (ms := 0) rfl (e := 102) rfl rfl (Nat.le_of_ble_eq_true rfl) ⟨by decide, by decide⟩ ?_
  refine c_is0 he he2 h13 ?_
  refine wn_if_eq rfl (e := 105) rfl (by omega) (fun c_102 => ?_) (fun c_102 => absurd c_102 (by omega))
  refine wx_aload_n rfl (e := 146) rfl rfl ?_
  refine wx_bipush (v := (nI 8)) rfl (e := 148) rfl (by decide) ?_
  refine wx_cv1 (mc := 0) (ms := 0) rfl (e := 151) rfl rfl (Nat.le_of_ble_eq_true rfl) ⟨by decide, by decide⟩ ?_
  refine c_is0 he he2 h13 ?_
  refine wn_if_ne rfl (e := 154) rfl (by omega) (fun c_151 => absurd c_151 (by omega)) (fun c_151 => ?_)
  refine wx_aload_n rfl (e := 155) rfl rfl ?_
  refine wx_bipush (v := (nI 9)) rfl (e := 157) rfl (by decide) ?_
  refine wx_cv1 (mc := 0) (ms := 0) rfl (e := 160) rfl rfl (Nat.le_of_ble_eq_true rfl) ⟨by decide, by decide⟩ ?_
  refine c_is0 he he2 h13 ?_
  refine wn_if_ne rfl (e := 163) rfl (by omega) (fun c_160 => absurd c_160 (by omega)) (fun c_160 => ?_)
  refine wx_aload_n rfl (e := 164) rfl rfl ?_
  refine wx_bipush (v := (nI 10)) rfl (e := 166) rfl (by decide) ?_
  refine wx_cv1 (mc := 0) (ms := 0) rfl (e := 169) rfl rfl (Nat.le_of_ble_eq_true rfl) ⟨by decide, by decide⟩ ?_
  refine c_is0 he he2 h13 ?_
  refine wn_if_ne rfl (e := 172) rfl (by omega) (fun c_169 => absurd c_169 (by omega)) (fun c_169 => ?_)
  refine wx_aload_n rfl (e := 173) rfl rfl ?_
  refine wx_bipush (v := (nI 15)) rfl (e := 175) rfl (by decide) ?_
  refine wx_cv1 (mc := 0) (ms := 0) rfl (e := 178) rfl rfl (Nat.le_of_ble_eq_true rfl) ⟨by decide, by decide⟩ ?_
  refine c_is0 he he2 h13 ?_
  refine wn_if_eq rfl (e := 181) rfl (by omega) (fun c_178 => ?_) (fun c_178 => absurd c_178 (by omega))
  refine wx_iconst (v := (nI 0)) rfl (e := 186) rfl (by decide) ?_
  refine wx_istore_n (L2 := [_, _, _]) rfl (e := 187) rfl (by decide) rfl ?_
  refine wx_iload_n rfl (e := 188) rfl rfl ?_
  refine wn_if_ne rfl (e := 191) rfl (by omega) (fun c_188 => absurd c_188 (by omega)) (fun c_188 => ?_)
  refine wx_aload_n rfl (e := 192) rfl rfl ?_
  refine wx_geti rfl (e := 195) rfl rfl ?_
  refine wx_iload_n rfl (e := 196) rfl rfl ?_
  refine wx_ic_le rfl (e := 199) rfl (fun c_196 => ?_) (fun c_196 => ?_)
  · refine wx_aload_n rfl (e := 205) rfl rfl ?_
    refine wx_iconst (v := (nI 0)) rfl (e := 206) rfl (by decide) ?_
    refine wx_cv1 (mc := 0) (ms := 0) rfl (e := 209) rfl rfl (Nat.le_of_ble_eq_true rfl) ⟨by decide, by decide⟩ ?_
    refine c_comes (st := false) hW hL hh hb h60 (fun I3 f3 mm W3 L3 => ?_)
    refine wx_ret rfl rfl ⟨by decide, by decide⟩ ?_
    exact hq I3 f3 mm
  · refine wx_aload_n rfl (e := 200) rfl rfl ?_
    refine wx_iconst (v := (nI 1)) rfl (e := 201) rfl (by decide) ?_
    refine wx_cv1 (mc := 0) (ms := 0) rfl (e := 204) rfl rfl (Nat.le_of_ble_eq_true rfl) ⟨by decide, by decide⟩ ?_
    refine c_fail0 he he2 h13 ?_
    refine wx_aload_n rfl (e := 205) rfl rfl ?_
    refine wx_iconst (v := (nI 0)) rfl (e := 206) rfl (by decide) ?_
    refine wx_cv1 (mc := 0) (ms := 0) rfl (e := 209) rfl rfl (Nat.le_of_ble_eq_true rfl) ⟨by decide, by decide⟩ ?_
    refine c_comes (st := false) hW hL hh hb h60 (fun I3 f3 mm W3 L3 => ?_)
    refine wx_ret rfl rfl ⟨by decide, by decide⟩ ?_
    exact hq I3 f3 mm
set_option maxHeartbeats 8000000 in
theorem xqU_s {b : Nat → Nat} {n a0 B f : Nat} (hB840 : B + 420 ≤ 840) (hU : xqU b n a0 B f) (hA : xqA b n a0 B f) : xqU b n a0 B (f + 1) := by
  intro e d t Lx tt rt u c W I G Q hd hf X hw hx hB hF
  have hkl := kd62 b n t
  obtain ⟨-, ht, -, -, r13⟩ := id X.1
  rw [ex, if_pos rfl] at hB hF
  by_cases h6 : d = 6
  · have k0 := True.intro
    refine wx_aload_n rfl (e := 24) rfl rfl ?_
    refine wx_bipush (v := (nI 6)) rfl (e := 26) rfl (by decide) ?_
    refine wx_cv1 (mc := 0) (ms := 0) rfl (e := 29) rfl rfl (Nat.le_of_ble_eq_true rfl) ⟨by decide, by decide⟩ ?_
    refine c_is X.1 (κ := 40) (by decide) (by decide) (by decide) (fun hz => ?_) (fun hz => ?_)
    · rw [if_pos hz] at hB hF
      refine wn_if_eq rfl (e := 32) rfl (by omega) (fun c_29 => absurd c_29 (by omega)) (fun c_29 => ?_)
      refine wx_aload_n rfl (e := 33) rfl rfl ?_
      refine wx_geti rfl (e := 36) rfl rfl ?_
      rw [X.2.1]
      refine wx_bipush (v := (nI 6)) rfl (e := 38) rfl (by decide) ?_
      refine wn_ic_ne rfl (e := 41) rfl (by omega) (by omega) (fun c_38 => absurd c_38 (by omega)) (fun c_38 => ?_)
      refine wx_aload_n rfl (e := 42) rfl rfl ?_
      refine wx_iconst (v := (nI 2)) rfl (e := 43) rfl (by decide) ?_
      refine wx_cv1 (mc := 0) (ms := 0) rfl (e := 46) rfl rfl (Nat.le_of_ble_eq_true rfl) ⟨by decide, by decide⟩ ?_
      refine c_fail X.1 (k := 2) ?_
      refine wx_aload_n rfl (e := 47) rfl rfl ?_
      refine wx_dup rfl (e := 48) rfl rfl ?_
      refine wx_geti rfl (e := 51) rfl rfl ?_
      rw [show ft 2 (stA b n t) I 55 12 = nI d from by unfold ft; rw [wr_ne _ _ _ _ (by decide), wr_ne _ _ _ _ (by decide)]; exact X.2.1]
      refine wx_iconst (v := (nI 1)) rfl (e := 52) rfl (by decide) ?_
      refine wn_iadd rfl (e := 53) rfl ?_
      refine wx_puti rfl (e := 56) rfl rfl (by decide) ?_
      refine wx_aload_n rfl (e := 57) rfl rfl ?_
      refine wx_cv0 (mc := 0) (ms := 0) rfl (e := 60) rfl rfl (Nat.le_of_ble_eq_true rfl) ⟨by decide, by decide⟩ ?_
      refine c_goes0 (e := 2) (by decide) (by decide) (by rw [wr_ne _ _ _ _ (by decide)]; unfold ft; rw [wr_ne _ _ _ _ (by decide), wr_eq]) (fun v => ?_) ?_
      · refine wx_aload_n rfl (e := 61) rfl rfl ?_
        refine wx_getr rfl (e := 64) rfl rfl rfl ?_
        refine wx_aload_n rfl (e := 65) rfl rfl ?_
        refine wx_geti rfl (e := 68) rfl rfl ?_
        rw [show (wr (wr (ft 2 (stA b n t) I) 55 12 (nI (d + 1))) 55 11 v) 55 47 = nI W.length from by simp only [nx, ft, wr_at]; exact X.2.2.1.2.1]
        refine wx_bipush (v := (nI 6)) rfl (e := 70) rfl (by decide) ?_
        refine wn_iast rfl (e := 71) rfl rfl (by decide) (by omega) (by decide) ?_
        refine wx_aload_n rfl (e := 72) rfl rfl ?_
        refine wx_dup rfl (e := 73) rfl rfl ?_
        refine wx_geti rfl (e := 76) rfl rfl ?_
        rw [show (wr (wr (wr (ft 2 (stA b n t) I) 55 12 (nI (d + 1))) 55 11 v) 86 W.length (nI 6)) 55 47 = nI W.length from by simp only [nx, ft, wr_at]; exact X.2.2.1.2.1]
        refine wx_iconst (v := (nI 1)) rfl (e := 77) rfl (by decide) ?_
        refine wn_iadd rfl (e := 78) rfl ?_
        refine wx_puti rfl (e := 81) rfl rfl (by decide) ?_
        refine wx_goto rfl ?_
        refine flt23 (e := 2) (by decide) (by decide) (by rw [wr_ne _ _ _ _ (by decide), wr_other _ _ _ _ (by decide), wr_ne _ _ _ _ (by decide), wr_ne _ _ _ _ (by decide)]; unfold ft; rw [wr_ne _ _ _ _ (by decide), wr_eq]) ?_
        refine hF (by rw [if_pos (Or.inl (by omega))]; exact (by decide : ¬ 2 = 0)) _ (frx.t.tr ((frx.w (by omega)).tr ((frx.w (by omega)).tr (frx.w6.tr (frx.w (by omega)))))) (by rw [if_pos (Or.inl (by omega))]; exact (ft.m (k := 2) (tok := t) (by decide) (by decide)).co (by rw [wr_ne _ _ _ _ (by decide), wr_other _ _ _ _ (by decide), wr_ne _ _ _ _ (by decide), wr_ne _ _ _ _ (by decide)]) (by rw [wr_ne _ _ _ _ (by decide), wr_other _ _ _ _ (by decide), wr_ne _ _ _ _ (by decide), wr_ne _ _ _ _ (by decide)]))
      · refine wx_aload_n rfl (e := 61) rfl rfl ?_
        refine wx_getr rfl (e := 64) rfl rfl rfl ?_
        refine wx_aload_n rfl (e := 65) rfl rfl ?_
        refine wx_geti rfl (e := 68) rfl rfl ?_
        rw [show (wr (ft 2 (stA b n t) I) 55 12 (nI (d + 1))) 55 47 = nI W.length from by simp only [nx, ft, wr_at]; exact X.2.2.1.2.1]
        refine wx_bipush (v := (nI 6)) rfl (e := 70) rfl (by decide) ?_
        refine wn_iast rfl (e := 71) rfl rfl (by decide) (by omega) (by decide) ?_
        refine wx_aload_n rfl (e := 72) rfl rfl ?_
        refine wx_dup rfl (e := 73) rfl rfl ?_
        refine wx_geti rfl (e := 76) rfl rfl ?_
        rw [show (wr (wr (ft 2 (stA b n t) I) 55 12 (nI (d + 1))) 86 W.length (nI 6)) 55 47 = nI W.length from by simp only [nx, ft, wr_at]; exact X.2.2.1.2.1]
        refine wx_iconst (v := (nI 1)) rfl (e := 77) rfl (by decide) ?_
        refine wn_iadd rfl (e := 78) rfl ?_
        refine wx_puti rfl (e := 81) rfl rfl (by decide) ?_
        refine wx_goto rfl ?_
        refine flt23 (e := 2) (by decide) (by decide) (by rw [wr_ne _ _ _ _ (by decide), wr_other _ _ _ _ (by decide), wr_ne _ _ _ _ (by decide)]; unfold ft; rw [wr_ne _ _ _ _ (by decide), wr_eq]) ?_
        refine hF (by rw [if_pos (Or.inl (by omega))]; exact (by decide : ¬ 2 = 0)) _ (frx.t.tr ((frx.w (by omega)).tr (frx.w6.tr (frx.w (by omega))))) (by rw [if_pos (Or.inl (by omega))]; exact (ft.m (k := 2) (tok := t) (by decide) (by decide)).co (by rw [wr_ne _ _ _ _ (by decide), wr_other _ _ _ _ (by decide), wr_ne _ _ _ _ (by decide)]) (by rw [wr_ne _ _ _ _ (by decide), wr_other _ _ _ _ (by decide), wr_ne _ _ _ _ (by decide)]))
    · refine wn_if_eq rfl (e := 32) rfl (by omega) (fun c_29 => ?_) (fun c_29 => absurd c_29 (by omega))
      refine wx_aload_n rfl (e := 85) rfl rfl ?_
      refine wx_cv0 (mc := 0) (ms := 0) rfl (e := 88) rfl rfl (Nat.le_of_ble_eq_true rfl) ⟨by decide, by decide⟩ ?_
      refine c_unit X.1 X.2.2.2 (h := B + 420) hB840 (by omega) (fun hz5 h4 I2 f2 M2 L2 q12 q47 q86 => ?_) (fun hz5 h4 I2 f2 M2 L2 q12 q47 q86 => ?_) (fun k hc I2 f2 F2 => ?_)
      · have h13 := M2.2.2.2.2
        refine wx_aload_n rfl (e := 89) rfl rfl ?_
        refine wx_geti rfl (e := 92) rfl rfl ?_
        rw [h13]
        refine wn_if_le rfl (e := 95) rfl (by omega) (fun c_92 => ?_) (fun c_92 => absurd c_92 (by omega))
        rw [if_neg hz, if_pos hz5, if_neg (by omega)] at hB
        exact hB rfl I2 f2 ⟨M2, q12.trans X.2.1, X.2.2.1.k q47 q86, L2⟩
      · have h13 := M2.2.2.2.2
        refine wx_aload_n rfl (e := 89) rfl rfl ?_
        refine wx_geti rfl (e := 92) rfl rfl ?_
        rw [h13]
        refine wn_if_le rfl (e := 95) rfl (by omega) (fun c_92 => ?_) (fun c_92 => absurd c_92 (by omega))
        rw [if_neg hz, if_neg (by omega), if_pos hz5, if_neg (by omega)] at hB
        exact hB rfl I2 f2 ⟨M2, q12.trans X.2.1, X.2.2.1.k q47 q86, L2⟩
      · have h13 := F2.2.2.1
        have hk1 := F2.1
        have hk2 := F2.2.1
        refine wx_aload_n rfl (e := 89) rfl rfl ?_
        refine wx_geti rfl (e := 92) rfl rfl ?_
        rw [h13]
        refine wn_if_le rfl (e := 95) rfl (by omega) (fun c_92 => absurd c_92 (by omega)) (fun c_92 => ?_)
        refine wx_ret rfl rfl ⟨by decide, by decide⟩ ?_
        rcases hc with ⟨k1, k2, k3⟩ | ⟨k1, k2, k3⟩
        · subst k1; rw [if_neg hz, if_neg k2, if_neg k3] at hF; exact hF (show ¬ 1 = 0 by decide) I2 f2 F2
        · subst k1
          rw [if_neg hz] at hF
          rcases k2 with k2 | k2
          · rw [if_pos k2, if_pos k3] at hF; exact hF (show ¬ 2 = 0 by decide) I2 f2 F2
          · rw [if_neg (by omega), if_pos k2, if_pos k3] at hF; exact hF (show ¬ 2 = 0 by decide) I2 f2 F2
  · have k0 := True.intro
    refine wx_aload_n rfl (e := 24) rfl rfl ?_
    refine wx_bipush (v := (nI 6)) rfl (e := 26) rfl (by decide) ?_
    refine wx_cv1 (mc := 0) (ms := 0) rfl (e := 29) rfl rfl (Nat.le_of_ble_eq_true rfl) ⟨by decide, by decide⟩ ?_
    refine c_is X.1 (κ := 40) (by decide) (by decide) (by decide) (fun hz => ?_) (fun hz => ?_)
    · rw [if_pos hz] at hB hF
      refine wn_if_eq rfl (e := 32) rfl (by omega) (fun c_29 => absurd c_29 (by omega)) (fun c_29 => ?_)
      refine wx_aload_n rfl (e := 33) rfl rfl ?_
      refine wx_geti rfl (e := 36) rfl rfl ?_
      rw [X.2.1]
      refine wx_bipush (v := (nI 6)) rfl (e := 38) rfl (by decide) ?_
      refine wn_ic_ne rfl (e := 41) rfl (by omega) (by omega) (fun c_38 => ?_) (fun c_38 => absurd c_38 (by omega))
      refine wx_aload_n rfl (e := 47) rfl rfl ?_
      refine wx_dup rfl (e := 48) rfl rfl ?_
      refine wx_geti rfl (e := 51) rfl rfl ?_
      rw [X.2.1]
      refine wx_iconst (v := (nI 1)) rfl (e := 52) rfl (by decide) ?_
      refine wn_iadd rfl (e := 53) rfl ?_
      refine wx_puti rfl (e := 56) rfl rfl (by decide) ?_
      refine wx_aload_n rfl (e := 57) rfl rfl ?_
      refine wx_cv0 (mc := 0) (ms := 0) rfl (e := 60) rfl rfl (Nat.le_of_ble_eq_true rfl) ⟨by decide, by decide⟩ ?_
      have M1 : MS b n t (wr I 55 12 (nI (d + 1))) G := X.1.k (by rw [wr_ne _ _ _ _ (by decide)]) (by rw [wr_other _ _ _ _ (by decide)]) (by rw [wr_other _ _ _ _ (by decide)]) (by rw [wr_other _ _ _ _ (by decide)]) (by rw [wr_ne _ _ _ _ (by decide)]) (by rw [wr_ne _ _ _ _ (by decide)])
      refine c_goes M1 (fun h4 => ?_) (fun h4 => ?_)
      · refine wx_aload_n rfl (e := 61) rfl rfl ?_
        refine wx_getr rfl (e := 64) rfl rfl rfl ?_
        refine wx_aload_n rfl (e := 65) rfl rfl ?_
        refine wx_geti rfl (e := 68) rfl rfl ?_
        rw [show (nx t (wr I 55 12 (nI (d + 1)))) 55 47 = nI W.length from by simp only [nx, ft, wr_at]; exact X.2.2.1.2.1]
        refine wx_bipush (v := (nI 6)) rfl (e := 70) rfl (by decide) ?_
        refine wn_iast rfl (e := 71) rfl rfl (by decide) (by omega) (by decide) ?_
        refine wx_aload_n rfl (e := 72) rfl rfl ?_
        refine wx_dup rfl (e := 73) rfl rfl ?_
        refine wx_geti rfl (e := 76) rfl rfl ?_
        rw [show (wr (nx t (wr I 55 12 (nI (d + 1)))) 86 W.length (nI 6)) 55 47 = nI W.length from by simp only [nx, ft, wr_at]; exact X.2.2.1.2.1]
        refine wx_iconst (v := (nI 1)) rfl (e := 77) rfl (by decide) ?_
        refine wn_iadd rfl (e := 78) rfl ?_
        refine wx_puti rfl (e := 81) rfl rfl (by decide) ?_
        refine wx_goto rfl ?_
        rw [if_neg (by omega)] at hB hF
        have X2 : XS b n a0 (t + 1) (d + 1) (40 :: W) c (wr (wr (nx t (wr I 55 12 (nI (d + 1)))) 86 W.length (nI 6)) 55 47 (nI (W.length + 1))) G := by
          refine ⟨(M1.nx h4 (by omega)).k (by rw [wr_ne _ _ _ _ (by decide), wr_other _ _ _ _ (by decide)]) (by rw [wr_other _ _ _ _ (by decide), wr_other _ _ _ _ (by decide)]) (by rw [wr_other _ _ _ _ (by decide), wr_other _ _ _ _ (by decide)]) (by rw [wr_other _ _ _ _ (by decide), wr_other _ _ _ _ (by decide)]) (by rw [wr_ne _ _ _ _ (by decide), wr_other _ _ _ _ (by decide)]) (by rw [wr_ne _ _ _ _ (by decide), wr_other _ _ _ _ (by decide)]), by rw [wr_ne _ _ _ _ (by decide), wr_other _ _ _ _ (by decide), nx.f (by decide), wr_eq], (WS.k (I2 := nx t (wr I 55 12 (nI (d + 1)))) X.2.2.1 (by rw [nx.f (by decide), wr_ne _ _ _ _ (by decide)]) (by rw [nx.q (by decide), wr_other _ _ _ _ (by decide)])).push (Or.inl rfl) rfl, LM.k X.2.2.2 (by rw [wr_ne _ _ _ _ (by decide), wr_other _ _ _ _ (by decide), nx.f (by decide), wr_ne _ _ _ _ (by decide)]) (by rw [wr_other _ _ _ _ (by decide), wr_other _ _ _ _ (by decide), nx.q (by decide), wr_other _ _ _ _ (by decide)]) (by rw [wr_other _ _ _ _ (by decide), wr_other _ _ _ _ (by decide), nx.q (by decide), wr_other _ _ _ _ (by decide)])⟩
        have F2 : frx a0 (B + 420) I (wr (wr (nx t (wr I 55 12 (nI (d + 1)))) 86 W.length (nI 6)) 55 47 (nI (W.length + 1))) := (frx.w (by omega)).tr (frx.n.tr (frx.w6.tr (frx.w (by omega))))
        obtain ⟨g1, g2, g3, g4, g5, g6⟩ := ex_far b n f 0 0 (d + 1) (t + 1) c (by omega) X2.1.2.2.1 (by omega)
        refine hU e (d + 1) (t + 1) Lx tt rt u c (40 :: W) _ G Q (by omega) (by omega) X2 (by rw [List.length_cons]; omega) (by omega) (fun z1 I3 f3 X3 => ?_) (fun z1 I3 f3 F3 => hF (by rw [bnd_1 z1]; exact z1) I3 (F2.tr f3) (by rw [bnd_1 z1]; exact F3))
        have g5 := g5 z1
        rw [if_pos (Or.inl rfl)] at g5
        have g4 := g4 z1 rfl
        rw [bnd_0 z1] at hB hF
        obtain ⟨k1, k2, k3, k4, k5, k6⟩ := ex_far b n f 1 0 (d + 1) (ex b n f 0 0 (d + 1) (t + 1) c).2.1 (ex b n f 0 0 (d + 1) (t + 1) c).2.2 g2 g3 (by omega)
        refine hA.z e (d + 1) (ex b n f 0 0 (d + 1) (t + 1) c).2.1 Lx tt rt u (ex b n f 0 0 (d + 1) (t + 1) c).2.2 (40 :: W) I3 G Q (by omega) (by omega) (Or.inr ⟨W, rfl⟩) X3 (by rw [List.length_cons]; omega) (by omega) (fun z2 w2 s2 c2 I4 hw2 hs2 f4 X4 hc2 hb2 hnop => ?_) (fun z2 I4 f4 F4 => hF (by rw [bnd_1 z2]; exact z2) I4 (F2.tr (f3.tr f4)) (by rw [bnd_1 z2]; exact F4))
        have k5 := k5 z2
        rw [if_pos (Or.inl rfl)] at k5
        rw [bnd_0 z2] at hB hF
        have F4 := F2.tr (f3.tr f4)
        have hpl := pd_len w2 s2 (40 :: W)
        rw [List.length_cons] at hpl
        have hkl2 := kd62 b n (ex b n f 1 0 (d + 1) (ex b n f 0 0 (d + 1) (t + 1) c).2.1 (ex b n f 0 0 (d + 1) (t + 1) c).2.2).2.1
        refine wx_aload_n rfl (e := 97) rfl rfl ?_
        refine wx_bipush (v := (nI 7)) rfl (e := 99) rfl (by decide) ?_
        refine wx_cv1 (mc := 0) (ms := 0) rfl (e := 102) rfl rfl (Nat.le_of_ble_eq_true rfl) ⟨by decide, by decide⟩ ?_
        refine c_is X4.1 (κ := 41) (by decide) (by decide) (by decide) (fun hz41 => ?_) (fun hz41 => ?_)
        · refine wn_if_eq rfl (e := 105) rfl (by omega) (fun c_102 => absurd c_102 (by omega)) (fun c_102 => ?_)
          refine wx_aload_n rfl (e := 106) rfl rfl ?_
          refine wx_geti rfl (e := 109) rfl rfl ?_
          rw [X4.2.1]
          refine wx_iload_n rfl (e := 110) rfl rfl ?_
          refine wn_ic_le rfl (e := 113) rfl (by omega) (by omega) (fun c_110 => absurd c_110 (by omega)) (fun c_110 => ?_)
          refine wx_aload_n rfl (e := 114) rfl rfl ?_
          refine wx_iconst (v := (nI 0)) rfl (e := 115) rfl (by decide) ?_
          refine wx_cv1 (mc := 0) (ms := 0) rfl (e := 118) rfl rfl (Nat.le_of_ble_eq_true rfl) ⟨by decide, by decide⟩ ?_
          refine c_comes (st := false) X4.2.2.1 X4.2.2.2 (h := B + 420) hB840 (by omega) (by omega) (fun I5 f5 m5 W5 L5 => ?_)
          rw [co_pd hw2 hs2 (Or.inr ⟨W, rfl⟩), if_neg (by decide)] at W5 L5
          rw [← hc2] at L5
          refine wx_aload_n rfl (e := 119) rfl rfl ?_
          refine wx_dup rfl (e := 120) rfl rfl ?_
          refine wx_geti rfl (e := 123) rfl rfl ?_
          rw [W5.2.1]
          show WP _ _ _ _ _ (.int (nI (W.length + 1)) :: _) _ _ _
          refine wx_iconst (v := (nI 1)) rfl (e := 124) rfl (by decide) ?_
          refine wn_isub rfl (e := 125) rfl (by omega) ?_
          rw [show W.length + 1 - 1 = W.length by omega]
          refine wx_puti rfl (e := 128) rfl rfl (by decide) ?_
          refine wx_aload_n rfl (e := 129) rfl rfl ?_
          refine wx_dup rfl (e := 130) rfl rfl ?_
          refine wx_geti rfl (e := 133) rfl rfl ?_
          rw [wr_ne _ _ _ _ (by decide), m5 12 (by decide) (by decide), X4.2.1]
          refine wx_iconst (v := (nI 1)) rfl (e := 134) rfl (by decide) ?_
          refine wn_isub rfl (e := 135) rfl (by omega) ?_
          rw [show d + 1 - 1 = d by omega]
          refine wx_puti rfl (e := 138) rfl rfl (by decide) ?_
          refine wx_aload_n rfl (e := 139) rfl rfl ?_
          refine wx_cv0 (mc := 0) (ms := 0) rfl (e := 142) rfl rfl (Nat.le_of_ble_eq_true rfl) ⟨by decide, by decide⟩ ?_
          have M6 : MS b n (ex b n f 1 0 (d + 1) (ex b n f 0 0 (d + 1) (t + 1) c).2.1 (ex b n f 0 0 (d + 1) (t + 1) c).2.2).2.1 (wr (wr I5 55 47 (nI W.length)) 55 12 (nI d)) G := (X4.1.co f5 m5).k (by rw [wr_ne _ _ _ _ (by decide), wr_ne _ _ _ _ (by decide)]) (by rw [wr_other _ _ _ _ (by decide), wr_other _ _ _ _ (by decide)]) (by rw [wr_other _ _ _ _ (by decide), wr_other _ _ _ _ (by decide)]) (by rw [wr_other _ _ _ _ (by decide), wr_other _ _ _ _ (by decide)]) (by rw [wr_ne _ _ _ _ (by decide), wr_ne _ _ _ _ (by decide)]) (by rw [wr_ne _ _ _ _ (by decide), wr_ne _ _ _ _ (by decide)])
          have W6 : WS W (wr (wr I5 55 47 (nI W.length)) 55 12 (nI d)) := ⟨fun y hy => W5.1 y (List.mem_cons_of_mem _ hy), by rw [wr_ne _ _ _ _ (by decide), wr_eq], by rw [wr_other _ _ _ _ (by decide), wr_other _ _ _ _ (by decide)]; exact W5.2.2.2⟩
          have L6 : LM a0 (ex b n f 1 0 (d + 1) (ex b n f 0 0 (d + 1) (t + 1) c).2.1 (ex b n f 0 0 (d + 1) (t + 1) c).2.2).2.2 (wr (wr I5 55 47 (nI W.length)) 55 12 (nI d)) := L5.k (by rw [wr_ne _ _ _ _ (by decide), wr_ne _ _ _ _ (by decide)]) (by rw [wr_other _ _ _ _ (by decide), wr_other _ _ _ _ (by decide)]) (by rw [wr_other _ _ _ _ (by decide), wr_other _ _ _ _ (by decide)])
          have F6 := F4.tr (f5.tr ((frx.w (k := 47) (v := nI W.length) (by omega)).tr (frx.w (k := 12) (v := nI d) (by omega))))
          refine c_goes M6 (fun h4 => ?_) (fun h4 => ?_)
          · refine wx_goto rfl ?_
            refine hB (by rw [tkR, if_pos hz41, if_neg (by omega)]) (nx (ex b n f 1 0 (d + 1) (ex b n f 0 0 (d + 1) (t + 1) c).2.1 (ex b n f 0 0 (d + 1) (t + 1) c).2.2).2.1 (wr (wr I5 55 47 (nI W.length)) 55 12 (nI d))) (F6.tr frx.n) ?_
            rw [tkR, if_pos hz41, if_neg (by omega)]
            exact ⟨M6.nx h4 (by omega), by rw [nx.f (by decide), wr_eq], W6.k (nx.f (by decide)) (nx.q (by decide)), L6.k (nx.f (by decide)) (nx.q (by decide)) (nx.q (by decide))⟩
          · refine wx_goto rfl ?_
            refine flt96 (e := 2) (by decide) (by decide) (by unfold ft; rw [wr_ne _ _ _ _ (by decide), wr_eq]) (W := W) (c := (ex b n f 1 0 (d + 1) (ex b n f 0 0 (d + 1) (t + 1) c).2.1 (ex b n f 0 0 (d + 1) (t + 1) c).2.2).2.2) (W6.k (by unfold ft; rw [wr_ne _ _ _ _ (by decide), wr_ne _ _ _ _ (by decide)]) (by unfold ft; rw [wr_other _ _ _ _ (by decide), wr_other _ _ _ _ (by decide)])) (L6.k (by unfold ft; rw [wr_ne _ _ _ _ (by decide), wr_ne _ _ _ _ (by decide)]) (by unfold ft; rw [wr_other _ _ _ _ (by decide), wr_other _ _ _ _ (by decide)]) (by unfold ft; rw [wr_other _ _ _ _ (by decide), wr_other _ _ _ _ (by decide)])) (h := B + 420) hB840 (by omega) (by omega) (fun I7 f7 m7 => ?_)
            refine hF (by rw [tkR, if_pos hz41, if_pos h4]; exact (by decide : ¬ 2 = 0)) I7 (F6.tr (frx.t.tr f7)) ?_
            rw [tkR, if_pos hz41, if_pos h4]
            exact (ft.m (k := 2) (tok := (ex b n f 1 0 (d + 1) (ex b n f 0 0 (d + 1) (t + 1) c).2.1 (ex b n f 0 0 (d + 1) (t + 1) c).2.2).2.1) (by decide) (by decide)).co (m7 13 (by decide) (by decide)) (m7 14 (by decide) (by decide))
        · refine wn_if_eq rfl (e := 105) rfl (by omega) (fun c_102 => ?_) (fun c_102 => absurd c_102 (by omega))
          refine wx_aload_n rfl (e := 146) rfl rfl ?_
          refine wx_bipush (v := (nI 8)) rfl (e := 148) rfl (by decide) ?_
          refine wx_cv1 (mc := 0) (ms := 0) rfl (e := 151) rfl rfl (Nat.le_of_ble_eq_true rfl) ⟨by decide, by decide⟩ ?_
          refine c_is X4.1 (κ := 43) (by decide) (by decide) (by decide) (fun hz => absurd hz (by omega)) (fun hz => ?_)
          refine wn_if_ne rfl (e := 154) rfl (by omega) (fun c_151 => absurd c_151 (by omega)) (fun c_151 => ?_)
          refine wx_aload_n rfl (e := 155) rfl rfl ?_
          refine wx_bipush (v := (nI 9)) rfl (e := 157) rfl (by decide) ?_
          refine wx_cv1 (mc := 0) (ms := 0) rfl (e := 160) rfl rfl (Nat.le_of_ble_eq_true rfl) ⟨by decide, by decide⟩ ?_
          refine c_is X4.1 (κ := 45) (by decide) (by decide) (by decide) (fun hz => absurd hz (by omega)) (fun hz => ?_)
          refine wn_if_ne rfl (e := 163) rfl (by omega) (fun c_160 => absurd c_160 (by omega)) (fun c_160 => ?_)
          refine wx_aload_n rfl (e := 164) rfl rfl ?_
          refine wx_bipush (v := (nI 10)) rfl (e := 166) rfl (by decide) ?_
          refine wx_cv1 (mc := 0) (ms := 0) rfl (e := 169) rfl rfl (Nat.le_of_ble_eq_true rfl) ⟨by decide, by decide⟩ ?_
          refine c_is X4.1 (κ := 42) (by decide) (by decide) (by decide) (fun hz => absurd hz (by omega)) (fun hz => ?_)
          refine wn_if_ne rfl (e := 172) rfl (by omega) (fun c_169 => absurd c_169 (by omega)) (fun c_169 => ?_)
          refine wx_aload_n rfl (e := 173) rfl rfl ?_
          refine wx_bipush (v := (nI 15)) rfl (e := 175) rfl (by decide) ?_
          refine wx_cv1 (mc := 0) (ms := 0) rfl (e := 178) rfl rfl (Nat.le_of_ble_eq_true rfl) ⟨by decide, by decide⟩ ?_
          refine c_is X4.1 (κ := 47) (by decide) (by decide) (by decide) (fun hz => absurd hz (by omega)) (fun hz => ?_)
          refine wn_if_eq rfl (e := 181) rfl (by omega) (fun c_178 => ?_) (fun c_178 => absurd c_178 (by omega))
          refine wx_iconst (v := (nI 0)) rfl (e := 186) rfl (by decide) ?_
          refine wx_istore_n (L2 := [_, _, _]) rfl (e := 187) rfl (by decide) rfl ?_
          refine wx_iload_n rfl (e := 188) rfl rfl ?_
          refine wn_if_ne rfl (e := 191) rfl (by omega) (fun c_188 => absurd c_188 (by omega)) (fun c_188 => ?_)
          refine wx_aload_n rfl (e := 192) rfl rfl ?_
          refine wx_geti rfl (e := 195) rfl rfl ?_
          rw [X4.2.1]
          refine wx_iload_n rfl (e := 196) rfl rfl ?_
          refine wn_ic_le rfl (e := 199) rfl (by omega) (by omega) (fun c_196 => absurd c_196 (by omega)) (fun c_196 => ?_)
          refine wx_aload_n rfl (e := 200) rfl rfl ?_
          refine wx_iconst (v := (nI 1)) rfl (e := 201) rfl (by decide) ?_
          refine wx_cv1 (mc := 0) (ms := 0) rfl (e := 204) rfl rfl (Nat.le_of_ble_eq_true rfl) ⟨by decide, by decide⟩ ?_
          refine c_fail X4.1 (k := 1) ?_
          refine wx_aload_n rfl (e := 205) rfl rfl ?_
          refine wx_iconst (v := (nI 0)) rfl (e := 206) rfl (by decide) ?_
          refine wx_cv1 (mc := 0) (ms := 0) rfl (e := 209) rfl rfl (Nat.le_of_ble_eq_true rfl) ⟨by decide, by decide⟩ ?_
          refine c_comes (st := false) (X4.2.2.1.k (by unfold ft; rw [wr_ne _ _ _ _ (by decide), wr_ne _ _ _ _ (by decide)]) (by unfold ft; rw [wr_other _ _ _ _ (by decide), wr_other _ _ _ _ (by decide)])) (X4.2.2.2.k (by unfold ft; rw [wr_ne _ _ _ _ (by decide), wr_ne _ _ _ _ (by decide)]) (by unfold ft; rw [wr_other _ _ _ _ (by decide), wr_other _ _ _ _ (by decide)]) (by unfold ft; rw [wr_other _ _ _ _ (by decide), wr_other _ _ _ _ (by decide)])) (h := B + 420) hB840 (by omega) (by omega) (fun I5 f5 m5 W5 L5 => ?_)
          refine wx_ret rfl rfl ⟨by decide, by decide⟩ ?_
          refine hF (by rw [tkR, if_neg hz41]; exact (by decide : ¬ 1 = 0)) I5 (F4.tr (frx.t.tr f5)) ?_
          rw [tkR, if_neg hz41]
          exact (ft.m (k := 1) (tok := (ex b n f 1 0 (d + 1) (ex b n f 0 0 (d + 1) (t + 1) c).2.1 (ex b n f 0 0 (d + 1) (t + 1) c).2.2).2.1) (by decide) (by decide)).co (m5 13 (by decide) (by decide)) (m5 14 (by decide) (by decide))
      · refine wx_aload_n rfl (e := 61) rfl rfl ?_
        refine wx_getr rfl (e := 64) rfl rfl rfl ?_
        refine wx_aload_n rfl (e := 65) rfl rfl ?_
        refine wx_geti rfl (e := 68) rfl rfl ?_
        rw [show (ft 2 (stA b n t) (wr I 55 12 (nI (d + 1)))) 55 47 = nI W.length from by simp only [nx, ft, wr_at]; exact X.2.2.1.2.1]
        refine wx_bipush (v := (nI 6)) rfl (e := 70) rfl (by decide) ?_
        refine wn_iast rfl (e := 71) rfl rfl (by decide) (by omega) (by decide) ?_
        refine wx_aload_n rfl (e := 72) rfl rfl ?_
        refine wx_dup rfl (e := 73) rfl rfl ?_
        refine wx_geti rfl (e := 76) rfl rfl ?_
        rw [show (wr (ft 2 (stA b n t) (wr I 55 12 (nI (d + 1)))) 86 W.length (nI 6)) 55 47 = nI W.length from by simp only [nx, ft, wr_at]; exact X.2.2.1.2.1]
        refine wx_iconst (v := (nI 1)) rfl (e := 77) rfl (by decide) ?_
        refine wn_iadd rfl (e := 78) rfl ?_
        refine wx_puti rfl (e := 81) rfl rfl (by decide) ?_
        refine wx_goto rfl ?_
        refine flt23 (e := 2) (by decide) (by decide) (by rw [wr_ne _ _ _ _ (by decide), wr_other _ _ _ _ (by decide)]; unfold ft; rw [wr_ne _ _ _ _ (by decide), wr_eq]) ?_
        refine hF (by rw [if_pos (Or.inr h4)]; exact (by decide : ¬ 2 = 0)) _ ((frx.w (by omega)).tr (frx.t.tr (frx.w6.tr (frx.w (by omega))))) (by rw [if_pos (Or.inr h4)]; exact (ft.m (k := 2) (tok := t) (by decide) (by decide)).co (by rw [wr_ne _ _ _ _ (by decide), wr_other _ _ _ _ (by decide)]) (by rw [wr_ne _ _ _ _ (by decide), wr_other _ _ _ _ (by decide)]))
    · refine wn_if_eq rfl (e := 32) rfl (by omega) (fun c_29 => ?_) (fun c_29 => absurd c_29 (by omega))
      refine wx_aload_n rfl (e := 85) rfl rfl ?_
      refine wx_cv0 (mc := 0) (ms := 0) rfl (e := 88) rfl rfl (Nat.le_of_ble_eq_true rfl) ⟨by decide, by decide⟩ ?_
      refine c_unit X.1 X.2.2.2 (h := B + 420) hB840 (by omega) (fun hz5 h4 I2 f2 M2 L2 q12 q47 q86 => ?_) (fun hz5 h4 I2 f2 M2 L2 q12 q47 q86 => ?_) (fun k hc I2 f2 F2 => ?_)
      · have h13 := M2.2.2.2.2
        refine wx_aload_n rfl (e := 89) rfl rfl ?_
        refine wx_geti rfl (e := 92) rfl rfl ?_
        rw [h13]
        refine wn_if_le rfl (e := 95) rfl (by omega) (fun c_92 => ?_) (fun c_92 => absurd c_92 (by omega))
        rw [if_neg hz, if_pos hz5, if_neg (by omega)] at hB
        exact hB rfl I2 f2 ⟨M2, q12.trans X.2.1, X.2.2.1.k q47 q86, L2⟩
      · have h13 := M2.2.2.2.2
        refine wx_aload_n rfl (e := 89) rfl rfl ?_
        refine wx_geti rfl (e := 92) rfl rfl ?_
        rw [h13]
        refine wn_if_le rfl (e := 95) rfl (by omega) (fun c_92 => ?_) (fun c_92 => absurd c_92 (by omega))
        rw [if_neg hz, if_neg (by omega), if_pos hz5, if_neg (by omega)] at hB
        exact hB rfl I2 f2 ⟨M2, q12.trans X.2.1, X.2.2.1.k q47 q86, L2⟩
      · have h13 := F2.2.2.1
        have hk1 := F2.1
        have hk2 := F2.2.1
        refine wx_aload_n rfl (e := 89) rfl rfl ?_
        refine wx_geti rfl (e := 92) rfl rfl ?_
        rw [h13]
        refine wn_if_le rfl (e := 95) rfl (by omega) (fun c_92 => absurd c_92 (by omega)) (fun c_92 => ?_)
        refine wx_ret rfl rfl ⟨by decide, by decide⟩ ?_
        rcases hc with ⟨k1, k2, k3⟩ | ⟨k1, k2, k3⟩
        · subst k1; rw [if_neg hz, if_neg k2, if_neg k3] at hF; exact hF (show ¬ 1 = 0 by decide) I2 f2 F2
        · subst k1
          rw [if_neg hz] at hF
          rcases k2 with k2 | k2
          · rw [if_pos k2, if_pos k3] at hF; exact hF (show ¬ 2 = 0 by decide) I2 f2 F2
          · rw [if_neg (by omega), if_pos k2, if_pos k3] at hF; exact hF (show ¬ 2 = 0 by decide) I2 f2 F2

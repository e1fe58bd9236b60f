/-! the model: laws told -/
set_option maxHeartbeats 1000000 in
theorem fl12 {d Lx tt rt u : Nat} {I : Nat → Nat → Int32} {G : Nat → Nat → Int64} {Q : ab_Q} {k r0 a0 h rh br e i : Nat} (he : ¬ e = 0) (he2 : e ≤ 5) (h13 : I 55 13 = nI e) (hbr : I 55 37 = nI br) (hr0 : r0 ≤ br) (hr2 : rh ≤ 260) (hrh : br < rh) (hq : ∀ I2, frq a0 h r0 rh I I2 → I2 55 13 = I 55 13 → I2 55 14 = I 55 14 → Q none (hp Lx tt rt u I2 G)) : WP (d + 6) mX11_tellLaw Q 12 [some (.ref 55), some (.int (nI k)), some (.int (nI r0)), some (.int (nI i))] [] (hp Lx tt rt u I G) 0 0 := by
  refine wx_aload_n rfl (e := 13) rfl rfl ?_
  refine wx_geti rfl (e := 16) rfl rfl ?_
  rw [h13]
  refine wn_if_ne rfl (e := 19) rfl (by omega) (fun c_16 => ?_) (fun c_16 => absurd c_16 (by omega))
  refine wx_aload_n rfl (e := 130) rfl rfl ?_
  refine wx_getr rfl (e := 133) rfl rfl rfl ?_
  refine wx_aload_n rfl (e := 134) rfl rfl ?_
  refine wx_geti rfl (e := 137) rfl rfl ?_
  rw [hbr]
  refine wx_iconst (v := (nI 0)) rfl (e := 138) rfl (by decide) ?_
  refine wn_zast rfl (e := 139) rfl rfl (by decide) (by omega) (by decide) ?_
  refine wx_aload_n rfl (e := 140) rfl rfl ?_
  refine wx_cv0 (mc := 0) (ms := 0) rfl (e := 143) rfl rfl (Nat.le_of_ble_eq_true rfl) ⟨by decide, by decide⟩ ?_
  refine c_term0 (I := (wr I 79 br (vp_nar .boolean (nI 0)))) he he2 (by rw [wr_other _ _ _ _ (by decide)]; exact h13) (a0 := a0) (h := h) (br := br) (r0 := r0) (rh := rh) (by rw [wr_other _ _ _ _ (by decide)]; exact hbr) hr0 (by omega) hr2 (fun I2 f2 q2 b2 => ?_)
  refine wx_aload_n rfl (e := 144) rfl rfl ?_
  refine wx_iconst (v := (nI 4)) rfl (e := 145) rfl (by decide) ?_
  refine wx_cv1 (mc := 0) (ms := 0) rfl (e := 148) rfl rfl (Nat.le_of_ble_eq_true rfl) ⟨by decide, by decide⟩ ?_
  refine c_must0 he he2 (by rw [q2 13 (by decide), wr_other _ _ _ _ (by decide)]; exact h13) ?_
  refine wx_aload_n rfl (e := 149) rfl rfl ?_
  refine wx_geti rfl (e := 152) rfl rfl ?_
  rw [q2 13 (by decide), wr_other _ _ _ _ (by decide), h13]
  refine wn_if_le rfl (e := 155) rfl (by omega) (fun c_152 => absurd c_152 (by omega)) (fun c_152 => ?_)
  refine wx_ret rfl rfl ⟨by decide, by decide⟩ ?_
  exact hq I2 ((frq.b (by decide) (by omega)).tr f2) (by rw [q2 13 (by decide), wr_other _ _ _ _ (by decide)]) (by rw [q2 14 (by decide), wr_other _ _ _ _ (by decide)])
set_option maxHeartbeats 1000000 in
theorem fl120 {d Lx tt rt u : Nat} {I : Nat → Nat → Int32} {G : Nat → Nat → Int64} {Q : ab_Q} {k r0 a0 h rh br e i : Nat} (he : ¬ e = 0) (he2 : e ≤ 5) (h13 : I 55 13 = nI e) (hbr : I 55 37 = nI br) (hr0 : r0 ≤ br) (hr2 : rh ≤ 260) (hrh : br < rh) (hq : ∀ I2, frq a0 h r0 rh I I2 → I2 55 13 = I 55 13 → I2 55 14 = I 55 14 → Q none (hp Lx tt rt u I2 G)) : WP (d + 6) mX11_tellLaw Q 120 [some (.ref 55), some (.int (nI k)), some (.int (nI r0)), some (.int (nI i))] [] (hp Lx tt rt u I G) 0 0 := by
  refine wx_aload_n rfl (e := 121) rfl rfl ?_
  refine wx_bipush (v := (nI 34)) rfl (e := 123) rfl (by decide) ?_
  refine wx_cv1 (mc := 0) (ms := 0) rfl (e := 126) rfl rfl (Nat.le_of_ble_eq_true rfl) ⟨by decide, by decide⟩ ?_
  refine c_must0 he he2 h13 ?_
  refine wx_goto rfl ?_
  exact fl12 he he2 h13 hbr hr0 hr2 hrh hq
set_option maxHeartbeats 1000000 in
theorem fl110 {d Lx tt rt u : Nat} {I : Nat → Nat → Int32} {G : Nat → Nat → Int64} {Q : ab_Q} {k r0 a0 h rh br e i : Nat} (he : ¬ e = 0) (he2 : e ≤ 5) (h13 : I 55 13 = nI e) (hbr : I 55 37 = nI br) (hr0 : r0 ≤ br) (hr2 : rh ≤ 260) (hrh : br + 1 < rh) (hq : ∀ I2, frq a0 h r0 rh I I2 → I2 55 13 = I 55 13 → I2 55 14 = I 55 14 → Q none (hp Lx tt rt u I2 G)) : WP (d + 6) mX11_tellLaw Q 110 [some (.ref 55), some (.int (nI k)), some (.int (nI r0)), some (.int (nI i))] [] (hp Lx tt rt u I G) 0 0 := by
  refine wx_aload_n rfl (e := 111) rfl rfl ?_
  refine wx_bipush (v := (nI 33)) rfl (e := 113) rfl (by decide) ?_
  refine wx_cv1 (mc := 0) (ms := 0) rfl (e := 116) rfl rfl (Nat.le_of_ble_eq_true rfl) ⟨by decide, by decide⟩ ?_
  refine c_must0 he he2 h13 ?_
  refine wx_aload_n rfl (e := 117) rfl rfl ?_
  refine wx_cv0 (mc := 0) (ms := 0) rfl (e := 120) rfl rfl (Nat.le_of_ble_eq_true rfl) ⟨by decide, by decide⟩ ?_
  refine c_term0 he he2 h13 (a0 := a0) (h := h) (br := br) (r0 := r0) (rh := rh) hbr hr0 (by omega) hr2 (fun I2 f2 q2 b2 => ?_)
  exact fl120 he he2 (by rw [q2 13 (by decide)]; exact h13) b2 (by omega) hr2 hrh (fun I3 f3 y3 y4 => hq I3 (f2.tr f3) (y3.trans (q2 13 (by decide))) (y4.trans (q2 14 (by decide))))
set_option maxHeartbeats 1000000 in
theorem fl80 {d Lx tt rt u : Nat} {I : Nat → Nat → Int32} {G : Nat → Nat → Int64} {Q : ab_Q} {k r0 a0 h rh br e i : Nat} (he : ¬ e = 0) (he2 : e ≤ 5) (h13 : I 55 13 = nI e) (hbr : I 55 37 = nI br) (hr0 : r0 ≤ br) (hr2 : rh ≤ 260) (hrh : br + 1 < rh) (hq : ∀ I2, frq a0 h r0 rh I I2 → I2 55 13 = I 55 13 → I2 55 14 = I 55 14 → Q none (hp Lx tt rt u I2 G)) : WP (d + 6) mX11_tellLaw Q 80 [some (.ref 55), some (.int (nI k)), some (.int (nI r0)), some (.int (nI i))] [] (hp Lx tt rt u I G) 0 0 := by
  refine wx_aload_n rfl (e := 81) rfl rfl ?_
  refine wx_bipush (v := (nI 13)) rfl (e := 83) rfl (by decide) ?_
  refine wx_cv1 (mc := 0) (ms := 0) rfl (e := 86) rfl rfl (Nat.le_of_ble_eq_true rfl) ⟨by decide, by decide⟩ ?_
  refine c_must0 he he2 h13 ?_
  refine wx_aload_n rfl (e := 87) rfl rfl ?_
  refine wx_getr rfl (e := 90) rfl rfl rfl ?_
  refine wx_aload_n rfl (e := 91) rfl rfl ?_
  refine wx_geti rfl (e := 94) rfl rfl ?_
  rw [hbr]
  refine wx_aload_n rfl (e := 95) rfl rfl ?_
  refine wx_geti rfl (e := 98) rfl rfl ?_
  refine wn_iast rfl (e := 99) rfl rfl (by decide) (by omega) (by decide) ?_
  refine wx_aload_n rfl (e := 100) rfl rfl ?_
  refine wx_geti rfl (e := 103) rfl rfl ?_
  rw [wr_other _ _ _ _ (by decide), h13]
  refine wn_if_ne rfl (e := 106) rfl (by omega) (fun c_103 => ?_) (fun c_103 => absurd c_103 (by omega))
  exact fl110 he he2 (by rw [wr_other _ _ _ _ (by decide)]; exact h13) (by rw [wr_other _ _ _ _ (by decide)]; exact hbr) hr0 hr2 hrh (fun I3 f3 y3 y4 => hq I3 ((frq.b (by decide) (by omega)).tr f3) (y3.trans (by rw [wr_other _ _ _ _ (by decide)])) (y4.trans (by rw [wr_other _ _ _ _ (by decide)])))
set_option maxHeartbeats 1000000 in
theorem fl86 {d Lx tt rt u : Nat} {I : Nat → Nat → Int32} {G : Nat → Nat → Int64} {Q : ab_Q} {k r0 a0 h rh br e i : Nat} (he : ¬ e = 0) (he2 : e ≤ 5) (h13 : I 55 13 = nI e) (hbr : I 55 37 = nI br) (hr0 : r0 ≤ br) (hr2 : rh ≤ 260) (hrh : br + 1 < rh) (hq : ∀ I2, frq a0 h r0 rh I I2 → I2 55 13 = I 55 13 → I2 55 14 = I 55 14 → Q none (hp Lx tt rt u I2 G)) : WP (d + 6) mX11_tellLaw Q 86 [some (.ref 55), some (.int (nI k)), some (.int (nI r0)), some (.int (nI i))] [] (hp Lx tt rt u I G) 0 0 := by
  refine wx_aload_n rfl (e := 87) rfl rfl ?_
  refine wx_getr rfl (e := 90) rfl rfl rfl ?_
  refine wx_aload_n rfl (e := 91) rfl rfl ?_
  refine wx_geti rfl (e := 94) rfl rfl ?_
  rw [hbr]
  refine wx_aload_n rfl (e := 95) rfl rfl ?_
  refine wx_geti rfl (e := 98) rfl rfl ?_
  refine wn_iast rfl (e := 99) rfl rfl (by decide) (by omega) (by decide) ?_
  refine wx_aload_n rfl (e := 100) rfl rfl ?_
  refine wx_geti rfl (e := 103) rfl rfl ?_
  rw [wr_other _ _ _ _ (by decide), h13]
  refine wn_if_ne rfl (e := 106) rfl (by omega) (fun c_103 => ?_) (fun c_103 => absurd c_103 (by omega))
  exact fl110 he he2 (by rw [wr_other _ _ _ _ (by decide)]; exact h13) (by rw [wr_other _ _ _ _ (by decide)]; exact hbr) hr0 hr2 hrh (fun I3 f3 y3 y4 => hq I3 ((frq.b (by decide) (by omega)).tr f3) (y3.trans (by rw [wr_other _ _ _ _ (by decide)])) (y4.trans (by rw [wr_other _ _ _ _ (by decide)])))
set_option maxHeartbeats 1000000 in
theorem fl116 {d Lx tt rt u : Nat} {I : Nat → Nat → Int32} {G : Nat → Nat → Int64} {Q : ab_Q} {k r0 a0 h rh br e i : Nat} (he : ¬ e = 0) (he2 : e ≤ 5) (h13 : I 55 13 = nI e) (hbr : I 55 37 = nI br) (hr0 : r0 ≤ br) (hr2 : rh ≤ 260) (hrh : br + 1 < rh) (hq : ∀ I2, frq a0 h r0 rh I I2 → I2 55 13 = I 55 13 → I2 55 14 = I 55 14 → Q none (hp Lx tt rt u I2 G)) : WP (d + 6) mX11_tellLaw Q 116 [some (.ref 55), some (.int (nI k)), some (.int (nI r0)), some (.int (nI i))] [] (hp Lx tt rt u I G) 0 0 := by
  refine wx_aload_n rfl (e := 117) rfl rfl ?_
  refine wx_cv0 (mc := 0) (ms := 0) rfl (e := 120) rfl rfl (Nat.le_of_ble_eq_true rfl) ⟨by decide, by decide⟩ ?_
  refine c_term0 he he2 h13 (a0 := a0) (h := h) (br := br) (r0 := r0) (rh := rh) hbr hr0 (by omega) hr2 (fun I2 f2 q2 b2 => ?_)
  exact fl120 he he2 (by rw [q2 13 (by decide)]; exact h13) b2 (by omega) hr2 hrh (fun I3 f3 y3 y4 => hq I3 (f2.tr f3) (y3.trans (q2 13 (by decide))) (y4.trans (q2 14 (by decide))))

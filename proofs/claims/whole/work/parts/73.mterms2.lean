/-! the model: units, terms -/
theorem mk_var : ∀ k, k < 62 → vld k = true → ((35 ≤ mk k ∧ mk k ≤ 43) ↔ (15 ≤ k ∧ k < 24)) ∧ (15 ≤ k → k < 24 → mk k = k + 20) := by decide +kernel
set_option maxHeartbeats 1000000 in
theorem c_unit {d Lx tt rt u : Nat} {I : Nat → Nat → Int32} {G : Nat → Nat → Int64} {Q : ab_Q} {b : Nat → Nat} {n t : Nat} (hM : MS b n t I G) {a0 h : Nat} {c : rpn} (hL : LM a0 c I) (hh : h ≤ 840) (hx : a0 + c.length < h) (h25 : kd b n t = 25 → t < 400 → ∀ I2, frx a0 h I I2 → MS b n (t + 1) I2 G → LM a0 (c ++ [(0, nI (nuT b n t))]) I2 → I2 55 12 = I 55 12 → I2 55 47 = I 55 47 → I2 86 = I 86 → Q none (hp Lx tt rt u I2 G)) (hv : 15 ≤ kd b n t ∧ kd b n t < 24 → t < 400 → ∀ I2, frx a0 h I I2 → MS b n (t + 1) I2 G → LM a0 (c ++ [(1, nI (kd b n t - 15))]) I2 → I2 55 12 = I 55 12 → I2 55 47 = I 55 47 → I2 86 = I 86 → Q none (hp Lx tt rt u I2 G)) (hf : ∀ k, (k = 1 ∧ ¬ kd b n t = 25 ∧ ¬ (15 ≤ kd b n t ∧ kd b n t < 24)) ∨ (k = 2 ∧ (kd b n t = 25 ∨ (15 ≤ kd b n t ∧ kd b n t < 24)) ∧ 400 ≤ t) → ∀ I2, frx a0 h I I2 → FM b n k t I2 → Q none (hp Lx tt rt u I2 G)) : ab_call ab_MT (d + 3) 216 [.ref 55] (hp Lx tt rt u I G) 0 0 Q := by
  obtain ⟨⟨m, hK, hm⟩, ht, hgd, r11, r13⟩ := id hM
  have hlt := hm t ht hgd
  have hkl := kd62 b n t
  have hml := mk_lt _ hkl
  have hK1 := hK.1
  obtain ⟨mv1, mv2⟩ := mk_var _ hkl (kd_vld b n t)
  refine wx_in (M := mX11_unit) rfl rfl rfl (Nat.le_of_ble_eq_true rfl) ?_
  refine wx_aload_n rfl (e := 1) rfl rfl ?_
  refine wx_iconst (v := (nI 2)) rfl (e := 2) rfl (by decide) ?_
  refine wx_cv1 (mc := 0) (ms := 0) rfl (e := 5) rfl rfl (Nat.le_of_ble_eq_true rfl) ⟨by decide, by decide⟩ ?_
  refine c_is hM (κ := 25) (by decide) (by decide) (by decide) (fun hz => ?_) (fun hz => ?_)
  · refine wn_if_eq rfl (e := 8) rfl (by omega) (fun c_5 => absurd c_5 (by omega)) (fun c_5 => ?_)
    refine wx_aload_n rfl (e := 9) rfl rfl ?_
    refine wx_iconst (v := (nI 0)) rfl (e := 10) rfl (by decide) ?_
    refine wx_aload_n rfl (e := 11) rfl rfl ?_
    refine wx_getr rfl (e := 14) rfl rfl rfl ?_
    refine wx_aload_n rfl (e := 15) rfl rfl ?_
    refine wx_geti rfl (e := 18) rfl rfl ?_
    rw [r11]
    refine wn_iald rfl (e := 19) rfl rfl (by omega) (by decide) ?_
    rw [(hK.2.2 t hlt).2.2.1 hz]
    refine wx_cv2 (mc := 0) (ms := 0) rfl (e := 22) rfl rfl (Nat.le_of_ble_eq_true rfl) ⟨by decide, by decide⟩ ?_
    refine c_emit (x := a0 + c.length) hL.1 (by omega) ?_
    have LN : LM a0 (c ++ [(0, nI (nuT b n t))]) (nx t (emM I (a0 + c.length) (nI 0) (nI (nuT b n t)))) := by
      have LE := emM.s (q := (0, nI (nuT b n t))) hL (by omega) rfl rfl
      exact ⟨by rw [nx.f (by decide)]; exact LE.1, LE.2.kept2 _ _ _ (fun j _ _ => ⟨by rw [nx.q (by decide)], by rw [nx.q (by decide)]⟩)⟩
    refine wx_aload_n rfl (e := 23) rfl rfl ?_
    refine wx_cv0 (mc := 0) (ms := 0) rfl (e := 26) rfl rfl (Nat.le_of_ble_eq_true rfl) ⟨by decide, by decide⟩ ?_
    refine c_goes hM.e (fun h4 => ?_) (fun h4 => ?_)
    · refine wx_goto rfl ?_
      refine wx_ret rfl rfl ⟨by decide, by decide⟩ ?_
      exact h25 hz h4 _ ((frx.e (by omega) (by omega)).tr frx.n) (hM.e.nx h4 (by omega)) LN ((nx.f (by decide)).trans (emM.f (by decide))) ((nx.f (by decide)).trans (emM.f (by decide))) ((nx.q (by decide)).trans (emM.q (by decide) (by decide) (by decide)))
    · refine wx_goto rfl ?_
      refine wx_ret rfl rfl ⟨by decide, by decide⟩ ?_
      exact hf 2 (Or.inr ⟨rfl, Or.inl hz, h4⟩) _ ((frx.e (by omega) (by omega)).tr frx.t) (ft.m (by decide) (by decide))
  · refine wn_if_eq rfl (e := 8) rfl (by omega) (fun c_5 => ?_) (fun c_5 => absurd c_5 (by omega))
    refine wx_aload_n rfl (e := 30) rfl rfl ?_
    refine wx_geti rfl (e := 33) rfl rfl ?_
    rw [r13]
    refine wn_if_ne rfl (e := 36) rfl (by omega) (fun c_33 => absurd c_33 (by omega)) (fun c_33 => ?_)
    refine wx_aload_n rfl (e := 37) rfl rfl ?_
    refine wx_getr rfl (e := 40) rfl rfl rfl ?_
    refine wx_aload_n rfl (e := 41) rfl rfl ?_
    refine wx_geti rfl (e := 44) rfl rfl ?_
    rw [r11]
    refine wn_iald rfl (e := 45) rfl rfl (by omega) (by decide) ?_
    rw [(hK.2.2 t hlt).1]
    refine wx_bipush (v := (nI 35)) rfl (e := 47) rfl (by decide) ?_
    refine wn_ic_lt rfl (e := 50) rfl (by omega) (by omega) (fun c_47 => ?_) (fun c_47 => ?_)
    · refine wx_aload_n rfl (e := 89) rfl rfl ?_
      refine wx_iconst (v := (nI 1)) rfl (e := 90) rfl (by decide) ?_
      refine wx_cv1 (mc := 0) (ms := 0) rfl (e := 93) rfl rfl (Nat.le_of_ble_eq_true rfl) ⟨by decide, by decide⟩ ?_
      refine c_fail hM (k := 1) ?_
      refine wx_ret rfl rfl ⟨by decide, by decide⟩ ?_
      exact hf 1 (Or.inl ⟨rfl, hz, by omega⟩) _ frx.t (ft.m (by decide) (by decide))
    · refine wx_aload_n rfl (e := 51) rfl rfl ?_
      refine wx_getr rfl (e := 54) rfl rfl rfl ?_
      refine wx_aload_n rfl (e := 55) rfl rfl ?_
      refine wx_geti rfl (e := 58) rfl rfl ?_
      rw [r11]
      refine wn_iald rfl (e := 59) rfl rfl (by omega) (by decide) ?_
      rw [(hK.2.2 t hlt).1]
      refine wx_bipush (v := (nI 43)) rfl (e := 61) rfl (by decide) ?_
      refine wn_ic_gt rfl (e := 64) rfl (by omega) (by omega) (fun c_61 => ?_) (fun c_61 => ?_)
      · refine wx_aload_n rfl (e := 89) rfl rfl ?_
        refine wx_iconst (v := (nI 1)) rfl (e := 90) rfl (by decide) ?_
        refine wx_cv1 (mc := 0) (ms := 0) rfl (e := 93) rfl rfl (Nat.le_of_ble_eq_true rfl) ⟨by decide, by decide⟩ ?_
        refine c_fail hM (k := 1) ?_
        refine wx_ret rfl rfl ⟨by decide, by decide⟩ ?_
        exact hf 1 (Or.inl ⟨rfl, hz, by omega⟩) _ frx.t (ft.m (by decide) (by decide))
      · refine wx_aload_n rfl (e := 65) rfl rfl ?_
        refine wx_iconst (v := (nI 1)) rfl (e := 66) rfl (by decide) ?_
        refine wx_aload_n rfl (e := 67) rfl rfl ?_
        refine wx_getr rfl (e := 70) rfl rfl rfl ?_
        refine wx_aload_n rfl (e := 71) rfl rfl ?_
        refine wx_geti rfl (e := 74) rfl rfl ?_
        rw [r11]
        refine wn_iald rfl (e := 75) rfl rfl (by omega) (by decide) ?_
        rw [(hK.2.2 t hlt).1]
        refine wx_bipush (v := (nI 35)) rfl (e := 77) rfl (by decide) ?_
        refine wn_isub rfl (e := 78) rfl (by omega) ?_
        rw [show mk (kd b n t) - 35 = kd b n t - 15 by have := mv2 (by omega) (by omega); omega]
        refine wx_cv2 (mc := 0) (ms := 0) rfl (e := 81) rfl rfl (Nat.le_of_ble_eq_true rfl) ⟨by decide, by decide⟩ ?_
        refine c_emit (x := a0 + c.length) hL.1 (by omega) ?_
        have LN : LM a0 (c ++ [(1, nI (kd b n t - 15))]) (nx t (emM I (a0 + c.length) (nI 1) (nI (kd b n t - 15)))) := by
          have LE := emM.s (q := (1, nI (kd b n t - 15))) hL (by omega) rfl rfl
          exact ⟨by rw [nx.f (by decide)]; exact LE.1, LE.2.kept2 _ _ _ (fun j _ _ => ⟨by rw [nx.q (by decide)], by rw [nx.q (by decide)]⟩)⟩
        refine wx_aload_n rfl (e := 82) rfl rfl ?_
        refine wx_cv0 (mc := 0) (ms := 0) rfl (e := 85) rfl rfl (Nat.le_of_ble_eq_true rfl) ⟨by decide, by decide⟩ ?_
        refine c_goes hM.e (fun h4 => ?_) (fun h4 => ?_)
        · refine wx_goto rfl ?_
          refine wx_ret rfl rfl ⟨by decide, by decide⟩ ?_
          exact hv (by omega) h4 _ ((frx.e (by omega) (by omega)).tr frx.n) (hM.e.nx h4 (by omega)) LN ((nx.f (by decide)).trans (emM.f (by decide))) ((nx.f (by decide)).trans (emM.f (by decide))) ((nx.q (by decide)).trans (emM.q (by decide) (by decide) (by decide)))
        · refine wx_goto rfl ?_
          refine wx_ret rfl rfl ⟨by decide, by decide⟩ ?_
          exact hf 2 (Or.inr ⟨rfl, Or.inr (by omega), h4⟩) _ ((frx.e (by omega) (by omega)).tr frx.t) (ft.m (by decide) (by decide))
theorem c_unit0 {d Lx tt rt u : Nat} {I : Nat → Nat → Int32} {G : Nat → Nat → Int64} {Q : ab_Q} {e : Nat} (he : ¬ e = 0) (he2 : e ≤ 5) (h13 : I 55 13 = nI e) (hq : Q none (hp Lx tt rt u I G)) : ab_call ab_MT (d + 3) 216 [.ref 55] (hp Lx tt rt u I G) 0 0 Q := by
  refine wx_in (M := mX11_unit) rfl rfl rfl (Nat.le_of_ble_eq_true rfl) ?_
  refine wx_aload_n rfl (e := 1) rfl rfl ?_
  refine wx_iconst (v := (nI 2)) rfl (e := 2) rfl (by decide) ?_
  refine wx_cv1 (mc := 0) (ms := 0) rfl (e := 5) rfl rfl (Nat.le_of_ble_eq_true rfl) ⟨by decide, by decide⟩ ?_
  refine c_is0 he he2 h13 ?_
  refine wn_if_eq rfl (e := 8) rfl (by omega) (fun c_5 => ?_) (fun c_5 => absurd c_5 (by omega))
  refine wx_aload_n rfl (e := 30) rfl rfl ?_
  refine wx_geti rfl (e := 33) rfl rfl ?_
  rw [h13]
  refine wn_if_ne rfl (e := 36) rfl (by omega) (fun c_33 => ?_) (fun c_33 => absurd c_33 (by omega))
  refine wx_aload_n rfl (e := 89) rfl rfl ?_
  refine wx_iconst (v := (nI 1)) rfl (e := 90) rfl (by decide) ?_
  refine wx_cv1 (mc := 0) (ms := 0) rfl (e := 93) rfl rfl (Nat.le_of_ble_eq_true rfl) ⟨by decide, by decide⟩ ?_
  refine c_fail0 he he2 h13 ?_
  refine wx_ret rfl rfl ⟨by decide, by decide⟩ ?_
  exact hq
def XS (b : Nat → Nat) (n a0 t d : Nat) (W : List Nat) (c : rpn) (I : Nat → Nat → Int32) (G : Nat → Nat → Int64) : Prop := MS b n t I G ∧ I 55 12 = nI d ∧ WS W I ∧ LM a0 c I
def pd (w s : Nat) (W : List Nat) : List Nat := (if s = 0 then [] else [s]) ++ ((if w = 0 then [] else [w]) ++ W)
abbrev xl : List (Option Value) := [some (.ref 55), some (.int (nI 0)), some (.int (nI 1))]
def xqF (b : Nat → Nat) (n a0 B Lx tt rt u : Nat) (I : Nat → Nat → Int32) (G : Nat → Nat → Int64) (Q : ab_Q) (r : res) : Prop := ¬ r.1 = 0 → ∀ I2, frx a0 (B + 420) I I2 → FM b n r.1 r.2.1 I2 → Q none (hp Lx tt rt u I2 G)
def xqU (b : Nat → Nat) (n a0 B f : Nat) : Prop := ∀ (e d t Lx tt rt u : Nat) (c : rpn) (W : List Nat) (I : Nat → Nat → Int32) (G : Nat → Nat → Int64) (Q : ab_Q), d ≤ 6 → 402 ≤ f + t → XS b n a0 t d W c I G → W.length ≤ 3 * d + 2 → a0 + c.length ≤ B + t → ((ex b n f 0 0 d t c).1 = 0 → ∀ I2, frx a0 (B + 420) I I2 → XS b n a0 (ex b n f 0 0 d t c).2.1 d W (ex b n f 0 0 d t c).2.2 I2 G → WP (e + 4) mX11_expression Q 96 xl [] (hp Lx tt rt u I2 G) 0 0) → xqF b n a0 B Lx tt rt u I G Q (ex b n f 0 0 d t c) → WP (e + 4) mX11_expression Q 23 xl [] (hp Lx tt rt u I G) 0 0
def xqA (b : Nat → Nat) (n a0 B f : Nat) : Prop := ∀ (e d w s t Lx tt rt u : Nat) (c : rpn) (W : List Nat) (I : Nat → Nat → Int32) (G : Nat → Nat → Int64) (Q : ab_Q), d ≤ 6 → 402 ≤ f + t → (w = 0 ∨ w = 43 ∨ w = 45) → (s = 0 ∨ s = 42 ∨ s = 47) → (W = [] ∨ ∃ V, W = 40 :: V) → XS b n a0 t d (pd w s W) c I G → W.length ≤ 3 * d → a0 + (wtC w (wtC s c)).length ≤ B + t → ((ex b n f 1 w d t (wtC s c)).1 = 0 → ∀ w2 s2 c2 I2, (w2 = 0 ∨ w2 = 43 ∨ w2 = 45) → (s2 = 0 ∨ s2 = 42 ∨ s2 = 47) → frx a0 (B + 420) I I2 → XS b n a0 (ex b n f 1 w d t (wtC s c)).2.1 d (pd w2 s2 W) c2 I2 G → (ex b n f 1 w d t (wtC s c)).2.2 = wtC w2 (wtC s2 c2) → a0 + c2.length ≤ B + (ex b n f 1 w d t (wtC s c)).2.1 → ¬ (kd b n (ex b n f 1 w d t (wtC s c)).2.1 = 42 ∨ kd b n (ex b n f 1 w d t (wtC s c)).2.1 = 47 ∨ kd b n (ex b n f 1 w d t (wtC s c)).2.1 = 43 ∨ kd b n (ex b n f 1 w d t (wtC s c)).2.1 = 45) → WP (e + 4) mX11_expression Q 96 xl [] (hp Lx tt rt u I2 G) 0 0) → xqF b n a0 B Lx tt rt u I G Q (ex b n f 1 w d t (wtC s c)) → WP (e + 4) mX11_expression Q 96 xl [] (hp Lx tt rt u I G) 0 0
theorem xqF.m {b : Nat → Nat} {n a0 B Lx tt rt u : Nat} {I I1 : Nat → Nat → Int32} {G : Nat → Nat → Int64} {Q : ab_Q} {r : res} (h : xqF b n a0 B Lx tt rt u I G Q r) (f : frx a0 (B + 420) I I1) : xqF b n a0 B Lx tt rt u I1 G Q r := fun hz I2 f2 hm => h hz I2 (f.tr f2) hm
theorem co_pd {st : Bool} {w s : Nat} {W : List Nat} {c : rpn} (hw : w = 0 ∨ w = 43 ∨ w = 45) (hs : s = 0 ∨ s = 42 ∨ s = 47) (hW : W = [] ∨ ∃ V, W = 40 :: V) : co st (pd w s W) c = if st = true then (pd w 0 W, wtC s c) else (W, wtC w (wtC s c)) := by
  have h0 : ∀ c, co st W c = (W, c) := fun c => by
    rcases hW with h | ⟨V, h⟩
    · rw [h]; rfl
    · rw [h]; exact co_y (Or.inl rfl)
  have h1 : ∀ c, co st (pd w 0 W) c = if st = true then (pd w 0 W, c) else (W, wtC w c) := fun c => by
    unfold pd wtC
    by_cases z : w = 0
    · rw [if_pos z, if_pos z]
      show co st W c = if st = true then (W, c) else (W, c)
      rw [h0]; split <;> rfl
    · rw [if_neg z, if_neg z]
      show co st (w :: W) c = if st = true then (w :: W, c) else _
      by_cases y : st = true
      · rw [if_pos y]; exact co_y (Or.inr ⟨y, by omega⟩)
      · rw [if_neg y, co_n (fun q => q.elim (by omega) (fun q => y q.1)), h0]
  by_cases z : s = 0
  · rw [z, show wtC 0 c = c from if_pos rfl]; exact h1 c
  · have e : pd w s W = s :: pd w 0 W := by unfold pd; rw [if_neg z]; rfl
    rw [e, co_n (fun q => q.elim (by omega) (fun q => by have := q.2; omega)), show c ++ [(opK s, nI 0)] = wtC s c from (if_neg z).symm]
    exact h1 _
theorem pd_len (w s : Nat) (W : List Nat) : (pd w s W).length ≤ W.length + 2 := by
  unfold pd
  rw [List.length_append, List.length_append]
  have h1 : (if s = 0 then [] else [s]).length ≤ 1 := by
    split
    · exact Nat.zero_le _
    · exact Nat.le_refl _
  have h2 : (if w = 0 then [] else [w]).length ≤ 1 := by
    split
    · exact Nat.zero_le _
    · exact Nat.le_refl _
  omega
theorem XS.k {b : Nat → Nat} {n a0 t d : Nat} {W : List Nat} {c : rpn} {I I2 : Nat → Nat → Int32} {G : Nat → Nat → Int64} (h : MS b n t I2 G) (h12 : I2 55 12 = nI d) (hW : WS W I2) (hL : LM a0 c I2) : XS b n a0 t d W c I2 G := ⟨h, h12, hW, hL⟩
theorem WS.k {W : List Nat} {I I2 : Nat → Nat → Int32} (h : WS W I) (h1 : I2 55 47 = I 55 47) (h2 : I2 86 = I 86) : WS W I2 := by
  unfold WS at *; rw [h1, h2]; exact h
theorem LM.k {a0 : Nat} {c : rpn} {I I2 : Nat → Nat → Int32} (h : LM a0 c I) (h1 : I2 55 43 = I 55 43) (h2 : I2 84 = I 84) (h3 : I2 85 = I 85) : LM a0 c I2 := ⟨h1.trans h.1, h.2.kept h2 h3 c _ _⟩
/-- a sign put on top -/
theorem WS.push {W : List Nat} {I : Nat → Nat → Int32} {w : Nat} (h : WS W I) (hw : w = 40 ∨ w = 43 ∨ w = 45 ∨ w = 42 ∨ w = 47) {v : Int32} (hv : v = nI (mk w)) : WS (w :: W) (wr (wr I 86 W.length v) 55 47 (nI (W.length + 1))) := by
  refine ⟨fun y hy => ?_, ?_, ?_, ?_⟩
  · rcases List.mem_cons.mp hy with h1 | h1
    · rw [h1]; exact hw
    · exact h.1 y h1
  · rw [wr_eq]; rfl
  · rw [wr_other _ _ _ _ (by decide), wr_eq]; exact hv
  · refine h.2.2.kept (fun i hi => ?_)
    rw [wr_other _ _ _ _ (by decide), wr_ne _ _ _ _ (by omega)]

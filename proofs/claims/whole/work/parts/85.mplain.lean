/-! the model: a side made plain, how far, the beginning -/
def Z5 (sd : Nat) (I : Nat → Nat → Int32) : Prop := I 65 sd = nI 0 ∧ I 67 sd = nI 0 ∧ I 69 sd = nI 0 ∧ I 72 sd = nI 0 ∧ I 76 sd = nI 0
theorem Z5.k {sd : Nat} {I I2 : Nat → Nat → Int32} (h : Z5 sd I) (f : ∀ q, q ≠ 68 → q ≠ 77 → q ≠ 78 → I2 q = I q) : Z5 sd I2 := by
  unfold Z5 at *
  rw [f 65 (by decide) (by decide) (by decide), f 67 (by decide) (by decide) (by decide), f 69 (by decide) (by decide) (by decide), f 72 (by decide) (by decide) (by decide), f 76 (by decide) (by decide) (by decide)]
  exact h
theorem jf_nx {F : Nat → Nat → Int32} {c k a b : Nat} (hb : b < 6) : jfS F c ((k + 1) / 6) ((k + 1) % 6) a b = jfS F c (k / 6) (k % 6 + 1) a b := by
  unfold jfS
  by_cases h : a < k / 6 ∨ (a = k / 6 ∧ b < k % 6 + 1)
  · rw [if_pos h, if_pos (by omega)]
  · rw [if_neg h, if_neg (by omega)]
theorem c_X11_plain {d Lx t rt u : Nat} {I : Nat → Nat → Int32} {G : Nat → Nat → Int64} {Q : ab_Q} {sd : Nat} (hsd : sd ≤ 1) (hq : ∀ I2, fmp sd I I2 → I2 55 = I 55 → Z5 sd I2 → (∀ k, k < 36 → I2 68 (36 * sd + k) = (if k / 6 = k % 6 then nI 0 else nI 999)) → (∀ k, k < 5 → I2 77 (5 * sd + k) = nI 0 ∧ I2 78 (5 * sd + k) = nI 0) → Q none (hp Lx t rt u I2 G)) : ab_call ab_MT (d + 1) 199 [.ref 55, .int (nI sd)] (hp Lx t rt u I G) 0 0 Q := by
  have loop2 : ∀ (m_ : Nat) (i : Nat) (I2 : Nat → Nat → Int32), i ≤ 5 → 5 - i < m_ → fmp sd I I2 → I2 55 = I 55 → Z5 sd I2 → (∀ k, k < 36 → I2 68 (36 * sd + k) = (if k / 6 = k % 6 then nI 0 else nI 999)) → (∀ k, k < i → I2 77 (5 * sd + k) = nI 0 ∧ I2 78 (5 * sd + k) = nI 0) → WP d mX11_plain Q 80 [some (.ref 55), some (.int (nI sd)), some (.int (nI i))] [] (hp Lx t rt u I2 G) 0 0 := by
    intro m_
    induction m_ with
    | zero => intro i I2 h1 h2; omega
    | succ m_ ih =>
      intro i I2 h1 h2 f2 g5 z5 l2 j2
      refine wx_iload_n rfl (e := 81) rfl rfl ?_
      refine wx_iconst (v := (nI 5)) rfl (e := 82) rfl (by decide) ?_
      refine wn_ic_ge rfl (e := 85) rfl (by omega) (by omega) (fun c_82 => ?_) (fun c_82 => ?_)
      · refine wx_ret rfl rfl ⟨by decide, by decide⟩ ?_
        exact hq I2 f2 g5 z5 l2 (fun k hk => j2 k (by omega))
      · refine wx_aload_n rfl (e := 86) rfl rfl ?_
        refine wx_getr rfl (e := 89) rfl rfl rfl ?_
        refine wx_iconst (v := (nI 5)) rfl (e := 90) rfl (by decide) ?_
        refine wx_iload_n rfl (e := 91) rfl rfl ?_
        refine wn_imul rfl (e := 92) rfl ?_
        refine wx_iload_n rfl (e := 93) rfl rfl ?_
        refine wn_iadd rfl (e := 94) rfl ?_
        refine wx_iconst (v := (nI 0)) rfl (e := 95) rfl (by decide) ?_
        refine wn_iast rfl (e := 96) rfl rfl (by decide) (by omega) (by decide) ?_
        refine wx_aload_n rfl (e := 97) rfl rfl ?_
        refine wx_getr rfl (e := 100) rfl rfl rfl ?_
        refine wx_iconst (v := (nI 5)) rfl (e := 101) rfl (by decide) ?_
        refine wx_iload_n rfl (e := 102) rfl rfl ?_
        refine wn_imul rfl (e := 103) rfl ?_
        refine wx_iload_n rfl (e := 104) rfl rfl ?_
        refine wn_iadd rfl (e := 105) rfl ?_
        refine wx_iconst (v := (nI 0)) rfl (e := 106) rfl (by decide) ?_
        refine wn_iast rfl (e := 107) rfl rfl (by decide) (by omega) (by decide) ?_
        refine wn_iinc (m := 1) (L2 := [_, _, _]) rfl (e := 110) rfl rfl (by decide) rfl ?_
        refine wx_goto rfl ?_
        refine ih (i + 1) _ (by omega) (by omega) (f2.tr ((fmp.w (by unfold own; omega)).tr (fmp.w (by unfold own; omega)))) (by rw [wr_other _ _ _ _ (by decide), wr_other _ _ _ _ (by decide)]; exact g5) (z5.k (fun q _ h1 h2 => by rw [wr_other _ _ _ _ h2, wr_other _ _ _ _ h1])) (by rw [wr_other _ _ _ _ (by decide), wr_other _ _ _ _ (by decide)]; exact l2) (fun k hk => ?_)
        by_cases zz : k = i
        · subst zz; exact ⟨by rw [wr_other _ _ _ _ (by decide), wr_eq], by rw [wr_eq]⟩
        · exact ⟨by rw [wr_other _ _ _ _ (by decide), wr_ne _ _ _ _ (by omega)]; exact (j2 k (by omega)).1, by rw [wr_ne _ _ _ _ (by omega), wr_other _ _ _ _ (by decide)]; exact (j2 k (by omega)).2⟩
  have loop1 : ∀ (m_ : Nat) (i : Nat) (I2 : Nat → Nat → Int32), i ≤ 36 → 36 - i < m_ → fmp sd I I2 → I2 55 = I 55 → Z5 sd I2 → (∀ k, k < i → I2 68 (36 * sd + k) = (if k / 6 = k % 6 then nI 0 else nI 999)) → WP d mX11_plain Q 37 [some (.ref 55), some (.int (nI sd)), some (.int (nI i))] [] (hp Lx t rt u I2 G) 0 0 := by
    intro m_
    induction m_ with
    | zero => intro i I2 h1 h2; omega
    | succ m_ ih =>
      intro i I2 h1 h2 f2 g5 z5 l2
      refine wx_iload_n rfl (e := 38) rfl rfl ?_
      refine wx_bipush (v := (nI 36)) rfl (e := 40) rfl (by decide) ?_
      refine wn_ic_ge rfl (e := 43) rfl (by omega) (by omega) (fun c_40 => ?_) (fun c_40 => ?_)
      · refine wx_iconst (v := (nI 0)) rfl (e := 79) rfl (by decide) ?_
        refine wx_istore_n (L2 := [_, _, _]) rfl (e := 80) rfl (by decide) rfl ?_
        exact loop2 6 0 I2 (by omega) (by omega) f2 g5 z5 (fun k hk => l2 k (by omega)) (fun k hk => absurd hk (Nat.not_lt_zero _))
      · refine wx_aload_n rfl (e := 44) rfl rfl ?_
        refine wx_getr rfl (e := 47) rfl rfl rfl ?_
        refine wx_bipush (v := (nI 36)) rfl (e := 49) rfl (by decide) ?_
        refine wx_iload_n rfl (e := 50) rfl rfl ?_
        refine wn_imul rfl (e := 51) rfl ?_
        refine wx_iload_n rfl (e := 52) rfl rfl ?_
        refine wn_iadd rfl (e := 53) rfl ?_
        refine wx_iload_n rfl (e := 54) rfl rfl ?_
        refine wx_bipush (v := (nI 6)) rfl (e := 56) rfl (by decide) ?_
        refine wx_idiv rfl (e := 57) rfl (by decide) ?_
        rw [pk_div (by omega) (by omega) (by omega)]
        refine wx_iload_n rfl (e := 58) rfl rfl ?_
        refine wx_bipush (v := (nI 6)) rfl (e := 60) rfl (by decide) ?_
        refine wx_irem rfl (e := 61) rfl (by decide) ?_
        rw [pk_rem (by omega) (by omega) (by omega)]
        refine wn_ic_ne rfl (e := 64) rfl (by omega) (by omega) (fun c_61 => ?_) (fun c_61 => ?_)
        · refine wx_sipush (v := (nI 999)) rfl (e := 71) rfl (by decide) ?_
          refine wn_iast rfl (e := 72) rfl rfl (by decide) (by omega) (by decide) ?_
          refine wn_iinc (m := 1) (L2 := [_, _, _]) rfl (e := 75) rfl rfl (by decide) rfl ?_
          refine wx_goto rfl ?_
          refine ih (i + 1) _ (by omega) (by omega) (f2.tr (fmp.w (by unfold own; omega))) (by rw [wr_other _ _ _ _ (by decide)]; exact g5) (z5.k (fun q h _ _ => wr_other _ _ _ _ h)) (fun k hk => ?_)
          rw [wr_at, if_pos rfl]
          by_cases zz : k = i
          · subst zz; rw [if_pos rfl]; exact (if_neg c_61).symm
          · rw [if_neg (by omega)]; exact l2 k (by omega)
        · refine wx_iconst (v := (nI 0)) rfl (e := 65) rfl (by decide) ?_
          refine wx_goto rfl ?_
          refine wn_iast rfl (e := 72) rfl rfl (by decide) (by omega) (by decide) ?_
          refine wn_iinc (m := 1) (L2 := [_, _, _]) rfl (e := 75) rfl rfl (by decide) rfl ?_
          refine wx_goto rfl ?_
          refine ih (i + 1) _ (by omega) (by omega) (f2.tr (fmp.w (by unfold own; omega))) (by rw [wr_other _ _ _ _ (by decide)]; exact g5) (z5.k (fun q h _ _ => wr_other _ _ _ _ h)) (fun k hk => ?_)
          rw [wr_at, if_pos rfl]
          by_cases zz : k = i
          · subst zz; rw [if_pos rfl]; exact (if_pos c_61).symm
          · rw [if_neg (by omega)]; exact l2 k (by omega)
  refine wx_in (M := mX11_plain) rfl rfl rfl (Nat.le_of_ble_eq_true rfl) ?_
  refine wx_aload_n rfl (e := 1) rfl rfl ?_
  refine wx_getr rfl (e := 4) rfl rfl rfl ?_
  refine wx_iload_n rfl (e := 5) rfl rfl ?_
  refine wx_iconst (v := (nI 0)) rfl (e := 6) rfl (by decide) ?_
  refine wn_iast rfl (e := 7) rfl rfl (by decide) (by omega) (by decide) ?_
  refine wx_aload_n rfl (e := 8) rfl rfl ?_
  refine wx_getr rfl (e := 11) rfl rfl rfl ?_
  refine wx_iload_n rfl (e := 12) rfl rfl ?_
  refine wx_iconst (v := (nI 0)) rfl (e := 13) rfl (by decide) ?_
  refine wn_iast rfl (e := 14) rfl rfl (by decide) (by omega) (by decide) ?_
  refine wx_aload_n rfl (e := 15) rfl rfl ?_
  refine wx_getr rfl (e := 18) rfl rfl rfl ?_
  refine wx_iload_n rfl (e := 19) rfl rfl ?_
  refine wx_iconst (v := (nI 0)) rfl (e := 20) rfl (by decide) ?_
  refine wn_iast rfl (e := 21) rfl rfl (by decide) (by omega) (by decide) ?_
  refine wx_aload_n rfl (e := 22) rfl rfl ?_
  refine wx_getr rfl (e := 25) rfl rfl rfl ?_
  refine wx_iload_n rfl (e := 26) rfl rfl ?_
  refine wx_iconst (v := (nI 0)) rfl (e := 27) rfl (by decide) ?_
  refine wn_iast rfl (e := 28) rfl rfl (by decide) (by omega) (by decide) ?_
  refine wx_aload_n rfl (e := 29) rfl rfl ?_
  refine wx_getr rfl (e := 32) rfl rfl rfl ?_
  refine wx_iload_n rfl (e := 33) rfl rfl ?_
  refine wx_iconst (v := (nI 0)) rfl (e := 34) rfl (by decide) ?_
  refine wn_iast rfl (e := 35) rfl rfl (by decide) (by omega) (by decide) ?_
  refine wx_iconst (v := (nI 0)) rfl (e := 36) rfl (by decide) ?_
  refine wx_istore_n (L2 := [_, _, _]) rfl (e := 37) rfl (by decide) rfl ?_
  refine loop1 37 0 _ (by omega) (by omega) ((fmp.w (by unfold own; omega)).tr ((fmp.w (by unfold own; omega)).tr ((fmp.w (by unfold own; omega)).tr ((fmp.w (by unfold own; omega)).tr ((fmp.w (by unfold own; omega))))))) (by rw [wr_other _ _ _ _ (by decide), wr_other _ _ _ _ (by decide), wr_other _ _ _ _ (by decide), wr_other _ _ _ _ (by decide), wr_other _ _ _ _ (by decide)]) ?_ (fun k hk => absurd hk (Nat.not_lt_zero _))
  unfold Z5
  refine ⟨?_, ?_, ?_, ?_, ?_⟩
  · rw [wr_other _ _ _ _ (by decide), wr_other _ _ _ _ (by decide), wr_other _ _ _ _ (by decide), wr_other _ _ _ _ (by decide), wr_eq]
  · rw [wr_other _ _ _ _ (by decide), wr_other _ _ _ _ (by decide), wr_other _ _ _ _ (by decide), wr_eq]
  · rw [wr_other _ _ _ _ (by decide), wr_other _ _ _ _ (by decide), wr_eq]
  · rw [wr_other _ _ _ _ (by decide), wr_eq]
  · rw [wr_eq]
set_option maxHeartbeats 4000000 in
theorem c_X11_fillsFar {d Lx t rt u : Nat} {I : Nat → Nat → Int32} {G : Nat → Nat → Int64} {Q : ab_Q} {lv : Nat} {F : Nat → Nat → Int32} (h18 : I 55 18 = nI lv) (hlv : lv ≤ 1) (hF : lnF F) (hI : ∀ a b, a < 6 → b < 6 → I 68 (36 * lv + 6 * a + b) = F a b) (hq : ∀ I2, (∀ q, q ≠ 89 → I2 q = I q) → (∀ a b, a < 6 → b < 6 → I2 89 (a * 6 + b) = fwS F 6 a b) → Q none (hp Lx t rt u I2 G)) : ab_call ab_MT (d + 1) 218 [.ref 55] (hp Lx t rt u I G) 0 0 Q := by
  have inner : ∀ c, c < 6 → (∀ I2, (∀ q, q ≠ 89 → I2 q = I q) → (∀ a b, a < 6 → b < 6 → I2 89 (a * 6 + b) = fwS F (c + 1) a b) → WP d mX11_fillsFar Q 129 [some (.ref 55), some (.int (nI c)), some (.int (nI 36))] [] (hp Lx t rt u I2 G) 0 0) → ∀ (m k : Nat) (I2 : Nat → Nat → Int32), k ≤ 36 → 36 - k < m → (∀ q, q ≠ 89 → I2 q = I q) → (∀ a b, a < 6 → b < 6 → I2 89 (a * 6 + b) = jfS F c (k / 6) (k % 6) a b) → WP d mX11_fillsFar Q 44 [some (.ref 55), some (.int (nI c)), some (.int (nI k))] [] (hp Lx t rt u I2 G) 0 0 := by
    intro c hc go m
    induction m with
    | zero => intro k I2 h1 h2; omega
    | succ m ih =>
      intro k I2 h1 h2 g2 j2
      have j3 : ∀ a b, a < 6 → b < 6 → I2 89 (6 * a + b) = jfS F c (k / 6) (k % 6) a b := fun a b ha hb => by rw [Nat.mul_comm]; exact j2 a b ha hb
      have jk : k < 36 → I2 89 k = jfS F c (k / 6) (k % 6) (k / 6) (k % 6) := fun hk => by
        have := j2 (k / 6) (k % 6) (by omega) (by omega)
        rwa [show k / 6 * 6 + k % 6 = k by omega] at this
      refine wx_iload_n rfl (e := 45) rfl rfl ?_
      refine wx_bipush (v := (nI 36)) rfl (e := 47) rfl (by decide) ?_
      refine wn_ic_ge rfl (e := 50) rfl (by omega) (by omega) (fun c_47 => ?_) (fun c_47 => ?_)
      · have ek : k = 36 := by omega
        subst ek
        exact go I2 g2 (fun a b ha hb => by rw [j2 a b ha hb]; exact jf_done ha)
      · refine wx_aload_n rfl (e := 51) rfl rfl ?_
        refine wx_getr rfl (e := 54) rfl rfl rfl ?_
        refine wx_iload_n rfl (e := 55) rfl rfl ?_
        refine wx_bipush (v := (nI 6)) rfl (e := 57) rfl (by decide) ?_
        refine wx_idiv rfl (e := 58) rfl (by decide) ?_
        rw [pk_div (by omega) (by omega) (by omega)]
        refine wx_bipush (v := (nI 6)) rfl (e := 60) rfl (by decide) ?_
        refine wn_imul rfl (e := 61) rfl ?_
        refine wx_iload_n rfl (e := 62) rfl rfl ?_
        refine wn_iadd rfl (e := 63) rfl ?_
        refine wn_iald rfl (e := 64) rfl rfl (by omega) (by decide) ?_
        rw [j2 (k / 6) c (by omega) (by omega), jf_row hF (by omega) (by omega)]
        refine wx_aload_n rfl (e := 65) rfl rfl ?_
        refine wx_getr rfl (e := 68) rfl rfl rfl ?_
        refine wx_bipush (v := (nI 6)) rfl (e := 70) rfl (by decide) ?_
        refine wx_iload_n rfl (e := 71) rfl rfl ?_
        refine wn_imul rfl (e := 72) rfl ?_
        refine wx_iload_n rfl (e := 73) rfl rfl ?_
        refine wx_bipush (v := (nI 6)) rfl (e := 75) rfl (by decide) ?_
        refine wx_irem rfl (e := 76) rfl (by decide) ?_
        rw [pk_rem (by omega) (by omega) (by omega)]
        refine wn_iadd rfl (e := 77) rfl ?_
        refine wn_iald rfl (e := 78) rfl rfl (by omega) (by decide) ?_
        rw [j3 c (k % 6) (by omega) (by omega), jf_col hF (by omega) (by omega)]
        refine wx_iadd rfl (e := 79) rfl ?_
        refine wx_aload_n rfl (e := 80) rfl rfl ?_
        refine wx_getr rfl (e := 83) rfl rfl rfl ?_
        refine wx_iload_n rfl (e := 84) rfl rfl ?_
        refine wn_iald rfl (e := 85) rfl rfl (by omega) (by decide) ?_
        rw [jk (by omega), jf_at]
        refine wx_ic_ge rfl (e := 88) rfl (fun c_85 => ?_) (fun c_85 => ?_)
        · refine wn_iinc (m := 1) (L2 := [_, _, _]) rfl (e := 126) rfl rfl (by decide) rfl ?_
          refine wx_goto rfl ?_
          refine ih (k + 1) I2 (by omega) (by omega) g2 (fun a b ha hb => ?_)
          rw [jf_nx hb]
          by_cases zz : a = k / 6 ∧ b = k % 6
          · rw [zz.1, zz.2, jf_eq, fwS, if_neg (Int32.not_lt.mpr c_85), j2 (k / 6) (k % 6) (by omega) (by omega), jf_at]
          · rw [jf_ne zz]; exact j2 a b ha hb
        · refine wx_aload_n rfl (e := 89) rfl rfl ?_
          refine wx_getr rfl (e := 92) rfl rfl rfl ?_
          refine wx_iload_n rfl (e := 93) rfl rfl ?_
          refine wx_aload_n rfl (e := 94) rfl rfl ?_
          refine wx_getr rfl (e := 97) rfl rfl rfl ?_
          refine wx_iload_n rfl (e := 98) rfl rfl ?_
          refine wx_bipush (v := (nI 6)) rfl (e := 100) rfl (by decide) ?_
          refine wx_idiv rfl (e := 101) rfl (by decide) ?_
          rw [pk_div (by omega) (by omega) (by omega)]
          refine wx_bipush (v := (nI 6)) rfl (e := 103) rfl (by decide) ?_
          refine wn_imul rfl (e := 104) rfl ?_
          refine wx_iload_n rfl (e := 105) rfl rfl ?_
          refine wn_iadd rfl (e := 106) rfl ?_
          refine wn_iald rfl (e := 107) rfl rfl (by omega) (by decide) ?_
          rw [j2 (k / 6) c (by omega) (by omega), jf_row hF (by omega) (by omega)]
          refine wx_aload_n rfl (e := 108) rfl rfl ?_
          refine wx_getr rfl (e := 111) rfl rfl rfl ?_
          refine wx_bipush (v := (nI 6)) rfl (e := 113) rfl (by decide) ?_
          refine wx_iload_n rfl (e := 114) rfl rfl ?_
          refine wn_imul rfl (e := 115) rfl ?_
          refine wx_iload_n rfl (e := 116) rfl rfl ?_
          refine wx_bipush (v := (nI 6)) rfl (e := 118) rfl (by decide) ?_
          refine wx_irem rfl (e := 119) rfl (by decide) ?_
          rw [pk_rem (by omega) (by omega) (by omega)]
          refine wn_iadd rfl (e := 120) rfl ?_
          refine wn_iald rfl (e := 121) rfl rfl (by omega) (by decide) ?_
          rw [j3 c (k % 6) (by omega) (by omega), jf_col hF (by omega) (by omega)]
          refine wx_iadd rfl (e := 122) rfl ?_
          refine wn_iast rfl (e := 123) rfl rfl (by decide) (by omega) (by decide) ?_
          refine wn_iinc (m := 1) (L2 := [_, _, _]) rfl (e := 126) rfl rfl (by decide) rfl ?_
          refine wx_goto rfl ?_
          refine ih (k + 1) _ (by omega) (by omega) (fun q h => by rw [wr_other _ _ _ _ h]; exact g2 q h) (fun a b ha hb => ?_)
          rw [jf_nx hb]
          by_cases zz : a = k / 6 ∧ b = k % 6
          · rw [zz.1, zz.2, jf_eq, fwS, if_pos (Int32.not_le.mp c_85), show k / 6 * 6 + k % 6 = k by omega, wr_eq]
          · rw [jf_ne zz, wr_ne _ _ _ _ (by omega)]; exact j2 a b ha hb
  have out : ∀ (m c : Nat) (I2 : Nat → Nat → Int32) (x2 : Option Value), c ≤ 6 → 6 - c < m → (∀ q, q ≠ 89 → I2 q = I q) → (∀ a b, a < 6 → b < 6 → I2 89 (a * 6 + b) = fwS F c a b) → WP d mX11_fillsFar Q 36 [some (.ref 55), some (.int (nI c)), x2] [] (hp Lx t rt u I2 G) 0 0 := by
    intro m
    induction m with
    | zero => intro c I2 x2 h1 h2; omega
    | succ m ih =>
      intro c I2 x2 h1 h2 g2 j2
      refine wx_iload_n rfl (e := 37) rfl rfl ?_
      refine wx_bipush (v := (nI 6)) rfl (e := 39) rfl (by decide) ?_
      refine wn_ic_ge rfl (e := 42) rfl (by omega) (by omega) (fun c_39 => ?_) (fun c_39 => ?_)
      · refine wx_ret rfl rfl ⟨by decide, by decide⟩ ?_
        have ec : c = 6 := by omega
        subst ec
        exact hq I2 g2 j2
      · refine wx_iconst (v := (nI 0)) rfl (e := 43) rfl (by decide) ?_
        refine wx_istore_n (L2 := [_, _, _]) rfl (e := 44) rfl (by decide) rfl ?_
        refine inner c (by omega) (fun I3 g3 j3 => ?_) 37 0 I2 (by omega) (by omega) g2 (fun a b ha hb => by unfold jfS; rw [if_neg (by omega)]; exact j2 a b ha hb)
        refine wn_iinc (m := 1) (L2 := [_, _, _]) rfl (e := 132) rfl rfl (by decide) rfl ?_
        refine wx_goto rfl ?_
        exact ih (c + 1) I3 _ (by omega) (by omega) g3 j3
  have cp : ∀ (m_ : Nat) (i : Nat) (I2 : Nat → Nat → Int32), i ≤ 36 → 36 - i < m_ → (∀ q, q ≠ 89 → I2 q = I q) → (∀ k, k < i → I2 89 k = I 68 (36 * lv + k)) → WP d mX11_fillsFar Q 2 [some (.ref 55), some (.int (nI i)), none] [] (hp Lx t rt u I2 G) 0 0 := by
    intro m_
    induction m_ with
    | zero => intro i I2 h1 h2; omega
    | succ m_ ih =>
      intro i I2 h1 h2 g2 j2
      refine wx_iload_n rfl (e := 3) rfl rfl ?_
      refine wx_bipush (v := (nI 36)) rfl (e := 5) rfl (by decide) ?_
      refine wn_ic_ge rfl (e := 8) rfl (by omega) (by omega) (fun c_5 => ?_) (fun c_5 => ?_)
      · refine wx_iconst (v := (nI 0)) rfl (e := 35) rfl (by decide) ?_
        refine wx_istore_n (L2 := [_, _, _]) rfl (e := 36) rfl (by decide) rfl ?_
        exact out 7 0 I2 _ (by omega) (by omega) g2 (fun a b ha hb => by rw [j2 _ (by omega), fwS, ← hI a b ha hb]; congr 1; omega)
      · refine wx_aload_n rfl (e := 9) rfl rfl ?_
        refine wx_getr rfl (e := 12) rfl rfl rfl ?_
        refine wx_iload_n rfl (e := 13) rfl rfl ?_
        refine wx_aload_n rfl (e := 14) rfl rfl ?_
        refine wx_getr rfl (e := 17) rfl rfl rfl ?_
        refine wx_bipush (v := (nI 36)) rfl (e := 19) rfl (by decide) ?_
        refine wx_aload_n rfl (e := 20) rfl rfl ?_
        refine wx_geti rfl (e := 23) rfl rfl ?_
        rw [g2 55 (by decide), h18]
        refine wn_imul rfl (e := 24) rfl ?_
        refine wx_iload_n rfl (e := 25) rfl rfl ?_
        refine wn_iadd rfl (e := 26) rfl ?_
        refine wn_iald rfl (e := 27) rfl rfl (by omega) (by decide) ?_
        rw [g2 68 (by decide)]
        refine wn_iast rfl (e := 28) rfl rfl (by decide) (by omega) (by decide) ?_
        refine wn_iinc (m := 1) (L2 := [_, _, _]) rfl (e := 31) rfl rfl (by decide) rfl ?_
        refine wx_goto rfl ?_
        refine ih (i + 1) _ (by omega) (by omega) (fun q h => by rw [wr_other _ _ _ _ h]; exact g2 q h) (wr_ext rfl (fun k hk hne => j2 k (by omega)))
  refine wx_in (M := mX11_fillsFar) rfl rfl rfl (Nat.le_of_ble_eq_true rfl) ?_
  refine wx_iconst (v := (nI 0)) rfl (e := 1) rfl (by decide) ?_
  refine wx_istore_n (L2 := [_, _, _]) rfl (e := 2) rfl (by decide) rfl ?_
  exact cp 37 0 I (by omega) (by omega) (fun _ _ => rfl) (fun k hk => absurd hk (Nat.not_lt_zero _))
theorem c_X11_begins {d Lx t rt u : Nat} {I : Nat → Nat → Int32} {G : Nat → Nat → Int64} {Q : ab_Q} {lv C R : Nat} (h18 : I 55 18 = nI lv) (hlv : lv ≤ 1) (hC : I 65 lv = nI C) (hR : I 69 lv = nI R) (hC6 : C ≤ 6) (hR6 : R ≤ 6) (hq : ∀ I2, (∀ q, q ≠ 55 → q ≠ 91 → I2 q = I q) → (∀ k, k ≠ 54 → I2 55 k = I 55 k) → (∀ k, k < 49 → I2 91 k = bgS (fun c => I 66 (6 * lv + c)) (fun e => I 70 (6 * lv + e)) C R k) → Q none (hp Lx t rt u I2 G)) : ab_call ab_MT (d + 1) 224 [.ref 55] (hp Lx t rt u I G) 0 0 Q := by
  have l3 : ∀ (m_ : Nat) (i : Nat) (I2 : Nat → Nat → Int32), i ≤ 6 → 6 - i < m_ → (∀ q, q ≠ 91 → I2 q = I q) → (∀ k, k < 49 → I2 91 k = (if k < 6 then (if k < C then I 66 (6 * lv + k) else nI 0) else if k < 6 + i then (if k - 6 < R then I 70 (6 * lv + (k - 6)) else -1) else nI 0)) → WP d mX11_begins Q 64 [some (.ref 55), some (.int (nI i))] [] (hp Lx t rt u I2 G) 0 0 := by
    intro m_
    induction m_ with
    | zero => intro i I2 h1 h2; omega
    | succ m_ ih =>
      intro i I2 h1 h2 f2 g2
      refine wx_iload_n rfl (e := 65) rfl rfl ?_
      refine wx_bipush (v := (nI 6)) rfl (e := 67) rfl (by decide) ?_
      refine wn_ic_ge rfl (e := 70) rfl (by omega) (by omega) (fun c_67 => ?_) (fun c_67 => ?_)
      · refine wx_aload_n rfl (e := 117) rfl rfl ?_
        refine wx_aload_n rfl (e := 118) rfl rfl ?_
        refine wx_getr rfl (e := 121) rfl rfl rfl ?_
        refine wx_aload_n rfl (e := 122) rfl rfl ?_
        refine wx_geti rfl (e := 125) rfl rfl ?_
        rw [f2 55 (by decide), h18]
        refine wn_iald rfl (e := 126) rfl rfl (by omega) (by decide) ?_
        refine wx_puti rfl (e := 129) rfl rfl (by decide) ?_
        refine wx_ret rfl rfl ⟨by decide, by decide⟩ ?_
        refine hq _ (fun q h1 h2 => by rw [wr_other _ _ _ _ h1]; exact f2 q h2) (fun k hk => by rw [wr_ne _ _ _ _ hk, f2 55 (by decide)]) (fun k hk => ?_)
        rw [wr_other _ _ _ _ (by decide), g2 k hk]
        unfold bgS
        by_cases y : k < 6
        · rw [if_pos y, if_pos y]
        · rw [if_neg y, if_neg y]
          by_cases y2 : k < 12
          · rw [if_pos y2, if_pos (show k < 6 + i by omega)]
          · rw [if_neg y2, if_neg (show ¬ k < 6 + i by omega)]
      · refine wx_aload_n rfl (e := 71) rfl rfl ?_
        refine wx_getr rfl (e := 74) rfl rfl rfl ?_
        refine wx_bipush (v := (nI 6)) rfl (e := 76) rfl (by decide) ?_
        refine wx_iload_n rfl (e := 77) rfl rfl ?_
        refine wn_iadd rfl (e := 78) rfl ?_
        refine wx_iload_n rfl (e := 79) rfl rfl ?_
        refine wx_aload_n rfl (e := 80) rfl rfl ?_
        refine wx_getr rfl (e := 83) rfl rfl rfl ?_
        refine wx_aload_n rfl (e := 84) rfl rfl ?_
        refine wx_geti rfl (e := 87) rfl rfl ?_
        rw [f2 55 (by decide), h18]
        refine wn_iald rfl (e := 88) rfl rfl (by omega) (by decide) ?_
        rw [f2 69 (by decide), hR]
        refine wn_ic_ge rfl (e := 91) rfl (by omega) (by omega) (fun c_88 => ?_) (fun c_88 => ?_)
        · refine wx_iconst (v := (-1)) rfl (e := 109) rfl (by decide) ?_
          refine wn_iast rfl (e := 110) rfl rfl (by decide) (by omega) (by decide) ?_
          refine wn_iinc (m := 1) (L2 := [_, _]) rfl (e := 113) rfl rfl (by decide) rfl ?_
          refine wx_goto rfl ?_
          refine ih (i + 1) _ (by omega) (by omega) (fun q h => by rw [wr_other _ _ _ _ h]; exact f2 q h) (fun k hk => ?_)
          rw [wr_at, if_pos rfl]
          by_cases zz : k = 6 + i
          · rw [if_pos zz, if_neg (by omega), if_pos (by omega), if_neg (by omega)]
          · rw [if_neg zz, g2 k hk]
            by_cases y : k < 6
            · rw [if_pos y, if_pos y]
            · rw [if_neg y, if_neg y]
              by_cases y2 : k < 6 + i
              · rw [if_pos y2, if_pos (show k < 6 + (i + 1) by omega)]
              · rw [if_neg y2, if_neg (show ¬ k < 6 + (i + 1) by omega)]
        · refine wx_aload_n rfl (e := 92) rfl rfl ?_
          refine wx_getr rfl (e := 95) rfl rfl rfl ?_
          refine wx_bipush (v := (nI 6)) rfl (e := 97) rfl (by decide) ?_
          refine wx_aload_n rfl (e := 98) rfl rfl ?_
          refine wx_geti rfl (e := 101) rfl rfl ?_
          rw [f2 55 (by decide), h18]
          refine wn_imul rfl (e := 102) rfl ?_
          refine wx_iload_n rfl (e := 103) rfl rfl ?_
          refine wn_iadd rfl (e := 104) rfl ?_
          refine wn_iald rfl (e := 105) rfl rfl (by omega) (by decide) ?_
          rw [f2 70 (by decide)]
          refine wx_goto rfl ?_
          refine wn_iast rfl (e := 110) rfl rfl (by decide) (by omega) (by decide) ?_
          refine wn_iinc (m := 1) (L2 := [_, _]) rfl (e := 113) rfl rfl (by decide) rfl ?_
          refine wx_goto rfl ?_
          refine ih (i + 1) _ (by omega) (by omega) (fun q h => by rw [wr_other _ _ _ _ h]; exact f2 q h) (fun k hk => ?_)
          rw [wr_at, if_pos rfl]
          by_cases zz : k = 6 + i
          · rw [if_pos zz, if_neg (by omega), if_pos (by omega), if_pos (by omega)]; congr 1; omega
          · rw [if_neg zz, g2 k hk]
            by_cases y : k < 6
            · rw [if_pos y, if_pos y]
            · rw [if_neg y, if_neg y]
              by_cases y2 : k < 6 + i
              · rw [if_pos y2, if_pos (show k < 6 + (i + 1) by omega)]
              · rw [if_neg y2, if_neg (show ¬ k < 6 + (i + 1) by omega)]
  have l2 : ∀ (m_ : Nat) (i : Nat) (I2 : Nat → Nat → Int32), i ≤ C → C - i < m_ → (∀ q, q ≠ 91 → I2 q = I q) → (∀ k, k < 49 → I2 91 k = if k < i then I 66 (6 * lv + k) else nI 0) → WP d mX11_begins Q 23 [some (.ref 55), some (.int (nI i))] [] (hp Lx t rt u I2 G) 0 0 := by
    intro m_
    induction m_ with
    | zero => intro i I2 h1 h2; omega
    | succ m_ ih =>
      intro i I2 h1 h2 f2 g2
      refine wx_iload_n rfl (e := 24) rfl rfl ?_
      refine wx_aload_n rfl (e := 25) rfl rfl ?_
      refine wx_getr rfl (e := 28) rfl rfl rfl ?_
      refine wx_aload_n rfl (e := 29) rfl rfl ?_
      refine wx_geti rfl (e := 32) rfl rfl ?_
      rw [f2 55 (by decide), h18]
      refine wn_iald rfl (e := 33) rfl rfl (by omega) (by decide) ?_
      rw [f2 65 (by decide), hC]
      refine wn_ic_ge rfl (e := 36) rfl (by omega) (by omega) (fun c_33 => ?_) (fun c_33 => ?_)
      · refine wx_iconst (v := (nI 0)) rfl (e := 63) rfl (by decide) ?_
        refine wx_istore_n (L2 := [_, _]) rfl (e := 64) rfl (by decide) rfl ?_
        refine l3 7 0 I2 (by omega) (by omega) f2 (fun k hk => ?_)
        rw [g2 k hk]
        by_cases y : k < 6
        · rw [if_pos y]
          by_cases y2 : k < C
          · rw [if_pos y2, if_pos (by omega)]
          · rw [if_neg y2, if_neg (by omega)]
        · rw [if_neg y, if_neg (by omega), if_neg (by omega)]
      · refine wx_aload_n rfl (e := 37) rfl rfl ?_
        refine wx_getr rfl (e := 40) rfl rfl rfl ?_
        refine wx_iload_n rfl (e := 41) rfl rfl ?_
        refine wx_aload_n rfl (e := 42) rfl rfl ?_
        refine wx_getr rfl (e := 45) rfl rfl rfl ?_
        refine wx_bipush (v := (nI 6)) rfl (e := 47) rfl (by decide) ?_
        refine wx_aload_n rfl (e := 48) rfl rfl ?_
        refine wx_geti rfl (e := 51) rfl rfl ?_
        rw [f2 55 (by decide), h18]
        refine wn_imul rfl (e := 52) rfl ?_
        refine wx_iload_n rfl (e := 53) rfl rfl ?_
        refine wn_iadd rfl (e := 54) rfl ?_
        refine wn_iald rfl (e := 55) rfl rfl (by omega) (by decide) ?_
        rw [f2 66 (by decide)]
        refine wn_iast rfl (e := 56) rfl rfl (by decide) (by omega) (by decide) ?_
        refine wn_iinc (m := 1) (L2 := [_, _]) rfl (e := 59) rfl rfl (by decide) rfl ?_
        refine wx_goto rfl ?_
        refine ih (i + 1) _ (by omega) (by omega) (fun q h => by rw [wr_other _ _ _ _ h]; exact f2 q h) (fun k hk => ?_)
        rw [wr_at, if_pos rfl]
        by_cases zz : k = i
        · rw [if_pos zz, if_pos (by omega), zz]
        · rw [if_neg zz, g2 k hk]
          by_cases y : k < i
          · rw [if_pos y, if_pos (by omega)]
          · rw [if_neg y, if_neg (by omega)]
  have l1 : ∀ (m_ : Nat) (i : Nat) (I2 : Nat → Nat → Int32), i ≤ 49 → 49 - i < m_ → (∀ q, q ≠ 91 → I2 q = I q) → (∀ k, k < i → I2 91 k = nI 0) → WP d mX11_begins Q 2 [some (.ref 55), some (.int (nI i))] [] (hp Lx t rt u I2 G) 0 0 := by
    intro m_
    induction m_ with
    | zero => intro i I2 h1 h2; omega
    | succ m_ ih =>
      intro i I2 h1 h2 f2 g2
      refine wx_iload_n rfl (e := 3) rfl rfl ?_
      refine wx_bipush (v := (nI 49)) rfl (e := 5) rfl (by decide) ?_
      refine wn_ic_ge rfl (e := 8) rfl (by omega) (by omega) (fun c_5 => ?_) (fun c_5 => ?_)
      · refine wx_iconst (v := (nI 0)) rfl (e := 22) rfl (by decide) ?_
        refine wx_istore_n (L2 := [_, _]) rfl (e := 23) rfl (by decide) rfl ?_
        exact l2 (C + 1) 0 I2 (by omega) (by omega) f2 (fun k hk => by rw [if_neg (by omega)]; exact g2 k (by omega))
      · refine wx_aload_n rfl (e := 9) rfl rfl ?_
        refine wx_getr rfl (e := 12) rfl rfl rfl ?_
        refine wx_iload_n rfl (e := 13) rfl rfl ?_
        refine wx_iconst (v := (nI 0)) rfl (e := 14) rfl (by decide) ?_
        refine wn_iast rfl (e := 15) rfl rfl (by decide) (by omega) (by decide) ?_
        refine wn_iinc (m := 1) (L2 := [_, _]) rfl (e := 18) rfl rfl (by decide) rfl ?_
        refine wx_goto rfl ?_
        exact ih (i + 1) _ (by omega) (by omega) (fun q h => by rw [wr_other _ _ _ _ h]; exact f2 q h) (wr_ext rfl (fun k hk hne => g2 k (by omega)))
  refine wx_in (M := mX11_begins) rfl rfl rfl (Nat.le_of_ble_eq_true rfl) ?_
  refine wx_iconst (v := (nI 0)) rfl (e := 1) rfl (by decide) ?_
  refine wx_istore_n (L2 := [_, _]) rfl (e := 2) rfl (by decide) rfl ?_
  exact l1 50 0 I (by omega) (by omega) (fun _ _ => rfl) (fun k hk => absurd hk (Nat.not_lt_zero _))

/-! the model: its text cut into tokens -/
def NX (I : Nat → Nat → Int32) (B : Nat → Int32) (n : Nat) : Prop := n ≤ 2000 ∧ I 55 4 = nI n ∧ ∀ j, j < n → I 57 j = B j
def CM (b : Nat → Nat) (n : Nat) (I : Nat → Nat → Int32) (G : Nat → Nat → Int64) (m : Nat) : Prop := m ≤ 401 ∧ I 55 10 = nI m ∧ ∀ j, j < m → I 58 j = nI (mk (kd b n j)) ∧ I 59 j = nI (stA b n j) ∧ (kd b n j = 25 → I 60 j = nI (nuT b n j)) ∧ (kd b n j = 24 → G 61 j = lN (vl_ 27 (wdT b n j)))
def CWm (G : Nat → Nat → Int64) : Prop := ∀ k, k < 24 → G 62 k = lN (vl_ 27 (kwd (pm k)))
def fmc (I I2 : Nat → Nat → Int32) (G G2 : Nat → Nat → Int64) : Prop := (∀ q, q ≠ 55 → q ≠ 58 → q ≠ 59 → q ≠ 60 → I2 q = I q) ∧ (∀ k, k ≠ 10 → I2 55 k = I 55 k) ∧ ∀ q, q ≠ 61 → G2 q = G q
theorem fmc.rf {I : Nat → Nat → Int32} {G : Nat → Nat → Int64} : fmc I I G G := ⟨fun _ _ _ _ _ => rfl, fun _ _ => rfl, fun _ _ => rfl⟩
theorem fmc.tr {I I2 I3 : Nat → Nat → Int32} {G G2 G3 : Nat → Nat → Int64} (h1 : fmc I I2 G G2) (h2 : fmc I2 I3 G2 G3) : fmc I I3 G G3 := ⟨fun q a b c d => (h2.1 q a b c d).trans (h1.1 q a b c d), fun k a => (h2.2.1 k a).trans (h1.2.1 k a), fun q a => (h2.2.2 q a).trans (h1.2.2 q a)⟩
theorem fmc.w {I : Nat → Nat → Int32} {G : Nat → Nat → Int64} (m : Nat) (k p w c : Int32) (v : Int64) : fmc I (wr (wr (wr (wr I 58 m k) 59 m p) 60 m w) 55 10 c) G (wl G 61 m v) := ⟨fun q h1 h2 h3 h4 => by rw [wr_other _ _ _ _ h1, wr_other _ _ _ _ h4, wr_other _ _ _ _ h3, wr_other _ _ _ _ h2], fun k hk => by rw [wr_ne _ _ _ _ hk, wr_other _ _ _ _ (by decide), wr_other _ _ _ _ (by decide), wr_other _ _ _ _ (by decide)], fun q h => wl_other _ _ _ _ h⟩
theorem NX.kept {I I2 : Nat → Nat → Int32} {B : Nat → Int32} {n : Nat} (h : NX I B n) (h1 : I2 55 4 = I 55 4) (h2 : I2 57 = I 57) : NX I2 B n := by
  unfold NX at *; rw [h1, h2]; exact h
theorem CM.put {b : Nat → Nat} {n : Nat} {I : Nat → Nat → Int32} {G : Nat → Nat → Int64} {m : Nat} (h : CM b n I G m) (hm : m < 401) {k p w : Int32} {v : Int64} (hk : k = nI (mk (kd b n m))) (hp_ : p = nI (stA b n m)) (h25 : kd b n m = 25 → w = nI (nuT b n m)) (h24 : kd b n m = 24 → v = lN (vl_ 27 (wdT b n m))) : CM b n (wr (wr (wr (wr I 58 m k) 59 m p) 60 m w) 55 10 (nI (m + 1))) (wl G 61 m v) (m + 1) := by
  refine ⟨by omega, wr_eq _ _ _ _, fun j hj => ?_⟩
  have e58 : wr (wr (wr (wr I 58 m k) 59 m p) 60 m w) 55 10 (nI (m + 1)) 58 j = wr I 58 m k 58 j := by rw [wr_other _ _ _ _ (by decide), wr_other _ _ _ _ (by decide), wr_other _ _ _ _ (by decide)]
  have e59 : wr (wr (wr (wr I 58 m k) 59 m p) 60 m w) 55 10 (nI (m + 1)) 59 j = wr (wr I 58 m k) 59 m p 59 j := by rw [wr_other _ _ _ _ (by decide), wr_other _ _ _ _ (by decide)]
  have e60 : wr (wr (wr (wr I 58 m k) 59 m p) 60 m w) 55 10 (nI (m + 1)) 60 j = wr (wr (wr I 58 m k) 59 m p) 60 m w 60 j := by rw [wr_other _ _ _ _ (by decide)]
  rw [e58, e59, e60]
  by_cases z : j = m
  · rw [z, wr_eq, wr_eq, wr_eq, wl_eq]; exact ⟨hk, hp_, h25, h24⟩
  · rw [wr_ne _ _ _ _ z, wr_ne _ _ _ _ z, wr_ne _ _ _ _ z, wl_ne _ _ _ _ z, wr_other _ _ _ _ (by decide), wr_other _ _ _ _ (by decide), wr_other _ _ _ _ (by decide)]; exact h.2.2 j (by omega)
def byM (B : Nat → Int32) (n i : Nat) : Nat := if i < n then bt B i else 0
theorem byM_lt (B : Nat → Int32) (n i : Nat) : byM B n i < 256 := by
  unfold byM; split
  · exact bt_lt B i
  · omega
theorem byM_y {B : Nat → Int32} {n i : Nat} (h : i < n) : byM B n i = bt B i := if_pos h
theorem byM_p {p : Nat → Bool} {B : Nat → Int32} {n i : Nat} (h0 : p 0 = false) (h : p (byM B n i) = true) : i < n ∧ p (bt B i) = true := by
  by_cases z : i < n
  · rw [byM_y z] at h; exact ⟨z, h⟩
  · unfold byM at h; rw [if_neg z, h0] at h; exact absurd h (by decide)
theorem byM_n {p : Nat → Bool} {B : Nat → Int32} {n i : Nat} (h : p (byM B n i) = false) : ¬ (i < n ∧ p (bt B i) = true) := by
  rintro ⟨h1, h2⟩
  rw [byM_y h1, h2] at h; exact absurd h (by decide)
theorem c_X11_byteAt {d Lx t rt u : Nat} {I : Nat → Nat → Int32} {G : Nat → Nat → Int64} {Q : ab_Q} {B : Nat → Int32} {n i : Nat} (hX : NX I B n) (hi : i < 2 ^ 31) (hq : Q (some (.int (nI (byM B n i)))) (hp Lx t rt u I G)) : ab_call ab_MT (d + 1) 186 [.ref 55, .int (nI i)] (hp Lx t rt u I G) 0 0 Q := by
  have hn := hX.1
  refine wx_in (M := mX11_byteAt) rfl rfl rfl (Nat.le_of_ble_eq_true rfl) ?_
  refine wx_iload_n rfl (e := 1) rfl rfl ?_
  refine wx_aload_n rfl (e := 2) rfl rfl ?_
  refine wx_geti rfl (e := 5) rfl rfl ?_
  rw [hX.2.1]
  refine wn_ic_ge rfl (e := 8) rfl (by omega) (by omega) (fun c_5 => ?_) (fun c_5 => ?_)
  · refine wx_iconst (v := (nI 0)) rfl (e := 22) rfl (by decide) ?_
    refine wx_iret rfl rfl rfl ⟨by decide, by decide⟩ ?_
    rw [show byM B n i = 0 from if_neg (by omega)] at hq
    exact hq
  · refine wx_aload_n rfl (e := 9) rfl rfl ?_
    refine wx_getr rfl (e := 12) rfl rfl rfl ?_
    refine wx_iload_n rfl (e := 13) rfl rfl ?_
    refine wn_bald rfl (e := 14) rfl rfl (by omega) (by decide) ?_
    rw [hX.2.2 i (by omega)]
    refine wx_sipush (v := (nI 255)) rfl (e := 17) rfl (by decide) ?_
    refine wx_iand rfl (e := 18) rfl ?_
    rw [bt_ok]
    refine wx_goto rfl ?_
    refine wx_iret rfl rfl rfl ⟨by decide, by decide⟩ ?_
    rw [byM_y (by omega)] at hq
    exact hq
theorem c_X11_isLetter {d : Nat} {h : ab_H} {Q : ab_Q} {c : Nat} (hc : c < 256) (h1 : isLt c = true → Q (some (.int (nI 1))) h) (h0 : isLt c = false → Q (some (.int (nI 0))) h) : ab_call ab_MT (d + 1) 188 [.int (nI c)] h 0 0 Q := by
  refine wx_in (M := mX11_isLetter) rfl rfl rfl (Nat.le_of_ble_eq_true rfl) ?_
  refine wx_iload_n rfl (e := 1) rfl rfl ?_
  refine wx_bipush (v := (nI 97)) rfl (e := 3) rfl (by decide) ?_
  refine wn_ic_lt rfl (e := 6) rfl (by omega) (by omega) (fun c_3 => ?_) (fun c_3 => ?_)
  · refine wx_iconst (v := (nI 0)) rfl (e := 17) rfl (by decide) ?_
    refine wx_iret rfl rfl rfl ⟨by decide, by decide⟩ ?_
    exact h0 (by unfold isLt; exact decide_eq_false (by omega))
  · refine wx_iload_n rfl (e := 7) rfl rfl ?_
    refine wx_bipush (v := (nI 122)) rfl (e := 9) rfl (by decide) ?_
    refine wn_ic_gt rfl (e := 12) rfl (by omega) (by omega) (fun c_9 => ?_) (fun c_9 => ?_)
    · refine wx_iconst (v := (nI 0)) rfl (e := 17) rfl (by decide) ?_
      refine wx_iret rfl rfl rfl ⟨by decide, by decide⟩ ?_
      exact h0 (by unfold isLt; exact decide_eq_false (by omega))
    · refine wx_iconst (v := (nI 1)) rfl (e := 13) rfl (by decide) ?_
      refine wx_goto rfl ?_
      refine wx_iret rfl rfl rfl ⟨by decide, by decide⟩ ?_
      exact h1 (isLt_i.mpr (by omega))
theorem c_X11_isDigit {d : Nat} {h : ab_H} {Q : ab_Q} {c : Nat} (hc : c < 256) (h1 : isDg c = true → Q (some (.int (nI 1))) h) (h0 : isDg c = false → Q (some (.int (nI 0))) h) : ab_call ab_MT (d + 1) 187 [.int (nI c)] h 0 0 Q := by
  refine wx_in (M := mX11_isDigit) rfl rfl rfl (Nat.le_of_ble_eq_true rfl) ?_
  refine wx_iload_n rfl (e := 1) rfl rfl ?_
  refine wx_bipush (v := (nI 48)) rfl (e := 3) rfl (by decide) ?_
  refine wn_ic_lt rfl (e := 6) rfl (by omega) (by omega) (fun c_3 => ?_) (fun c_3 => ?_)
  · refine wx_iconst (v := (nI 0)) rfl (e := 17) rfl (by decide) ?_
    refine wx_iret rfl rfl rfl ⟨by decide, by decide⟩ ?_
    exact h0 (by unfold isDg; exact decide_eq_false (by omega))
  · refine wx_iload_n rfl (e := 7) rfl rfl ?_
    refine wx_bipush (v := (nI 57)) rfl (e := 9) rfl (by decide) ?_
    refine wn_ic_gt rfl (e := 12) rfl (by omega) (by omega) (fun c_9 => ?_) (fun c_9 => ?_)
    · refine wx_iconst (v := (nI 0)) rfl (e := 17) rfl (by decide) ?_
      refine wx_iret rfl rfl rfl ⟨by decide, by decide⟩ ?_
      exact h0 (by unfold isDg; exact decide_eq_false (by omega))
    · refine wx_iconst (v := (nI 1)) rfl (e := 13) rfl (by decide) ?_
      refine wx_goto rfl ?_
      refine wx_iret rfl rfl rfl ⟨by decide, by decide⟩ ?_
      exact h1 (isDg_i.mpr (by omega))
theorem c_X11_appends {d : Nat} {h : ab_H} {Q : ab_Q} {c w : Nat} (hc : c < 256) (h97 : 97 ≤ c) (hq : Q (some (.long (lN (c - 96 + 27 * w)))) h) : ab_call ab_MT (d + 1) 189 [.long (lN w), .int (nI c)] h 0 0 Q := by
  refine wx_in (M := mX11_appends) rfl rfl rfl (Nat.le_of_ble_eq_true rfl) ?_
  refine wx_iload_n rfl (e := 1) rfl rfl ?_
  refine wn_if_ne rfl (e := 4) rfl (by omega) (fun c_1 => ?_) (fun c_1 => absurd c_1 (by omega))
  refine wx_ldc2 (v := 27) rfl (e := 11) rfl (by decide) ?_
  refine wx_lload_n rfl (e := 12) rfl rfl ?_
  refine wx_lmul rfl (e := 13) rfl ?_
  rw [show 27 * lN w = lN (27 * w) from lN_mul 27 w]
  refine wx_iload_n rfl (e := 14) rfl rfl ?_
  refine wx_bipush (v := (nI 97)) rfl (e := 16) rfl (by decide) ?_
  refine wn_isub rfl (e := 17) rfl (by omega) ?_
  refine wx_iconst (v := (nI 1)) rfl (e := 18) rfl (by decide) ?_
  refine wn_iadd rfl (e := 19) rfl ?_
  refine wx_i2l rfl (e := 20) rfl ?_
  rw [nI_l (by omega)]
  refine wx_ladd rfl (e := 21) rfl ?_
  rw [lN_add, show 27 * w + (c - 97 + 1) = c - 96 + 27 * w by omega]
  refine wx_lret rfl rfl ⟨by decide, by decide⟩ ?_
  exact hq
theorem c_X11_token {d Lx t rt u : Nat} {I : Nat → Nat → Int32} {G : Nat → Nat → Int64} {Q : ab_Q} {m : Nat} (hm : I 55 10 = nI m) (hm2 : m < 401) {k p w : Int32} {v : Int64} (hq : Q none (hp Lx t rt u (wr (wr (wr (wr I 58 m k) 59 m p) 60 m w) 55 10 (nI (m + 1))) (wl G 61 m v))) : ab_call ab_MT (d + 1) 191 [.ref 55, .int k, .int p, .int w, .long v] (hp Lx t rt u I G) 0 0 Q := by
  refine wx_in (M := mX11_token) rfl rfl rfl (Nat.le_of_ble_eq_true rfl) ?_
  refine wx_aload_n rfl (e := 1) rfl rfl ?_
  refine wx_getr rfl (e := 4) rfl rfl rfl ?_
  refine wx_aload_n rfl (e := 5) rfl rfl ?_
  refine wx_geti rfl (e := 8) rfl rfl ?_
  rw [hm]
  refine wx_iload_n rfl (e := 9) rfl rfl ?_
  refine wn_iast rfl (e := 10) rfl rfl (by decide) (by omega) (by decide) ?_
  refine wx_aload_n rfl (e := 11) rfl rfl ?_
  refine wx_getr rfl (e := 14) rfl rfl rfl ?_
  refine wx_aload_n rfl (e := 15) rfl rfl ?_
  refine wx_geti rfl (e := 18) rfl rfl ?_
  rw [wr_other _ _ _ _ (by decide), hm]
  refine wx_iload_n rfl (e := 19) rfl rfl ?_
  refine wn_iast rfl (e := 20) rfl rfl (by decide) (by omega) (by decide) ?_
  refine wx_aload_n rfl (e := 21) rfl rfl ?_
  refine wx_getr rfl (e := 24) rfl rfl rfl ?_
  refine wx_aload_n rfl (e := 25) rfl rfl ?_
  refine wx_geti rfl (e := 28) rfl rfl ?_
  rw [wr_other _ _ _ _ (by decide), wr_other _ _ _ _ (by decide), hm]
  refine wx_iload_n rfl (e := 29) rfl rfl ?_
  refine wn_iast rfl (e := 30) rfl rfl (by decide) (by omega) (by decide) ?_
  refine wx_aload_n rfl (e := 31) rfl rfl ?_
  refine wx_getr rfl (e := 34) rfl rfl rfl ?_
  refine wx_aload_n rfl (e := 35) rfl rfl ?_
  refine wx_geti rfl (e := 38) rfl rfl ?_
  rw [wr_other _ _ _ _ (by decide), wr_other _ _ _ _ (by decide), wr_other _ _ _ _ (by decide), hm]
  refine wx_lload rfl (e := 40) rfl rfl ?_
  refine wn_last rfl (e := 41) rfl rfl (by decide) (by omega) (by decide) ?_
  refine wx_aload_n rfl (e := 42) rfl rfl ?_
  refine wx_dup rfl (e := 43) rfl rfl ?_
  refine wx_geti rfl (e := 46) rfl rfl ?_
  rw [wr_other _ _ _ _ (by decide), wr_other _ _ _ _ (by decide), wr_other _ _ _ _ (by decide), hm]
  refine wx_iconst (v := (nI 1)) rfl (e := 47) rfl (by decide) ?_
  refine wn_iadd rfl (e := 48) rfl ?_
  refine wx_puti rfl (e := 51) rfl rfl (by decide) ?_
  refine wx_ret rfl rfl ⟨by decide, by decide⟩ ?_
  exact hq
set_option maxHeartbeats 1000000 in
theorem c_X11_sign {d Lx t rt u : Nat} {I : Nat → Nat → Int32} {G : Nat → Nat → Int64} {Q : ab_Q} {B : Nat → Int32} {n m i : Nat} (hK : CM (bt B) n I G m) (hm2 : m < 401) (hi : i < n) (hst : stA (bt B) n m = i) (hL : isLt (bt B i) = false) (hD : isDg (bt B i) = false) {x : Int32} (hq : ∀ I2 G2, fmc I I2 G G2 → CM (bt B) n I2 G2 (m + 1) → Q (some (.int (nI 1))) (hp Lx t rt u I2 G2)) : ab_call ab_MT (d + 2) 193 [.ref 55, .int (nI i), .int (nI (bt B i)), .int x] (hp Lx t rt u I G) 0 0 Q := by
  have hbt := bt_lt B i
  refine wx_in (M := mX11_sign) rfl rfl rfl (Nat.le_of_ble_eq_true rfl) ?_
  refine wx_iload_n rfl (e := 1) rfl rfl ?_
  refine wx_bipush (v := (nI 59)) rfl (e := 3) rfl (by decide) ?_
  refine wn_ic_ne rfl (e := 6) rfl (by omega) (by omega) (fun c_3 => ?_) (fun c_3 => ?_)
  · refine wx_iload_n rfl (e := 11) rfl rfl ?_
    refine wx_bipush (v := (nI 61)) rfl (e := 13) rfl (by decide) ?_
    refine wn_ic_ne rfl (e := 16) rfl (by omega) (by omega) (fun c_13 => ?_) (fun c_13 => ?_)
    · refine wx_iload_n rfl (e := 21) rfl rfl ?_
      refine wx_bipush (v := (nI 40)) rfl (e := 23) rfl (by decide) ?_
      refine wn_ic_ne rfl (e := 26) rfl (by omega) (by omega) (fun c_23 => ?_) (fun c_23 => ?_)
      · refine wx_iload_n rfl (e := 32) rfl rfl ?_
        refine wx_bipush (v := (nI 41)) rfl (e := 34) rfl (by decide) ?_
        refine wn_ic_ne rfl (e := 37) rfl (by omega) (by omega) (fun c_34 => ?_) (fun c_34 => ?_)
        · refine wx_iconst (v := (nI 3)) rfl (e := 43) rfl (by decide) ?_
          refine wx_istore (L2 := [_, _, _, _, _]) rfl (e := 45) rfl (by decide) rfl ?_
          refine wx_iload_n rfl (e := 46) rfl rfl ?_
          refine wx_bipush (v := (nI 43)) rfl (e := 48) rfl (by decide) ?_
          refine wn_ic_ne rfl (e := 51) rfl (by omega) (by omega) (fun c_48 => ?_) (fun c_48 => ?_)
          · refine wx_iload_n rfl (e := 56) rfl rfl ?_
            refine wx_bipush (v := (nI 45)) rfl (e := 58) rfl (by decide) ?_
            refine wn_ic_ne rfl (e := 61) rfl (by omega) (by omega) (fun c_58 => ?_) (fun c_58 => ?_)
            · refine wx_iload_n rfl (e := 66) rfl rfl ?_
              refine wx_bipush (v := (nI 42)) rfl (e := 68) rfl (by decide) ?_
              refine wn_ic_ne rfl (e := 71) rfl (by omega) (by omega) (fun c_68 => ?_) (fun c_68 => ?_)
              · refine wx_iload_n rfl (e := 76) rfl rfl ?_
                refine wx_bipush (v := (nI 47)) rfl (e := 78) rfl (by decide) ?_
                refine wn_ic_ne rfl (e := 81) rfl (by omega) (by omega) (fun c_78 => ?_) (fun c_78 => ?_)
                · refine wx_iload_n rfl (e := 86) rfl rfl ?_
                  refine wx_bipush (v := (nI 60)) rfl (e := 88) rfl (by decide) ?_
                  refine wn_ic_ne rfl (e := 91) rfl (by omega) (by omega) (fun c_88 => ?_) (fun c_88 => ?_)
                  · refine wx_aload_n rfl (e := 96) rfl rfl ?_
                    refine wx_iload rfl (e := 98) rfl rfl ?_
                    refine wx_iload_n rfl (e := 99) rfl rfl ?_
                    refine wx_iconst (v := (nI 0)) rfl (e := 100) rfl (by decide) ?_
                    refine wx_lconst (v := 0) rfl (e := 101) rfl (by decide) ?_
                    refine wx_cv4 (mc := 0) (ms := 0) rfl (e := 104) rfl rfl (Nat.le_of_ble_eq_true rfl) ⟨by decide, by decide⟩ ?_
                    refine c_X11_token hK.2.1 hm2 ?_
                    refine wx_iconst (v := (nI 1)) rfl (e := 105) rfl (by decide) ?_
                    refine wx_iret rfl rfl rfl ⟨by decide, by decide⟩ ?_
                    have hkd : kd (bt B) n m = 27 := by unfold kd; rw [hst]; unfold kdA; rw [if_neg (by omega), if_neg (by rw [hL]; decide), if_neg (by rw [hD]; decide), if_neg (by unfold sgS; rw [decide_eq_true_iff]; omega)]
                    exact hq _ _ (fmc.w _ _ _ _ _ _) (hK.put hm2 (by rw [hkd]; rfl) (by rw [hst]) (fun z => absurd (hkd.symm.trans z) (by decide)) (fun z => absurd (hkd.symm.trans z) (by decide)))
                  · refine wx_bipush (v := (nI 13)) rfl (e := 93) rfl (by decide) ?_
                    refine wx_istore (L2 := [_, _, _, _, _]) rfl (e := 95) rfl (by decide) rfl ?_
                    refine wx_aload_n rfl (e := 96) rfl rfl ?_
                    refine wx_iload rfl (e := 98) rfl rfl ?_
                    refine wx_iload_n rfl (e := 99) rfl rfl ?_
                    refine wx_iconst (v := (nI 0)) rfl (e := 100) rfl (by decide) ?_
                    refine wx_lconst (v := 0) rfl (e := 101) rfl (by decide) ?_
                    refine wx_cv4 (mc := 0) (ms := 0) rfl (e := 104) rfl rfl (Nat.le_of_ble_eq_true rfl) ⟨by decide, by decide⟩ ?_
                    refine c_X11_token hK.2.1 hm2 ?_
                    refine wx_iconst (v := (nI 1)) rfl (e := 105) rfl (by decide) ?_
                    refine wx_iret rfl rfl rfl ⟨by decide, by decide⟩ ?_
                    have hkd : kd (bt B) n m = 60 := by unfold kd; rw [hst]; unfold kdA; rw [if_neg (by omega), if_neg (by rw [hL]; decide), if_neg (by rw [hD]; decide), if_pos (by unfold sgS; exact decide_eq_true (by omega))]; omega
                    exact hq _ _ (fmc.w _ _ _ _ _ _) (hK.put hm2 (by rw [hkd]; rfl) (by rw [hst]) (fun z => absurd (hkd.symm.trans z) (by decide)) (fun z => absurd (hkd.symm.trans z) (by decide)))
                · refine wx_bipush (v := (nI 15)) rfl (e := 83) rfl (by decide) ?_
                  refine wx_istore (L2 := [_, _, _, _, _]) rfl (e := 85) rfl (by decide) rfl ?_
                  refine wx_iload_n rfl (e := 86) rfl rfl ?_
                  refine wx_bipush (v := (nI 60)) rfl (e := 88) rfl (by decide) ?_
                  refine wn_ic_ne rfl (e := 91) rfl (by omega) (by omega) (fun c_88 => ?_) (fun c_88 => absurd c_88 (by omega))
                  refine wx_aload_n rfl (e := 96) rfl rfl ?_
                  refine wx_iload rfl (e := 98) rfl rfl ?_
                  refine wx_iload_n rfl (e := 99) rfl rfl ?_
                  refine wx_iconst (v := (nI 0)) rfl (e := 100) rfl (by decide) ?_
                  refine wx_lconst (v := 0) rfl (e := 101) rfl (by decide) ?_
                  refine wx_cv4 (mc := 0) (ms := 0) rfl (e := 104) rfl rfl (Nat.le_of_ble_eq_true rfl) ⟨by decide, by decide⟩ ?_
                  refine c_X11_token hK.2.1 hm2 ?_
                  refine wx_iconst (v := (nI 1)) rfl (e := 105) rfl (by decide) ?_
                  refine wx_iret rfl rfl rfl ⟨by decide, by decide⟩ ?_
                  have hkd : kd (bt B) n m = 47 := by unfold kd; rw [hst]; unfold kdA; rw [if_neg (by omega), if_neg (by rw [hL]; decide), if_neg (by rw [hD]; decide), if_pos (by unfold sgS; exact decide_eq_true (by omega))]; omega
                  exact hq _ _ (fmc.w _ _ _ _ _ _) (hK.put hm2 (by rw [hkd]; rfl) (by rw [hst]) (fun z => absurd (hkd.symm.trans z) (by decide)) (fun z => absurd (hkd.symm.trans z) (by decide)))
              · refine wx_bipush (v := (nI 10)) rfl (e := 73) rfl (by decide) ?_
                refine wx_istore (L2 := [_, _, _, _, _]) rfl (e := 75) rfl (by decide) rfl ?_
                refine wx_iload_n rfl (e := 76) rfl rfl ?_
                refine wx_bipush (v := (nI 47)) rfl (e := 78) rfl (by decide) ?_
                refine wn_ic_ne rfl (e := 81) rfl (by omega) (by omega) (fun c_78 => ?_) (fun c_78 => absurd c_78 (by omega))
                refine wx_iload_n rfl (e := 86) rfl rfl ?_
                refine wx_bipush (v := (nI 60)) rfl (e := 88) rfl (by decide) ?_
                refine wn_ic_ne rfl (e := 91) rfl (by omega) (by omega) (fun c_88 => ?_) (fun c_88 => absurd c_88 (by omega))
                refine wx_aload_n rfl (e := 96) rfl rfl ?_
                refine wx_iload rfl (e := 98) rfl rfl ?_
                refine wx_iload_n rfl (e := 99) rfl rfl ?_
                refine wx_iconst (v := (nI 0)) rfl (e := 100) rfl (by decide) ?_
                refine wx_lconst (v := 0) rfl (e := 101) rfl (by decide) ?_
                refine wx_cv4 (mc := 0) (ms := 0) rfl (e := 104) rfl rfl (Nat.le_of_ble_eq_true rfl) ⟨by decide, by decide⟩ ?_
                refine c_X11_token hK.2.1 hm2 ?_
                refine wx_iconst (v := (nI 1)) rfl (e := 105) rfl (by decide) ?_
                refine wx_iret rfl rfl rfl ⟨by decide, by decide⟩ ?_
                have hkd : kd (bt B) n m = 42 := by unfold kd; rw [hst]; unfold kdA; rw [if_neg (by omega), if_neg (by rw [hL]; decide), if_neg (by rw [hD]; decide), if_pos (by unfold sgS; exact decide_eq_true (by omega))]; omega
                exact hq _ _ (fmc.w _ _ _ _ _ _) (hK.put hm2 (by rw [hkd]; rfl) (by rw [hst]) (fun z => absurd (hkd.symm.trans z) (by decide)) (fun z => absurd (hkd.symm.trans z) (by decide)))
            · refine wx_bipush (v := (nI 9)) rfl (e := 63) rfl (by decide) ?_
              refine wx_istore (L2 := [_, _, _, _, _]) rfl (e := 65) rfl (by decide) rfl ?_
              refine wx_iload_n rfl (e := 66) rfl rfl ?_
              refine wx_bipush (v := (nI 42)) rfl (e := 68) rfl (by decide) ?_
              refine wn_ic_ne rfl (e := 71) rfl (by omega) (by omega) (fun c_68 => ?_) (fun c_68 => absurd c_68 (by omega))
              refine wx_iload_n rfl (e := 76) rfl rfl ?_
              refine wx_bipush (v := (nI 47)) rfl (e := 78) rfl (by decide) ?_
              refine wn_ic_ne rfl (e := 81) rfl (by omega) (by omega) (fun c_78 => ?_) (fun c_78 => absurd c_78 (by omega))
              refine wx_iload_n rfl (e := 86) rfl rfl ?_
              refine wx_bipush (v := (nI 60)) rfl (e := 88) rfl (by decide) ?_
              refine wn_ic_ne rfl (e := 91) rfl (by omega) (by omega) (fun c_88 => ?_) (fun c_88 => absurd c_88 (by omega))
              refine wx_aload_n rfl (e := 96) rfl rfl ?_
              refine wx_iload rfl (e := 98) rfl rfl ?_
              refine wx_iload_n rfl (e := 99) rfl rfl ?_
              refine wx_iconst (v := (nI 0)) rfl (e := 100) rfl (by decide) ?_
              refine wx_lconst (v := 0) rfl (e := 101) rfl (by decide) ?_
              refine wx_cv4 (mc := 0) (ms := 0) rfl (e := 104) rfl rfl (Nat.le_of_ble_eq_true rfl) ⟨by decide, by decide⟩ ?_
              refine c_X11_token hK.2.1 hm2 ?_
              refine wx_iconst (v := (nI 1)) rfl (e := 105) rfl (by decide) ?_
              refine wx_iret rfl rfl rfl ⟨by decide, by decide⟩ ?_
              have hkd : kd (bt B) n m = 45 := by unfold kd; rw [hst]; unfold kdA; rw [if_neg (by omega), if_neg (by rw [hL]; decide), if_neg (by rw [hD]; decide), if_pos (by unfold sgS; exact decide_eq_true (by omega))]; omega
              exact hq _ _ (fmc.w _ _ _ _ _ _) (hK.put hm2 (by rw [hkd]; rfl) (by rw [hst]) (fun z => absurd (hkd.symm.trans z) (by decide)) (fun z => absurd (hkd.symm.trans z) (by decide)))
          · refine wx_bipush (v := (nI 8)) rfl (e := 53) rfl (by decide) ?_
            refine wx_istore (L2 := [_, _, _, _, _]) rfl (e := 55) rfl (by decide) rfl ?_
            refine wx_iload_n rfl (e := 56) rfl rfl ?_
            refine wx_bipush (v := (nI 45)) rfl (e := 58) rfl (by decide) ?_
            refine wn_ic_ne rfl (e := 61) rfl (by omega) (by omega) (fun c_58 => ?_) (fun c_58 => absurd c_58 (by omega))
            refine wx_iload_n rfl (e := 66) rfl rfl ?_
            refine wx_bipush (v := (nI 42)) rfl (e := 68) rfl (by decide) ?_
            refine wn_ic_ne rfl (e := 71) rfl (by omega) (by omega) (fun c_68 => ?_) (fun c_68 => absurd c_68 (by omega))
            refine wx_iload_n rfl (e := 76) rfl rfl ?_
            refine wx_bipush (v := (nI 47)) rfl (e := 78) rfl (by decide) ?_
            refine wn_ic_ne rfl (e := 81) rfl (by omega) (by omega) (fun c_78 => ?_) (fun c_78 => absurd c_78 (by omega))
            refine wx_iload_n rfl (e := 86) rfl rfl ?_
            refine wx_bipush (v := (nI 60)) rfl (e := 88) rfl (by decide) ?_
            refine wn_ic_ne rfl (e := 91) rfl (by omega) (by omega) (fun c_88 => ?_) (fun c_88 => absurd c_88 (by omega))
            refine wx_aload_n rfl (e := 96) rfl rfl ?_
            refine wx_iload rfl (e := 98) rfl rfl ?_
            refine wx_iload_n rfl (e := 99) rfl rfl ?_
            refine wx_iconst (v := (nI 0)) rfl (e := 100) rfl (by decide) ?_
            refine wx_lconst (v := 0) rfl (e := 101) rfl (by decide) ?_
            refine wx_cv4 (mc := 0) (ms := 0) rfl (e := 104) rfl rfl (Nat.le_of_ble_eq_true rfl) ⟨by decide, by decide⟩ ?_
            refine c_X11_token hK.2.1 hm2 ?_
            refine wx_iconst (v := (nI 1)) rfl (e := 105) rfl (by decide) ?_
            refine wx_iret rfl rfl rfl ⟨by decide, by decide⟩ ?_
            have hkd : kd (bt B) n m = 43 := by unfold kd; rw [hst]; unfold kdA; rw [if_neg (by omega), if_neg (by rw [hL]; decide), if_neg (by rw [hD]; decide), if_pos (by unfold sgS; exact decide_eq_true (by omega))]; omega
            exact hq _ _ (fmc.w _ _ _ _ _ _) (hK.put hm2 (by rw [hkd]; rfl) (by rw [hst]) (fun z => absurd (hkd.symm.trans z) (by decide)) (fun z => absurd (hkd.symm.trans z) (by decide)))
        · refine wx_bipush (v := (nI 7)) rfl (e := 39) rfl (by decide) ?_
          refine wx_goto rfl ?_
          refine wx_istore (L2 := [_, _, _, _, _]) rfl (e := 45) rfl (by decide) rfl ?_
          refine wx_iload_n rfl (e := 46) rfl rfl ?_
          refine wx_bipush (v := (nI 43)) rfl (e := 48) rfl (by decide) ?_
          refine wn_ic_ne rfl (e := 51) rfl (by omega) (by omega) (fun c_48 => ?_) (fun c_48 => absurd c_48 (by omega))
          refine wx_iload_n rfl (e := 56) rfl rfl ?_
          refine wx_bipush (v := (nI 45)) rfl (e := 58) rfl (by decide) ?_
          refine wn_ic_ne rfl (e := 61) rfl (by omega) (by omega) (fun c_58 => ?_) (fun c_58 => absurd c_58 (by omega))
          refine wx_iload_n rfl (e := 66) rfl rfl ?_
          refine wx_bipush (v := (nI 42)) rfl (e := 68) rfl (by decide) ?_
          refine wn_ic_ne rfl (e := 71) rfl (by omega) (by omega) (fun c_68 => ?_) (fun c_68 => absurd c_68 (by omega))
          refine wx_iload_n rfl (e := 76) rfl rfl ?_
          refine wx_bipush (v := (nI 47)) rfl (e := 78) rfl (by decide) ?_
          refine wn_ic_ne rfl (e := 81) rfl (by omega) (by omega) (fun c_78 => ?_) (fun c_78 => absurd c_78 (by omega))
          refine wx_iload_n rfl (e := 86) rfl rfl ?_
          refine wx_bipush (v := (nI 60)) rfl (e := 88) rfl (by decide) ?_
          refine wn_ic_ne rfl (e := 91) rfl (by omega) (by omega) (fun c_88 => ?_) (fun c_88 => absurd c_88 (by omega))
          refine wx_aload_n rfl (e := 96) rfl rfl ?_
          refine wx_iload rfl (e := 98) rfl rfl ?_
          refine wx_iload_n rfl (e := 99) rfl rfl ?_
          refine wx_iconst (v := (nI 0)) rfl (e := 100) rfl (by decide) ?_
          refine wx_lconst (v := 0) rfl (e := 101) rfl (by decide) ?_
          refine wx_cv4 (mc := 0) (ms := 0) rfl (e := 104) rfl rfl (Nat.le_of_ble_eq_true rfl) ⟨by decide, by decide⟩ ?_
          refine c_X11_token hK.2.1 hm2 ?_
          refine wx_iconst (v := (nI 1)) rfl (e := 105) rfl (by decide) ?_
          refine wx_iret rfl rfl rfl ⟨by decide, by decide⟩ ?_
          have hkd : kd (bt B) n m = 41 := by unfold kd; rw [hst]; unfold kdA; rw [if_neg (by omega), if_neg (by rw [hL]; decide), if_neg (by rw [hD]; decide), if_pos (by unfold sgS; exact decide_eq_true (by omega))]; omega
          exact hq _ _ (fmc.w _ _ _ _ _ _) (hK.put hm2 (by rw [hkd]; rfl) (by rw [hst]) (fun z => absurd (hkd.symm.trans z) (by decide)) (fun z => absurd (hkd.symm.trans z) (by decide)))
      · refine wx_bipush (v := (nI 6)) rfl (e := 28) rfl (by decide) ?_
        refine wx_goto rfl ?_
        refine wx_istore (L2 := [_, _, _, _, _]) rfl (e := 45) rfl (by decide) rfl ?_
        refine wx_iload_n rfl (e := 46) rfl rfl ?_
        refine wx_bipush (v := (nI 43)) rfl (e := 48) rfl (by decide) ?_
        refine wn_ic_ne rfl (e := 51) rfl (by omega) (by omega) (fun c_48 => ?_) (fun c_48 => absurd c_48 (by omega))
        refine wx_iload_n rfl (e := 56) rfl rfl ?_
        refine wx_bipush (v := (nI 45)) rfl (e := 58) rfl (by decide) ?_
        refine wn_ic_ne rfl (e := 61) rfl (by omega) (by omega) (fun c_58 => ?_) (fun c_58 => absurd c_58 (by omega))
        refine wx_iload_n rfl (e := 66) rfl rfl ?_
        refine wx_bipush (v := (nI 42)) rfl (e := 68) rfl (by decide) ?_
        refine wn_ic_ne rfl (e := 71) rfl (by omega) (by omega) (fun c_68 => ?_) (fun c_68 => absurd c_68 (by omega))
        refine wx_iload_n rfl (e := 76) rfl rfl ?_
        refine wx_bipush (v := (nI 47)) rfl (e := 78) rfl (by decide) ?_
        refine wn_ic_ne rfl (e := 81) rfl (by omega) (by omega) (fun c_78 => ?_) (fun c_78 => absurd c_78 (by omega))
        refine wx_iload_n rfl (e := 86) rfl rfl ?_
        refine wx_bipush (v := (nI 60)) rfl (e := 88) rfl (by decide) ?_
        refine wn_ic_ne rfl (e := 91) rfl (by omega) (by omega) (fun c_88 => ?_) (fun c_88 => absurd c_88 (by omega))
        refine wx_aload_n rfl (e := 96) rfl rfl ?_
        refine wx_iload rfl (e := 98) rfl rfl ?_
        refine wx_iload_n rfl (e := 99) rfl rfl ?_
        refine wx_iconst (v := (nI 0)) rfl (e := 100) rfl (by decide) ?_
        refine wx_lconst (v := 0) rfl (e := 101) rfl (by decide) ?_
        refine wx_cv4 (mc := 0) (ms := 0) rfl (e := 104) rfl rfl (Nat.le_of_ble_eq_true rfl) ⟨by decide, by decide⟩ ?_
        refine c_X11_token hK.2.1 hm2 ?_
        refine wx_iconst (v := (nI 1)) rfl (e := 105) rfl (by decide) ?_
        refine wx_iret rfl rfl rfl ⟨by decide, by decide⟩ ?_
        have hkd : kd (bt B) n m = 40 := by unfold kd; rw [hst]; unfold kdA; rw [if_neg (by omega), if_neg (by rw [hL]; decide), if_neg (by rw [hD]; decide), if_pos (by unfold sgS; exact decide_eq_true (by omega))]; omega
        exact hq _ _ (fmc.w _ _ _ _ _ _) (hK.put hm2 (by rw [hkd]; rfl) (by rw [hst]) (fun z => absurd (hkd.symm.trans z) (by decide)) (fun z => absurd (hkd.symm.trans z) (by decide)))
    · refine wx_iconst (v := (nI 5)) rfl (e := 17) rfl (by decide) ?_
      refine wx_goto rfl ?_
      refine wx_istore (L2 := [_, _, _, _, _]) rfl (e := 45) rfl (by decide) rfl ?_
      refine wx_iload_n rfl (e := 46) rfl rfl ?_
      refine wx_bipush (v := (nI 43)) rfl (e := 48) rfl (by decide) ?_
      refine wn_ic_ne rfl (e := 51) rfl (by omega) (by omega) (fun c_48 => ?_) (fun c_48 => absurd c_48 (by omega))
      refine wx_iload_n rfl (e := 56) rfl rfl ?_
      refine wx_bipush (v := (nI 45)) rfl (e := 58) rfl (by decide) ?_
      refine wn_ic_ne rfl (e := 61) rfl (by omega) (by omega) (fun c_58 => ?_) (fun c_58 => absurd c_58 (by omega))
      refine wx_iload_n rfl (e := 66) rfl rfl ?_
      refine wx_bipush (v := (nI 42)) rfl (e := 68) rfl (by decide) ?_
      refine wn_ic_ne rfl (e := 71) rfl (by omega) (by omega) (fun c_68 => ?_) (fun c_68 => absurd c_68 (by omega))
      refine wx_iload_n rfl (e := 76) rfl rfl ?_
      refine wx_bipush (v := (nI 47)) rfl (e := 78) rfl (by decide) ?_
      refine wn_ic_ne rfl (e := 81) rfl (by omega) (by omega) (fun c_78 => ?_) (fun c_78 => absurd c_78 (by omega))
      refine wx_iload_n rfl (e := 86) rfl rfl ?_
      refine wx_bipush (v := (nI 60)) rfl (e := 88) rfl (by decide) ?_
      refine wn_ic_ne rfl (e := 91) rfl (by omega) (by omega) (fun c_88 => ?_) (fun c_88 => absurd c_88 (by omega))
      refine wx_aload_n rfl (e := 96) rfl rfl ?_
      refine wx_iload rfl (e := 98) rfl rfl ?_
      refine wx_iload_n rfl (e := 99) rfl rfl ?_
      refine wx_iconst (v := (nI 0)) rfl (e := 100) rfl (by decide) ?_
      refine wx_lconst (v := 0) rfl (e := 101) rfl (by decide) ?_
      refine wx_cv4 (mc := 0) (ms := 0) rfl (e := 104) rfl rfl (Nat.le_of_ble_eq_true rfl) ⟨by decide, by decide⟩ ?_
      refine c_X11_token hK.2.1 hm2 ?_
      refine wx_iconst (v := (nI 1)) rfl (e := 105) rfl (by decide) ?_
      refine wx_iret rfl rfl rfl ⟨by decide, by decide⟩ ?_
      have hkd : kd (bt B) n m = 61 := by unfold kd; rw [hst]; unfold kdA; rw [if_neg (by omega), if_neg (by rw [hL]; decide), if_neg (by rw [hD]; decide), if_pos (by unfold sgS; exact decide_eq_true (by omega))]; omega
      exact hq _ _ (fmc.w _ _ _ _ _ _) (hK.put hm2 (by rw [hkd]; rfl) (by rw [hst]) (fun z => absurd (hkd.symm.trans z) (by decide)) (fun z => absurd (hkd.symm.trans z) (by decide)))
  · refine wx_iconst (v := (nI 4)) rfl (e := 7) rfl (by decide) ?_
    refine wx_goto rfl ?_
    refine wx_istore (L2 := [_, _, _, _, _]) rfl (e := 45) rfl (by decide) rfl ?_
    refine wx_iload_n rfl (e := 46) rfl rfl ?_
    refine wx_bipush (v := (nI 43)) rfl (e := 48) rfl (by decide) ?_
    refine wn_ic_ne rfl (e := 51) rfl (by omega) (by omega) (fun c_48 => ?_) (fun c_48 => absurd c_48 (by omega))
    refine wx_iload_n rfl (e := 56) rfl rfl ?_
    refine wx_bipush (v := (nI 45)) rfl (e := 58) rfl (by decide) ?_
    refine wn_ic_ne rfl (e := 61) rfl (by omega) (by omega) (fun c_58 => ?_) (fun c_58 => absurd c_58 (by omega))
    refine wx_iload_n rfl (e := 66) rfl rfl ?_
    refine wx_bipush (v := (nI 42)) rfl (e := 68) rfl (by decide) ?_
    refine wn_ic_ne rfl (e := 71) rfl (by omega) (by omega) (fun c_68 => ?_) (fun c_68 => absurd c_68 (by omega))
    refine wx_iload_n rfl (e := 76) rfl rfl ?_
    refine wx_bipush (v := (nI 47)) rfl (e := 78) rfl (by decide) ?_
    refine wn_ic_ne rfl (e := 81) rfl (by omega) (by omega) (fun c_78 => ?_) (fun c_78 => absurd c_78 (by omega))
    refine wx_iload_n rfl (e := 86) rfl rfl ?_
    refine wx_bipush (v := (nI 60)) rfl (e := 88) rfl (by decide) ?_
    refine wn_ic_ne rfl (e := 91) rfl (by omega) (by omega) (fun c_88 => ?_) (fun c_88 => absurd c_88 (by omega))
    refine wx_aload_n rfl (e := 96) rfl rfl ?_
    refine wx_iload rfl (e := 98) rfl rfl ?_
    refine wx_iload_n rfl (e := 99) rfl rfl ?_
    refine wx_iconst (v := (nI 0)) rfl (e := 100) rfl (by decide) ?_
    refine wx_lconst (v := 0) rfl (e := 101) rfl (by decide) ?_
    refine wx_cv4 (mc := 0) (ms := 0) rfl (e := 104) rfl rfl (Nat.le_of_ble_eq_true rfl) ⟨by decide, by decide⟩ ?_
    refine c_X11_token hK.2.1 hm2 ?_
    refine wx_iconst (v := (nI 1)) rfl (e := 105) rfl (by decide) ?_
    refine wx_iret rfl rfl rfl ⟨by decide, by decide⟩ ?_
    have hkd : kd (bt B) n m = 59 := by unfold kd; rw [hst]; unfold kdA; rw [if_neg (by omega), if_neg (by rw [hL]; decide), if_neg (by rw [hD]; decide), if_pos (by unfold sgS; exact decide_eq_true (by omega))]; omega
    exact hq _ _ (fmc.w _ _ _ _ _ _) (hK.put hm2 (by rw [hkd]; rfl) (by rw [hst]) (fun z => absurd (hkd.symm.trans z) (by decide)) (fun z => absurd (hkd.symm.trans z) (by decide)))
theorem mq_lt (xs : List Nat) : ∀ k, k ≤ 24 → mq xs k < 44
  | 0, _ => by rw [mq]; omega
  | k + 1, h => by
    rw [mq]
    split
    · omega
    · exact mq_lt xs k (by omega)
set_option maxHeartbeats 4000000 in
theorem c_X11_cut {d Lx t rt u : Nat} {I : Nat → Nat → Int32} {G : Nat → Nat → Int64} {Q : ab_Q} {B : Nat → Int32} {n : Nat} (hX : NX I B n) (hW : CWm G) (hq : ∀ I2 G2 m, fmc I I2 G G2 → CM (bt B) n I2 G2 m → (∀ j, j ≤ 400 → gdT (bt B) n j → j < m) → Q none (hp Lx t rt u I2 G2)) : ab_call ab_MT (d + 3) 192 [.ref 55] (hp Lx t rt u I G) 0 0 Q := by
  have hn := hX.1
  have loop : ∀ (m_ : Nat) (i m : Nat) (I2 : Nat → Nat → Int32) (G2 : Nat → Nat → Int64), i ≤ n → n - i < m_ → m ≤ 401 → (∀ j, j < m → kd (bt B) n j ≠ 26) → fmc I I2 G G2 → CM (bt B) n I2 G2 m → stA (bt B) n m = rn isBl (bt B) n i → ∀ x2 x3 x4 x5 x6 x7, WP (d + 2) mX11_cut Q 7 [some (.ref 55), some (.int (nI i)), x2, x3, x4, x5, x6, x7] [] (hp Lx t rt u I2 G2) 0 0 := by
    intro m_
    induction m_ with
    | zero => intro i m I2 G2 h1 h2; omega
    | succ m_ ih =>
      intro i m I2 G2 h1 h2 hm4 hno f2 K2 hst x2 x3 x4 x5 x6 x7
      have hX2 : NX I2 B n := hX.kept (f2.2.1 4 (by decide)) (f2.1 57 (by decide) (by decide) (by decide) (by decide))
      have hW2 : CWm G2 := fun k hk => by rw [f2.2.2 62 (by decide)]; exact hW k hk
      refine wx_aload_n rfl (e := 8) rfl rfl ?_
      refine wx_geti rfl (e := 11) rfl rfl ?_
      rw [K2.2.1]
      refine wx_sipush (v := (nI 400)) rfl (e := 14) rfl (by decide) ?_
      refine wn_ic_gt rfl (e := 17) rfl (by omega) (by omega) (fun c_14 => ?_) (fun c_14 => ?_)
      · refine wx_ret rfl rfl ⟨by decide, by decide⟩ ?_
        exact hq I2 G2 m f2 K2 (fun j h1 h2 => by omega)
      · refine wx_aload_n rfl (e := 18) rfl rfl ?_
        refine wx_iload_n rfl (e := 19) rfl rfl ?_
        refine wx_cv1 (mc := 0) (ms := 0) rfl (e := 22) rfl rfl (Nat.le_of_ble_eq_true rfl) ⟨by decide, by decide⟩ ?_
        refine c_X11_byteAt hX2 (by omega) ?_
        have hbm0 := byM_lt B n i
        have hbt := bt_lt B i
        refine wx_istore_n (L2 := [_, _, _, _, _, _, _, _]) rfl (e := 23) rfl (by decide) rfl ?_
        refine wx_iload_n rfl (e := 24) rfl rfl ?_
        refine wx_aload_n rfl (e := 25) rfl rfl ?_
        refine wx_geti rfl (e := 28) rfl rfl ?_
        rw [hX2.2.1]
        refine wn_ic_lt rfl (e := 31) rfl (by omega) (by omega) (fun c_28 => ?_) (fun c_28 => ?_)
        · rw [byM_y (show i < n by omega)]
          refine wx_iload_n rfl (e := 44) rfl rfl ?_
          refine wx_bipush (v := (nI 9)) rfl (e := 46) rfl (by decide) ?_
          refine wn_ic_eq rfl (e := 49) rfl (by omega) (by omega) (fun c_46 => ?_) (fun c_46 => ?_)
          · refine wn_iinc (m := 1) (L2 := [_, _, _, _, _, _, _, _]) rfl (e := 70) rfl rfl (by decide) rfl ?_
            refine wx_goto rfl ?_
            refine wx_goto rfl ?_
            have hh := rn_y (p := isBl) (b := bt B) (n := n) (i := i) (by omega) (isBl_i.mpr (by omega))
            exact ih (i + 1) m I2 G2 (by omega) (by omega) hm4 hno f2 K2 (by rw [← hh]; exact hst) _ _ _ _ _ _
          · refine wx_iload_n rfl (e := 50) rfl rfl ?_
            refine wx_bipush (v := (nI 10)) rfl (e := 52) rfl (by decide) ?_
            refine wn_ic_eq rfl (e := 55) rfl (by omega) (by omega) (fun c_52 => ?_) (fun c_52 => ?_)
            · refine wn_iinc (m := 1) (L2 := [_, _, _, _, _, _, _, _]) rfl (e := 70) rfl rfl (by decide) rfl ?_
              refine wx_goto rfl ?_
              refine wx_goto rfl ?_
              have hh := rn_y (p := isBl) (b := bt B) (n := n) (i := i) (by omega) (isBl_i.mpr (by omega))
              exact ih (i + 1) m I2 G2 (by omega) (by omega) hm4 hno f2 K2 (by rw [← hh]; exact hst) _ _ _ _ _ _
            · refine wx_iload_n rfl (e := 56) rfl rfl ?_
              refine wx_bipush (v := (nI 13)) rfl (e := 58) rfl (by decide) ?_
              refine wn_ic_eq rfl (e := 61) rfl (by omega) (by omega) (fun c_58 => ?_) (fun c_58 => ?_)
              · refine wn_iinc (m := 1) (L2 := [_, _, _, _, _, _, _, _]) rfl (e := 70) rfl rfl (by decide) rfl ?_
                refine wx_goto rfl ?_
                refine wx_goto rfl ?_
                have hh := rn_y (p := isBl) (b := bt B) (n := n) (i := i) (by omega) (isBl_i.mpr (by omega))
                exact ih (i + 1) m I2 G2 (by omega) (by omega) hm4 hno f2 K2 (by rw [← hh]; exact hst) _ _ _ _ _ _
              · refine wx_iload_n rfl (e := 62) rfl rfl ?_
                refine wx_bipush (v := (nI 32)) rfl (e := 64) rfl (by decide) ?_
                refine wn_ic_ne rfl (e := 67) rfl (by omega) (by omega) (fun c_64 => ?_) (fun c_64 => ?_)
                · refine wx_iload_n rfl (e := 74) rfl rfl ?_
                  refine wx_cs1 (mc := 0) (ms := 0) rfl (e := 77) rfl (Nat.le_of_ble_eq_true rfl) ⟨by decide, by decide⟩ ?_
                  have hblk : isBl (bt B i) = false := by unfold isBl; exact decide_eq_false (by omega)
                  have hrb : rn isBl (bt B) n i = i := rn_n (by rw [hblk]; simp)
                  rw [hrb] at hst
                  refine c_X11_isLetter hbt (fun hL => ?_) (fun hL => ?_)
                  · have hge := rn_gt (p := isLt) (b := bt B) (show i < n by omega) hL
                    have hle := rn_le isLt (bt B) (show i ≤ n by omega)
                    have hltr : ltr (lt_ (bt B) i ((rn isLt (bt B) n i) - i)) := lt_ltr _ (fun j h1 h2 => rn_all isLt (bt B) n i j h1 (by omega))
                    refine wn_if_eq rfl (e := 80) rfl (by omega) (fun c_77 => absurd c_77 (by omega)) (fun c_77 => ?_)
                    refine wx_iconst (v := (nI 0)) rfl (e := 81) rfl (by decide) ?_
                    refine wx_istore_n (L2 := [_, _, _, _, _, _, _, _]) rfl (e := 82) rfl (by decide) rfl ?_
                    refine wx_lconst (v := 0) rfl (e := 83) rfl (by decide) ?_
                    refine wx_lstore (L2 := [_, _, _, _, _, _, _, _]) rfl (e := 85) rfl (by decide) rfl ?_
                    have tokl : ∀ (kk : Nat), kd (bt B) n m = kk → ∀ x7, WP (d + 2) mX11_cut Q 179 [some (.ref 55), some (.int (nI i)), some (.int (nI (bt B i))), some (.int (nI ((rn isLt (bt B) n i) - i))), some (.long (lN (vl_ 27 (lt_ (bt B) i (min ((rn isLt (bt B) n i) - i) 8))))), none, some (.int (nI (mk kk))), x7] [] (hp Lx t rt u I2 G2) 0 0 := by
                      intro kk hkk x7
                      refine wx_aload_n rfl (e := 180) rfl rfl ?_
                      refine wx_iload rfl (e := 182) rfl rfl ?_
                      refine wx_iload_n rfl (e := 183) rfl rfl ?_
                      refine wx_iconst (v := (nI 0)) rfl (e := 184) rfl (by decide) ?_
                      refine wx_lload rfl (e := 186) rfl rfl ?_
                      refine wx_cv4 (mc := 0) (ms := 0) rfl (e := 189) rfl rfl (Nat.le_of_ble_eq_true rfl) ⟨by decide, by decide⟩ ?_
                      refine c_X11_token K2.2.1 (by omega) ?_
                      refine wx_iload_n rfl (e := 190) rfl rfl ?_
                      refine wx_iload_n rfl (e := 191) rfl rfl ?_
                      refine wn_iadd rfl (e := 192) rfl ?_
                      refine wx_istore_n (L2 := [_, _, _, _, _, _, _, _]) rfl (e := 193) rfl (by decide) rfl ?_
                      refine wx_goto rfl ?_
                      refine wx_goto rfl ?_
                      rw [show i + ((rn isLt (bt B) n i) - i) = (rn isLt (bt B) n i) by omega]
                      have hst2 : stA (bt B) n (m + 1) = rn isBl (bt B) n (enA (bt B) n i) := by rw [stA, if_neg (by omega), hst]
                      have hno2 : ∀ j, j < m + 1 → kd (bt B) n j ≠ 26 := fun j hj => if z : j = m then (by rw [z]; intro w; unfold kd at w; rw [kd_26] at w; omega) else hno j (by omega)
                      have eA : enA (bt B) n i = (rn isLt (bt B) n i) := by unfold enA; rw [if_pos hL]
                      rw [eA] at hst2
                      exact ih _ (m + 1) _ _ (by omega) (by omega) (by omega) hno2 (f2.tr (fmc.w _ _ _ _ _ _)) (K2.put (by omega) (by rw [hkk]) (by rw [hst]) (fun w => absurd (kd_25 w).1 (by rw [hst, hL]; decide)) (fun w => by have := (kd_24 w).2.2; rw [hst] at this; unfold wdT; rw [hst, show min ((rn isLt (bt B) n i) - i) 8 = (rn isLt (bt B) n i) - i by omega])) hst2 _ _ _ _ _ _
                    have loopk : (rn isLt (bt B) n i) - i ≤ 8 → ∀ (q k : Nat), k ≤ 24 → 24 - k < q → WP (d + 2) mX11_cut Q 146 [some (.ref 55), some (.int (nI i)), some (.int (nI (bt B i))), some (.int (nI ((rn isLt (bt B) n i) - i))), some (.long (lN (vl_ 27 (lt_ (bt B) i (min ((rn isLt (bt B) n i) - i) 8))))), none, some (.int (nI (mq (lt_ (bt B) i ((rn isLt (bt B) n i) - i)) k))), some (.int (nI k))] [] (hp Lx t rt u I2 G2) 0 0 := by
                      intro hl8
                      rw [show min ((rn isLt (bt B) n i) - i) 8 = (rn isLt (bt B) n i) - i by omega] at tokl ⊢
                      intro q
                      induction q with
                      | zero => intro k h1 h2; omega
                      | succ q ihk =>
                        intro k h1 h2
                        have hmq : mq (lt_ (bt B) i ((rn isLt (bt B) n i) - i)) k < 44 := mq_lt _ k (by omega)
                        refine wx_iload rfl (e := 148) rfl rfl ?_
                        refine wx_bipush (v := (nI 24)) rfl (e := 150) rfl (by decide) ?_
                        refine wn_ic_ge rfl (e := 153) rfl (by omega) (by omega) (fun c_150 => ?_) (fun c_150 => ?_)
                        · have ek : k = 24 := by omega
                          subst ek
                          rw [mq_ok]
                          exact tokl _ (by unfold kd; rw [hst]; unfold kdA; rw [if_neg (by omega), if_pos hL, if_neg (by omega)]) _
                        · refine wx_aload_n rfl (e := 154) rfl rfl ?_
                          refine wx_getr rfl (e := 157) rfl rfl rfl ?_
                          refine wx_iload rfl (e := 159) rfl rfl ?_
                          refine wn_lald rfl (e := 160) rfl rfl (by omega) (by decide) ?_
                          rw [hW2 k (by omega)]
                          refine wx_lload rfl (e := 162) rfl rfl ?_
                          refine wx_lcmp rfl (e := 163) rfl ?_
                          refine wx_if_ne rfl (e := 166) rfl (fun c_163 => ?_) (fun c_163 => ?_)
                          · have hG : mq (lt_ (bt B) i ((rn isLt (bt B) n i) - i)) (k + 1) = mq (lt_ (bt B) i ((rn isLt (bt B) n i) - i)) k := by rw [mq, if_neg (fun w => c_163 ((lg_cmp_eq _ _).mpr (by rw [w])))]
                            refine wn_iinc (m := 1) (L2 := [_, _, _, _, _, _, _, _]) rfl (e := 176) rfl rfl (by decide) rfl ?_
                            refine wx_goto rfl ?_
                            have hh := ihk (k + 1) (by omega) (by omega)
                            rw [hG] at hh
                            exact hh
                          · have hG : mq (lt_ (bt B) i ((rn isLt (bt B) n i) - i)) (k + 1) = 20 + k := by rw [mq, if_pos (vl_inj (by decide) _ _ (kw_ltr _ (pm_lt k (by omega))).1 hltr ((pk_lEQ (by have := vl_8 (q := 27) (by decide) (by decide) (kw_ltr _ (pm_lt k (by omega))).1 (kw_ltr _ (pm_lt k (by omega))).2; omega) (by have := vl_8 (q := 27) (by decide) (by decide) hltr (by rw [lt_len]; omega); omega)).mp ((lg_cmp_eq _ _).mp c_163)))]
                            refine wx_bipush (v := (nI 20)) rfl (e := 168) rfl (by decide) ?_
                            refine wx_iload rfl (e := 170) rfl rfl ?_
                            refine wn_iadd rfl (e := 171) rfl ?_
                            refine wx_istore (L2 := [_, _, _, _, _, _, _, _]) rfl (e := 173) rfl (by decide) rfl ?_
                            refine wn_iinc (m := 1) (L2 := [_, _, _, _, _, _, _, _]) rfl (e := 176) rfl rfl (by decide) rfl ?_
                            refine wx_goto rfl ?_
                            have hh := ihk (k + 1) (by omega) (by omega)
                            rw [hG] at hh
                            exact hh
                    have finl : WP (d + 2) mX11_cut Q 124 [some (.ref 55), some (.int (nI i)), some (.int (nI (bt B i))), some (.int (nI ((rn isLt (bt B) n i) - i))), some (.long (lN (vl_ 27 (lt_ (bt B) i (min ((rn isLt (bt B) n i) - i) 8))))), none, x6, x7] [] (hp Lx t rt u I2 G2) 0 0 := by
                      refine wx_iload_n rfl (e := 125) rfl rfl ?_
                      refine wx_bipush (v := (nI 8)) rfl (e := 127) rfl (by decide) ?_
                      refine wn_ic_le rfl (e := 130) rfl (by omega) (by omega) (fun c_127 => ?_) (fun c_127 => ?_)
                      · refine wx_iconst (v := (nI 1)) rfl (e := 135) rfl (by decide) ?_
                        refine wx_istore (L2 := [_, _, _, _, _, _, _, _]) rfl (e := 137) rfl (by decide) rfl ?_
                        refine wx_iload_n rfl (e := 138) rfl rfl ?_
                        refine wx_bipush (v := (nI 8)) rfl (e := 140) rfl (by decide) ?_
                        refine wn_ic_gt rfl (e := 143) rfl (by omega) (by omega) (fun c_140 => absurd c_140 (by omega)) (fun c_140 => ?_)
                        refine wx_iconst (v := (nI 0)) rfl (e := 144) rfl (by decide) ?_
                        refine wx_istore (L2 := [_, _, _, _, _, _, _, _]) rfl (e := 146) rfl (by decide) rfl ?_
                        exact loopk (by omega) 25 0 (by omega) (by omega)
                      · refine wx_iconst (v := (nI 3)) rfl (e := 131) rfl (by decide) ?_
                        refine wx_goto rfl ?_
                        refine wx_istore (L2 := [_, _, _, _, _, _, _, _]) rfl (e := 137) rfl (by decide) rfl ?_
                        refine wx_iload_n rfl (e := 138) rfl rfl ?_
                        refine wx_bipush (v := (nI 8)) rfl (e := 140) rfl (by decide) ?_
                        refine wn_ic_gt rfl (e := 143) rfl (by omega) (by omega) (fun c_140 => ?_) (fun c_140 => absurd c_140 (by omega))
                        exact tokl 27 (by unfold kd; rw [hst]; unfold kdA; rw [if_neg (by omega), if_pos hL, if_pos (by omega)]) _
                    have loopl : ∀ (q l : Nat), i + l ≤ n → n - (i + l) < q → rn isLt (bt B) n (i + l) = (rn isLt (bt B) n i) → WP (d + 2) mX11_cut Q 85 [some (.ref 55), some (.int (nI i)), some (.int (nI (bt B i))), some (.int (nI l)), some (.long (lN (vl_ 27 (lt_ (bt B) i (min l 8))))), none, x6, x7] [] (hp Lx t rt u I2 G2) 0 0 := by
                      intro q
                      induction q with
                      | zero => intro l h1 h2; omega
                      | succ q ihl =>
                        intro l h1 h2 h4
                        refine wx_aload_n rfl (e := 86) rfl rfl ?_
                        refine wx_iload_n rfl (e := 87) rfl rfl ?_
                        refine wx_iload_n rfl (e := 88) rfl rfl ?_
                        refine wn_iadd rfl (e := 89) rfl ?_
                        refine wx_cv1 (mc := 0) (ms := 0) rfl (e := 92) rfl rfl (Nat.le_of_ble_eq_true rfl) ⟨by decide, by decide⟩ ?_
                        refine c_X11_byteAt hX2 (by omega) ?_
                        have hbm := byM_lt B n (i + l)
                        refine wx_cs1 (mc := 0) (ms := 0) rfl (e := 95) rfl (Nat.le_of_ble_eq_true rfl) ⟨by decide, by decide⟩ ?_
                        refine c_X11_isLetter hbm (fun hy => ?_) (fun hy => ?_)
                        · obtain ⟨hy1, hy2⟩ := byM_p (p := isLt) (by decide) hy
                          have hE := rn_y (p := isLt) (b := bt B) hy1 hy2
                          refine wn_if_eq rfl (e := 98) rfl (by omega) (fun c_95 => absurd c_95 (by omega)) (fun c_95 => ?_)
                          refine wx_iload_n rfl (e := 99) rfl rfl ?_
                          refine wx_bipush (v := (nI 8)) rfl (e := 101) rfl (by decide) ?_
                          refine wn_ic_ge rfl (e := 104) rfl (by omega) (by omega) (fun c_101 => ?_) (fun c_101 => ?_)
                          · refine wn_iinc (m := 1) (L2 := [_, _, _, _, _, _, _, _]) rfl (e := 121) rfl rfl (by decide) rfl ?_
                            refine wx_goto rfl ?_
                            have hh := ihl (l + 1) (by omega) (by omega) (by rw [← h4, hE]; rfl)
                            rw [show min (l + 1) 8 = min l 8 by omega] at hh
                            exact hh
                          · refine wx_lload rfl (e := 106) rfl rfl ?_
                            refine wx_aload_n rfl (e := 107) rfl rfl ?_
                            refine wx_iload_n rfl (e := 108) rfl rfl ?_
                            refine wx_iload_n rfl (e := 109) rfl rfl ?_
                            refine wn_iadd rfl (e := 110) rfl ?_
                            refine wx_cv1 (mc := 0) (ms := 0) rfl (e := 113) rfl rfl (Nat.le_of_ble_eq_true rfl) ⟨by decide, by decide⟩ ?_
                            refine c_X11_byteAt hX2 (by omega) ?_
                            refine wx_cs2 (mc := 0) (ms := 0) rfl (e := 116) rfl (Nat.le_of_ble_eq_true rfl) ⟨by decide, by decide⟩ ?_
                            rw [byM_y hy1]
                            refine c_X11_appends (bt_lt B _) (isLt_i.mp hy2).1 ?_
                            refine wx_lstore (L2 := [_, _, _, _, _, _, _, _]) rfl (e := 118) rfl (by decide) rfl ?_
                            refine wn_iinc (m := 1) (L2 := [_, _, _, _, _, _, _, _]) rfl (e := 121) rfl rfl (by decide) rfl ?_
                            refine wx_goto rfl ?_
                            have hh := ihl (l + 1) (by omega) (by omega) (by rw [← h4, hE]; rfl)
                            rw [show min (l + 1) 8 = min l 8 + 1 by omega, lt_, vl_, show min l 8 = l by omega] at hh
                            rw [show min l 8 = l by omega]
                            exact hh
                        · refine wn_if_eq rfl (e := 98) rfl (by omega) (fun c_95 => ?_) (fun c_95 => absurd c_95 (by omega))
                          have ee : i + l = (rn isLt (bt B) n i) := by rw [← h4, rn_n (byM_n hy)]
                          have el : l = (rn isLt (bt B) n i) - i := by omega
                          subst el
                          exact finl
                    exact loopl (n - i + 1) 0 (by omega) (by omega) rfl
                  · refine wn_if_eq rfl (e := 80) rfl (by omega) (fun c_77 => ?_) (fun c_77 => absurd c_77 (by omega))
                    refine wx_iload_n rfl (e := 197) rfl rfl ?_
                    refine wx_cs1 (mc := 0) (ms := 0) rfl (e := 200) rfl (Nat.le_of_ble_eq_true rfl) ⟨by decide, by decide⟩ ?_
                    refine c_X11_isDigit hbt (fun hD => ?_) (fun hD => ?_)
                    · have hge := rn_gt (p := isDg) (b := bt B) (show i < n by omega) hD
                      have hle := rn_le isDg (bt B) (show i ≤ n by omega)
                      refine wn_if_eq rfl (e := 203) rfl (by omega) (fun c_200 => absurd c_200 (by omega)) (fun c_200 => ?_)
                      refine wx_iconst (v := (nI 0)) rfl (e := 204) rfl (by decide) ?_
                      refine wx_istore_n (L2 := [_, _, _, _, _, _, _, _]) rfl (e := 205) rfl (by decide) rfl ?_
                      refine wx_iconst (v := (nI 0)) rfl (e := 206) rfl (by decide) ?_
                      refine wx_istore (L2 := [_, _, _, _, _, _, _, _]) rfl (e := 208) rfl (by decide) rfl ?_
                      have find : WP (d + 2) mX11_cut Q 250 [some (.ref 55), some (.int (nI i)), some (.int (nI (bt B i))), some (.int (nI ((rn isDg (bt B) n i) - i))), some (.int (nI (dg_ (bt B) i (min ((rn isDg (bt B) n i) - i) 4)))), x5, x6, x7] [] (hp Lx t rt u I2 G2) 0 0 := by
                        refine wx_aload_n rfl (e := 251) rfl rfl ?_
                        refine wx_iload_n rfl (e := 252) rfl rfl ?_
                        refine wx_iconst (v := (nI 4)) rfl (e := 253) rfl (by decide) ?_
                        refine wn_ic_le rfl (e := 256) rfl (by omega) (by omega) (fun c_253 => ?_) (fun c_253 => ?_)
                        · refine wx_iconst (v := (nI 2)) rfl (e := 261) rfl (by decide) ?_
                          refine wx_iload_n rfl (e := 262) rfl rfl ?_
                          refine wx_iload rfl (e := 264) rfl rfl ?_
                          refine wx_lconst (v := 0) rfl (e := 265) rfl (by decide) ?_
                          refine wx_cv4 (mc := 0) (ms := 0) rfl (e := 268) rfl rfl (Nat.le_of_ble_eq_true rfl) ⟨by decide, by decide⟩ ?_
                          refine c_X11_token K2.2.1 (by omega) ?_
                          refine wx_iload_n rfl (e := 269) rfl rfl ?_
                          refine wx_iload_n rfl (e := 270) rfl rfl ?_
                          refine wn_iadd rfl (e := 271) rfl ?_
                          refine wx_istore_n (L2 := [_, _, _, _, _, _, _, _]) rfl (e := 272) rfl (by decide) rfl ?_
                          refine wx_goto rfl ?_
                          refine wx_goto rfl ?_
                          rw [show i + ((rn isDg (bt B) n i) - i) = (rn isDg (bt B) n i) by omega]
                          have hst2 : stA (bt B) n (m + 1) = rn isBl (bt B) n (enA (bt B) n i) := by rw [stA, if_neg (by omega), hst]
                          have hno2 : ∀ j, j < m + 1 → kd (bt B) n j ≠ 26 := fun j hj => if z : j = m then (by rw [z]; intro w; unfold kd at w; rw [kd_26] at w; omega) else hno j (by omega)
                          have eA : enA (bt B) n i = (rn isDg (bt B) n i) := by unfold enA; rw [if_neg (by rw [hL]; decide), if_pos hD]
                          rw [eA] at hst2
                          have hkk : kd (bt B) n m = 25 := by unfold kd; rw [hst]; unfold kdA; rw [if_neg (by omega), if_neg (by rw [hL]; decide), if_pos hD, if_neg (by omega)]
                          exact ih _ (m + 1) _ _ (by omega) (by omega) (by omega) hno2 (f2.tr (fmc.w _ _ _ _ _ _)) (K2.put (by omega) (by rw [hkk]; rfl) (by rw [hst]) (fun w => by unfold nuT; rw [hst, show min ((rn isDg (bt B) n i) - i) 4 = (rn isDg (bt B) n i) - i by omega]) (fun w => absurd (hkk.symm.trans w) (by decide))) hst2 _ _ _ _ _ _
                        · refine wx_iconst (v := (nI 3)) rfl (e := 257) rfl (by decide) ?_
                          refine wx_goto rfl ?_
                          refine wx_iload_n rfl (e := 262) rfl rfl ?_
                          refine wx_iload rfl (e := 264) rfl rfl ?_
                          refine wx_lconst (v := 0) rfl (e := 265) rfl (by decide) ?_
                          refine wx_cv4 (mc := 0) (ms := 0) rfl (e := 268) rfl rfl (Nat.le_of_ble_eq_true rfl) ⟨by decide, by decide⟩ ?_
                          refine c_X11_token K2.2.1 (by omega) ?_
                          refine wx_iload_n rfl (e := 269) rfl rfl ?_
                          refine wx_iload_n rfl (e := 270) rfl rfl ?_
                          refine wn_iadd rfl (e := 271) rfl ?_
                          refine wx_istore_n (L2 := [_, _, _, _, _, _, _, _]) rfl (e := 272) rfl (by decide) rfl ?_
                          refine wx_goto rfl ?_
                          refine wx_goto rfl ?_
                          rw [show i + ((rn isDg (bt B) n i) - i) = (rn isDg (bt B) n i) by omega]
                          have hst2 : stA (bt B) n (m + 1) = rn isBl (bt B) n (enA (bt B) n i) := by rw [stA, if_neg (by omega), hst]
                          have hno2 : ∀ j, j < m + 1 → kd (bt B) n j ≠ 26 := fun j hj => if z : j = m then (by rw [z]; intro w; unfold kd at w; rw [kd_26] at w; omega) else hno j (by omega)
                          have eA : enA (bt B) n i = (rn isDg (bt B) n i) := by unfold enA; rw [if_neg (by rw [hL]; decide), if_pos hD]
                          rw [eA] at hst2
                          have hkk : kd (bt B) n m = 27 := by unfold kd; rw [hst]; unfold kdA; rw [if_neg (by omega), if_neg (by rw [hL]; decide), if_pos hD, if_pos (by omega)]
                          exact ih _ (m + 1) _ _ (by omega) (by omega) (by omega) hno2 (f2.tr (fmc.w _ _ _ _ _ _)) (K2.put (by omega) (by rw [hkk]; rfl) (by rw [hst]) (fun w => absurd (hkk.symm.trans w) (by decide)) (fun w => absurd (hkk.symm.trans w) (by decide))) hst2 _ _ _ _ _ _
                      have loopd : ∀ (q l : Nat), i + l ≤ n → n - (i + l) < q → rn isDg (bt B) n (i + l) = (rn isDg (bt B) n i) → WP (d + 2) mX11_cut Q 208 [some (.ref 55), some (.int (nI i)), some (.int (nI (bt B i))), some (.int (nI l)), some (.int (nI (dg_ (bt B) i (min l 4)))), x5, x6, x7] [] (hp Lx t rt u I2 G2) 0 0 := by
                        intro q
                        induction q with
                        | zero => intro l h1 h2; omega
                        | succ q ihl =>
                          intro l h1 h2 h4
                          refine wx_aload_n rfl (e := 209) rfl rfl ?_
                          refine wx_iload_n rfl (e := 210) rfl rfl ?_
                          refine wx_iload_n rfl (e := 211) rfl rfl ?_
                          refine wn_iadd rfl (e := 212) rfl ?_
                          refine wx_cv1 (mc := 0) (ms := 0) rfl (e := 215) rfl rfl (Nat.le_of_ble_eq_true rfl) ⟨by decide, by decide⟩ ?_
                          refine c_X11_byteAt hX2 (by omega) ?_
                          have hbm := byM_lt B n (i + l)
                          refine wx_cs1 (mc := 0) (ms := 0) rfl (e := 218) rfl (Nat.le_of_ble_eq_true rfl) ⟨by decide, by decide⟩ ?_
                          refine c_X11_isDigit hbm (fun hy => ?_) (fun hy => ?_)
                          · obtain ⟨hy1, hy2⟩ := byM_p (p := isDg) (by decide) hy
                            have hE := rn_y (p := isDg) (b := bt B) hy1 hy2
                            have hy3 := isDg_i.mp hy2
                            refine wn_if_eq rfl (e := 221) rfl (by omega) (fun c_218 => absurd c_218 (by omega)) (fun c_218 => ?_)
                            refine wx_iload_n rfl (e := 222) rfl rfl ?_
                            refine wx_iconst (v := (nI 4)) rfl (e := 223) rfl (by decide) ?_
                            refine wn_ic_ge rfl (e := 226) rfl (by omega) (by omega) (fun c_223 => ?_) (fun c_223 => ?_)
                            · refine wn_iinc (m := 1) (L2 := [_, _, _, _, _, _, _, _]) rfl (e := 247) rfl rfl (by decide) rfl ?_
                              refine wx_goto rfl ?_
                              have hh := ihl (l + 1) (by omega) (by omega) (by rw [← h4, hE]; rfl)
                              rw [show min (l + 1) 4 = min l 4 by omega] at hh
                              exact hh
                            · refine wx_bipush (v := (nI 10)) rfl (e := 228) rfl (by decide) ?_
                              refine wx_iload rfl (e := 230) rfl rfl ?_
                              refine wx_imul rfl (e := 231) rfl ?_
                              rw [pk_mul]
                              refine wx_aload_n rfl (e := 232) rfl rfl ?_
                              refine wx_iload_n rfl (e := 233) rfl rfl ?_
                              refine wx_iload_n rfl (e := 234) rfl rfl ?_
                              refine wn_iadd rfl (e := 235) rfl ?_
                              refine wx_cv1 (mc := 0) (ms := 0) rfl (e := 238) rfl rfl (Nat.le_of_ble_eq_true rfl) ⟨by decide, by decide⟩ ?_
                              refine c_X11_byteAt hX2 (by omega) ?_
                              rw [byM_y hy1]
                              refine wx_iadd rfl (e := 239) rfl ?_
                              rw [nI_add]
                              refine wx_bipush (v := (nI 48)) rfl (e := 241) rfl (by decide) ?_
                              refine wx_isub rfl (e := 242) rfl ?_
                              rw [pk_sub (by omega)]
                              refine wx_istore (L2 := [_, _, _, _, _, _, _, _]) rfl (e := 244) rfl (by decide) rfl ?_
                              refine wn_iinc (m := 1) (L2 := [_, _, _, _, _, _, _, _]) rfl (e := 247) rfl rfl (by decide) rfl ?_
                              refine wx_goto rfl ?_
                              have hh := ihl (l + 1) (by omega) (by omega) (by rw [← h4, hE]; rfl)
                              rw [show min (l + 1) 4 = min l 4 + 1 by omega, dg_, show min l 4 = l by omega] at hh
                              rw [show min l 4 = l by omega, show 10 * dg_ (bt B) i l + bt B (i + l) - 48 = 10 * dg_ (bt B) i l + (bt B (i + l) - 48) by omega]
                              exact hh
                          · refine wn_if_eq rfl (e := 221) rfl (by omega) (fun c_218 => ?_) (fun c_218 => absurd c_218 (by omega))
                            have ee : i + l = (rn isDg (bt B) n i) := by rw [← h4, rn_n (byM_n hy)]
                            have el : l = (rn isDg (bt B) n i) - i := by omega
                            subst el
                            exact find
                      exact loopd (n - i + 1) 0 (by omega) (by omega) rfl
                    · refine wn_if_eq rfl (e := 203) rfl (by omega) (fun c_200 => ?_) (fun c_200 => absurd c_200 (by omega))
                      refine wx_iload_n rfl (e := 276) rfl rfl ?_
                      refine wx_aload_n rfl (e := 277) rfl rfl ?_
                      refine wx_iload_n rfl (e := 278) rfl rfl ?_
                      refine wx_iload_n rfl (e := 279) rfl rfl ?_
                      refine wx_aload_n rfl (e := 280) rfl rfl ?_
                      refine wx_iload_n rfl (e := 281) rfl rfl ?_
                      refine wx_iconst (v := (nI 1)) rfl (e := 282) rfl (by decide) ?_
                      refine wn_iadd rfl (e := 283) rfl ?_
                      refine wx_cv1 (mc := 0) (ms := 0) rfl (e := 286) rfl rfl (Nat.le_of_ble_eq_true rfl) ⟨by decide, by decide⟩ ?_
                      refine c_X11_byteAt hX2 (by omega) ?_
                      refine wx_cv3 (mc := 0) (ms := 0) rfl (e := 289) rfl rfl (Nat.le_of_ble_eq_true rfl) ⟨by decide, by decide⟩ ?_
                      refine c_X11_sign K2 (by omega) (by omega) hst hL hD (fun I3 G3 f3 K3 => ?_)
                      refine wn_iadd rfl (e := 290) rfl ?_
                      refine wx_istore_n (L2 := [_, _, _, _, _, _, _, _]) rfl (e := 291) rfl (by decide) rfl ?_
                      refine wx_goto rfl ?_
                      have hst2 : stA (bt B) n (m + 1) = rn isBl (bt B) n (enA (bt B) n i) := by rw [stA, if_neg (by omega), hst]
                      have hno2 : ∀ j, j < m + 1 → kd (bt B) n j ≠ 26 := fun j hj => if z : j = m then (by rw [z]; intro w; unfold kd at w; rw [kd_26] at w; omega) else hno j (by omega)
                      have eA : enA (bt B) n i = i + 1 := by unfold enA; rw [if_neg (by rw [hL]; decide), if_neg (by rw [hD]; decide)]
                      rw [eA] at hst2
                      exact ih (i + 1) (m + 1) I3 G3 (by omega) (by omega) (by omega) hno2 (f2.tr f3) K3 hst2 _ _ _ _ _ _
                · refine wn_iinc (m := 1) (L2 := [_, _, _, _, _, _, _, _]) rfl (e := 70) rfl rfl (by decide) rfl ?_
                  refine wx_goto rfl ?_
                  refine wx_goto rfl ?_
                  have hh := rn_y (p := isBl) (b := bt B) (n := n) (i := i) (by omega) (isBl_i.mpr (by omega))
                  exact ih (i + 1) m I2 G2 (by omega) (by omega) hm4 hno f2 K2 (by rw [← hh]; exact hst) _ _ _ _ _ _
        · refine wx_aload_n rfl (e := 32) rfl rfl ?_
          refine wx_iconst (v := (nI 0)) rfl (e := 33) rfl (by decide) ?_
          refine wx_aload_n rfl (e := 34) rfl rfl ?_
          refine wx_geti rfl (e := 37) rfl rfl ?_
          rw [hX2.2.1]
          refine wx_iconst (v := (nI 0)) rfl (e := 38) rfl (by decide) ?_
          refine wx_lconst (v := 0) rfl (e := 39) rfl (by decide) ?_
          refine wx_cv4 (mc := 0) (ms := 0) rfl (e := 42) rfl rfl (Nat.le_of_ble_eq_true rfl) ⟨by decide, by decide⟩ ?_
          refine c_X11_token K2.2.1 (by omega) ?_
          refine wx_ret rfl rfl ⟨by decide, by decide⟩ ?_
          have hs26 : stA (bt B) n m = n := by rw [hst, skb_n (by omega)]; omega
          have hk26 : kd (bt B) n m = 26 := by unfold kd; rw [kd_26]; omega
          exact hq _ _ (m + 1) (f2.tr (fmc.w _ _ _ _ _ _)) (K2.put (by omega) (by rw [hk26]; rfl) (by rw [hs26]) (fun z => absurd (hk26.symm.trans z) (by decide)) (fun z => absurd (hk26.symm.trans z) (by decide))) (fun j h1 h2 => Nat.lt_of_not_le (fun w => (h2 m (by omega)).1 hk26))
  refine wx_in (M := mX11_cut) rfl rfl rfl (Nat.le_of_ble_eq_true rfl) ?_
  refine wx_aload_n rfl (e := 1) rfl rfl ?_
  refine wx_iconst (v := (nI 0)) rfl (e := 2) rfl (by decide) ?_
  refine wx_puti rfl (e := 5) rfl rfl (by decide) ?_
  refine wx_iconst (v := (nI 0)) rfl (e := 6) rfl (by decide) ?_
  refine wx_istore_n (L2 := [_, _, _, _, _, _, _, _]) rfl (e := 7) rfl (by decide) rfl ?_
  exact loop (n + 1) 0 0 _ G (by omega) (by omega) (by omega) (fun j hj => absurd hj (Nat.not_lt_zero _)) ⟨fun q h1 _ _ _ => wr_other _ _ _ _ h1, fun k hk => wr_ne _ _ _ _ hk, fun _ _ => rfl⟩ ⟨by omega, wr_eq _ _ _ _, fun j hj => absurd hj (Nat.not_lt_zero _)⟩ rfl _ _ _ _ _ _

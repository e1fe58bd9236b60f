/-! the class: a tape cut into tokens -/
theorem wl_other (G : Nat → Nat → Int64) (c k : Nat) (v : Int64) {q : Nat} (h : q ≠ c) : wl G c k v q = G q := by
  funext j; rw [wl_at, if_neg h]
theorem wl_eq (G : Nat → Nat → Int64) (c k : Nat) (v : Int64) : wl G c k v c k = v := by rw [wl_at, if_pos rfl, if_pos rfl]
theorem wl_ne (G : Nat → Nat → Int64) (c k : Nat) (v : Int64) {j : Nat} (h : j ≠ k) : wl G c k v c j = G c j := by rw [wl_at, if_pos rfl, if_neg h]
/-- the class's rows of tokens -/
def CK (b : Nat → Nat) (n : Nat) (I : Nat → Nat → Int32) (G : Nat → Nat → Int64) (m : Nat) : Prop := m ≤ 402 ∧ I 34 4 = nI m ∧ ∀ j, j < m → I 36 j = nI (kd b n j) ∧ I 37 j = nI (stA b n j) ∧ (kd b n j = 24 → G 38 j = lN (vl_ 32 (wdT b n j))) ∧ (kd b n j = 25 → G 38 j = lN (nuT b n j))
def CW (G : Nat → Nat → Int64) : Prop := ∀ k, k < 24 → G 35 k = lN (vl_ 32 (kwd k))
def fck (I I2 : Nat → Nat → Int32) (G G2 : Nat → Nat → Int64) : Prop := (∀ q, q ≠ 34 → q ≠ 36 → q ≠ 37 → I2 q = I q) ∧ ∀ q, q ≠ 38 → G2 q = G q
theorem fck.rf {I : Nat → Nat → Int32} {G : Nat → Nat → Int64} : fck I I G G := ⟨fun _ _ _ _ => rfl, fun _ _ => rfl⟩
theorem fck.tr {I I2 I3 : Nat → Nat → Int32} {G G2 G3 : Nat → Nat → Int64} (h1 : fck I I2 G G2) (h2 : fck I2 I3 G2 G3) : fck I I3 G G3 := ⟨fun q a b c => (h2.1 q a b c).trans (h1.1 q a b c), fun q a => (h2.2 q a).trans (h1.2 q a)⟩
theorem fck.w {I : Nat → Nat → Int32} {G : Nat → Nat → Int64} (m : Nat) (k p c : Int32) (v : Int64) : fck I (wr (wr (wr I 36 m k) 37 m p) 34 4 c) G (wl G 38 m v) := ⟨fun q h1 h2 h3 => by rw [wr_other _ _ _ _ h1, wr_other _ _ _ _ h3, wr_other _ _ _ _ h2], fun q h => wl_other _ _ _ _ h⟩
theorem CK.put {b : Nat → Nat} {n : Nat} {I : Nat → Nat → Int32} {G : Nat → Nat → Int64} {m : Nat} (h : CK b n I G m) (hm : m < 402) {k p : Int32} {v : Int64} (hk : k = nI (kd b n m)) (hp_ : p = nI (stA b n m)) (h24 : kd b n m = 24 → v = lN (vl_ 32 (wdT b n m))) (h25 : kd b n m = 25 → v = lN (nuT b n m)) : CK b n (wr (wr (wr I 36 m k) 37 m p) 34 4 (nI (m + 1))) (wl G 38 m v) (m + 1) := by
  refine ⟨by omega, wr_eq _ _ _ _, fun j hj => ?_⟩
  have e36 : wr (wr (wr I 36 m k) 37 m p) 34 4 (nI (m + 1)) 36 j = wr I 36 m k 36 j := by rw [wr_other _ _ _ _ (by decide), wr_other _ _ _ _ (by decide)]
  have e37 : wr (wr (wr I 36 m k) 37 m p) 34 4 (nI (m + 1)) 37 j = wr (wr I 36 m k) 37 m p 37 j := by rw [wr_other _ _ _ _ (by decide)]
  rw [e36, e37]
  by_cases z : j = m
  · rw [z, wr_eq, wr_eq, wl_eq]; exact ⟨hk, hp_, h24, h25⟩
  · rw [wr_ne _ _ _ _ z, wr_ne _ _ _ _ z, wl_ne _ _ _ _ z, wr_other _ _ _ _ (by decide)]; exact h.2.2 j (by omega)
theorem c_X6_byte {d Lx t rt u : Nat} {I : Nat → Nat → Int32} {G : Nat → Nat → Int64} {Q : ab_Q} {B : Nat → Int32} {n i : Nat} (hT : TP I B n) (hi : i < n) (hq : Q (some (.int (nI (bt B i)))) (hp Lx t rt u I G)) : ab_call ab_MT (d + 1) 88 [.ref 31, .int (nI i)] (hp Lx t rt u I G) 0 0 Q := by
  have hn := hT.1
  refine wx_in (M := mX6_at) rfl rfl rfl (Nat.le_of_ble_eq_true rfl) ?_
  refine wx_iload_n rfl (e := 1) rfl rfl ?_
  refine wn_if_lt rfl (e := 4) rfl (by omega) ?_
  refine wx_iload_n rfl (e := 5) rfl rfl ?_
  refine wx_aload_n rfl (e := 6) rfl rfl ?_
  refine wx_geti rfl (e := 9) rfl rfl ?_
  rw [hT.2.1]
  refine wn_ic_ge rfl (e := 12) rfl (by omega) (by omega) (fun c_9 => absurd c_9 (by omega)) (fun c_9 => ?_)
  refine wx_aload_n rfl (e := 13) rfl rfl ?_
  refine wx_getr rfl (e := 16) rfl rfl rfl ?_
  refine wx_iload_n rfl (e := 17) rfl rfl ?_
  refine wn_bald rfl (e := 18) rfl rfl (by omega) (by decide) ?_
  rw [hT.2.2 i hi]
  refine wx_sipush (v := (nI 255)) rfl (e := 21) rfl (by decide) ?_
  refine wx_iand rfl (e := 22) rfl ?_
  rw [bt_ok]
  refine wx_goto rfl ?_
  refine wx_iret rfl rfl rfl ⟨by decide, by decide⟩ ?_
  exact hq
theorem c_X8_isLetter {d : Nat} {h : ab_H} {Q : ab_Q} {c : Nat} (hc : c < 256) (h1 : isLt c = true → Q (some (.int (nI 1))) h) (h0 : isLt c = false → Q (some (.int (nI 0))) h) : ab_call ab_MT (d + 1) 118 [.int (nI c)] h 0 0 Q := by
  refine wx_in (M := mX8_isLetter) rfl rfl rfl (Nat.le_of_ble_eq_true rfl) ?_
  refine wx_iload_n rfl (e := 1) rfl rfl ?_
  refine wx_bipush (v := (nI 97)) rfl (e := 3) rfl (by decide) ?_
  refine wn_ic_lt rfl (e := 6) rfl (by omega) (by omega) (fun c_3 => ?_) (fun c_3 => ?_)
  · refine wx_iconst (v := (nI 0)) rfl (e := 17) rfl (by decide) ?_
    refine wx_iret rfl rfl rfl ⟨by decide, by decide⟩ ?_
    exact h0 (by unfold isLt; exact decide_eq_false (by omega))
  · refine wx_iload_n rfl (e := 7) rfl rfl ?_
    refine wx_bipush (v := (nI 122)) rfl (e := 9) rfl (by decide) ?_
    refine wn_ic_gt rfl (e := 12) rfl (by omega) (by omega) (fun c_9 => ?_) (fun c_9 => ?_)
    · refine wx_iconst (v := (nI 0)) rfl (e := 17) rfl (by decide) ?_
      refine wx_iret rfl rfl rfl ⟨by decide, by decide⟩ ?_
      exact h0 (by unfold isLt; exact decide_eq_false (by omega))
    · refine wx_iconst (v := (nI 1)) rfl (e := 13) rfl (by decide) ?_
      refine wx_goto rfl ?_
      refine wx_iret rfl rfl rfl ⟨by decide, by decide⟩ ?_
      exact h1 (isLt_i.mpr (by omega))
theorem c_X8_isDigit {d : Nat} {h : ab_H} {Q : ab_Q} {c : Nat} (hc : c < 256) (h1 : isDg c = true → Q (some (.int (nI 1))) h) (h0 : isDg c = false → Q (some (.int (nI 0))) h) : ab_call ab_MT (d + 1) 119 [.int (nI c)] h 0 0 Q := by
  refine wx_in (M := mX8_isDigit) rfl rfl rfl (Nat.le_of_ble_eq_true rfl) ?_
  refine wx_iload_n rfl (e := 1) rfl rfl ?_
  refine wx_bipush (v := (nI 48)) rfl (e := 3) rfl (by decide) ?_
  refine wn_ic_lt rfl (e := 6) rfl (by omega) (by omega) (fun c_3 => ?_) (fun c_3 => ?_)
  · refine wx_iconst (v := (nI 0)) rfl (e := 17) rfl (by decide) ?_
    refine wx_iret rfl rfl rfl ⟨by decide, by decide⟩ ?_
    exact h0 (by unfold isDg; exact decide_eq_false (by omega))
  · refine wx_iload_n rfl (e := 7) rfl rfl ?_
    refine wx_bipush (v := (nI 57)) rfl (e := 9) rfl (by decide) ?_
    refine wn_ic_gt rfl (e := 12) rfl (by omega) (by omega) (fun c_9 => ?_) (fun c_9 => ?_)
    · refine wx_iconst (v := (nI 0)) rfl (e := 17) rfl (by decide) ?_
      refine wx_iret rfl rfl rfl ⟨by decide, by decide⟩ ?_
      exact h0 (by unfold isDg; exact decide_eq_false (by omega))
    · refine wx_iconst (v := (nI 1)) rfl (e := 13) rfl (by decide) ?_
      refine wx_goto rfl ?_
      refine wx_iret rfl rfl rfl ⟨by decide, by decide⟩ ?_
      exact h1 (isDg_i.mpr (by omega))
theorem c_X8_isBlank {d : Nat} {h : ab_H} {Q : ab_Q} {c : Nat} (hc : c < 256) (h1 : isBl c = true → Q (some (.int (nI 1))) h) (h0 : isBl c = false → Q (some (.int (nI 0))) h) : ab_call ab_MT (d + 1) 120 [.int (nI c)] h 0 0 Q := by
  refine wx_in (M := mX8_isBlank) rfl rfl rfl (Nat.le_of_ble_eq_true rfl) ?_
  refine wx_iload_n rfl (e := 1) rfl rfl ?_
  refine wx_bipush (v := (nI 32)) rfl (e := 3) rfl (by decide) ?_
  refine wn_ic_eq rfl (e := 6) rfl (by omega) (by omega) (fun c_3 => ?_) (fun c_3 => ?_)
  · refine wx_iconst (v := (nI 1)) rfl (e := 25) rfl (by decide) ?_
    refine wx_goto rfl ?_
    refine wx_iret rfl rfl rfl ⟨by decide, by decide⟩ ?_
    exact h1 (isBl_i.mpr (by omega))
  · refine wx_iload_n rfl (e := 7) rfl rfl ?_
    refine wx_bipush (v := (nI 9)) rfl (e := 9) rfl (by decide) ?_
    refine wn_ic_eq rfl (e := 12) rfl (by omega) (by omega) (fun c_9 => ?_) (fun c_9 => ?_)
    · refine wx_iconst (v := (nI 1)) rfl (e := 25) rfl (by decide) ?_
      refine wx_goto rfl ?_
      refine wx_iret rfl rfl rfl ⟨by decide, by decide⟩ ?_
      exact h1 (isBl_i.mpr (by omega))
    · refine wx_iload_n rfl (e := 13) rfl rfl ?_
      refine wx_bipush (v := (nI 10)) rfl (e := 15) rfl (by decide) ?_
      refine wn_ic_eq rfl (e := 18) rfl (by omega) (by omega) (fun c_15 => ?_) (fun c_15 => ?_)
      · refine wx_iconst (v := (nI 1)) rfl (e := 25) rfl (by decide) ?_
        refine wx_goto rfl ?_
        refine wx_iret rfl rfl rfl ⟨by decide, by decide⟩ ?_
        exact h1 (isBl_i.mpr (by omega))
      · refine wx_iload_n rfl (e := 19) rfl rfl ?_
        refine wx_bipush (v := (nI 13)) rfl (e := 21) rfl (by decide) ?_
        refine wn_ic_ne rfl (e := 24) rfl (by omega) (by omega) (fun c_21 => ?_) (fun c_21 => ?_)
        · refine wx_iconst (v := (nI 0)) rfl (e := 29) rfl (by decide) ?_
          refine wx_iret rfl rfl rfl ⟨by decide, by decide⟩ ?_
          exact h0 (by unfold isBl; exact decide_eq_false (by omega))
        · refine wx_iconst (v := (nI 1)) rfl (e := 25) rfl (by decide) ?_
          refine wx_goto rfl ?_
          refine wx_iret rfl rfl rfl ⟨by decide, by decide⟩ ?_
          exact h1 (isBl_i.mpr (by omega))
theorem c_X8_withLetter {d : Nat} {h : ab_H} {Q : ab_Q} {c w : Nat} (hc : c < 256) (h97 : 97 ≤ c) (hq : Q (some (.long (lN (c - 96 + 32 * w)))) h) : ab_call ab_MT (d + 1) 117 [.long (lN w), .int (nI c)] h 0 0 Q := by
  refine wx_in (M := mX8_withLetter) rfl rfl rfl (Nat.le_of_ble_eq_true rfl) ?_
  refine wx_lload_n rfl (e := 1) rfl rfl ?_
  refine wx_ldc2 (v := 32) rfl (e := 4) rfl (by decide) ?_
  refine wx_lmul rfl (e := 5) rfl ?_
  rw [show lN w * 32 = lN (w * 32) from lN_mul w 32]
  refine wx_iload_n rfl (e := 6) rfl rfl ?_
  refine wx_bipush (v := (nI 97)) rfl (e := 8) rfl (by decide) ?_
  refine wn_isub rfl (e := 9) rfl (by omega) ?_
  refine wx_iconst (v := (nI 1)) rfl (e := 10) rfl (by decide) ?_
  refine wn_iadd rfl (e := 11) rfl ?_
  refine wx_i2l rfl (e := 12) rfl ?_
  rw [nI_l (by omega)]
  refine wx_ladd rfl (e := 13) rfl ?_
  rw [lN_add, show w * 32 + (c - 97 + 1) = c - 96 + 32 * w by omega]
  refine wx_lret rfl rfl ⟨by decide, by decide⟩ ?_
  exact hq
theorem c_X8_kindAt {d Lx t rt u : Nat} {I : Nat → Nat → Int32} {G : Nat → Nat → Int64} {Q : ab_Q} {b : Nat → Nat} {n m : Nat} (hK : CK b n I G m) {j : Nat} (hj : j < m) (hq : Q (some (.int (nI (kd b n j)))) (hp Lx t rt u I G)) : ab_call ab_MT (d + 1) 121 [.ref 34, .int (nI j)] (hp Lx t rt u I G) 0 0 Q := by
  have hm := hK.1
  refine wx_in (M := mX8_kindAt) rfl rfl rfl (Nat.le_of_ble_eq_true rfl) ?_
  refine wx_iload_n rfl (e := 1) rfl rfl ?_
  refine wn_if_lt rfl (e := 4) rfl (by omega) ?_
  refine wx_iload_n rfl (e := 5) rfl rfl ?_
  refine wx_aload_n rfl (e := 6) rfl rfl ?_
  refine wx_geti rfl (e := 9) rfl rfl ?_
  rw [hK.2.1]
  refine wn_ic_ge rfl (e := 12) rfl (by omega) (by omega) (fun c_9 => absurd c_9 (by omega)) (fun c_9 => ?_)
  refine wx_aload_n rfl (e := 13) rfl rfl ?_
  refine wx_getr rfl (e := 16) rfl rfl rfl ?_
  refine wx_iload_n rfl (e := 17) rfl rfl ?_
  refine wn_iald rfl (e := 18) rfl rfl (by omega) (by decide) ?_
  rw [(hK.2.2 j hj).1]
  refine wx_goto rfl ?_
  refine wx_iret rfl rfl rfl ⟨by decide, by decide⟩ ?_
  exact hq
theorem c_X8_placeAt {d Lx t rt u : Nat} {I : Nat → Nat → Int32} {G : Nat → Nat → Int64} {Q : ab_Q} {b : Nat → Nat} {n m : Nat} (hK : CK b n I G m) {j : Nat} (hj : j < m) (hq : Q (some (.int (nI (stA b n j)))) (hp Lx t rt u I G)) : ab_call ab_MT (d + 1) 122 [.ref 34, .int (nI j)] (hp Lx t rt u I G) 0 0 Q := by
  have hm := hK.1
  refine wx_in (M := mX8_placeAt) rfl rfl rfl (Nat.le_of_ble_eq_true rfl) ?_
  refine wx_iload_n rfl (e := 1) rfl rfl ?_
  refine wn_if_lt rfl (e := 4) rfl (by omega) ?_
  refine wx_iload_n rfl (e := 5) rfl rfl ?_
  refine wx_aload_n rfl (e := 6) rfl rfl ?_
  refine wx_geti rfl (e := 9) rfl rfl ?_
  rw [hK.2.1]
  refine wn_ic_ge rfl (e := 12) rfl (by omega) (by omega) (fun c_9 => absurd c_9 (by omega)) (fun c_9 => ?_)
  refine wx_aload_n rfl (e := 13) rfl rfl ?_
  refine wx_getr rfl (e := 16) rfl rfl rfl ?_
  refine wx_iload_n rfl (e := 17) rfl rfl ?_
  refine wn_iald rfl (e := 18) rfl rfl (by omega) (by decide) ?_
  rw [(hK.2.2 j hj).2.1]
  refine wx_goto rfl ?_
  refine wx_iret rfl rfl rfl ⟨by decide, by decide⟩ ?_
  exact hq
theorem c_X8_valueAt {d Lx t rt u : Nat} {I : Nat → Nat → Int32} {G : Nat → Nat → Int64} {Q : ab_Q} {b : Nat → Nat} {n m : Nat} (hK : CK b n I G m) {j : Nat} (hj : j < m) (hq : Q (some (.long (G 38 j))) (hp Lx t rt u I G)) : ab_call ab_MT (d + 1) 123 [.ref 34, .int (nI j)] (hp Lx t rt u I G) 0 0 Q := by
  have hm := hK.1
  refine wx_in (M := mX8_valueAt) rfl rfl rfl (Nat.le_of_ble_eq_true rfl) ?_
  refine wx_iload_n rfl (e := 1) rfl rfl ?_
  refine wn_if_lt rfl (e := 4) rfl (by omega) ?_
  refine wx_iload_n rfl (e := 5) rfl rfl ?_
  refine wx_aload_n rfl (e := 6) rfl rfl ?_
  refine wx_geti rfl (e := 9) rfl rfl ?_
  rw [hK.2.1]
  refine wn_ic_ge rfl (e := 12) rfl (by omega) (by omega) (fun c_9 => absurd c_9 (by omega)) (fun c_9 => ?_)
  refine wx_aload_n rfl (e := 13) rfl rfl ?_
  refine wx_getr rfl (e := 16) rfl rfl rfl ?_
  refine wx_iload_n rfl (e := 17) rfl rfl ?_
  refine wn_lald rfl (e := 18) rfl rfl (by omega) (by decide) ?_
  refine wx_goto rfl ?_
  refine wx_lret rfl rfl ⟨by decide, by decide⟩ ?_
  exact hq
theorem c_X8_put {d Lx t rt u : Nat} {I : Nat → Nat → Int32} {G : Nat → Nat → Int64} {Q : ab_Q} {m : Nat} (hm : I 34 4 = nI m) (hm2 : m < 402) {k p : Int32} {v : Int64} (hq : Q none (hp Lx t rt u (wr (wr (wr I 36 m k) 37 m p) 34 4 (nI (m + 1))) (wl G 38 m v))) : ab_call ab_MT (d + 1) 129 [.ref 34, .int k, .int p, .long v] (hp Lx t rt u I G) 0 0 Q := by
  refine wx_in (M := mX8_put) rfl rfl rfl (Nat.le_of_ble_eq_true rfl) ?_
  refine wx_aload_n rfl (e := 1) rfl rfl ?_
  refine wx_geti rfl (e := 4) rfl rfl ?_
  rw [hm]
  refine wn_if_lt rfl (e := 7) rfl (by omega) ?_
  refine wx_aload_n rfl (e := 8) rfl rfl ?_
  refine wx_geti rfl (e := 11) rfl rfl ?_
  rw [hm]
  refine wx_aload_n rfl (e := 12) rfl rfl ?_
  refine wx_getr rfl (e := 15) rfl rfl rfl ?_
  refine wx_alen rfl (e := 16) rfl rfl (by decide) rfl ?_
  refine wn_ic_ge rfl (e := 19) rfl (by omega) (by omega) (fun c_16 => absurd c_16 (by omega)) (fun c_16 => ?_)
  refine wx_aload_n rfl (e := 20) rfl rfl ?_
  refine wx_getr rfl (e := 23) rfl rfl rfl ?_
  refine wx_aload_n rfl (e := 24) rfl rfl ?_
  refine wx_geti rfl (e := 27) rfl rfl ?_
  rw [hm]
  refine wx_iload_n rfl (e := 28) rfl rfl ?_
  refine wn_iast rfl (e := 29) rfl rfl (by decide) (by omega) (by decide) ?_
  refine wx_aload_n rfl (e := 30) rfl rfl ?_
  refine wx_getr rfl (e := 33) rfl rfl rfl ?_
  refine wx_aload_n rfl (e := 34) rfl rfl ?_
  refine wx_geti rfl (e := 37) rfl rfl ?_
  rw [wr_other _ _ _ _ (by decide), hm]
  refine wx_iload_n rfl (e := 38) rfl rfl ?_
  refine wn_iast rfl (e := 39) rfl rfl (by decide) (by omega) (by decide) ?_
  refine wx_aload_n rfl (e := 40) rfl rfl ?_
  refine wx_getr rfl (e := 43) rfl rfl rfl ?_
  refine wx_aload_n rfl (e := 44) rfl rfl ?_
  refine wx_geti rfl (e := 47) rfl rfl ?_
  rw [wr_other _ _ _ _ (by decide), wr_other _ _ _ _ (by decide), hm]
  refine wx_lload_n rfl (e := 48) rfl rfl ?_
  refine wn_last rfl (e := 49) rfl rfl (by decide) (by omega) (by decide) ?_
  refine wx_aload_n rfl (e := 50) rfl rfl ?_
  refine wx_dup rfl (e := 51) rfl rfl ?_
  refine wx_geti rfl (e := 54) rfl rfl ?_
  rw [wr_other _ _ _ _ (by decide), wr_other _ _ _ _ (by decide), hm]
  refine wx_iconst (v := (nI 1)) rfl (e := 55) rfl (by decide) ?_
  refine wn_iadd rfl (e := 56) rfl ?_
  refine wx_puti rfl (e := 59) rfl rfl (by decide) ?_
  refine wx_ret rfl rfl ⟨by decide, by decide⟩ ?_
  exact hq
theorem c_X8_wordKind {d Lx t rt u : Nat} {I : Nat → Nat → Int32} {G : Nat → Nat → Int64} {Q : ab_Q} {xs : List Nat} (hW : CW G) (hx : ltr xs) (hl : xs.length ≤ 8) (hq : Q (some (.int (nI (wkd xs)))) (hp Lx t rt u I G)) : ab_call ab_MT (d + 1) 128 [.ref 34, .long (lN (vl_ 32 xs))] (hp Lx t rt u I G) 0 0 Q := by
  have loop : ∀ (m_ : Nat) (i : Nat), i ≤ 24 → 24 - i < m_ → wk xs (24 - i) i = wkd xs → WP d mX8_wordKind Q 2 [some (.ref 34), some (.long (lN (vl_ 32 xs))), none, some (.int (nI i))] [] (hp Lx t rt u I G) 0 0 := by
    intro m_
    induction m_ with
    | zero => intro i h1 h2; omega
    | succ m_ ih =>
      intro i h1 h2 hv
      refine wx_iload_n rfl (e := 3) rfl rfl ?_
      refine wx_bipush (v := (nI 24)) rfl (e := 5) rfl (by decide) ?_
      refine wn_ic_ge rfl (e := 8) rfl (by omega) (by omega) (fun c_5 => ?_) (fun c_5 => ?_)
      · refine wx_bipush (v := (nI 24)) rfl (e := 29) rfl (by decide) ?_
        refine wx_iret rfl rfl rfl ⟨by decide, by decide⟩ ?_
        have ei : i = 24 := by omega
        subst ei
        have e24 : wkd xs = 24 := by rw [← hv]; rfl
        rw [e24] at hq
        exact hq
      · refine wx_aload_n rfl (e := 9) rfl rfl ?_
        refine wx_getr rfl (e := 12) rfl rfl rfl ?_
        refine wx_iload_n rfl (e := 13) rfl rfl ?_
        refine wn_lald rfl (e := 14) rfl rfl (by omega) (by decide) ?_
        rw [hW i (by omega)]
        refine wx_lload_n rfl (e := 15) rfl rfl ?_
        refine wx_lcmp rfl (e := 16) rfl ?_
        refine wx_if_ne rfl (e := 19) rfl (fun c_16 => ?_) (fun c_16 => ?_)
        · have hne : ¬ kwd i = xs := fun z => c_16 ((lg_cmp_eq _ _).mpr (by rw [z]))
          refine wn_iinc (m := 1) (L2 := [_, _, _, _]) rfl (e := 24) rfl rfl (by decide) rfl ?_
          refine wx_goto rfl ?_
          exact ih (i + 1) (by omega) (by omega) (by rw [← hv, show 24 - i = 24 - (i + 1) + 1 by omega, wk, if_neg hne])
        · have heq : kwd i = xs := vl_inj (by decide) _ _ (kw_ltr i (by omega)).1 hx ((pk_lEQ (by have := vl_8 (q := 32) (by decide) (by decide) (kw_ltr i (by omega)).1 (kw_ltr i (by omega)).2; omega) (by have := vl_8 (q := 32) (by decide) (by decide) hx hl; omega)).mp ((lg_cmp_eq _ _).mp c_16))
          refine wx_iload_n rfl (e := 20) rfl rfl ?_
          refine wx_iret rfl rfl rfl ⟨by decide, by decide⟩ ?_
          have e0 : wkd xs = i := by rw [← hv, show 24 - i = 24 - (i + 1) + 1 by omega, wk, if_pos heq]
          rw [e0] at hq
          exact hq
  refine wx_in (M := mX8_wordKind) rfl rfl rfl (Nat.le_of_ble_eq_true rfl) ?_
  refine wx_iconst (v := (nI 0)) rfl (e := 1) rfl (by decide) ?_
  refine wx_istore_n (L2 := [_, _, _, _]) rfl (e := 2) rfl (by decide) rfl ?_
  exact loop 25 0 (by omega) (by omega) rfl
set_option maxHeartbeats 1000000 in
theorem c_X8_addLetters {d Lx t rt u : Nat} {I : Nat → Nat → Int32} {G : Nat → Nat → Int64} {Q : ab_Q} {B : Nat → Int32} {n m i : Nat} (hT : TP I B n) (hK : CK (bt B) n I G m) (hm2 : m < 402) (hi : i < n) (hst : stA (bt B) n m = i) (hW : CW G) (hL : isLt (bt B i) = true) (hq : ∀ I2 G2, fck I I2 G G2 → CK (bt B) n I2 G2 (m + 1) → Q (some (.int (nI (enA (bt B) n i - 1)))) (hp Lx t rt u I2 G2)) : ab_call ab_MT (d + 2) 126 [.ref 34, .ref 31, .int (nI i)] (hp Lx t rt u I G) 0 0 Q := by
  have hn := hT.1
  have hge := rn_gt (p := isLt) (b := bt B) hi hL
  have hle := rn_le isLt (bt B) (Nat.le_of_lt hi)
  have hltr : ltr (lt_ (bt B) i ((rn isLt (bt B) n i) - i)) := lt_ltr _ (fun j h1 h2 => rn_all isLt (bt B) n i j h1 (by omega))
  have fin : ∀ x4, WP (d + 1) mX8_addLetters Q 43 [some (.ref 34), some (.ref 31), some (.int (nI i)), some (.long (lN (vl_ 32 (lt_ (bt B) i ((rn isLt (bt B) n i) - i))))), x4, some (.int (nI (rn isLt (bt B) n i)))] [] (hp Lx t rt u I G) 0 0 := by
    intro x4
    refine wx_aload_n rfl (e := 44) rfl rfl ?_
    refine wx_iload rfl (e := 46) rfl rfl ?_
    refine wx_iload_n rfl (e := 47) rfl rfl ?_
    refine wn_isub rfl (e := 48) rfl (by omega) ?_
    refine wx_bipush (v := (nI 8)) rfl (e := 50) rfl (by decide) ?_
    refine wn_ic_le rfl (e := 53) rfl (by omega) (by omega) (fun c_50 => ?_) (fun c_50 => ?_)
    · refine wx_aload_n rfl (e := 59) rfl rfl ?_
      refine wx_lload_n rfl (e := 60) rfl rfl ?_
      refine wx_cv1 (mc := 0) (ms := 0) rfl (e := 63) rfl rfl (Nat.le_of_ble_eq_true rfl) ⟨by decide, by decide⟩ ?_
      refine c_X8_wordKind hW hltr (by rw [lt_len]; omega) ?_
      refine wx_iload_n rfl (e := 64) rfl rfl ?_
      refine wx_lload_n rfl (e := 65) rfl rfl ?_
      refine wx_cv3 (mc := 0) (ms := 0) rfl (e := 68) rfl rfl (Nat.le_of_ble_eq_true rfl) ⟨by decide, by decide⟩ ?_
      refine c_X8_put hK.2.1 hm2 ?_
      refine wx_iload rfl (e := 70) rfl rfl ?_
      refine wx_iconst (v := (nI 1)) rfl (e := 71) rfl (by decide) ?_
      refine wn_isub rfl (e := 72) rfl (by omega) ?_
      refine wx_iret rfl rfl rfl ⟨by decide, by decide⟩ ?_
      have eA : enA (bt B) n i = (rn isLt (bt B) n i) := by unfold enA; rw [if_pos hL]
      rw [eA] at hq
      refine hq _ _ (fck.w _ _ _ _ _) (hK.put hm2 ?_ (by rw [hst]) (fun _ => by unfold wdT; rw [hst]) (fun z => absurd (kd_25 z).1 (by rw [hst, hL]; decide)))
      unfold kd
      rw [hst]
      unfold kdA
      rw [if_neg (by omega), if_pos hL, if_neg (by omega)]
    · refine wx_bipush (v := (nI 27)) rfl (e := 55) rfl (by decide) ?_
      refine wx_goto rfl ?_
      refine wx_iload_n rfl (e := 64) rfl rfl ?_
      refine wx_lload_n rfl (e := 65) rfl rfl ?_
      refine wx_cv3 (mc := 0) (ms := 0) rfl (e := 68) rfl rfl (Nat.le_of_ble_eq_true rfl) ⟨by decide, by decide⟩ ?_
      refine c_X8_put hK.2.1 hm2 ?_
      refine wx_iload rfl (e := 70) rfl rfl ?_
      refine wx_iconst (v := (nI 1)) rfl (e := 71) rfl (by decide) ?_
      refine wn_isub rfl (e := 72) rfl (by omega) ?_
      refine wx_iret rfl rfl rfl ⟨by decide, by decide⟩ ?_
      have eA : enA (bt B) n i = (rn isLt (bt B) n i) := by unfold enA; rw [if_pos hL]
      rw [eA] at hq
      refine hq _ _ (fck.w _ _ _ _ _) (hK.put hm2 ?_ (by rw [hst]) (fun _ => by unfold wdT; rw [hst]) (fun z => absurd (kd_25 z).1 (by rw [hst, hL]; decide)))
      unfold kd
      rw [hst]
      unfold kdA
      rw [if_neg (by omega), if_pos hL, if_pos (by omega)]
  have loop : ∀ (m_ : Nat) (e : Nat), i ≤ e → e ≤ n → n - e < m_ → rn isLt (bt B) n e = (rn isLt (bt B) n i) → ∀ x4, WP (d + 1) mX8_addLetters Q 5 [some (.ref 34), some (.ref 31), some (.int (nI i)), some (.long (lN (vl_ 32 (lt_ (bt B) i (e - i))))), x4, some (.int (nI e))] [] (hp Lx t rt u I G) 0 0 := by
    intro m_
    induction m_ with
    | zero => intro e h1 h2 h3; omega
    | succ m_ ih =>
      intro e h1 h2 h3 h4 x4
      refine wx_iload rfl (e := 7) rfl rfl ?_
      refine wx_aload_n rfl (e := 8) rfl rfl ?_
      refine wx_cv0 (mc := 0) (ms := 0) rfl (e := 11) rfl rfl (Nat.le_of_ble_eq_true rfl) ⟨by decide, by decide⟩ ?_
      refine c_X6_length ?_
      rw [hT.2.1]
      refine wn_ic_ge rfl (e := 14) rfl (by omega) (by omega) (fun c_11 => ?_) (fun c_11 => ?_)
      · have ee : e = (rn isLt (bt B) n i) := by rw [← h4, rn_n (by omega)]
        subst ee
        exact fin _
      · refine wx_aload_n rfl (e := 15) rfl rfl ?_
        refine wx_iload rfl (e := 17) rfl rfl ?_
        refine wx_cv1 (mc := 0) (ms := 0) rfl (e := 20) rfl rfl (Nat.le_of_ble_eq_true rfl) ⟨by decide, by decide⟩ ?_
        refine c_X6_byte hT (by omega) ?_
        have hbt := bt_lt B e
        refine wx_cs1 (mc := 0) (ms := 0) rfl (e := 23) rfl (Nat.le_of_ble_eq_true rfl) ⟨by decide, by decide⟩ ?_
        refine c_X8_isLetter hbt (fun hy => ?_) (fun hy => ?_)
        · refine wn_if_eq rfl (e := 26) rfl (by omega) (fun c_23 => absurd c_23 (by omega)) (fun c_23 => ?_)
          refine wx_lload_n rfl (e := 27) rfl rfl ?_
          refine wx_aload_n rfl (e := 28) rfl rfl ?_
          refine wx_iload rfl (e := 30) rfl rfl ?_
          refine wx_cv1 (mc := 0) (ms := 0) rfl (e := 33) rfl rfl (Nat.le_of_ble_eq_true rfl) ⟨by decide, by decide⟩ ?_
          refine c_X6_byte hT (by omega) ?_
          refine wx_cs2 (mc := 0) (ms := 0) rfl (e := 36) rfl (Nat.le_of_ble_eq_true rfl) ⟨by decide, by decide⟩ ?_
          refine c_X8_withLetter hbt (isLt_i.mp hy).1 ?_
          refine wx_lstore_n (L2 := [_, _, _, _, _, _]) rfl (e := 37) rfl (by decide) rfl ?_
          refine wn_iinc (m := 1) (L2 := [_, _, _, _, _, _]) rfl (e := 40) rfl rfl (by decide) rfl ?_
          refine wx_goto rfl ?_
          have hE := rn_y (p := isLt) (b := bt B) (n := n) (by omega) hy
          have hh := ih (e + 1) (by omega) (by omega) (by omega) (by rw [← hE]; exact h4)
          rw [show e + 1 - i = e - i + 1 by omega, lt_, vl_, show i + (e - i) = e by omega] at hh
          exact hh _
        · refine wn_if_eq rfl (e := 26) rfl (by omega) (fun c_23 => ?_) (fun c_23 => absurd c_23 (by omega))
          have ee : e = (rn isLt (bt B) n i) := by rw [← h4, rn_n (by rw [hy]; simp)]
          subst ee
          exact fin _
  refine wx_in (M := mX8_addLetters) rfl rfl rfl (Nat.le_of_ble_eq_true rfl) ?_
  refine wx_lconst (v := 0) rfl (e := 1) rfl (by decide) ?_
  refine wx_lstore_n (L2 := [_, _, _, _, _, _]) rfl (e := 2) rfl (by decide) rfl ?_
  refine wx_iload_n rfl (e := 3) rfl rfl ?_
  refine wx_istore (L2 := [_, _, _, _, _, _]) rfl (e := 5) rfl (by decide) rfl ?_
  have hh := loop (n - i + 1) i (by omega) (by omega) (by omega) rfl
  rw [Nat.sub_self] at hh
  exact hh _
set_option maxHeartbeats 1000000 in
theorem c_X8_addDigits {d Lx t rt u : Nat} {I : Nat → Nat → Int32} {G : Nat → Nat → Int64} {Q : ab_Q} {B : Nat → Int32} {n m i : Nat} (hT : TP I B n) (hK : CK (bt B) n I G m) (hm2 : m < 402) (hi : i < n) (hst : stA (bt B) n m = i) (hL : isLt (bt B i) = false) (hD : isDg (bt B i) = true) (hq : ∀ I2 G2, fck I I2 G G2 → CK (bt B) n I2 G2 (m + 1) → Q (some (.int (nI (enA (bt B) n i - 1)))) (hp Lx t rt u I2 G2)) : ab_call ab_MT (d + 2) 127 [.ref 34, .ref 31, .int (nI i)] (hp Lx t rt u I G) 0 0 Q := by
  have hn := hT.1
  have hge := rn_gt (p := isDg) (b := bt B) hi hD
  have hle := rn_le isDg (bt B) (Nat.le_of_lt hi)
  have fin : WP (d + 1) mX8_addDigits Q 47 [some (.ref 34), some (.ref 31), some (.int (nI i)), some (.int (nI (dg_ (bt B) i ((rn isDg (bt B) n i) - i)))), some (.int (nI (rn isDg (bt B) n i)))] [] (hp Lx t rt u I G) 0 0 := by
    refine wx_aload_n rfl (e := 48) rfl rfl ?_
    refine wx_iload rfl (e := 50) rfl rfl ?_
    refine wx_iload_n rfl (e := 51) rfl rfl ?_
    refine wn_isub rfl (e := 52) rfl (by omega) ?_
    refine wx_iconst (v := (nI 4)) rfl (e := 53) rfl (by decide) ?_
    refine wn_ic_le rfl (e := 56) rfl (by omega) (by omega) (fun c_53 => ?_) (fun c_53 => ?_)
    · refine wx_bipush (v := (nI 25)) rfl (e := 63) rfl (by decide) ?_
      refine wx_iload_n rfl (e := 64) rfl rfl ?_
      refine wx_iload_n rfl (e := 65) rfl rfl ?_
      refine wx_i2l rfl (e := 66) rfl ?_
      refine wx_cv3 (mc := 0) (ms := 0) rfl (e := 69) rfl rfl (Nat.le_of_ble_eq_true rfl) ⟨by decide, by decide⟩ ?_
      refine c_X8_put hK.2.1 hm2 ?_
      refine wx_iload rfl (e := 71) rfl rfl ?_
      refine wx_iconst (v := (nI 1)) rfl (e := 72) rfl (by decide) ?_
      refine wn_isub rfl (e := 73) rfl (by omega) ?_
      refine wx_iret rfl rfl rfl ⟨by decide, by decide⟩ ?_
      have eA : enA (bt B) n i = (rn isDg (bt B) n i) := by unfold enA; rw [if_neg (by rw [hL]; decide), if_pos hD]
      rw [eA] at hq
      refine hq _ _ (fck.w _ _ _ _ _) (hK.put hm2 ?_ (by rw [hst]) (fun z => absurd (kd_24 z).1 (by rw [hst, hL]; decide)) (fun z => ?_))
      · unfold kd; rw [hst]; unfold kdA; rw [if_neg (by omega), if_neg (by rw [hL]; decide), if_pos hD, if_neg (by omega)]
      · have hnu := nu_lt z
        unfold nuT at hnu ⊢
        rw [hst] at hnu ⊢
        exact nI_l (by omega)
    · refine wx_bipush (v := (nI 27)) rfl (e := 58) rfl (by decide) ?_
      refine wx_goto rfl ?_
      refine wx_iload_n rfl (e := 64) rfl rfl ?_
      refine wx_iload_n rfl (e := 65) rfl rfl ?_
      refine wx_i2l rfl (e := 66) rfl ?_
      refine wx_cv3 (mc := 0) (ms := 0) rfl (e := 69) rfl rfl (Nat.le_of_ble_eq_true rfl) ⟨by decide, by decide⟩ ?_
      refine c_X8_put hK.2.1 hm2 ?_
      refine wx_iload rfl (e := 71) rfl rfl ?_
      refine wx_iconst (v := (nI 1)) rfl (e := 72) rfl (by decide) ?_
      refine wn_isub rfl (e := 73) rfl (by omega) ?_
      refine wx_iret rfl rfl rfl ⟨by decide, by decide⟩ ?_
      have eA : enA (bt B) n i = (rn isDg (bt B) n i) := by unfold enA; rw [if_neg (by rw [hL]; decide), if_pos hD]
      rw [eA] at hq
      refine hq _ _ (fck.w _ _ _ _ _) (hK.put hm2 ?_ (by rw [hst]) (fun z => absurd (kd_24 z).1 (by rw [hst, hL]; decide)) (fun z => ?_))
      · unfold kd; rw [hst]; unfold kdA; rw [if_neg (by omega), if_neg (by rw [hL]; decide), if_pos hD, if_pos (by omega)]
      · have hnu := nu_lt z
        unfold nuT at hnu ⊢
        rw [hst] at hnu ⊢
        exact nI_l (by omega)
  have loop : ∀ (m_ : Nat) (e : Nat), i ≤ e → e ≤ n → n - e < m_ → rn isDg (bt B) n e = (rn isDg (bt B) n i) → WP (d + 1) mX8_addDigits Q 5 [some (.ref 34), some (.ref 31), some (.int (nI i)), some (.int (nI (dg_ (bt B) i (e - i)))), some (.int (nI e))] [] (hp Lx t rt u I G) 0 0 := by
    intro m_
    induction m_ with
    | zero => intro e h1 h2 h3; omega
    | succ m_ ih =>
      intro e h1 h2 h3 h4
      refine wx_iload rfl (e := 7) rfl rfl ?_
      refine wx_aload_n rfl (e := 8) rfl rfl ?_
      refine wx_cv0 (mc := 0) (ms := 0) rfl (e := 11) rfl rfl (Nat.le_of_ble_eq_true rfl) ⟨by decide, by decide⟩ ?_
      refine c_X6_length ?_
      rw [hT.2.1]
      refine wn_ic_ge rfl (e := 14) rfl (by omega) (by omega) (fun c_11 => ?_) (fun c_11 => ?_)
      · have ee : e = (rn isDg (bt B) n i) := by rw [← h4, rn_n (by omega)]
        subst ee
        exact fin
      · refine wx_aload_n rfl (e := 15) rfl rfl ?_
        refine wx_iload rfl (e := 17) rfl rfl ?_
        refine wx_cv1 (mc := 0) (ms := 0) rfl (e := 20) rfl rfl (Nat.le_of_ble_eq_true rfl) ⟨by decide, by decide⟩ ?_
        refine c_X6_byte hT (by omega) ?_
        have hbt := bt_lt B e
        refine wx_cs1 (mc := 0) (ms := 0) rfl (e := 23) rfl (Nat.le_of_ble_eq_true rfl) ⟨by decide, by decide⟩ ?_
        refine c_X8_isDigit hbt (fun hy => ?_) (fun hy => ?_)
        · have hy2 := isDg_i.mp hy
          refine wn_if_eq rfl (e := 26) rfl (by omega) (fun c_23 => absurd c_23 (by omega)) (fun c_23 => ?_)
          refine wx_iload_n rfl (e := 27) rfl rfl ?_
          refine wx_bipush (v := (nI 10)) rfl (e := 29) rfl (by decide) ?_
          refine wx_imul rfl (e := 30) rfl ?_
          rw [pk_mul]
          refine wx_aload_n rfl (e := 31) rfl rfl ?_
          refine wx_iload rfl (e := 33) rfl rfl ?_
          refine wx_cv1 (mc := 0) (ms := 0) rfl (e := 36) rfl rfl (Nat.le_of_ble_eq_true rfl) ⟨by decide, by decide⟩ ?_
          refine c_X6_byte hT (by omega) ?_
          refine wx_bipush (v := (nI 48)) rfl (e := 38) rfl (by decide) ?_
          refine wn_isub rfl (e := 39) rfl (by omega) ?_
          refine wx_iadd rfl (e := 40) rfl ?_
          rw [nI_add]
          refine wx_istore_n (L2 := [_, _, _, _, _]) rfl (e := 41) rfl (by decide) rfl ?_
          refine wn_iinc (m := 1) (L2 := [_, _, _, _, _]) rfl (e := 44) rfl rfl (by decide) rfl ?_
          refine wx_goto rfl ?_
          have hE := rn_y (p := isDg) (b := bt B) (n := n) (by omega) hy
          have hh := ih (e + 1) (by omega) (by omega) (by omega) (by rw [← hE]; exact h4)
          rw [show e + 1 - i = e - i + 1 by omega, dg_, show i + (e - i) = e by omega, Nat.mul_comm 10] at hh
          exact hh
        · refine wn_if_eq rfl (e := 26) rfl (by omega) (fun c_23 => ?_) (fun c_23 => absurd c_23 (by omega))
          have ee : e = (rn isDg (bt B) n i) := by rw [← h4, rn_n (by rw [hy]; simp)]
          subst ee
          exact fin
  refine wx_in (M := mX8_addDigits) rfl rfl rfl (Nat.le_of_ble_eq_true rfl) ?_
  refine wx_iconst (v := (nI 0)) rfl (e := 1) rfl (by decide) ?_
  refine wx_istore_n (L2 := [_, _, _, _, _]) rfl (e := 2) rfl (by decide) rfl ?_
  refine wx_iload_n rfl (e := 3) rfl rfl ?_
  refine wx_istore (L2 := [_, _, _, _, _]) rfl (e := 5) rfl (by decide) rfl ?_
  have hh := loop (n - i + 1) i (by omega) (by omega) (by omega) rfl
  rw [Nat.sub_self] at hh
  exact hh
def SP (xs : Nat → Int32) (I : Nat → Nat → Int32) : Prop := ∀ a, 1000000 ≤ a → I a = ab_spI xs a
def w1n (j : Nat) : Nat := [59, 61, 43, 45, 42, 47, 60, 40, 41].getD j 0
theorem w1_b : ∀ k, k < 256 → ∀ j, j < 9 → (ab_w1.getD j 0 = (nI k).toInt8.toInt32 ↔ w1n j = k) := by decide +kernel
theorem w1_s : ∀ j, j < 9 → sgS (w1n j) = true := by decide +kernel
theorem w1_n {k : Nat} (h : ∀ j, j < 9 → w1n j ≠ k) : sgS k = false := by
  unfold sgS
  apply decide_eq_false
  have h0 := h 0 (by decide); have h1 := h 1 (by decide); have h2 := h 2 (by decide); have h3 := h 3 (by decide); have h4 := h 4 (by decide); have h5 := h 5 (by decide); have h6 := h 6 (by decide); have h7 := h 7 (by decide); have h8 := h 8 (by decide)
  simp only [w1n, List.getD_cons_zero, List.getD_cons_succ] at h0 h1 h2 h3 h4 h5 h6 h7 h8
  omega
theorem i2c_k : ∀ k, k < 256 → ((nI k).toUInt32 % 65536).toInt32 = nI k := by decide +kernel
theorem sp_1 {xs : Nat → Int32} {I : Nat → Nat → Int32} (h : SP xs I) : I 1000002 1 = 0 := by rw [h 1000002 (by decide)]; rfl
theorem sp_12 {xs : Nat → Int32} {I : Nat → Nat → Int32} (h : SP xs I) (j : Nat) : I 1000012 j = ab_w1.getD j 0 := by rw [h 1000012 (by decide)]; rfl
theorem c_J0_isLatin1 {d Lx t rt u : Nat} {I : Nat → Nat → Int32} {G : Nat → Nat → Int64} {Q : ab_Q} {xs : Nat → Int32} (hs : SP xs I) (hq : Q (some (.int (nI 1))) (hp Lx t rt u I G)) : ab_call ab_MT (d + 1) 307 [.ref 1000002] (hp Lx t rt u I G) 0 0 Q := by
  refine wx_in (M := mJ0_isLatin1_aae02) rfl rfl rfl (Nat.le_of_ble_eq_true rfl) ?_
  refine wx_gets rfl (e := 3) rfl ?_
  refine wx_if_eq rfl (e := 6) rfl (fun c_3 => absurd c_3 (by decide)) (fun c_3 => ?_)
  refine wx_aload_n rfl (e := 7) rfl rfl ?_
  refine wx_geti rfl (e := 10) rfl rfl ?_
  rw [sp_1 hs]
  refine wx_if_ne rfl (e := 13) rfl (fun c_10 => absurd rfl c_10) (fun c_10 => ?_)
  refine wx_iconst (v := (nI 1)) rfl (e := 14) rfl (by decide) ?_
  refine wx_goto rfl ?_
  refine wx_iret rfl rfl rfl ⟨by decide, by decide⟩ ?_
  exact hq
theorem c_J0_coder {d Lx t rt u : Nat} {I : Nat → Nat → Int32} {G : Nat → Nat → Int64} {Q : ab_Q} {xs : Nat → Int32} (hs : SP xs I) (hq : Q (some (.int 0)) (hp Lx t rt u I G)) : ab_call ab_MT (d + 1) 306 [.ref 1000002] (hp Lx t rt u I G) 0 0 Q := by
  refine wx_in (M := mJ0_coder_7d493) rfl rfl rfl (Nat.le_of_ble_eq_true rfl) ?_
  refine wx_gets rfl (e := 3) rfl ?_
  refine wx_if_eq rfl (e := 6) rfl (fun c_3 => absurd c_3 (by decide)) (fun c_3 => ?_)
  refine wx_aload_n rfl (e := 7) rfl rfl ?_
  refine wx_geti rfl (e := 10) rfl rfl ?_
  rw [sp_1 hs]
  refine wx_goto rfl ?_
  refine wx_iret rfl rfl rfl ⟨by decide, by decide⟩ ?_
  exact hq
theorem c_J0_length {d Lx t rt u : Nat} {I : Nat → Nat → Int32} {G : Nat → Nat → Int64} {Q : ab_Q} {xs : Nat → Int32} (hs : SP xs I) (hq : Q (some (.int (nI 9))) (hp Lx t rt u I G)) : ab_call ab_MT (d + 2) 302 [.ref 1000002] (hp Lx t rt u I G) 0 0 Q := by
  refine wx_in (M := mJ0_length_8abf5) rfl rfl rfl (Nat.le_of_ble_eq_true rfl) ?_
  refine wx_aload_n rfl (e := 1) rfl rfl ?_
  refine wx_getr rfl (e := 4) rfl rfl rfl ?_
  refine wx_alen rfl (e := 5) rfl rfl (by decide) rfl ?_
  refine wx_aload_n rfl (e := 6) rfl rfl ?_
  refine wx_cv0 (mc := 0) (ms := 0) rfl (e := 9) rfl rfl (Nat.le_of_ble_eq_true rfl) ⟨by decide, by decide⟩ ?_
  refine c_J0_coder hs ?_
  refine wx_ishr rfl (e := 10) rfl ?_
  refine wx_iret rfl rfl rfl ⟨by decide, by decide⟩ ?_
  exact hq
theorem c_J1_canEncode {d : Nat} {h : ab_H} {Q : ab_Q} {k : Nat} (hk : k < 256) (hq : Q (some (.int (nI 1))) h) : ab_call ab_MT (d + 1) 310 [.int (nI k)] h 0 0 Q := by
  refine wx_in (M := mJ1_canEncode_9a6ad) rfl rfl rfl (Nat.le_of_ble_eq_true rfl) ?_
  refine wx_iload_n rfl (e := 1) rfl rfl ?_
  refine wn_if_lt rfl (e := 4) rfl (by omega) ?_
  refine wx_iload_n rfl (e := 5) rfl rfl ?_
  refine wx_sipush (v := (nI 255)) rfl (e := 8) rfl (by decide) ?_
  refine wn_ic_gt rfl (e := 11) rfl (by omega) (by omega) (fun c_8 => absurd c_8 (by omega)) (fun c_8 => ?_)
  refine wx_iconst (v := (nI 1)) rfl (e := 12) rfl (by decide) ?_
  refine wx_goto rfl ?_
  refine wx_iret rfl rfl rfl ⟨by decide, by decide⟩ ?_
  exact hq
theorem c_J1_indexOfChar {d Lx t rt u : Nat} {I : Nat → Nat → Int32} {G : Nat → Nat → Int64} {Q : ab_Q} {xs : Nat → Int32} (hs : SP xs I) {k : Nat} (hk : k < 256) (h1 : sgS k = true → ∀ j, j < 9 → Q (some (.int (nI j))) (hp Lx t rt u I G)) (h0 : sgS k = false → Q (some (.int (-1))) (hp Lx t rt u I G)) : ab_call ab_MT (d + 1) 312 [.ref 1000012, .int (nI k), .int (nI 0), .int (nI 9)] (hp Lx t rt u I G) 0 0 Q := by
  have loop : ∀ (m_ : Nat) (j : Nat), j ≤ 9 → 9 - j < m_ → (∀ i, i < j → w1n i ≠ k) → WP d mJ1_indexOfChar_4cfef Q 7 [some (.ref 1000012), some (.int (nI k)), some (.int (nI 0)), some (.int (nI 9)), some (.int (nI k).toInt8.toInt32), some (.int (nI j))] [] (hp Lx t rt u I G) 0 0 := by
    intro m_
    induction m_ with
    | zero => intro j h1_ h2_; omega
    | succ m_ ih =>
      intro j h1_ h2_ ha
      refine wx_iload rfl (e := 9) rfl rfl ?_
      refine wx_iload_n rfl (e := 10) rfl rfl ?_
      refine wn_ic_ge rfl (e := 13) rfl (by omega) (by omega) (fun c_10 => ?_) (fun c_10 => ?_)
      · refine wx_iconst (v := (-1)) rfl (e := 32) rfl (by decide) ?_
        refine wx_iret rfl rfl rfl ⟨by decide, by decide⟩ ?_
        have ej : j = 9 := by omega
        subst ej
        exact h0 (w1_n ha)
      · refine wx_aload_n rfl (e := 14) rfl rfl ?_
        refine wx_iload rfl (e := 16) rfl rfl ?_
        refine wn_bald rfl (e := 17) rfl rfl (by omega) (by decide) ?_
        rw [sp_12 hs]
        refine wx_iload rfl (e := 19) rfl rfl ?_
        refine wx_ic_ne rfl (e := 22) rfl (fun c_19 => ?_) (fun c_19 => ?_)
        · refine wn_iinc (m := 1) (L2 := [_, _, _, _, _, _]) rfl (e := 28) rfl rfl (by decide) rfl ?_
          refine wx_goto rfl ?_
          exact ih (j + 1) (by omega) (by omega) (fun i hi => if z : i = j then (by rw [z]; exact fun w => c_19 ((w1_b k hk j (by omega)).mpr w)) else ha i (by omega))
        · refine wx_iload rfl (e := 24) rfl rfl ?_
          refine wx_iret rfl rfl rfl ⟨by decide, by decide⟩ ?_
          have e := (w1_b k hk j (by omega)).mp c_19
          exact h1 (by rw [← e]; exact w1_s j (by omega)) j (by omega)
  refine wx_in (M := mJ1_indexOfChar_4cfef) rfl rfl rfl (Nat.le_of_ble_eq_true rfl) ?_
  refine wx_iload_n rfl (e := 1) rfl rfl ?_
  refine wx_i2b rfl (e := 2) rfl ?_
  refine wx_istore (L2 := [_, _, _, _, _, _]) rfl (e := 4) rfl (by decide) rfl ?_
  refine wx_iload_n rfl (e := 5) rfl rfl ?_
  refine wx_istore (L2 := [_, _, _, _, _, _]) rfl (e := 7) rfl (by decide) rfl ?_
  exact loop 10 0 (by omega) (by omega) (fun i hi => absurd hi (Nat.not_lt_zero _))
theorem c_J1_indexOf {d Lx t rt u : Nat} {I : Nat → Nat → Int32} {G : Nat → Nat → Int64} {Q : ab_Q} {xs : Nat → Int32} (hs : SP xs I) {k : Nat} (hk : k < 256) (h1 : sgS k = true → ∀ j, j < 9 → Q (some (.int (nI j))) (hp Lx t rt u I G)) (h0 : sgS k = false → Q (some (.int (-1))) (hp Lx t rt u I G)) : ab_call ab_MT (d + 2) 311 [.ref 1000012, .int (nI k), .int (nI 0), .int (nI 9)] (hp Lx t rt u I G) 0 0 Q := by
  refine wx_in (M := mJ1_indexOf_4cfef) rfl rfl rfl (Nat.le_of_ble_eq_true rfl) ?_
  refine wx_iload_n rfl (e := 1) rfl rfl ?_
  refine wx_cs1 (mc := 0) (ms := 0) rfl (e := 4) rfl (Nat.le_of_ble_eq_true rfl) ⟨by decide, by decide⟩ ?_
  refine c_J1_canEncode hk ?_
  refine wn_if_ne rfl (e := 7) rfl (by omega) (fun c_4 => ?_) (fun c_4 => absurd c_4 (by omega))
  refine wx_iload_n rfl (e := 10) rfl rfl ?_
  refine wx_iconst (v := (nI 0)) rfl (e := 11) rfl (by decide) ?_
  refine wx_cs2 (mc := 0) (ms := 0) rfl (e := 14) rfl (Nat.le_of_ble_eq_true rfl) ⟨by decide, by decide⟩ ?_
  refine c_J9_max_7cf53 ?_
  rw [max_nn (by omega) (by omega), show max 0 0 = 0 by decide]
  refine wx_istore_n (L2 := [_, _, _, _]) rfl (e := 15) rfl (by decide) rfl ?_
  refine wx_iload_n rfl (e := 16) rfl rfl ?_
  refine wx_aload_n rfl (e := 17) rfl rfl ?_
  refine wx_alen rfl (e := 18) rfl rfl (by decide) rfl ?_
  refine wx_cs2 (mc := 0) (ms := 0) rfl (e := 21) rfl (Nat.le_of_ble_eq_true rfl) ⟨by decide, by decide⟩ ?_
  refine c_J9_min_7cf53 ?_
  rw [show (if Int32.ofNat 9 < nI 9 then Int32.ofNat 9 else nI 9) = nI 9 by decide]
  refine wx_istore_n (L2 := [_, _, _, _]) rfl (e := 22) rfl (by decide) rfl ?_
  refine wx_iload_n rfl (e := 23) rfl rfl ?_
  refine wx_iload_n rfl (e := 24) rfl rfl ?_
  refine wn_ic_lt rfl (e := 27) rfl (by omega) (by omega) (fun c_24 => ?_) (fun c_24 => absurd c_24 (by omega))
  refine wx_aload_n rfl (e := 30) rfl rfl ?_
  refine wx_iload_n rfl (e := 31) rfl rfl ?_
  refine wx_iload_n rfl (e := 32) rfl rfl ?_
  refine wx_iload_n rfl (e := 33) rfl rfl ?_
  refine wx_cs4 (mc := 0) (ms := 0) rfl (e := 36) rfl (Nat.le_of_ble_eq_true rfl) ⟨by decide, by decide⟩ ?_
  refine c_J1_indexOfChar hs hk (fun hy j hj => ?_) (fun hy => ?_)
  · refine wx_iret rfl rfl rfl ⟨by decide, by decide⟩ ?_
    exact h1 hy j hj
  · refine wx_iret rfl rfl rfl ⟨by decide, by decide⟩ ?_
    exact h0 hy
theorem c_J0_indexOf2 {d Lx t rt u : Nat} {I : Nat → Nat → Int32} {G : Nat → Nat → Int64} {Q : ab_Q} {xs : Nat → Int32} (hs : SP xs I) {k : Nat} (hk : k < 256) (h1 : sgS k = true → ∀ j, j < 9 → Q (some (.int (nI j))) (hp Lx t rt u I G)) (h0 : sgS k = false → Q (some (.int (-1))) (hp Lx t rt u I G)) : ab_call ab_MT (d + 3) 305 [.ref 1000002, .int (nI k), .int (nI 0)] (hp Lx t rt u I G) 0 0 Q := by
  refine wx_in (M := mJ0_indexOf_7cf53) rfl rfl rfl (Nat.le_of_ble_eq_true rfl) ?_
  refine wx_aload_n rfl (e := 1) rfl rfl ?_
  refine wx_cv0 (mc := 0) (ms := 0) rfl (e := 4) rfl rfl (Nat.le_of_ble_eq_true rfl) ⟨by decide, by decide⟩ ?_
  refine c_J0_isLatin1 hs ?_
  refine wn_if_eq rfl (e := 7) rfl (by omega) (fun c_4 => absurd c_4 (by omega)) (fun c_4 => ?_)
  refine wx_aload_n rfl (e := 8) rfl rfl ?_
  refine wx_getr rfl (e := 11) rfl rfl rfl ?_
  refine wx_iload_n rfl (e := 12) rfl rfl ?_
  refine wx_iload_n rfl (e := 13) rfl rfl ?_
  refine wx_aload_n rfl (e := 14) rfl rfl ?_
  refine wx_cv0 (mc := 0) (ms := 0) rfl (e := 17) rfl rfl (Nat.le_of_ble_eq_true rfl) ⟨by decide, by decide⟩ ?_
  refine c_J0_length hs ?_
  refine wx_cs4 (mc := 0) (ms := 0) rfl (e := 20) rfl (Nat.le_of_ble_eq_true rfl) ⟨by decide, by decide⟩ ?_
  refine c_J1_indexOf hs hk (fun hy j hj => ?_) (fun hy => ?_)
  · refine wx_goto rfl ?_
    refine wx_iret rfl rfl rfl ⟨by decide, by decide⟩ ?_
    exact h1 hy j hj
  · refine wx_goto rfl ?_
    refine wx_iret rfl rfl rfl ⟨by decide, by decide⟩ ?_
    exact h0 hy
theorem c_J0_indexOf {d Lx t rt u : Nat} {I : Nat → Nat → Int32} {G : Nat → Nat → Int64} {Q : ab_Q} {xs : Nat → Int32} (hs : SP xs I) {k : Nat} (hk : k < 256) (h1 : sgS k = true → ∀ j, j < 9 → Q (some (.int (nI j))) (hp Lx t rt u I G)) (h0 : sgS k = false → Q (some (.int (-1))) (hp Lx t rt u I G)) : ab_call ab_MT (d + 4) 304 [.ref 1000002, .int (nI k)] (hp Lx t rt u I G) 0 0 Q := by
  refine wx_in (M := mJ0_indexOf_0f7a4) rfl rfl rfl (Nat.le_of_ble_eq_true rfl) ?_
  refine wx_aload_n rfl (e := 1) rfl rfl ?_
  refine wx_iload_n rfl (e := 2) rfl rfl ?_
  refine wx_iconst (v := (nI 0)) rfl (e := 3) rfl (by decide) ?_
  refine wx_cv2 (mc := 0) (ms := 0) rfl (e := 6) rfl rfl (Nat.le_of_ble_eq_true rfl) ⟨by decide, by decide⟩ ?_
  refine c_J0_indexOf2 hs hk (fun hy j hj => ?_) (fun hy => ?_)
  · refine wx_iret rfl rfl rfl ⟨by decide, by decide⟩ ?_
    exact h1 hy j hj
  · refine wx_iret rfl rfl rfl ⟨by decide, by decide⟩ ?_
    exact h0 hy
theorem c_X8_addToken {d Lx t rt u : Nat} {I : Nat → Nat → Int32} {G : Nat → Nat → Int64} {Q : ab_Q} {B : Nat → Int32} {n m i : Nat} (hT : TP I B n) (hK : CK (bt B) n I G m) (hm2 : m < 402) (hi : i < n) (hst : stA (bt B) n m = i) (hW : CW G) {xs : Nat → Int32} (hs : SP xs I) (hq : ∀ I2 G2, fck I I2 G G2 → CK (bt B) n I2 G2 (m + 1) → Q (some (.int (nI (enA (bt B) n i - 1)))) (hp Lx t rt u I2 G2)) : ab_call ab_MT (d + 5) 125 [.ref 34, .ref 31, .int (nI i), .int (nI (bt B i))] (hp Lx t rt u I G) 0 0 Q := by
  have hn := hT.1
  have hbt := bt_lt B i
  refine wx_in (M := mX8_addToken) rfl rfl rfl (Nat.le_of_ble_eq_true rfl) ?_
  refine wx_iload_n rfl (e := 1) rfl rfl ?_
  refine wx_cs1 (mc := 0) (ms := 0) rfl (e := 4) rfl (Nat.le_of_ble_eq_true rfl) ⟨by decide, by decide⟩ ?_
  refine c_X8_isLetter hbt (fun hL => ?_) (fun hL => ?_)
  · refine wn_if_eq rfl (e := 7) rfl (by omega) (fun c_4 => absurd c_4 (by omega)) (fun c_4 => ?_)
    refine wx_aload_n rfl (e := 8) rfl rfl ?_
    refine wx_aload_n rfl (e := 9) rfl rfl ?_
    refine wx_iload_n rfl (e := 10) rfl rfl ?_
    refine wx_cv2 (mc := 0) (ms := 0) rfl (e := 13) rfl rfl (Nat.le_of_ble_eq_true rfl) ⟨by decide, by decide⟩ ?_
    refine c_X8_addLetters hT hK hm2 hi hst hW hL (fun I2 G2 f2 K2 => ?_)
    refine wx_iret rfl rfl rfl ⟨by decide, by decide⟩ ?_
    exact hq I2 G2 f2 K2
  · refine wn_if_eq rfl (e := 7) rfl (by omega) (fun c_4 => ?_) (fun c_4 => absurd c_4 (by omega))
    refine wx_iload_n rfl (e := 15) rfl rfl ?_
    refine wx_cs1 (mc := 0) (ms := 0) rfl (e := 18) rfl (Nat.le_of_ble_eq_true rfl) ⟨by decide, by decide⟩ ?_
    refine c_X8_isDigit hbt (fun hD => ?_) (fun hD => ?_)
    · refine wn_if_eq rfl (e := 21) rfl (by omega) (fun c_18 => absurd c_18 (by omega)) (fun c_18 => ?_)
      refine wx_aload_n rfl (e := 22) rfl rfl ?_
      refine wx_aload_n rfl (e := 23) rfl rfl ?_
      refine wx_iload_n rfl (e := 24) rfl rfl ?_
      refine wx_cv2 (mc := 0) (ms := 0) rfl (e := 27) rfl rfl (Nat.le_of_ble_eq_true rfl) ⟨by decide, by decide⟩ ?_
      refine c_X8_addDigits hT hK hm2 hi hst hL hD (fun I2 G2 f2 K2 => ?_)
      refine wx_iret rfl rfl rfl ⟨by decide, by decide⟩ ?_
      exact hq I2 G2 f2 K2
    · refine wn_if_eq rfl (e := 21) rfl (by omega) (fun c_18 => ?_) (fun c_18 => absurd c_18 (by omega))
      refine wx_aload_n rfl (e := 29) rfl rfl ?_
      refine wx_ldcs rfl (e := 31) rfl ?_
      refine wx_iload_n rfl (e := 32) rfl rfl ?_
      refine wx_i2c rfl (e := 33) rfl ?_
      refine wx_cv1 (mc := 0) (ms := 0) rfl (e := 36) rfl rfl (Nat.le_of_ble_eq_true rfl) ⟨by decide, by decide⟩ ?_
      rw [i2c_k _ hbt]
      refine c_J0_indexOf hs hbt (fun hy j hj => ?_) (fun hy => ?_)
      · refine wx_if_lt rfl (e := 39) rfl (fun c_36 => absurd c_36 (nI_pos (by omega))) (fun c_36 => ?_)
        refine wx_iload_n rfl (e := 40) rfl rfl ?_
        refine wx_goto rfl ?_
        refine wx_iload_n rfl (e := 46) rfl rfl ?_
        refine wx_lconst (v := 0) rfl (e := 47) rfl (by decide) ?_
        refine wx_cv3 (mc := 0) (ms := 0) rfl (e := 50) rfl rfl (Nat.le_of_ble_eq_true rfl) ⟨by decide, by decide⟩ ?_
        refine c_X8_put hK.2.1 hm2 ?_
        refine wx_iload_n rfl (e := 51) rfl rfl ?_
        refine wx_iret rfl rfl rfl ⟨by decide, by decide⟩ ?_
        have eA : enA (bt B) n i = i + 1 := by unfold enA; rw [if_neg (by rw [hL]; decide), if_neg (by rw [hD]; decide)]
        rw [eA, show i + 1 - 1 = i by omega] at hq
        refine hq _ _ (fck.w _ _ _ _ _) (hK.put hm2 ?_ (by rw [hst]) (fun z => absurd (kd_24 z).1 (by rw [hst, hL]; decide)) (fun z => absurd (kd_25 z).2.1 (by rw [hst, hD]; decide)))
        unfold kd; rw [hst]; unfold kdA; rw [if_neg (by omega), if_neg (by rw [hL]; decide), if_neg (by rw [hD]; decide), if_pos hy]
      · refine wx_if_lt rfl (e := 39) rfl (fun c_36 => ?_) (fun c_36 => absurd (show (-1 : Int32) < 0 by decide) c_36)
        refine wx_bipush (v := (nI 27)) rfl (e := 45) rfl (by decide) ?_
        refine wx_iload_n rfl (e := 46) rfl rfl ?_
        refine wx_lconst (v := 0) rfl (e := 47) rfl (by decide) ?_
        refine wx_cv3 (mc := 0) (ms := 0) rfl (e := 50) rfl rfl (Nat.le_of_ble_eq_true rfl) ⟨by decide, by decide⟩ ?_
        refine c_X8_put hK.2.1 hm2 ?_
        refine wx_iload_n rfl (e := 51) rfl rfl ?_
        refine wx_iret rfl rfl rfl ⟨by decide, by decide⟩ ?_
        have eA : enA (bt B) n i = i + 1 := by unfold enA; rw [if_neg (by rw [hL]; decide), if_neg (by rw [hD]; decide)]
        rw [eA, show i + 1 - 1 = i by omega] at hq
        refine hq _ _ (fck.w _ _ _ _ _) (hK.put hm2 ?_ (by rw [hst]) (fun z => absurd (kd_24 z).1 (by rw [hst, hL]; decide)) (fun z => absurd (kd_25 z).2.1 (by rw [hst, hD]; decide)))
        unfold kd; rw [hst]; unfold kdA; rw [if_neg (by omega), if_neg (by rw [hL]; decide), if_neg (by rw [hD]; decide), if_neg (by rw [hy]; decide)]
set_option maxHeartbeats 2000000 in
theorem c_X8_scan {d Lx t rt u : Nat} {I : Nat → Nat → Int32} {G : Nat → Nat → Int64} {Q : ab_Q} {B : Nat → Int32} {n : Nat} (hT : TP I B n) (hW : CW G) {xs : Nat → Int32} (hs : SP xs I) (hq : ∀ I2 G2 m, fck I I2 G G2 → CK (bt B) n I2 G2 m → (∀ j, j ≤ 400 → gdT (bt B) n j → j < m) → Q none (hp Lx t rt u I2 G2)) : ab_call ab_MT (d + 6) 124 [.ref 34, .ref 31] (hp Lx t rt u I G) 0 0 Q := by
  have hn := hT.1
  have stp : ∀ (I2 : Nat → Nat → Int32) (G2 : Nat → Nat → Int64) (m i : Nat), fck I I2 G G2 → CK (bt B) n I2 G2 m → (∀ j, j ≤ 400 → gdT (bt B) n j → j < m) → i ≤ n → ∀ x4, WP (d + 5) mX8_scan Q 9 [some (.ref 34), some (.ref 31), some (.int (nI 0)), some (.int (nI i)), x4] [] (hp Lx t rt u I2 G2) 0 0 := by
    intro I2 G2 m i f2 K2 hm hi x4
    have hT2 : TP I2 B n := hT.kept (f2.1 31 (by decide) (by decide) (by decide)) (f2.1 32 (by decide) (by decide) (by decide))
    have hW2 : CW G2 := fun k hk => by rw [f2.2 35 (by decide)]; exact hW k hk
    have hs2 : SP xs I2 := fun a ha => by rw [f2.1 a (by omega) (by omega) (by omega)]; exact hs a ha
    refine wx_iload_n rfl (e := 10) rfl rfl ?_
    refine wx_aload_n rfl (e := 11) rfl rfl ?_
    refine wx_cv0 (mc := 0) (ms := 0) rfl (e := 14) rfl rfl (Nat.le_of_ble_eq_true rfl) ⟨by decide, by decide⟩ ?_
    refine c_X6_length ?_
    rw [hT2.2.1]
    refine wn_ic_ge rfl (e := 17) rfl (by omega) (by omega) (fun c_14 => ?_) (fun c_14 => ?_)
    · refine wx_iload_n rfl (e := 87) rfl rfl ?_
      refine wn_if_eq rfl (e := 90) rfl (by omega) (fun c_87 => ?_) (fun c_87 => absurd c_87 (by omega))
      refine wx_ret rfl rfl ⟨by decide, by decide⟩ ?_
      exact hq I2 G2 m f2 K2 hm
    · refine wx_iload_n rfl (e := 18) rfl rfl ?_
      refine wn_if_eq rfl (e := 21) rfl (by omega) (fun c_18 => ?_) (fun c_18 => absurd c_18 (by omega))
      refine wx_iload_n rfl (e := 87) rfl rfl ?_
      refine wn_if_eq rfl (e := 90) rfl (by omega) (fun c_87 => ?_) (fun c_87 => absurd c_87 (by omega))
      refine wx_ret rfl rfl ⟨by decide, by decide⟩ ?_
      exact hq I2 G2 m f2 K2 hm
  have loop : ∀ (m_ : Nat) (i m : Nat) (I2 : Nat → Nat → Int32) (G2 : Nat → Nat → Int64), i ≤ n → n - i < m_ → m ≤ 400 → gdT (bt B) n m → fck I I2 G G2 → CK (bt B) n I2 G2 m → stA (bt B) n m = rn isBl (bt B) n i → ∀ x4, WP (d + 5) mX8_scan Q 9 [some (.ref 34), some (.ref 31), some (.int (nI 1)), some (.int (nI i)), x4] [] (hp Lx t rt u I2 G2) 0 0 := by
    intro m_
    induction m_ with
    | zero => intro i m I2 G2 h1 h2; omega
    | succ m_ ih =>
      intro i m I2 G2 h1 h2 hm4 hgd f2 K2 hst x4
      have hT2 : TP I2 B n := hT.kept (f2.1 31 (by decide) (by decide) (by decide)) (f2.1 32 (by decide) (by decide) (by decide))
      have hW2 : CW G2 := fun k hk => by rw [f2.2 35 (by decide)]; exact hW k hk
      have hs2 : SP xs I2 := fun a ha => by rw [f2.1 a (by omega) (by omega) (by omega)]; exact hs a ha
      refine wx_iload_n rfl (e := 10) rfl rfl ?_
      refine wx_aload_n rfl (e := 11) rfl rfl ?_
      refine wx_cv0 (mc := 0) (ms := 0) rfl (e := 14) rfl rfl (Nat.le_of_ble_eq_true rfl) ⟨by decide, by decide⟩ ?_
      refine c_X6_length ?_
      rw [hT2.2.1]
      refine wn_ic_ge rfl (e := 17) rfl (by omega) (by omega) (fun c_14 => ?_) (fun c_14 => ?_)
      · refine wx_iload_n rfl (e := 87) rfl rfl ?_
        refine wn_if_eq rfl (e := 90) rfl (by omega) (fun c_87 => absurd c_87 (by omega)) (fun c_87 => ?_)
        refine wx_aload_n rfl (e := 91) rfl rfl ?_
        refine wx_bipush (v := (nI 26)) rfl (e := 93) rfl (by decide) ?_
        refine wx_aload_n rfl (e := 94) rfl rfl ?_
        refine wx_cv0 (mc := 0) (ms := 0) rfl (e := 97) rfl rfl (Nat.le_of_ble_eq_true rfl) ⟨by decide, by decide⟩ ?_
        refine c_X6_length ?_
        rw [hT2.2.1]
        refine wx_lconst (v := 0) rfl (e := 98) rfl (by decide) ?_
        refine wx_cv3 (mc := 0) (ms := 0) rfl (e := 101) rfl rfl (Nat.le_of_ble_eq_true rfl) ⟨by decide, by decide⟩ ?_
        refine c_X8_put K2.2.1 (by omega) ?_
        refine wx_ret rfl rfl ⟨by decide, by decide⟩ ?_
        have hs26 : stA (bt B) n m = n := by rw [hst, skb_n (by omega)]; omega
        have hk26 : kd (bt B) n m = 26 := by unfold kd; rw [kd_26]; omega
        refine hq _ _ (m + 1) (f2.tr (fck.w _ _ _ _ _)) (K2.put (by omega) (by rw [hk26]) (by rw [hs26]) (fun z => absurd (hk26.symm.trans z) (by decide)) (fun z => absurd (hk26.symm.trans z) (by decide))) (fun j h1 h2 => Nat.lt_of_not_le (fun w => (h2 m (by omega)).1 hk26))
      · refine wx_iload_n rfl (e := 18) rfl rfl ?_
        refine wn_if_eq rfl (e := 21) rfl (by omega) (fun c_18 => absurd c_18 (by omega)) (fun c_18 => ?_)
        refine wx_aload_n rfl (e := 22) rfl rfl ?_
        refine wx_iload_n rfl (e := 23) rfl rfl ?_
        refine wx_cv1 (mc := 0) (ms := 0) rfl (e := 26) rfl rfl (Nat.le_of_ble_eq_true rfl) ⟨by decide, by decide⟩ ?_
        refine c_X6_byte hT2 (by omega) ?_
        have hbt := bt_lt B i
        refine wx_istore (L2 := [_, _, _, _, _]) rfl (e := 28) rfl (by decide) rfl ?_
        refine wx_iload rfl (e := 30) rfl rfl ?_
        refine wx_cs1 (mc := 0) (ms := 0) rfl (e := 33) rfl (Nat.le_of_ble_eq_true rfl) ⟨by decide, by decide⟩ ?_
        refine c_X8_isBlank hbt (fun hy => ?_) (fun hy => ?_)
        · refine wn_if_ne rfl (e := 36) rfl (by omega) (fun c_33 => ?_) (fun c_33 => absurd c_33 (by omega))
          refine wn_iinc (m := 1) (L2 := [_, _, _, _, _]) rfl (e := 83) rfl rfl (by decide) rfl ?_
          refine wx_goto rfl ?_
          have hh := rn_y (p := isBl) (b := bt B) (n := n) (by omega) hy
          exact ih (i + 1) m I2 G2 (by omega) (by omega) hm4 hgd f2 K2 (by rw [← hh]; exact hst) _
        · have hr : rn isBl (bt B) n i = i := rn_n (by rw [hy]; simp)
          rw [hr] at hst
          refine wn_if_ne rfl (e := 36) rfl (by omega) (fun c_33 => absurd c_33 (by omega)) (fun c_33 => ?_)
          refine wx_iload_n rfl (e := 37) rfl rfl ?_
          refine wx_aload_n rfl (e := 38) rfl rfl ?_
          refine wx_aload_n rfl (e := 39) rfl rfl ?_
          refine wx_iload_n rfl (e := 40) rfl rfl ?_
          refine wx_iload rfl (e := 42) rfl rfl ?_
          refine wx_cv3 (mc := 0) (ms := 0) rfl (e := 45) rfl rfl (Nat.le_of_ble_eq_true rfl) ⟨by decide, by decide⟩ ?_
          refine c_X8_addToken hT2 K2 (by omega) (by omega) hst hW2 hs2 (fun I3 G3 f3 K3 => ?_)
          have hen := enA_gt (b := bt B) (n := n) (i := i) (by omega)
          refine wx_cs2 (mc := 0) (ms := 0) rfl (e := 48) rfl (Nat.le_of_ble_eq_true rfl) ⟨by decide, by decide⟩ ?_
          refine c_J9_max_7cf53 ?_
          rw [max_nn (by omega) (by omega), Nat.max_eq_right (by omega)]
          refine wx_istore_n (L2 := [_, _, _, _, _]) rfl (e := 49) rfl (by decide) rfl ?_
          refine wx_aload_n rfl (e := 50) rfl rfl ?_
          refine wx_geti rfl (e := 53) rfl rfl ?_
          rw [K3.2.1]
          refine wx_sipush (v := (nI 400)) rfl (e := 56) rfl (by decide) ?_
          refine wn_ic_gt rfl (e := 59) rfl (by omega) (by omega) (fun c_56 => ?_) (fun c_56 => ?_)
          · refine wx_iconst (v := (nI 0)) rfl (e := 79) rfl (by decide) ?_
            refine wx_istore_n (L2 := [_, _, _, _, _]) rfl (e := 80) rfl (by decide) rfl ?_
            refine wn_iinc (m := 1) (L2 := [_, _, _, _, _]) rfl (e := 83) rfl rfl (by decide) rfl ?_
            refine wx_goto rfl ?_
            rw [show enA (bt B) n i - 1 + 1 = enA (bt B) n i by omega]
            exact stp I3 G3 (m + 1) _ (f2.tr f3) K3 (fun j h1 h2 => by omega) (by omega) _
          · refine wx_aload_n rfl (e := 60) rfl rfl ?_
            refine wx_aload_n rfl (e := 61) rfl rfl ?_
            refine wx_geti rfl (e := 64) rfl rfl ?_
            rw [K3.2.1]
            refine wx_iconst (v := (nI 1)) rfl (e := 65) rfl (by decide) ?_
            refine wn_isub rfl (e := 66) rfl (by omega) ?_
            rw [show m + 1 - 1 = m by omega]
            refine wx_cv1 (mc := 0) (ms := 0) rfl (e := 69) rfl rfl (Nat.le_of_ble_eq_true rfl) ⟨by decide, by decide⟩ ?_
            refine c_X8_kindAt K3 (by omega) ?_
            have hkl : kd (bt B) n m < 62 := kd_lt (bt B) n (stA (bt B) n m)
            refine wx_bipush (v := (nI 27)) rfl (e := 71) rfl (by decide) ?_
            refine wn_ic_eq rfl (e := 74) rfl (by omega) (by omega) (fun c_71 => ?_) (fun c_71 => ?_)
            · refine wx_iconst (v := (nI 0)) rfl (e := 79) rfl (by decide) ?_
              refine wx_istore_n (L2 := [_, _, _, _, _]) rfl (e := 80) rfl (by decide) rfl ?_
              refine wn_iinc (m := 1) (L2 := [_, _, _, _, _]) rfl (e := 83) rfl rfl (by decide) rfl ?_
              refine wx_goto rfl ?_
              rw [show enA (bt B) n i - 1 + 1 = enA (bt B) n i by omega]
              exact stp I3 G3 (m + 1) _ (f2.tr f3) K3 (fun j h1 h2 => Nat.lt_of_not_le (fun w => (h2 m (by omega)).2 c_71)) (by omega) _
            · refine wx_iconst (v := (nI 1)) rfl (e := 75) rfl (by decide) ?_
              refine wx_goto rfl ?_
              refine wx_istore_n (L2 := [_, _, _, _, _]) rfl (e := 80) rfl (by decide) rfl ?_
              refine wn_iinc (m := 1) (L2 := [_, _, _, _, _]) rfl (e := 83) rfl rfl (by decide) rfl ?_
              refine wx_goto rfl ?_
              rw [show enA (bt B) n i - 1 + 1 = enA (bt B) n i by omega]
              refine ih _ (m + 1) I3 G3 (by omega) (by omega) (by omega) (fun j hj => ?_) (f2.tr f3) K3 ?_ _
              · by_cases z : j = m
                · rw [z]; refine ⟨fun w => ?_, c_71⟩; unfold kd at w; rw [kd_26] at w; omega
                · exact hgd j (by omega)
              · rw [stA, if_neg (by omega), hst]
  refine wx_in (M := mX8_scan) rfl rfl rfl (Nat.le_of_ble_eq_true rfl) ?_
  refine wx_aload_n rfl (e := 1) rfl rfl ?_
  refine wx_iconst (v := (nI 0)) rfl (e := 2) rfl (by decide) ?_
  refine wx_puti rfl (e := 5) rfl rfl (by decide) ?_
  refine wx_iconst (v := (nI 1)) rfl (e := 6) rfl (by decide) ?_
  refine wx_istore_n (L2 := [_, _, _, _, _]) rfl (e := 7) rfl (by decide) rfl ?_
  refine wx_iconst (v := (nI 0)) rfl (e := 8) rfl (by decide) ?_
  refine wx_istore_n (L2 := [_, _, _, _, _]) rfl (e := 9) rfl (by decide) rfl ?_
  exact loop (n + 1) 0 0 _ G (by omega) (by omega) (by omega) (fun j hj => absurd hj (Nat.not_lt_zero _)) ⟨fun q h1 h2 h3 => wr_other _ _ _ _ h1, fun _ _ => rfl⟩ ⟨by omega, wr_eq _ _ _ _, fun j hj => absurd hj (Nat.not_lt_zero _)⟩ rfl _

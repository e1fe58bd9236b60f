/-! the class: laws and texts as they are told -/
theorem c_X2_begin_2 {d Lx t rt u : Nat} {I : Nat → Nat → Int32} {G : Nat → Nat → Int64} {Q : ab_Q} {k : Nat} (hk : k < 5) (hq : Q none (hp Lx t rt u (wr I 5 k (I 2 5)) G)) : ab_call ab_MT (d + 1) 37 [.ref 2, .int (nI k)] (hp Lx t rt u I G) 0 0 Q := by
  refine wx_in (M := mX2_begin) rfl rfl rfl (Nat.le_of_ble_eq_true rfl) ?_
  refine wx_iload_n rfl (e := 1) rfl rfl ?_
  refine wn_if_lt rfl (e := 4) rfl (by omega) ?_
  refine wx_iload_n rfl (e := 5) rfl rfl ?_
  refine wx_iconst (v := (nI 5)) rfl (e := 6) rfl (by decide) ?_
  refine wn_ic_ge rfl (e := 9) rfl (by omega) (by omega) (fun c_6 => absurd c_6 (by omega)) (fun c_6 => ?_)
  refine wx_aload_n rfl (e := 10) rfl rfl ?_
  refine wx_getr rfl (e := 13) rfl rfl rfl ?_
  refine wx_iload_n rfl (e := 14) rfl rfl ?_
  refine wx_aload_n rfl (e := 15) rfl rfl ?_
  refine wx_geti rfl (e := 18) rfl rfl ?_
  refine wn_iast rfl (e := 19) rfl rfl (by decide) (by omega) (by decide) ?_
  refine wx_ret rfl rfl ⟨by decide, by decide⟩ ?_
  exact hq
theorem c_X2_begin_17 {d Lx t rt u : Nat} {I : Nat → Nat → Int32} {G : Nat → Nat → Int64} {Q : ab_Q} {k : Nat} (hk : k < 5) (hq : Q none (hp Lx t rt u (wr I 20 k (I 17 5)) G)) : ab_call ab_MT (d + 1) 37 [.ref 17, .int (nI k)] (hp Lx t rt u I G) 0 0 Q := by
  refine wx_in (M := mX2_begin) rfl rfl rfl (Nat.le_of_ble_eq_true rfl) ?_
  refine wx_iload_n rfl (e := 1) rfl rfl ?_
  refine wn_if_lt rfl (e := 4) rfl (by omega) ?_
  refine wx_iload_n rfl (e := 5) rfl rfl ?_
  refine wx_iconst (v := (nI 5)) rfl (e := 6) rfl (by decide) ?_
  refine wn_ic_ge rfl (e := 9) rfl (by omega) (by omega) (fun c_6 => absurd c_6 (by omega)) (fun c_6 => ?_)
  refine wx_aload_n rfl (e := 10) rfl rfl ?_
  refine wx_getr rfl (e := 13) rfl rfl rfl ?_
  refine wx_iload_n rfl (e := 14) rfl rfl ?_
  refine wx_aload_n rfl (e := 15) rfl rfl ?_
  refine wx_geti rfl (e := 18) rfl rfl ?_
  refine wn_iast rfl (e := 19) rfl rfl (by decide) (by omega) (by decide) ?_
  refine wx_ret rfl rfl ⟨by decide, by decide⟩ ?_
  exact hq
theorem c_X2_begin {d Lx t rt u : Nat} {I : Nat → Nat → Int32} {G : Nat → Nat → Int64} {Q : ab_Q} {w : Nat} (ho : w = 2 ∨ w = 17) {k : Nat} (hk : k < 5) (hq : Q none (hp Lx t rt u (wr I (w + 3) k (I w 5)) G)) : ab_call ab_MT (d + 1) 37 [.ref w, .int (nI k)] (hp Lx t rt u I G) 0 0 Q := by
  rcases ho with rfl | rfl
  · exact c_X2_begin_2 hk hq
  · exact c_X2_begin_17 hk hq
theorem c_X2_emit_2 {d Lx t rt u : Nat} {I : Nat → Nat → Int32} {G : Nat → Nat → Int64} {Q : ab_Q} {x : Nat} (hx : I 2 5 = nI x) (hx2 : x < 420) {k v : Int32} (hq : Q (some (.int (nI x))) (hp Lx t rt u (wr (wr (wr I 3 x k) 4 x v) 2 5 (nI (x + 1))) G)) : ab_call ab_MT (d + 1) 38 [.ref 2, .int k, .int v] (hp Lx t rt u I G) 0 0 Q := by
  refine wx_in (M := mX2_emit) rfl rfl rfl (Nat.le_of_ble_eq_true rfl) ?_
  refine wx_aload_n rfl (e := 1) rfl rfl ?_
  refine wx_geti rfl (e := 4) rfl rfl ?_
  rw [hx]
  refine wn_if_lt rfl (e := 7) rfl (by omega) ?_
  refine wx_aload_n rfl (e := 8) rfl rfl ?_
  refine wx_geti rfl (e := 11) rfl rfl ?_
  rw [hx]
  refine wx_sipush (v := (nI 420)) rfl (e := 14) rfl (by decide) ?_
  refine wn_ic_lt rfl (e := 17) rfl (by omega) (by omega) (fun c_14 => ?_) (fun c_14 => absurd c_14 (by omega))
  refine wx_aload_n rfl (e := 20) rfl rfl ?_
  refine wx_getr rfl (e := 23) rfl rfl rfl ?_
  refine wx_aload_n rfl (e := 24) rfl rfl ?_
  refine wx_geti rfl (e := 27) rfl rfl ?_
  rw [hx]
  refine wx_iload_n rfl (e := 28) rfl rfl ?_
  refine wn_iast rfl (e := 29) rfl rfl (by decide) (by omega) (by decide) ?_
  refine wx_aload_n rfl (e := 30) rfl rfl ?_
  refine wx_getr rfl (e := 33) rfl rfl rfl ?_
  refine wx_aload_n rfl (e := 34) rfl rfl ?_
  refine wx_geti rfl (e := 37) rfl rfl ?_
  rw [wr_other _ _ _ _ (by decide), hx]
  refine wx_iload_n rfl (e := 38) rfl rfl ?_
  refine wn_iast rfl (e := 39) rfl rfl (by decide) (by omega) (by decide) ?_
  refine wx_aload_n rfl (e := 40) rfl rfl ?_
  refine wx_dup rfl (e := 41) rfl rfl ?_
  refine wx_geti rfl (e := 44) rfl rfl ?_
  rw [wr_other _ _ _ _ (by decide), wr_other _ _ _ _ (by decide), hx]
  refine wx_iconst (v := (nI 1)) rfl (e := 45) rfl (by decide) ?_
  refine wn_iadd rfl (e := 46) rfl ?_
  refine wx_puti rfl (e := 49) rfl rfl (by decide) ?_
  refine wx_aload_n rfl (e := 50) rfl rfl ?_
  refine wx_geti rfl (e := 53) rfl rfl ?_
  rw [wr_eq]
  refine wx_iconst (v := (nI 1)) rfl (e := 54) rfl (by decide) ?_
  refine wn_isub rfl (e := 55) rfl (by omega) ?_
  rw [show x + 1 - 1 = x by omega]
  refine wx_iret rfl rfl rfl ⟨by decide, by decide⟩ ?_
  exact hq
theorem c_X2_emit_17 {d Lx t rt u : Nat} {I : Nat → Nat → Int32} {G : Nat → Nat → Int64} {Q : ab_Q} {x : Nat} (hx : I 17 5 = nI x) (hx2 : x < 420) {k v : Int32} (hq : Q (some (.int (nI x))) (hp Lx t rt u (wr (wr (wr I 18 x k) 19 x v) 17 5 (nI (x + 1))) G)) : ab_call ab_MT (d + 1) 38 [.ref 17, .int k, .int v] (hp Lx t rt u I G) 0 0 Q := by
  refine wx_in (M := mX2_emit) rfl rfl rfl (Nat.le_of_ble_eq_true rfl) ?_
  refine wx_aload_n rfl (e := 1) rfl rfl ?_
  refine wx_geti rfl (e := 4) rfl rfl ?_
  rw [hx]
  refine wn_if_lt rfl (e := 7) rfl (by omega) ?_
  refine wx_aload_n rfl (e := 8) rfl rfl ?_
  refine wx_geti rfl (e := 11) rfl rfl ?_
  rw [hx]
  refine wx_sipush (v := (nI 420)) rfl (e := 14) rfl (by decide) ?_
  refine wn_ic_lt rfl (e := 17) rfl (by omega) (by omega) (fun c_14 => ?_) (fun c_14 => absurd c_14 (by omega))
  refine wx_aload_n rfl (e := 20) rfl rfl ?_
  refine wx_getr rfl (e := 23) rfl rfl rfl ?_
  refine wx_aload_n rfl (e := 24) rfl rfl ?_
  refine wx_geti rfl (e := 27) rfl rfl ?_
  rw [hx]
  refine wx_iload_n rfl (e := 28) rfl rfl ?_
  refine wn_iast rfl (e := 29) rfl rfl (by decide) (by omega) (by decide) ?_
  refine wx_aload_n rfl (e := 30) rfl rfl ?_
  refine wx_getr rfl (e := 33) rfl rfl rfl ?_
  refine wx_aload_n rfl (e := 34) rfl rfl ?_
  refine wx_geti rfl (e := 37) rfl rfl ?_
  rw [wr_other _ _ _ _ (by decide), hx]
  refine wx_iload_n rfl (e := 38) rfl rfl ?_
  refine wn_iast rfl (e := 39) rfl rfl (by decide) (by omega) (by decide) ?_
  refine wx_aload_n rfl (e := 40) rfl rfl ?_
  refine wx_dup rfl (e := 41) rfl rfl ?_
  refine wx_geti rfl (e := 44) rfl rfl ?_
  rw [wr_other _ _ _ _ (by decide), wr_other _ _ _ _ (by decide), hx]
  refine wx_iconst (v := (nI 1)) rfl (e := 45) rfl (by decide) ?_
  refine wn_iadd rfl (e := 46) rfl ?_
  refine wx_puti rfl (e := 49) rfl rfl (by decide) ?_
  refine wx_aload_n rfl (e := 50) rfl rfl ?_
  refine wx_geti rfl (e := 53) rfl rfl ?_
  rw [wr_eq]
  refine wx_iconst (v := (nI 1)) rfl (e := 54) rfl (by decide) ?_
  refine wn_isub rfl (e := 55) rfl (by omega) ?_
  rw [show x + 1 - 1 = x by omega]
  refine wx_iret rfl rfl rfl ⟨by decide, by decide⟩ ?_
  exact hq
theorem c_X2_emit {d Lx t rt u : Nat} {I : Nat → Nat → Int32} {G : Nat → Nat → Int64} {Q : ab_Q} {w : Nat} (ho : w = 2 ∨ w = 17) {x : Nat} (hx : I w 5 = nI x) (hx2 : x < 420) {k v : Int32} (hq : Q (some (.int (nI x))) (hp Lx t rt u (wr (wr (wr I (w + 1) x k) (w + 2) x v) w 5 (nI (x + 1))) G)) : ab_call ab_MT (d + 1) 38 [.ref w, .int k, .int v] (hp Lx t rt u I G) 0 0 Q := by
  rcases ho with rfl | rfl
  · exact c_X2_emit_2 hx hx2 hq
  · exact c_X2_emit_17 hx hx2 hq
theorem c_X2_aimHere_2 {d Lx t rt u : Nat} {I : Nat → Nat → Int32} {G : Nat → Nat → Int64} {Q : ab_Q} {x j : Nat} (hx : I 2 5 = nI x) (hx2 : x ≤ 420) (hj : j < x) (hq : Q none (hp Lx t rt u (wr I 4 j (nI x)) G)) : ab_call ab_MT (d + 1) 39 [.ref 2, .int (nI j)] (hp Lx t rt u I G) 0 0 Q := by
  refine wx_in (M := mX2_aimHere) rfl rfl rfl (Nat.le_of_ble_eq_true rfl) ?_
  refine wx_iload_n rfl (e := 1) rfl rfl ?_
  refine wn_if_lt rfl (e := 4) rfl (by omega) ?_
  refine wx_iload_n rfl (e := 5) rfl rfl ?_
  refine wx_aload_n rfl (e := 6) rfl rfl ?_
  refine wx_geti rfl (e := 9) rfl rfl ?_
  rw [hx]
  refine wn_ic_ge rfl (e := 12) rfl (by omega) (by omega) (fun c_9 => absurd c_9 (by omega)) (fun c_9 => ?_)
  refine wx_aload_n rfl (e := 13) rfl rfl ?_
  refine wx_getr rfl (e := 16) rfl rfl rfl ?_
  refine wx_iload_n rfl (e := 17) rfl rfl ?_
  refine wx_aload_n rfl (e := 18) rfl rfl ?_
  refine wx_geti rfl (e := 21) rfl rfl ?_
  rw [hx]
  refine wn_iast rfl (e := 22) rfl rfl (by decide) (by omega) (by decide) ?_
  refine wx_ret rfl rfl ⟨by decide, by decide⟩ ?_
  exact hq
theorem c_X2_aimHere_17 {d Lx t rt u : Nat} {I : Nat → Nat → Int32} {G : Nat → Nat → Int64} {Q : ab_Q} {x j : Nat} (hx : I 17 5 = nI x) (hx2 : x ≤ 420) (hj : j < x) (hq : Q none (hp Lx t rt u (wr I 19 j (nI x)) G)) : ab_call ab_MT (d + 1) 39 [.ref 17, .int (nI j)] (hp Lx t rt u I G) 0 0 Q := by
  refine wx_in (M := mX2_aimHere) rfl rfl rfl (Nat.le_of_ble_eq_true rfl) ?_
  refine wx_iload_n rfl (e := 1) rfl rfl ?_
  refine wn_if_lt rfl (e := 4) rfl (by omega) ?_
  refine wx_iload_n rfl (e := 5) rfl rfl ?_
  refine wx_aload_n rfl (e := 6) rfl rfl ?_
  refine wx_geti rfl (e := 9) rfl rfl ?_
  rw [hx]
  refine wn_ic_ge rfl (e := 12) rfl (by omega) (by omega) (fun c_9 => absurd c_9 (by omega)) (fun c_9 => ?_)
  refine wx_aload_n rfl (e := 13) rfl rfl ?_
  refine wx_getr rfl (e := 16) rfl rfl rfl ?_
  refine wx_iload_n rfl (e := 17) rfl rfl ?_
  refine wx_aload_n rfl (e := 18) rfl rfl ?_
  refine wx_geti rfl (e := 21) rfl rfl ?_
  rw [hx]
  refine wn_iast rfl (e := 22) rfl rfl (by decide) (by omega) (by decide) ?_
  refine wx_ret rfl rfl ⟨by decide, by decide⟩ ?_
  exact hq
theorem c_X2_aimHere {d Lx t rt u : Nat} {I : Nat → Nat → Int32} {G : Nat → Nat → Int64} {Q : ab_Q} {w : Nat} (ho : w = 2 ∨ w = 17) {x j : Nat} (hx : I w 5 = nI x) (hx2 : x ≤ 420) (hj : j < x) (hq : Q none (hp Lx t rt u (wr I (w + 2) j (nI x)) G)) : ab_call ab_MT (d + 1) 39 [.ref w, .int (nI j)] (hp Lx t rt u I G) 0 0 Q := by
  rcases ho with rfl | rfl
  · exact c_X2_aimHere_2 hx hx2 hj hq
  · exact c_X2_aimHere_17 hx hx2 hj hq
theorem set1_no {f : Nat → Bool} {k : Nat} {v : Bool} (h : f k = v) : set1 f k v = f := by
  funext j
  unfold set1
  by_cases z : j = k
  · rw [if_pos z, z, h]
  · rw [if_neg z]
/-- words as longs, 32 for a letter -/
def wdL (G : Nat → Int64) (nm : Nat → List Nat) (k : Nat) : Prop := ∀ i, i < k → G i = lN (vl_ 32 (nm i)) ∧ ltr (nm i) ∧ (nm i).length ≤ 8
theorem wdL.eq {xs ys : List Nat} (h1 : ltr xs ∧ xs.length ≤ 8) (h2 : ltr ys ∧ ys.length ≤ 8) : lN (vl_ 32 xs) = lN (vl_ 32 ys) ↔ xs = ys := by
  have b1 := vl_8 (q := 32) (by decide) (by decide) h1.1 h1.2
  have b2 := vl_8 (q := 32) (by decide) (by decide) h2.1 h2.2
  exact ⟨fun h => vl_inj (by decide) _ _ h1.1 h2.1 ((pk_lEQ (by omega) (by omega)).mp h), fun h => by rw [h]⟩
def chF (cn : Nat → List Nat) (w : List Nat) : Nat → Int32
  | 0 => -1
  | c + 1 => if chF cn w c < nI 0 then (if cn c = w then nI c else -1) else chF cn w c
theorem chF_st {cn : Nat → List Nat} {w : List Nat} {c : Nat} (hc : c < 2 ^ 31) (h0 : chF cn w c < nI 0) (h : cn c = w) : ∀ n, c < n → chF cn w n = nI c
  | 0, h1 => absurd h1 (Nat.not_lt_zero _)
  | n + 1, h1 => by
    by_cases z : c = n
    · subst z; rw [chF, if_pos h0, if_pos h]
    · rw [chF, chF_st hc h0 h n (by omega), if_neg (nI_nn hc)]
theorem dpS_st {nm : Nat → List Nat} {w : List Nat} {i : Nat} (h : nm i = w) : ∀ n, i < n → dpS nm w n = true
  | 0, h1 => absurd h1 (Nat.not_lt_zero _)
  | n + 1, h1 => by
    by_cases z : i = n
    · subst z; rw [dpS, decide_eq_true h, Bool.or_true]
    · rw [dpS, dpS_st h n (by omega), Bool.true_or]
theorem c_X7_churchNamed_1 {d Lx t rt u : Nat} {I : Nat → Nat → Int32} {G : Nat → Nat → Int64} {Q : ab_Q} {C : Nat} {cn : Nat → List Nat} (hC : I 1 10 = nI C) (hC6 : C ≤ 6) (hN : wdL (G 9) cn C) {w : List Nat} (hw : ltr w ∧ w.length ≤ 8) (hq : Q (some (.int (chF cn w C))) (hp Lx t rt u I G)) : ab_call ab_MT (d + 1) 108 [.ref 1, .long (lN (vl_ 32 w))] (hp Lx t rt u I G) 0 0 Q := by
  have loop : ∀ (m_ : Nat) (i : Nat), i ≤ C → C - i < m_ → chF cn w i < nI 0 → chF cn w i = -1 → WP d mX7_churchNamed Q 2 [some (.ref 1), some (.long (lN (vl_ 32 w))), none, some (.int (nI i))] [] (hp Lx t rt u I G) 0 0 := by
    intro m_
    induction m_ with
    | zero => intro i h1 h2; omega
    | succ m_ ih =>
      intro i h1 h2 h4 h5
      refine wx_iload_n rfl (e := 3) rfl rfl ?_
      refine wx_aload_n rfl (e := 4) rfl rfl ?_
      refine wx_geti rfl (e := 7) rfl rfl ?_
      rw [hC]
      refine wn_ic_ge rfl (e := 10) rfl (by omega) (by omega) (fun c_7 => ?_) (fun c_7 => ?_)
      · refine wx_iconst (v := (-1)) rfl (e := 30) rfl (by decide) ?_
        refine wx_iret rfl rfl rfl ⟨by decide, by decide⟩ ?_
        have ei : i = C := by omega
        subst ei
        rw [h5] at hq
        exact hq
      · refine wx_aload_n rfl (e := 11) rfl rfl ?_
        refine wx_getr rfl (e := 14) rfl rfl rfl ?_
        refine wx_iload_n rfl (e := 15) rfl rfl ?_
        refine wn_lald rfl (e := 16) rfl rfl (by omega) (by decide) ?_
        rw [(hN i (by omega)).1]
        refine wx_lload_n rfl (e := 17) rfl rfl ?_
        refine wx_lcmp rfl (e := 18) rfl ?_
        refine wx_if_ne rfl (e := 21) rfl (fun c_18 => ?_) (fun c_18 => ?_)
        · have hne : ¬ cn i = w := fun e => c_18 ((lg_cmp_eq _ _).mpr (by rw [e]))
          refine wn_iinc (m := 1) (L2 := [_, _, _, _]) rfl (e := 26) rfl rfl (by decide) rfl ?_
          refine wx_goto rfl ?_
          exact ih (i + 1) (by omega) (by omega) (by rw [chF, if_pos h4, if_neg hne]; decide) (by rw [chF, if_pos h4, if_neg hne])
        · have he : cn i = w := (wdL.eq (hN i (by omega)).2 hw).mp ((lg_cmp_eq _ _).mp c_18)
          refine wx_iload_n rfl (e := 22) rfl rfl ?_
          refine wx_iret rfl rfl rfl ⟨by decide, by decide⟩ ?_
          rw [chF_st (by omega) h4 he C (by omega)] at hq
          exact hq
  refine wx_in (M := mX7_churchNamed) rfl rfl rfl (Nat.le_of_ble_eq_true rfl) ?_
  refine wx_iconst (v := (nI 0)) rfl (e := 1) rfl (by decide) ?_
  refine wx_istore_n (L2 := [_, _, _, _]) rfl (e := 2) rfl (by decide) rfl ?_
  exact loop (C + 1) 0 (by omega) (by omega) (show (-1 : Int32) < nI 0 by decide) rfl
theorem c_X7_churchNamed_16 {d Lx t rt u : Nat} {I : Nat → Nat → Int32} {G : Nat → Nat → Int64} {Q : ab_Q} {C : Nat} {cn : Nat → List Nat} (hC : I 16 10 = nI C) (hC6 : C ≤ 6) (hN : wdL (G 24) cn C) {w : List Nat} (hw : ltr w ∧ w.length ≤ 8) (hq : Q (some (.int (chF cn w C))) (hp Lx t rt u I G)) : ab_call ab_MT (d + 1) 108 [.ref 16, .long (lN (vl_ 32 w))] (hp Lx t rt u I G) 0 0 Q := by
  have loop : ∀ (m_ : Nat) (i : Nat), i ≤ C → C - i < m_ → chF cn w i < nI 0 → chF cn w i = -1 → WP d mX7_churchNamed Q 2 [some (.ref 16), some (.long (lN (vl_ 32 w))), none, some (.int (nI i))] [] (hp Lx t rt u I G) 0 0 := by
    intro m_
    induction m_ with
    | zero => intro i h1 h2; omega
    | succ m_ ih =>
      intro i h1 h2 h4 h5
      refine wx_iload_n rfl (e := 3) rfl rfl ?_
      refine wx_aload_n rfl (e := 4) rfl rfl ?_
      refine wx_geti rfl (e := 7) rfl rfl ?_
      rw [hC]
      refine wn_ic_ge rfl (e := 10) rfl (by omega) (by omega) (fun c_7 => ?_) (fun c_7 => ?_)
      · refine wx_iconst (v := (-1)) rfl (e := 30) rfl (by decide) ?_
        refine wx_iret rfl rfl rfl ⟨by decide, by decide⟩ ?_
        have ei : i = C := by omega
        subst ei
        rw [h5] at hq
        exact hq
      · refine wx_aload_n rfl (e := 11) rfl rfl ?_
        refine wx_getr rfl (e := 14) rfl rfl rfl ?_
        refine wx_iload_n rfl (e := 15) rfl rfl ?_
        refine wn_lald rfl (e := 16) rfl rfl (by omega) (by decide) ?_
        rw [(hN i (by omega)).1]
        refine wx_lload_n rfl (e := 17) rfl rfl ?_
        refine wx_lcmp rfl (e := 18) rfl ?_
        refine wx_if_ne rfl (e := 21) rfl (fun c_18 => ?_) (fun c_18 => ?_)
        · have hne : ¬ cn i = w := fun e => c_18 ((lg_cmp_eq _ _).mpr (by rw [e]))
          refine wn_iinc (m := 1) (L2 := [_, _, _, _]) rfl (e := 26) rfl rfl (by decide) rfl ?_
          refine wx_goto rfl ?_
          exact ih (i + 1) (by omega) (by omega) (by rw [chF, if_pos h4, if_neg hne]; decide) (by rw [chF, if_pos h4, if_neg hne])
        · have he : cn i = w := (wdL.eq (hN i (by omega)).2 hw).mp ((lg_cmp_eq _ _).mp c_18)
          refine wx_iload_n rfl (e := 22) rfl rfl ?_
          refine wx_iret rfl rfl rfl ⟨by decide, by decide⟩ ?_
          rw [chF_st (by omega) h4 he C (by omega)] at hq
          exact hq
  refine wx_in (M := mX7_churchNamed) rfl rfl rfl (Nat.le_of_ble_eq_true rfl) ?_
  refine wx_iconst (v := (nI 0)) rfl (e := 1) rfl (by decide) ?_
  refine wx_istore_n (L2 := [_, _, _, _]) rfl (e := 2) rfl (by decide) rfl ?_
  exact loop (C + 1) 0 (by omega) (by omega) (show (-1 : Int32) < nI 0 by decide) rfl
theorem c_X7_churchNamed {d Lx t rt u : Nat} {I : Nat → Nat → Int32} {G : Nat → Nat → Int64} {Q : ab_Q} {o : Nat} (ho : o = 1 ∨ o = 16) {C : Nat} {cn : Nat → List Nat} (hC : I o 10 = nI C) (hC6 : C ≤ 6) (hN : wdL (G (o + 8)) cn C) {w : List Nat} (hw : ltr w ∧ w.length ≤ 8) (hq : Q (some (.int (chF cn w C))) (hp Lx t rt u I G)) : ab_call ab_MT (d + 1) 108 [.ref o, .long (lN (vl_ 32 w))] (hp Lx t rt u I G) 0 0 Q := by
  rcases ho with rfl | rfl
  · exact c_X7_churchNamed_1 hC hC6 hN hw hq
  · exact c_X7_churchNamed_16 hC hC6 hN hw hq
theorem c_X7_addName_1 {d Lx t rt u : Nat} {I : Nat → Nat → Int32} {G : Nat → Nat → Int64} {Q : ab_Q} {kn : Nat} {nm : Nat → List Nat} (hk : I 1 9 = nI kn) (hk17 : kn < 17) (hN : wdL (G 8) nm kn) {w : List Nat} (hw : ltr w ∧ w.length ≤ 8) (h1 : dpS nm w kn = true → Q (some (.int (nI 0))) (hp Lx t rt u I G)) (h0 : dpS nm w kn = false → Q (some (.int (nI 1))) (hp Lx t rt u (wr I 1 9 (nI (kn + 1))) (wl G 8 kn (lN (vl_ 32 w))))) : ab_call ab_MT (d + 1) 109 [.ref 1, .long (lN (vl_ 32 w))] (hp Lx t rt u I G) 0 0 Q := by
  have loop : ∀ (m_ : Nat) (i : Nat), i ≤ kn → kn - i < m_ → dpS nm w i = false → WP d mX7_addName Q 2 [some (.ref 1), some (.long (lN (vl_ 32 w))), none, some (.int (nI i))] [] (hp Lx t rt u I G) 0 0 := by
    intro m_
    induction m_ with
    | zero => intro i h1_ h2_; omega
    | succ m_ ih =>
      intro i h1_ h2_ h4
      refine wx_iload_n rfl (e := 3) rfl rfl ?_
      refine wx_aload_n rfl (e := 4) rfl rfl ?_
      refine wx_geti rfl (e := 7) rfl rfl ?_
      rw [hk]
      refine wn_ic_ge rfl (e := 10) rfl (by omega) (by omega) (fun c_7 => ?_) (fun c_7 => ?_)
      · refine wx_aload_n rfl (e := 30) rfl rfl ?_
        refine wx_geti rfl (e := 33) rfl rfl ?_
        rw [hk]
        refine wx_bipush (v := (nI 17)) rfl (e := 35) rfl (by decide) ?_
        refine wn_ic_ge rfl (e := 38) rfl (by omega) (by omega) (fun c_35 => absurd c_35 (by omega)) (fun c_35 => ?_)
        refine wx_aload_n rfl (e := 39) rfl rfl ?_
        refine wx_getr rfl (e := 42) rfl rfl rfl ?_
        refine wx_aload_n rfl (e := 43) rfl rfl ?_
        refine wx_geti rfl (e := 46) rfl rfl ?_
        rw [hk]
        refine wx_lload_n rfl (e := 47) rfl rfl ?_
        refine wn_last rfl (e := 48) rfl rfl (by decide) (by omega) (by decide) ?_
        refine wx_aload_n rfl (e := 49) rfl rfl ?_
        refine wx_dup rfl (e := 50) rfl rfl ?_
        refine wx_geti rfl (e := 53) rfl rfl ?_
        rw [hk]
        refine wx_iconst (v := (nI 1)) rfl (e := 54) rfl (by decide) ?_
        refine wn_iadd rfl (e := 55) rfl ?_
        refine wx_puti rfl (e := 58) rfl rfl (by decide) ?_
        refine wx_iconst (v := (nI 1)) rfl (e := 59) rfl (by decide) ?_
        refine wx_iret rfl rfl rfl ⟨by decide, by decide⟩ ?_
        have ei : i = kn := by omega
        subst ei
        exact h0 h4
      · refine wx_aload_n rfl (e := 11) rfl rfl ?_
        refine wx_getr rfl (e := 14) rfl rfl rfl ?_
        refine wx_iload_n rfl (e := 15) rfl rfl ?_
        refine wn_lald rfl (e := 16) rfl rfl (by omega) (by decide) ?_
        rw [(hN i (by omega)).1]
        refine wx_lload_n rfl (e := 17) rfl rfl ?_
        refine wx_lcmp rfl (e := 18) rfl ?_
        refine wx_if_ne rfl (e := 21) rfl (fun c_18 => ?_) (fun c_18 => ?_)
        · have hne : ¬ nm i = w := fun e => c_18 ((lg_cmp_eq _ _).mpr (by rw [e]))
          refine wn_iinc (m := 1) (L2 := [_, _, _, _]) rfl (e := 26) rfl rfl (by decide) rfl ?_
          refine wx_goto rfl ?_
          exact ih (i + 1) (by omega) (by omega) (by rw [dpS, h4, decide_eq_false hne]; rfl)
        · have he : nm i = w := (wdL.eq (hN i (by omega)).2 hw).mp ((lg_cmp_eq _ _).mp c_18)
          refine wx_iconst (v := (nI 0)) rfl (e := 22) rfl (by decide) ?_
          refine wx_iret rfl rfl rfl ⟨by decide, by decide⟩ ?_
          exact h1 (dpS_st he kn (by omega))
  refine wx_in (M := mX7_addName) rfl rfl rfl (Nat.le_of_ble_eq_true rfl) ?_
  refine wx_iconst (v := (nI 0)) rfl (e := 1) rfl (by decide) ?_
  refine wx_istore_n (L2 := [_, _, _, _]) rfl (e := 2) rfl (by decide) rfl ?_
  exact loop (kn + 1) 0 (by omega) (by omega) rfl
theorem c_X7_addName_16 {d Lx t rt u : Nat} {I : Nat → Nat → Int32} {G : Nat → Nat → Int64} {Q : ab_Q} {kn : Nat} {nm : Nat → List Nat} (hk : I 16 9 = nI kn) (hk17 : kn < 17) (hN : wdL (G 23) nm kn) {w : List Nat} (hw : ltr w ∧ w.length ≤ 8) (h1 : dpS nm w kn = true → Q (some (.int (nI 0))) (hp Lx t rt u I G)) (h0 : dpS nm w kn = false → Q (some (.int (nI 1))) (hp Lx t rt u (wr I 16 9 (nI (kn + 1))) (wl G 23 kn (lN (vl_ 32 w))))) : ab_call ab_MT (d + 1) 109 [.ref 16, .long (lN (vl_ 32 w))] (hp Lx t rt u I G) 0 0 Q := by
  have loop : ∀ (m_ : Nat) (i : Nat), i ≤ kn → kn - i < m_ → dpS nm w i = false → WP d mX7_addName Q 2 [some (.ref 16), some (.long (lN (vl_ 32 w))), none, some (.int (nI i))] [] (hp Lx t rt u I G) 0 0 := by
    intro m_
    induction m_ with
    | zero => intro i h1_ h2_; omega
    | succ m_ ih =>
      intro i h1_ h2_ h4
      refine wx_iload_n rfl (e := 3) rfl rfl ?_
      refine wx_aload_n rfl (e := 4) rfl rfl ?_
      refine wx_geti rfl (e := 7) rfl rfl ?_
      rw [hk]
      refine wn_ic_ge rfl (e := 10) rfl (by omega) (by omega) (fun c_7 => ?_) (fun c_7 => ?_)
      · refine wx_aload_n rfl (e := 30) rfl rfl ?_
        refine wx_geti rfl (e := 33) rfl rfl ?_
        rw [hk]
        refine wx_bipush (v := (nI 17)) rfl (e := 35) rfl (by decide) ?_
        refine wn_ic_ge rfl (e := 38) rfl (by omega) (by omega) (fun c_35 => absurd c_35 (by omega)) (fun c_35 => ?_)
        refine wx_aload_n rfl (e := 39) rfl rfl ?_
        refine wx_getr rfl (e := 42) rfl rfl rfl ?_
        refine wx_aload_n rfl (e := 43) rfl rfl ?_
        refine wx_geti rfl (e := 46) rfl rfl ?_
        rw [hk]
        refine wx_lload_n rfl (e := 47) rfl rfl ?_
        refine wn_last rfl (e := 48) rfl rfl (by decide) (by omega) (by decide) ?_
        refine wx_aload_n rfl (e := 49) rfl rfl ?_
        refine wx_dup rfl (e := 50) rfl rfl ?_
        refine wx_geti rfl (e := 53) rfl rfl ?_
        rw [hk]
        refine wx_iconst (v := (nI 1)) rfl (e := 54) rfl (by decide) ?_
        refine wn_iadd rfl (e := 55) rfl ?_
        refine wx_puti rfl (e := 58) rfl rfl (by decide) ?_
        refine wx_iconst (v := (nI 1)) rfl (e := 59) rfl (by decide) ?_
        refine wx_iret rfl rfl rfl ⟨by decide, by decide⟩ ?_
        have ei : i = kn := by omega
        subst ei
        exact h0 h4
      · refine wx_aload_n rfl (e := 11) rfl rfl ?_
        refine wx_getr rfl (e := 14) rfl rfl rfl ?_
        refine wx_iload_n rfl (e := 15) rfl rfl ?_
        refine wn_lald rfl (e := 16) rfl rfl (by omega) (by decide) ?_
        rw [(hN i (by omega)).1]
        refine wx_lload_n rfl (e := 17) rfl rfl ?_
        refine wx_lcmp rfl (e := 18) rfl ?_
        refine wx_if_ne rfl (e := 21) rfl (fun c_18 => ?_) (fun c_18 => ?_)
        · have hne : ¬ nm i = w := fun e => c_18 ((lg_cmp_eq _ _).mpr (by rw [e]))
          refine wn_iinc (m := 1) (L2 := [_, _, _, _]) rfl (e := 26) rfl rfl (by decide) rfl ?_
          refine wx_goto rfl ?_
          exact ih (i + 1) (by omega) (by omega) (by rw [dpS, h4, decide_eq_false hne]; rfl)
        · have he : nm i = w := (wdL.eq (hN i (by omega)).2 hw).mp ((lg_cmp_eq _ _).mp c_18)
          refine wx_iconst (v := (nI 0)) rfl (e := 22) rfl (by decide) ?_
          refine wx_iret rfl rfl rfl ⟨by decide, by decide⟩ ?_
          exact h1 (dpS_st he kn (by omega))
  refine wx_in (M := mX7_addName) rfl rfl rfl (Nat.le_of_ble_eq_true rfl) ?_
  refine wx_iconst (v := (nI 0)) rfl (e := 1) rfl (by decide) ?_
  refine wx_istore_n (L2 := [_, _, _, _]) rfl (e := 2) rfl (by decide) rfl ?_
  exact loop (kn + 1) 0 (by omega) (by omega) rfl
theorem c_X7_addName {d Lx t rt u : Nat} {I : Nat → Nat → Int32} {G : Nat → Nat → Int64} {Q : ab_Q} {o : Nat} (ho : o = 1 ∨ o = 16) {kn : Nat} {nm : Nat → List Nat} (hk : I o 9 = nI kn) (hk17 : kn < 17) (hN : wdL (G (o + 7)) nm kn) {w : List Nat} (hw : ltr w ∧ w.length ≤ 8) (h1 : dpS nm w kn = true → Q (some (.int (nI 0))) (hp Lx t rt u I G)) (h0 : dpS nm w kn = false → Q (some (.int (nI 1))) (hp Lx t rt u (wr I o 9 (nI (kn + 1))) (wl G (o + 7) kn (lN (vl_ 32 w))))) : ab_call ab_MT (d + 1) 109 [.ref o, .long (lN (vl_ 32 w))] (hp Lx t rt u I G) 0 0 Q := by
  rcases ho with rfl | rfl
  · exact c_X7_addName_1 hk hk17 hN hw h1 h0
  · exact c_X7_addName_16 hk hk17 hN hw h1 h0
theorem c_X7_addChurch_1 {d Lx t rt u : Nat} {I : Nat → Nat → Int32} {G : Nat → Nat → Int64} {Q : ab_Q} {C : Nat} (hC : I 1 10 = nI C) (hC6 : C < 6) {m : Int32} {v : Int64} (hq : Q none (hp Lx t rt u (wr (wr I 10 C m) 1 10 (nI (C + 1))) (wl G 9 C v))) : ab_call ab_MT (d + 1) 110 [.ref 1, .long v, .int m] (hp Lx t rt u I G) 0 0 Q := by
  refine wx_in (M := mX7_addChurch) rfl rfl rfl (Nat.le_of_ble_eq_true rfl) ?_
  refine wx_aload_n rfl (e := 1) rfl rfl ?_
  refine wx_geti rfl (e := 4) rfl rfl ?_
  rw [hC]
  refine wx_bipush (v := (nI 6)) rfl (e := 6) rfl (by decide) ?_
  refine wn_ic_ge rfl (e := 9) rfl (by omega) (by omega) (fun c_6 => absurd c_6 (by omega)) (fun c_6 => ?_)
  refine wx_aload_n rfl (e := 10) rfl rfl ?_
  refine wx_getr rfl (e := 13) rfl rfl rfl ?_
  refine wx_aload_n rfl (e := 14) rfl rfl ?_
  refine wx_geti rfl (e := 17) rfl rfl ?_
  rw [hC]
  refine wx_lload_n rfl (e := 18) rfl rfl ?_
  refine wn_last rfl (e := 19) rfl rfl (by decide) (by omega) (by decide) ?_
  refine wx_aload_n rfl (e := 20) rfl rfl ?_
  refine wx_getr rfl (e := 23) rfl rfl rfl ?_
  refine wx_aload_n rfl (e := 24) rfl rfl ?_
  refine wx_geti rfl (e := 27) rfl rfl ?_
  rw [hC]
  refine wx_iload_n rfl (e := 28) rfl rfl ?_
  refine wn_iast rfl (e := 29) rfl rfl (by decide) (by omega) (by decide) ?_
  refine wx_aload_n rfl (e := 30) rfl rfl ?_
  refine wx_dup rfl (e := 31) rfl rfl ?_
  refine wx_geti rfl (e := 34) rfl rfl ?_
  rw [wr_other _ _ _ _ (by decide), hC]
  refine wx_iconst (v := (nI 1)) rfl (e := 35) rfl (by decide) ?_
  refine wn_iadd rfl (e := 36) rfl ?_
  refine wx_puti rfl (e := 39) rfl rfl (by decide) ?_
  refine wx_ret rfl rfl ⟨by decide, by decide⟩ ?_
  exact hq
theorem c_X7_addChurch_16 {d Lx t rt u : Nat} {I : Nat → Nat → Int32} {G : Nat → Nat → Int64} {Q : ab_Q} {C : Nat} (hC : I 16 10 = nI C) (hC6 : C < 6) {m : Int32} {v : Int64} (hq : Q none (hp Lx t rt u (wr (wr I 25 C m) 16 10 (nI (C + 1))) (wl G 24 C v))) : ab_call ab_MT (d + 1) 110 [.ref 16, .long v, .int m] (hp Lx t rt u I G) 0 0 Q := by
  refine wx_in (M := mX7_addChurch) rfl rfl rfl (Nat.le_of_ble_eq_true rfl) ?_
  refine wx_aload_n rfl (e := 1) rfl rfl ?_
  refine wx_geti rfl (e := 4) rfl rfl ?_
  rw [hC]
  refine wx_bipush (v := (nI 6)) rfl (e := 6) rfl (by decide) ?_
  refine wn_ic_ge rfl (e := 9) rfl (by omega) (by omega) (fun c_6 => absurd c_6 (by omega)) (fun c_6 => ?_)
  refine wx_aload_n rfl (e := 10) rfl rfl ?_
  refine wx_getr rfl (e := 13) rfl rfl rfl ?_
  refine wx_aload_n rfl (e := 14) rfl rfl ?_
  refine wx_geti rfl (e := 17) rfl rfl ?_
  rw [hC]
  refine wx_lload_n rfl (e := 18) rfl rfl ?_
  refine wn_last rfl (e := 19) rfl rfl (by decide) (by omega) (by decide) ?_
  refine wx_aload_n rfl (e := 20) rfl rfl ?_
  refine wx_getr rfl (e := 23) rfl rfl rfl ?_
  refine wx_aload_n rfl (e := 24) rfl rfl ?_
  refine wx_geti rfl (e := 27) rfl rfl ?_
  rw [hC]
  refine wx_iload_n rfl (e := 28) rfl rfl ?_
  refine wn_iast rfl (e := 29) rfl rfl (by decide) (by omega) (by decide) ?_
  refine wx_aload_n rfl (e := 30) rfl rfl ?_
  refine wx_dup rfl (e := 31) rfl rfl ?_
  refine wx_geti rfl (e := 34) rfl rfl ?_
  rw [wr_other _ _ _ _ (by decide), hC]
  refine wx_iconst (v := (nI 1)) rfl (e := 35) rfl (by decide) ?_
  refine wn_iadd rfl (e := 36) rfl ?_
  refine wx_puti rfl (e := 39) rfl rfl (by decide) ?_
  refine wx_ret rfl rfl ⟨by decide, by decide⟩ ?_
  exact hq
theorem c_X7_addChurch {d Lx t rt u : Nat} {I : Nat → Nat → Int32} {G : Nat → Nat → Int64} {Q : ab_Q} {o : Nat} (ho : o = 1 ∨ o = 16) {C : Nat} (hC : I o 10 = nI C) (hC6 : C < 6) {m : Int32} {v : Int64} (hq : Q none (hp Lx t rt u (wr (wr I (o + 9) C m) o 10 (nI (C + 1))) (wl G (o + 8) C v))) : ab_call ab_MT (d + 1) 110 [.ref o, .long v, .int m] (hp Lx t rt u I G) 0 0 Q := by
  rcases ho with rfl | rfl
  · exact c_X7_addChurch_1 hC hC6 hq
  · exact c_X7_addChurch_16 hC hC6 hq
theorem c_X7_addRoad_1 {d Lx t rt u : Nat} {I : Nat → Nat → Int32} {G : Nat → Nat → Int64} {Q : ab_Q} {C D : Nat} (hC : I 1 10 = nI C) (hC6 : C ≤ 6) (hD : I 1 11 = nI D) {a b v : Int32} (h1 : ∀ i j, i < C → j < C → a = nI i → b = nI j → Q none (hp Lx t rt u (wr (wr (wr I 1 11 (nI (D + 1))) 11 (i * 6 + j) v) 11 (j * 6 + i) v) G)) (h0 : (¬ ∃ i j, i < C ∧ j < C ∧ a = nI i ∧ b = nI j) → Q none (hp Lx t rt u (wr I 1 11 (nI (D + 1))) G)) : ab_call ab_MT (d + 2) 111 [.ref 1, .int a, .int b, .int v] (hp Lx t rt u I G) 0 0 Q := by
  refine wx_in (M := mX7_addRoad) rfl rfl rfl (Nat.le_of_ble_eq_true rfl) ?_
  refine wx_aload_n rfl (e := 1) rfl rfl ?_
  refine wx_dup rfl (e := 2) rfl rfl ?_
  refine wx_geti rfl (e := 5) rfl rfl ?_
  rw [hD]
  refine wx_iconst (v := (nI 1)) rfl (e := 6) rfl (by decide) ?_
  refine wn_iadd rfl (e := 7) rfl ?_
  refine wx_puti rfl (e := 10) rfl rfl (by decide) ?_
  refine wx_aload_n rfl (e := 11) rfl rfl ?_
  refine wx_iload_n rfl (e := 12) rfl rfl ?_
  refine wx_cv1 (mc := 0) (ms := 0) rfl (e := 15) rfl rfl (Nat.le_of_ble_eq_true rfl) ⟨by decide, by decide⟩ ?_
  refine c_X7_hasChurch (o := 1) (by decide) (n := C) ((wr_ne _ _ _ _ (by decide)).trans hC) (by omega) (fun i hi ei => ?_) (fun no => ?_)
  · subst ei
    refine wn_if_eq rfl (e := 18) rfl (by omega) (fun c_15 => absurd c_15 (by omega)) (fun c_15 => ?_)
    refine wx_aload_n rfl (e := 19) rfl rfl ?_
    refine wx_iload_n rfl (e := 20) rfl rfl ?_
    refine wx_cv1 (mc := 0) (ms := 0) rfl (e := 23) rfl rfl (Nat.le_of_ble_eq_true rfl) ⟨by decide, by decide⟩ ?_
    refine c_X7_hasChurch (o := 1) (by decide) (n := C) ((wr_ne _ _ _ _ (by decide)).trans hC) (by omega) (fun j hj ej => ?_) (fun no => ?_)
    · subst ej
      refine wn_if_eq rfl (e := 26) rfl (by omega) (fun c_23 => absurd c_23 (by omega)) (fun c_23 => ?_)
      refine wx_aload_n rfl (e := 27) rfl rfl ?_
      refine wx_getr rfl (e := 30) rfl rfl rfl ?_
      refine wx_iload_n rfl (e := 31) rfl rfl ?_
      refine wx_bipush (v := (nI 6)) rfl (e := 33) rfl (by decide) ?_
      refine wn_imul rfl (e := 34) rfl ?_
      refine wx_iload_n rfl (e := 35) rfl rfl ?_
      refine wn_iadd rfl (e := 36) rfl ?_
      refine wx_iload_n rfl (e := 37) rfl rfl ?_
      refine wn_iast rfl (e := 38) rfl rfl (by decide) (by omega) (by decide) ?_
      refine wx_aload_n rfl (e := 39) rfl rfl ?_
      refine wx_getr rfl (e := 42) rfl rfl rfl ?_
      refine wx_iload_n rfl (e := 43) rfl rfl ?_
      refine wx_bipush (v := (nI 6)) rfl (e := 45) rfl (by decide) ?_
      refine wn_imul rfl (e := 46) rfl ?_
      refine wx_iload_n rfl (e := 47) rfl rfl ?_
      refine wn_iadd rfl (e := 48) rfl ?_
      refine wx_iload_n rfl (e := 49) rfl rfl ?_
      refine wn_iast rfl (e := 50) rfl rfl (by decide) (by omega) (by decide) ?_
      refine wx_ret rfl rfl ⟨by decide, by decide⟩ ?_
      exact h1 i j hi hj rfl rfl
    · refine wn_if_eq rfl (e := 26) rfl (by omega) (fun c_23 => ?_) (fun c_23 => absurd c_23 (by omega))
      refine wx_ret rfl rfl ⟨by decide, by decide⟩ ?_
      exact h0 (fun ⟨i2, j2, _, h3, _, h5⟩ => no j2 h3 h5)
  · refine wn_if_eq rfl (e := 18) rfl (by omega) (fun c_15 => ?_) (fun c_15 => absurd c_15 (by omega))
    refine wx_ret rfl rfl ⟨by decide, by decide⟩ ?_
    exact h0 (fun ⟨i2, j2, h2, _, h4, _⟩ => no i2 h2 h4)
theorem c_X7_addRoad_16 {d Lx t rt u : Nat} {I : Nat → Nat → Int32} {G : Nat → Nat → Int64} {Q : ab_Q} {C D : Nat} (hC : I 16 10 = nI C) (hC6 : C ≤ 6) (hD : I 16 11 = nI D) {a b v : Int32} (h1 : ∀ i j, i < C → j < C → a = nI i → b = nI j → Q none (hp Lx t rt u (wr (wr (wr I 16 11 (nI (D + 1))) 26 (i * 6 + j) v) 26 (j * 6 + i) v) G)) (h0 : (¬ ∃ i j, i < C ∧ j < C ∧ a = nI i ∧ b = nI j) → Q none (hp Lx t rt u (wr I 16 11 (nI (D + 1))) G)) : ab_call ab_MT (d + 2) 111 [.ref 16, .int a, .int b, .int v] (hp Lx t rt u I G) 0 0 Q := by
  refine wx_in (M := mX7_addRoad) rfl rfl rfl (Nat.le_of_ble_eq_true rfl) ?_
  refine wx_aload_n rfl (e := 1) rfl rfl ?_
  refine wx_dup rfl (e := 2) rfl rfl ?_
  refine wx_geti rfl (e := 5) rfl rfl ?_
  rw [hD]
  refine wx_iconst (v := (nI 1)) rfl (e := 6) rfl (by decide) ?_
  refine wn_iadd rfl (e := 7) rfl ?_
  refine wx_puti rfl (e := 10) rfl rfl (by decide) ?_
  refine wx_aload_n rfl (e := 11) rfl rfl ?_
  refine wx_iload_n rfl (e := 12) rfl rfl ?_
  refine wx_cv1 (mc := 0) (ms := 0) rfl (e := 15) rfl rfl (Nat.le_of_ble_eq_true rfl) ⟨by decide, by decide⟩ ?_
  refine c_X7_hasChurch (o := 16) (by decide) (n := C) ((wr_ne _ _ _ _ (by decide)).trans hC) (by omega) (fun i hi ei => ?_) (fun no => ?_)
  · subst ei
    refine wn_if_eq rfl (e := 18) rfl (by omega) (fun c_15 => absurd c_15 (by omega)) (fun c_15 => ?_)
    refine wx_aload_n rfl (e := 19) rfl rfl ?_
    refine wx_iload_n rfl (e := 20) rfl rfl ?_
    refine wx_cv1 (mc := 0) (ms := 0) rfl (e := 23) rfl rfl (Nat.le_of_ble_eq_true rfl) ⟨by decide, by decide⟩ ?_
    refine c_X7_hasChurch (o := 16) (by decide) (n := C) ((wr_ne _ _ _ _ (by decide)).trans hC) (by omega) (fun j hj ej => ?_) (fun no => ?_)
    · subst ej
      refine wn_if_eq rfl (e := 26) rfl (by omega) (fun c_23 => absurd c_23 (by omega)) (fun c_23 => ?_)
      refine wx_aload_n rfl (e := 27) rfl rfl ?_
      refine wx_getr rfl (e := 30) rfl rfl rfl ?_
      refine wx_iload_n rfl (e := 31) rfl rfl ?_
      refine wx_bipush (v := (nI 6)) rfl (e := 33) rfl (by decide) ?_
      refine wn_imul rfl (e := 34) rfl ?_
      refine wx_iload_n rfl (e := 35) rfl rfl ?_
      refine wn_iadd rfl (e := 36) rfl ?_
      refine wx_iload_n rfl (e := 37) rfl rfl ?_
      refine wn_iast rfl (e := 38) rfl rfl (by decide) (by omega) (by decide) ?_
      refine wx_aload_n rfl (e := 39) rfl rfl ?_
      refine wx_getr rfl (e := 42) rfl rfl rfl ?_
      refine wx_iload_n rfl (e := 43) rfl rfl ?_
      refine wx_bipush (v := (nI 6)) rfl (e := 45) rfl (by decide) ?_
      refine wn_imul rfl (e := 46) rfl ?_
      refine wx_iload_n rfl (e := 47) rfl rfl ?_
      refine wn_iadd rfl (e := 48) rfl ?_
      refine wx_iload_n rfl (e := 49) rfl rfl ?_
      refine wn_iast rfl (e := 50) rfl rfl (by decide) (by omega) (by decide) ?_
      refine wx_ret rfl rfl ⟨by decide, by decide⟩ ?_
      exact h1 i j hi hj rfl rfl
    · refine wn_if_eq rfl (e := 26) rfl (by omega) (fun c_23 => ?_) (fun c_23 => absurd c_23 (by omega))
      refine wx_ret rfl rfl ⟨by decide, by decide⟩ ?_
      exact h0 (fun ⟨i2, j2, _, h3, _, h5⟩ => no j2 h3 h5)
  · refine wn_if_eq rfl (e := 18) rfl (by omega) (fun c_15 => ?_) (fun c_15 => absurd c_15 (by omega))
    refine wx_ret rfl rfl ⟨by decide, by decide⟩ ?_
    exact h0 (fun ⟨i2, j2, h2, _, h4, _⟩ => no i2 h2 h4)
theorem c_X7_addRoad {d Lx t rt u : Nat} {I : Nat → Nat → Int32} {G : Nat → Nat → Int64} {Q : ab_Q} {o : Nat} (ho : o = 1 ∨ o = 16) {C D : Nat} (hC : I o 10 = nI C) (hC6 : C ≤ 6) (hD : I o 11 = nI D) {a b v : Int32} (h1 : ∀ i j, i < C → j < C → a = nI i → b = nI j → Q none (hp Lx t rt u (wr (wr (wr I o 11 (nI (D + 1))) (o + 10) (i * 6 + j) v) (o + 10) (j * 6 + i) v) G)) (h0 : (¬ ∃ i j, i < C ∧ j < C ∧ a = nI i ∧ b = nI j) → Q none (hp Lx t rt u (wr I o 11 (nI (D + 1))) G)) : ab_call ab_MT (d + 2) 111 [.ref o, .int a, .int b, .int v] (hp Lx t rt u I G) 0 0 Q := by
  rcases ho with rfl | rfl
  · exact c_X7_addRoad_1 hC hC6 hD h1 h0
  · exact c_X7_addRoad_16 hC hC6 hD h1 h0
theorem c_X7_addRelic_1 {d Lx t rt u : Nat} {I : Nat → Nat → Int32} {G : Nat → Nat → Int64} {Q : ab_Q} {R : Nat} (hR : I 1 12 = nI R) (hR6 : R < 6) {f : Nat → Bool} (hf : I 1 13 = nI (bsF f)) (hfR : f R = false) {a : Int32} {b : Bool} (hq : Q none (hp Lx t rt u (wr (wr (wr I 12 R a) 1 13 (nI (bsF (set1 f R b)))) 1 12 (nI (R + 1))) G)) : ab_call ab_MT (d + 1) 112 [.ref 1, .int a, .int (b1 b)] (hp Lx t rt u I G) 0 0 Q := by
  refine wx_in (M := mX7_addRelic) rfl rfl rfl (Nat.le_of_ble_eq_true rfl) ?_
  refine wx_aload_n rfl (e := 1) rfl rfl ?_
  refine wx_geti rfl (e := 4) rfl rfl ?_
  rw [hR]
  refine wx_bipush (v := (nI 6)) rfl (e := 6) rfl (by decide) ?_
  refine wn_ic_ge rfl (e := 9) rfl (by omega) (by omega) (fun c_6 => absurd c_6 (by omega)) (fun c_6 => ?_)
  refine wx_aload_n rfl (e := 10) rfl rfl ?_
  refine wx_getr rfl (e := 13) rfl rfl rfl ?_
  refine wx_aload_n rfl (e := 14) rfl rfl ?_
  refine wx_geti rfl (e := 17) rfl rfl ?_
  rw [hR]
  refine wx_iload_n rfl (e := 18) rfl rfl ?_
  refine wn_iast rfl (e := 19) rfl rfl (by decide) (by omega) (by decide) ?_
  refine wx_aload_n rfl (e := 20) rfl rfl ?_
  refine wx_dup rfl (e := 21) rfl rfl ?_
  refine wx_geti rfl (e := 24) rfl rfl ?_
  rw [wr_other _ _ _ _ (by decide), hf]
  refine wx_iload_n rfl (e := 25) rfl rfl ?_
  refine wx_if_eq rfl (e := 28) rfl (fun c_25 => ?_) (fun c_25 => ?_)
  · have eb := b1_0.mp c_25
    refine wx_iconst (v := (nI 0)) rfl (e := 38) rfl (by decide) ?_
    refine wx_ior rfl (e := 39) rfl ?_
    rw [show nI (bsF f) ||| nI 0 = nI (bsF (set1 f R b)) from by rw [set1_no (hfR.trans eb.symm)]; exact Int32.or_zero]
    refine wx_puti rfl (e := 42) rfl rfl (by decide) ?_
    refine wx_aload_n rfl (e := 43) rfl rfl ?_
    refine wx_dup rfl (e := 44) rfl rfl ?_
    refine wx_geti rfl (e := 47) rfl rfl ?_
    rw [wr_ne _ _ _ _ (by decide), wr_other _ _ _ _ (by decide), hR]
    refine wx_iconst (v := (nI 1)) rfl (e := 48) rfl (by decide) ?_
    refine wn_iadd rfl (e := 49) rfl ?_
    refine wx_puti rfl (e := 52) rfl rfl (by decide) ?_
    refine wx_ret rfl rfl ⟨by decide, by decide⟩ ?_
    exact hq
  · have eb := b1_n0.mp c_25
    refine wx_iconst (v := (nI 1)) rfl (e := 29) rfl (by decide) ?_
    refine wx_aload_n rfl (e := 30) rfl rfl ?_
    refine wx_geti rfl (e := 33) rfl rfl ?_
    rw [wr_other _ _ _ _ (by decide), hR]
    refine wx_ishl rfl (e := 34) rfl ?_
    refine wx_goto rfl ?_
    refine wx_ior rfl (e := 39) rfl ?_
    rw [st_ok f hR6, show stF f R = set1 f R b from by unfold stF set1; rw [eb]]
    refine wx_puti rfl (e := 42) rfl rfl (by decide) ?_
    refine wx_aload_n rfl (e := 43) rfl rfl ?_
    refine wx_dup rfl (e := 44) rfl rfl ?_
    refine wx_geti rfl (e := 47) rfl rfl ?_
    rw [wr_ne _ _ _ _ (by decide), wr_other _ _ _ _ (by decide), hR]
    refine wx_iconst (v := (nI 1)) rfl (e := 48) rfl (by decide) ?_
    refine wn_iadd rfl (e := 49) rfl ?_
    refine wx_puti rfl (e := 52) rfl rfl (by decide) ?_
    refine wx_ret rfl rfl ⟨by decide, by decide⟩ ?_
    exact hq
theorem c_X7_addRelic_16 {d Lx t rt u : Nat} {I : Nat → Nat → Int32} {G : Nat → Nat → Int64} {Q : ab_Q} {R : Nat} (hR : I 16 12 = nI R) (hR6 : R < 6) {f : Nat → Bool} (hf : I 16 13 = nI (bsF f)) (hfR : f R = false) {a : Int32} {b : Bool} (hq : Q none (hp Lx t rt u (wr (wr (wr I 27 R a) 16 13 (nI (bsF (set1 f R b)))) 16 12 (nI (R + 1))) G)) : ab_call ab_MT (d + 1) 112 [.ref 16, .int a, .int (b1 b)] (hp Lx t rt u I G) 0 0 Q := by
  refine wx_in (M := mX7_addRelic) rfl rfl rfl (Nat.le_of_ble_eq_true rfl) ?_
  refine wx_aload_n rfl (e := 1) rfl rfl ?_
  refine wx_geti rfl (e := 4) rfl rfl ?_
  rw [hR]
  refine wx_bipush (v := (nI 6)) rfl (e := 6) rfl (by decide) ?_
  refine wn_ic_ge rfl (e := 9) rfl (by omega) (by omega) (fun c_6 => absurd c_6 (by omega)) (fun c_6 => ?_)
  refine wx_aload_n rfl (e := 10) rfl rfl ?_
  refine wx_getr rfl (e := 13) rfl rfl rfl ?_
  refine wx_aload_n rfl (e := 14) rfl rfl ?_
  refine wx_geti rfl (e := 17) rfl rfl ?_
  rw [hR]
  refine wx_iload_n rfl (e := 18) rfl rfl ?_
  refine wn_iast rfl (e := 19) rfl rfl (by decide) (by omega) (by decide) ?_
  refine wx_aload_n rfl (e := 20) rfl rfl ?_
  refine wx_dup rfl (e := 21) rfl rfl ?_
  refine wx_geti rfl (e := 24) rfl rfl ?_
  rw [wr_other _ _ _ _ (by decide), hf]
  refine wx_iload_n rfl (e := 25) rfl rfl ?_
  refine wx_if_eq rfl (e := 28) rfl (fun c_25 => ?_) (fun c_25 => ?_)
  · have eb := b1_0.mp c_25
    refine wx_iconst (v := (nI 0)) rfl (e := 38) rfl (by decide) ?_
    refine wx_ior rfl (e := 39) rfl ?_
    rw [show nI (bsF f) ||| nI 0 = nI (bsF (set1 f R b)) from by rw [set1_no (hfR.trans eb.symm)]; exact Int32.or_zero]
    refine wx_puti rfl (e := 42) rfl rfl (by decide) ?_
    refine wx_aload_n rfl (e := 43) rfl rfl ?_
    refine wx_dup rfl (e := 44) rfl rfl ?_
    refine wx_geti rfl (e := 47) rfl rfl ?_
    rw [wr_ne _ _ _ _ (by decide), wr_other _ _ _ _ (by decide), hR]
    refine wx_iconst (v := (nI 1)) rfl (e := 48) rfl (by decide) ?_
    refine wn_iadd rfl (e := 49) rfl ?_
    refine wx_puti rfl (e := 52) rfl rfl (by decide) ?_
    refine wx_ret rfl rfl ⟨by decide, by decide⟩ ?_
    exact hq
  · have eb := b1_n0.mp c_25
    refine wx_iconst (v := (nI 1)) rfl (e := 29) rfl (by decide) ?_
    refine wx_aload_n rfl (e := 30) rfl rfl ?_
    refine wx_geti rfl (e := 33) rfl rfl ?_
    rw [wr_other _ _ _ _ (by decide), hR]
    refine wx_ishl rfl (e := 34) rfl ?_
    refine wx_goto rfl ?_
    refine wx_ior rfl (e := 39) rfl ?_
    rw [st_ok f hR6, show stF f R = set1 f R b from by unfold stF set1; rw [eb]]
    refine wx_puti rfl (e := 42) rfl rfl (by decide) ?_
    refine wx_aload_n rfl (e := 43) rfl rfl ?_
    refine wx_dup rfl (e := 44) rfl rfl ?_
    refine wx_geti rfl (e := 47) rfl rfl ?_
    rw [wr_ne _ _ _ _ (by decide), wr_other _ _ _ _ (by decide), hR]
    refine wx_iconst (v := (nI 1)) rfl (e := 48) rfl (by decide) ?_
    refine wn_iadd rfl (e := 49) rfl ?_
    refine wx_puti rfl (e := 52) rfl rfl (by decide) ?_
    refine wx_ret rfl rfl ⟨by decide, by decide⟩ ?_
    exact hq
theorem c_X7_addRelic {d Lx t rt u : Nat} {I : Nat → Nat → Int32} {G : Nat → Nat → Int64} {Q : ab_Q} {o : Nat} (ho : o = 1 ∨ o = 16) {R : Nat} (hR : I o 12 = nI R) (hR6 : R < 6) {f : Nat → Bool} (hf : I o 13 = nI (bsF f)) (hfR : f R = false) {a : Int32} {b : Bool} (hq : Q none (hp Lx t rt u (wr (wr (wr I (o + 11) R a) o 13 (nI (bsF (set1 f R b)))) o 12 (nI (R + 1))) G)) : ab_call ab_MT (d + 1) 112 [.ref o, .int a, .int (b1 b)] (hp Lx t rt u I G) 0 0 Q := by
  rcases ho with rfl | rfl
  · exact c_X7_addRelic_1 hR hR6 hf hfR hq
  · exact c_X7_addRelic_16 hR hR6 hf hfR hq
theorem c_X7_addPilgrim_1 {d Lx t rt u : Nat} {I : Nat → Nat → Int32} {G : Nat → Nat → Int64} {Q : ab_Q} {P : Nat} (hP : I 1 14 = nI P) (hP5 : P < 5) {a b c : Int32} (hq : Q none (hp Lx t rt u (wr (wr (wr (wr I 13 P a) 14 P b) 15 P c) 1 14 (nI (P + 1))) G)) : ab_call ab_MT (d + 1) 113 [.ref 1, .int a, .int b, .int c] (hp Lx t rt u I G) 0 0 Q := by
  refine wx_in (M := mX7_addPilgrim) rfl rfl rfl (Nat.le_of_ble_eq_true rfl) ?_
  refine wx_aload_n rfl (e := 1) rfl rfl ?_
  refine wx_geti rfl (e := 4) rfl rfl ?_
  rw [hP]
  refine wx_iconst (v := (nI 5)) rfl (e := 5) rfl (by decide) ?_
  refine wn_ic_ge rfl (e := 8) rfl (by omega) (by omega) (fun c_5 => absurd c_5 (by omega)) (fun c_5 => ?_)
  refine wx_aload_n rfl (e := 9) rfl rfl ?_
  refine wx_getr rfl (e := 12) rfl rfl rfl ?_
  refine wx_aload_n rfl (e := 13) rfl rfl ?_
  refine wx_geti rfl (e := 16) rfl rfl ?_
  rw [hP]
  refine wx_iload_n rfl (e := 17) rfl rfl ?_
  refine wn_iast rfl (e := 18) rfl rfl (by decide) (by omega) (by decide) ?_
  refine wx_aload_n rfl (e := 19) rfl rfl ?_
  refine wx_getr rfl (e := 22) rfl rfl rfl ?_
  refine wx_aload_n rfl (e := 23) rfl rfl ?_
  refine wx_geti rfl (e := 26) rfl rfl ?_
  rw [wr_other _ _ _ _ (by decide), hP]
  refine wx_iload_n rfl (e := 27) rfl rfl ?_
  refine wn_iast rfl (e := 28) rfl rfl (by decide) (by omega) (by decide) ?_
  refine wx_aload_n rfl (e := 29) rfl rfl ?_
  refine wx_getr rfl (e := 32) rfl rfl rfl ?_
  refine wx_aload_n rfl (e := 33) rfl rfl ?_
  refine wx_geti rfl (e := 36) rfl rfl ?_
  rw [wr_other _ _ _ _ (by decide), wr_other _ _ _ _ (by decide), hP]
  refine wx_iload_n rfl (e := 37) rfl rfl ?_
  refine wn_iast rfl (e := 38) rfl rfl (by decide) (by omega) (by decide) ?_
  refine wx_aload_n rfl (e := 39) rfl rfl ?_
  refine wx_dup rfl (e := 40) rfl rfl ?_
  refine wx_geti rfl (e := 43) rfl rfl ?_
  rw [wr_other _ _ _ _ (by decide), wr_other _ _ _ _ (by decide), wr_other _ _ _ _ (by decide), hP]
  refine wx_iconst (v := (nI 1)) rfl (e := 44) rfl (by decide) ?_
  refine wn_iadd rfl (e := 45) rfl ?_
  refine wx_puti rfl (e := 48) rfl rfl (by decide) ?_
  refine wx_ret rfl rfl ⟨by decide, by decide⟩ ?_
  exact hq
theorem c_X7_addPilgrim_16 {d Lx t rt u : Nat} {I : Nat → Nat → Int32} {G : Nat → Nat → Int64} {Q : ab_Q} {P : Nat} (hP : I 16 14 = nI P) (hP5 : P < 5) {a b c : Int32} (hq : Q none (hp Lx t rt u (wr (wr (wr (wr I 28 P a) 29 P b) 30 P c) 16 14 (nI (P + 1))) G)) : ab_call ab_MT (d + 1) 113 [.ref 16, .int a, .int b, .int c] (hp Lx t rt u I G) 0 0 Q := by
  refine wx_in (M := mX7_addPilgrim) rfl rfl rfl (Nat.le_of_ble_eq_true rfl) ?_
  refine wx_aload_n rfl (e := 1) rfl rfl ?_
  refine wx_geti rfl (e := 4) rfl rfl ?_
  rw [hP]
  refine wx_iconst (v := (nI 5)) rfl (e := 5) rfl (by decide) ?_
  refine wn_ic_ge rfl (e := 8) rfl (by omega) (by omega) (fun c_5 => absurd c_5 (by omega)) (fun c_5 => ?_)
  refine wx_aload_n rfl (e := 9) rfl rfl ?_
  refine wx_getr rfl (e := 12) rfl rfl rfl ?_
  refine wx_aload_n rfl (e := 13) rfl rfl ?_
  refine wx_geti rfl (e := 16) rfl rfl ?_
  rw [hP]
  refine wx_iload_n rfl (e := 17) rfl rfl ?_
  refine wn_iast rfl (e := 18) rfl rfl (by decide) (by omega) (by decide) ?_
  refine wx_aload_n rfl (e := 19) rfl rfl ?_
  refine wx_getr rfl (e := 22) rfl rfl rfl ?_
  refine wx_aload_n rfl (e := 23) rfl rfl ?_
  refine wx_geti rfl (e := 26) rfl rfl ?_
  rw [wr_other _ _ _ _ (by decide), hP]
  refine wx_iload_n rfl (e := 27) rfl rfl ?_
  refine wn_iast rfl (e := 28) rfl rfl (by decide) (by omega) (by decide) ?_
  refine wx_aload_n rfl (e := 29) rfl rfl ?_
  refine wx_getr rfl (e := 32) rfl rfl rfl ?_
  refine wx_aload_n rfl (e := 33) rfl rfl ?_
  refine wx_geti rfl (e := 36) rfl rfl ?_
  rw [wr_other _ _ _ _ (by decide), wr_other _ _ _ _ (by decide), hP]
  refine wx_iload_n rfl (e := 37) rfl rfl ?_
  refine wn_iast rfl (e := 38) rfl rfl (by decide) (by omega) (by decide) ?_
  refine wx_aload_n rfl (e := 39) rfl rfl ?_
  refine wx_dup rfl (e := 40) rfl rfl ?_
  refine wx_geti rfl (e := 43) rfl rfl ?_
  rw [wr_other _ _ _ _ (by decide), wr_other _ _ _ _ (by decide), wr_other _ _ _ _ (by decide), hP]
  refine wx_iconst (v := (nI 1)) rfl (e := 44) rfl (by decide) ?_
  refine wn_iadd rfl (e := 45) rfl ?_
  refine wx_puti rfl (e := 48) rfl rfl (by decide) ?_
  refine wx_ret rfl rfl ⟨by decide, by decide⟩ ?_
  exact hq
theorem c_X7_addPilgrim {d Lx t rt u : Nat} {I : Nat → Nat → Int32} {G : Nat → Nat → Int64} {Q : ab_Q} {o : Nat} (ho : o = 1 ∨ o = 16) {P : Nat} (hP : I o 14 = nI P) (hP5 : P < 5) {a b c : Int32} (hq : Q none (hp Lx t rt u (wr (wr (wr (wr I (o + 12) P a) (o + 13) P b) (o + 14) P c) o 14 (nI (P + 1))) G)) : ab_call ab_MT (d + 1) 113 [.ref o, .int a, .int b, .int c] (hp Lx t rt u I G) 0 0 Q := by
  rcases ho with rfl | rfl
  · exact c_X7_addPilgrim_1 hP hP5 hq
  · exact c_X7_addPilgrim_16 hP hP5 hq
theorem c_X7_sow_1 {d Lx t rt u : Nat} {I : Nat → Nat → Int32} {G : Nat → Nat → Int64} {Q : ab_Q} {v : Int32} (hq : Q none (hp Lx t rt u (wr I 1 15 v) G)) : ab_call ab_MT (d + 1) 114 [.ref 1, .int v] (hp Lx t rt u I G) 0 0 Q := by
  refine wx_in (M := mX7_sow) rfl rfl rfl (Nat.le_of_ble_eq_true rfl) ?_
  refine wx_aload_n rfl (e := 1) rfl rfl ?_
  refine wx_iload_n rfl (e := 2) rfl rfl ?_
  refine wx_puti rfl (e := 5) rfl rfl (by decide) ?_
  refine wx_ret rfl rfl ⟨by decide, by decide⟩ ?_
  exact hq
theorem c_X7_sow_16 {d Lx t rt u : Nat} {I : Nat → Nat → Int32} {G : Nat → Nat → Int64} {Q : ab_Q} {v : Int32} (hq : Q none (hp Lx t rt u (wr I 16 15 v) G)) : ab_call ab_MT (d + 1) 114 [.ref 16, .int v] (hp Lx t rt u I G) 0 0 Q := by
  refine wx_in (M := mX7_sow) rfl rfl rfl (Nat.le_of_ble_eq_true rfl) ?_
  refine wx_aload_n rfl (e := 1) rfl rfl ?_
  refine wx_iload_n rfl (e := 2) rfl rfl ?_
  refine wx_puti rfl (e := 5) rfl rfl (by decide) ?_
  refine wx_ret rfl rfl ⟨by decide, by decide⟩ ?_
  exact hq
theorem c_X7_sow {d Lx t rt u : Nat} {I : Nat → Nat → Int32} {G : Nat → Nat → Int64} {Q : ab_Q} {o : Nat} (ho : o = 1 ∨ o = 16) {v : Int32} (hq : Q none (hp Lx t rt u (wr I o 15 v) G)) : ab_call ab_MT (d + 1) 114 [.ref o, .int v] (hp Lx t rt u I G) 0 0 Q := by
  rcases ho with rfl | rfl
  · exact c_X7_sow_1 hq
  · exact c_X7_sow_16 hq

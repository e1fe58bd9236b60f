/-! the past, what was told, the tape, rows of likelihood -/
def PA (I : Nat → Nat → Int32) (H : Nat → rw_) (m : Nat) : Prop := m ≤ 40 ∧ ∃ x, x < 40 ∧ I 48 3 = nI x ∧ I 48 4 = nI m ∧ ∀ j, j < m → ∀ k, k < 55 → I 49 ((x + 39 - j) % 40 * 55 + k) = cst (H j) k
def PS (I : Nat → Nat → Int32) (hd : Nat → Bool) (sl : Nat → rw_) : Prop := ∀ s, s < 3 → I 51 s = b1 (hd s) ∧ (hd s = true → ∀ k, k < 55 → I 50 (s * 55 + k) = cst (sl s) k)
def TD (I : Nat → Nat → Int32) (tp : Nat → Nat) (tw : Nat → Bool) (m : Nat) : Prop := m ≤ 20 ∧ I 52 2 = nI m ∧ ∀ j, j < m → I 53 j = nI (tp j) ∧ I 54 j = b1 (tw j)
def TP (I : Nat → Nat → Int32) (B : Nat → Int32) (n : Nat) : Prop := n ≤ 2000 ∧ I 31 1 = nI n ∧ ∀ j, j < n → I 32 j = B j
def psh (r : rw_) (H : Nat → rw_) : Nat → rw_ := fun j => if j = 0 then r else H (j - 1)
theorem b1_nI {b : Bool} : b1 b = nI 1 ↔ b = true := by cases b <;> decide
theorem b1_n0 {b : Bool} : ¬ b1 b = 0 ↔ b = true := by cases b <;> decide
theorem nar_b1 (b : Bool) : vp_nar .boolean (b1 b) = b1 b := by cases b <;> rfl
theorem PA.kept {I I2 : Nat → Nat → Int32} {H : Nat → rw_} {m : Nat} (h : PA I H m) (h1 : I2 48 = I 48) (h2 : I2 49 = I 49) : PA I2 H m := by
  unfold PA at *; rw [h1, h2]; exact h
theorem PS.kept {I I2 : Nat → Nat → Int32} {hd : Nat → Bool} {sl : Nat → rw_} (h : PS I hd sl) (h1 : I2 50 = I 50) (h2 : I2 51 = I 51) : PS I2 hd sl := by
  unfold PS at *; rw [h1, h2]; exact h
theorem TD.kept {I I2 : Nat → Nat → Int32} {tp : Nat → Nat} {tw : Nat → Bool} {m : Nat} (h : TD I tp tw m) (h1 : I2 52 = I 52) (h2 : I2 53 = I 53) (h3 : I2 54 = I 54) : TD I2 tp tw m := by
  unfold TD at *; rw [h1, h2, h3]; exact h
theorem TP.kept {I I2 : Nat → Nat → Int32} {B : Nat → Int32} {n : Nat} (h : TP I B n) (h1 : I2 31 = I 31) (h2 : I2 32 = I 32) : TP I2 B n := by
  unfold TP at *; rw [h1, h2]; exact h
theorem c_X3_clear {d Lx t rt u : Nat} {I : Nat → Nat → Int32} {G : Nat → Nat → Int64} {Q : ab_Q} {x : Nat} (hx : x < 40) (ex : I 48 3 = nI x) (hq : ∀ I2, (∀ q, q ≠ 48 → q ≠ 51 → I2 q = I q) → PA I2 (fun _ _ => nI 0) 0 → PS I2 (fun _ => false) (fun _ _ => nI 0) → Q none (hp Lx t rt u I2 G)) : ab_call ab_MT (d + 1) 46 [.ref 48] (hp Lx t rt u I G) 0 0 Q := by
  have loop : ∀ (n : Nat) (i : Nat) (I2 : Nat → Nat → Int32), i ≤ 3 → 3 - i < n → (∀ q, q ≠ 48 → q ≠ 51 → I2 q = I q) → (∀ k, k < i → I2 51 k = nI 0) → I2 48 = wr I 48 4 (nI 0) 48 → WP d mX3_clear Q 7 [some (.ref 48), some (.int (nI i))] [] (hp Lx t rt u I2 G) 0 0 := by
    intro n
    induction n with
    | zero => intro i I2 hi hn f2 g2 k2; omega
    | succ n ih =>
      intro i I2 hi hn f2 g2 k2
      refine wx_iload_n rfl (e := 8) rfl rfl ?_
      refine wx_iconst (v := (nI 3)) rfl (e := 9) rfl (by decide) ?_
      refine wn_ic_ge rfl (e := 12) rfl (by omega) (by omega) (fun c_9 => ?_) (fun c_9 => ?_)
      · refine wx_ret rfl rfl ⟨by decide, by decide⟩ ?_
        exact hq I2 f2 ⟨by omega, x, hx, (congrFun k2 3).trans ((wr_at _ _ _ _ _ _).trans ((if_pos rfl).trans ((if_neg (by decide)).trans ex))), (congrFun k2 4).trans ((wr_at _ _ _ _ _ _).trans ((if_pos rfl).trans (if_pos rfl))), fun j hj => absurd hj (Nat.not_lt_zero _)⟩ (fun s hs => ⟨g2 s (by omega), fun z => by cases z⟩)
      · refine wx_aload_n rfl (e := 13) rfl rfl ?_
        refine wx_getr rfl (e := 16) rfl rfl rfl ?_
        refine wx_iload_n rfl (e := 17) rfl rfl ?_
        refine wx_iconst (v := (nI 0)) rfl (e := 18) rfl (by decide) ?_
        refine wn_zast rfl (e := 19) rfl rfl (by decide) (by omega) (by decide) ?_
        refine wn_iinc (m := 1) (L2 := [_, _]) rfl (e := 22) rfl rfl (by decide) rfl ?_
        refine wx_goto rfl ?_
        refine ih (i + 1) _ (by omega) (by omega) (fun q h h2 => (wr_other _ _ _ _ h2).trans (f2 q h h2)) (wr_ext rfl (fun k hk hne => g2 k (by omega))) ((wr_other _ _ _ _ (by decide)).trans k2)
  refine wx_in (M := mX3_clear) rfl rfl rfl (Nat.le_of_ble_eq_true rfl) ?_
  refine wx_aload_n rfl (e := 1) rfl rfl ?_
  refine wx_iconst (v := (nI 0)) rfl (e := 2) rfl (by decide) ?_
  refine wx_puti rfl (e := 5) rfl rfl (by decide) ?_
  refine wx_iconst (v := (nI 0)) rfl (e := 6) rfl (by decide) ?_
  refine wx_istore_n (L2 := [_, _]) rfl (e := 7) rfl (by decide) rfl ?_
  exact loop 4 0 _ (by omega) (by omega) (fun q h _ => wr_other _ _ _ _ h) (fun k hk => absurd hk (Nat.not_lt_zero _)) rfl
theorem c_X3_size {d Lx t rt u : Nat} {I : Nat → Nat → Int32} {G : Nat → Nat → Int64} {Q : ab_Q} {H : Nat → rw_} {m : Nat} (hP : PA I H m) (hq : Q (some (.int (nI m))) (hp Lx t rt u I G)) : ab_call ab_MT (d + 1) 47 [.ref 48] (hp Lx t rt u I G) 0 0 Q := by
  obtain ⟨-, x, -, -, em, -⟩ := hP
  rw [← em] at hq
  refine wx_in (M := mX3_size) rfl rfl rfl (Nat.le_of_ble_eq_true rfl) ?_
  refine wx_aload_n rfl (e := 1) rfl rfl ?_
  refine wx_geti rfl (e := 4) rfl rfl ?_
  refine wx_iret rfl rfl rfl ⟨by decide, by decide⟩ ?_
  exact hq
theorem c_X3_slotsHeld {d Lx t rt u : Nat} {I : Nat → Nat → Int32} {G : Nat → Nat → Int64} {Q : ab_Q} {hd : Nat → Bool} {sl : Nat → rw_} (hP : PS I hd sl) (hq : Q (some (.int (nI (cntS hd 3)))) (hp Lx t rt u I G)) : ab_call ab_MT (d + 1) 48 [.ref 48] (hp Lx t rt u I G) 0 0 Q := by
  have loop : ∀ (n : Nat) (i : Nat), i ≤ 3 → 3 - i < n → WP d mX3_slotsHeld Q 4 [some (.ref 48), some (.int (nI (cntS hd i))), some (.int (nI i))] [] (hp Lx t rt u I G) 0 0 := by
    intro n
    induction n with
    | zero => intro i hi hn; omega
    | succ n ih =>
      intro i hi hn
      refine wx_iload_n rfl (e := 5) rfl rfl ?_
      refine wx_iconst (v := (nI 3)) rfl (e := 6) rfl (by decide) ?_
      refine wn_ic_ge rfl (e := 9) rfl (by omega) (by omega) (fun c_6 => ?_) (fun c_6 => ?_)
      · refine wx_iload_n rfl (e := 33) rfl rfl ?_
        refine wx_iret rfl rfl rfl ⟨by decide, by decide⟩ ?_
        have ei : i = 3 := by omega
        subst ei
        exact hq
      · refine wx_iload_n rfl (e := 10) rfl rfl ?_
        refine wx_aload_n rfl (e := 11) rfl rfl ?_
        refine wx_getr rfl (e := 14) rfl rfl rfl ?_
        refine wx_iload_n rfl (e := 15) rfl rfl ?_
        refine wn_zald rfl (e := 16) rfl rfl (by omega) (by decide) ?_
        rw [(hP i (by omega)).1]
        refine wx_if_eq rfl (e := 19) rfl (fun c_16 => ?_) (fun c_16 => ?_)
        · have hG : cntS hd (i + 1) = cntS hd i + 0 := by rw [cntS, if_neg (by rw [b1_0.mp c_16]; decide)]
          refine wx_iconst (v := (nI 0)) rfl (e := 24) rfl (by decide) ?_
          refine wn_iadd rfl (e := 25) rfl ?_
          refine wx_istore_n (L2 := [_, _, _]) rfl (e := 26) rfl (by decide) rfl ?_
          refine wn_iinc (m := 1) (L2 := [_, _, _]) rfl (e := 29) rfl rfl (by decide) rfl ?_
          refine wx_goto rfl ?_
          have hh := ih (i + 1) (by omega) (by omega)
          rw [hG] at hh
          exact hh
        · have hG : cntS hd (i + 1) = cntS hd i + 1 := by rw [cntS, if_pos (b1_n0.mp c_16)]
          refine wx_iconst (v := (nI 1)) rfl (e := 20) rfl (by decide) ?_
          refine wx_goto rfl ?_
          refine wn_iadd rfl (e := 25) rfl ?_
          refine wx_istore_n (L2 := [_, _, _]) rfl (e := 26) rfl (by decide) rfl ?_
          refine wn_iinc (m := 1) (L2 := [_, _, _]) rfl (e := 29) rfl rfl (by decide) rfl ?_
          refine wx_goto rfl ?_
          have hh := ih (i + 1) (by omega) (by omega)
          rw [hG] at hh
          exact hh
  refine wx_in (M := mX3_slotsHeld) rfl rfl rfl (Nat.le_of_ble_eq_true rfl) ?_
  refine wx_iconst (v := (nI 0)) rfl (e := 1) rfl (by decide) ?_
  refine wx_istore_n (L2 := [_, _, _]) rfl (e := 2) rfl (by decide) rfl ?_
  refine wx_iconst (v := (nI 0)) rfl (e := 3) rfl (by decide) ?_
  refine wx_istore_n (L2 := [_, _, _]) rfl (e := 4) rfl (by decide) rfl ?_
  exact loop 4 0 (by omega) (by omega)
theorem pa_keep {I I2 : Nat → Nat → Int32} {H : Nat → rw_} {m x : Nat} {r : rw_} (hm : m ≤ 40) (hx : x < 40) (hH : ∀ j, j < m → ∀ k, k < 55 → I 49 ((x + 39 - j) % 40 * 55 + k) = cst (H j) k) (hS : CS 39 I r) (h3 : I2 48 3 = nI ((x + 1) % 40)) (h4 : I2 48 4 = nI (min 40 (m + 1))) (h49 : ∀ k, I2 49 k = if x * 55 ≤ k ∧ k < x * 55 + 55 then I 40 (k - x * 55) else I 49 k) : PA I2 (psh r H) (min 40 (m + 1)) := by
  refine ⟨by omega, (x + 1) % 40, by omega, h3, h4, fun j hj k hk => ?_⟩
  rw [h49]
  unfold psh
  by_cases z : j = 0
  · subst z
    have e : ((x + 1) % 40 + 39 - 0) % 40 = x := by omega
    rw [e, if_pos (by omega), if_pos rfl, hS _ (by omega)]
    congr 1; omega
  · have e : ((x + 1) % 40 + 39 - j) % 40 = (x + 39 - (j - 1)) % 40 := by omega
    have ne : (x + 39 - (j - 1)) % 40 ≠ x := by omega
    rw [e, if_neg z]
    generalize hs : (x + 39 - (j - 1)) % 40 = s at *
    rw [if_neg (by omega), ← hs]
    exact hH (j - 1) (by omega) k hk
theorem min40 {m : Nat} (h : m ≤ 40) : (if nI (m + 1) < nI 40 then nI (m + 1) else nI 40) = nI (min 40 (m + 1)) := by
  by_cases z : m + 1 < 40
  · rw [if_pos ((nI_ltI (by omega) (by omega)).mpr z), Nat.min_eq_right (by omega)]
  · rw [if_neg (fun w => z ((nI_ltI (by omega) (by omega)).mp w)), Nat.min_eq_left (by omega)]
theorem c_X3_keep {d Lx t rt u : Nat} {I : Nat → Nat → Int32} {G : Nat → Nat → Int64} {Q : ab_Q} {H : Nat → rw_} {m : Nat} {r : rw_} (hP : PA I H m) (hS : CS 39 I r) (hq : ∀ I2, (∀ q, q ≠ 48 → q ≠ 49 → I2 q = I q) → PA I2 (psh r H) (min 40 (m + 1)) → Q none (hp Lx t rt u I2 G)) : ab_call ab_MT (d + 2) 49 [.ref 48, .ref 39] (hp Lx t rt u I G) 0 0 Q := by
  obtain ⟨hm, x, hx, ex, em, hH⟩ := hP
  refine wx_in (M := mX3_keep) rfl rfl rfl (Nat.le_of_ble_eq_true rfl) ?_
  refine wx_aload_n rfl (e := 1) rfl rfl ?_
  refine wx_aload_n rfl (e := 2) rfl rfl ?_
  refine wx_getr rfl (e := 5) rfl rfl rfl ?_
  refine wx_aload_n rfl (e := 6) rfl rfl ?_
  refine wx_geti rfl (e := 9) rfl rfl ?_
  rw [ex]
  refine wx_cv2 (mc := 0) (ms := 0) rfl (e := 12) rfl rfl (Nat.le_of_ble_eq_true rfl) ⟨by decide, by decide⟩ ?_
  refine c_X5_writeTo_49 hx (fun I2 f2 g2 => ?_)
  refine wx_aload_n rfl (e := 13) rfl rfl ?_
  refine wx_aload_n rfl (e := 14) rfl rfl ?_
  refine wx_geti rfl (e := 17) rfl rfl ?_
  rw [f2 48 (by decide), ex]
  refine wx_iconst (v := (nI 1)) rfl (e := 18) rfl (by decide) ?_
  refine wn_iadd rfl (e := 19) rfl ?_
  refine wx_bipush (v := (nI 40)) rfl (e := 21) rfl (by decide) ?_
  refine wx_irem rfl (e := 22) rfl (by decide) ?_
  rw [pk_rem (by omega) (by omega) (by omega)]
  refine wx_puti rfl (e := 25) rfl rfl (by decide) ?_
  refine wx_aload_n rfl (e := 26) rfl rfl ?_
  refine wx_bipush (v := (nI 40)) rfl (e := 28) rfl (by decide) ?_
  refine wx_aload_n rfl (e := 29) rfl rfl ?_
  refine wx_geti rfl (e := 32) rfl rfl ?_
  rw [wr_at, if_pos rfl, if_neg (by decide), f2 48 (by decide), em]
  refine wx_iconst (v := (nI 1)) rfl (e := 33) rfl (by decide) ?_
  refine wn_iadd rfl (e := 34) rfl ?_
  refine wx_cs2 (mc := 0) (ms := 0) rfl (e := 37) rfl (Nat.le_of_ble_eq_true rfl) ⟨by decide, by decide⟩ ?_
  refine c_J9_min_7cf53 ?_
  rw [min40 hm]
  refine wx_puti rfl (e := 40) rfl rfl (by decide) ?_
  refine wx_ret rfl rfl ⟨by decide, by decide⟩ ?_
  refine hq _ (fun q h1 h2 => by rw [wr_other _ _ _ _ h1, wr_other _ _ _ _ h1]; exact f2 q h2) (pa_keep hm hx hH hS ?_ ?_ ?_)
  · rw [wr_at, if_pos rfl, if_neg (by decide), wr_at, if_pos rfl, if_pos rfl]
  · rw [wr_at, if_pos rfl, if_pos rfl]
  · intro k; rw [wr_other _ _ _ _ (by decide), wr_other _ _ _ _ (by decide)]; exact g2 k
theorem c_X3_takeBack {d Lx t rt u : Nat} {I : Nat → Nat → Int32} {G : Nat → Nat → Int64} {Q : ab_Q} {H : Nat → rw_} {m : Nat} (hP : PA I H m) (h0 : m = 0 → Q (some (.int (nI 0))) (hp Lx t rt u I G)) (h1 : 0 < m → ∀ I2, (∀ q, q ≠ 48 → q ≠ 40 → I2 q = I q) → CS 39 I2 (H 0) → PA I2 (fun j => H (j + 1)) (m - 1) → Q (some (.int (nI 1))) (hp Lx t rt u I2 G)) : ab_call ab_MT (d + 2) 50 [.ref 48, .ref 39] (hp Lx t rt u I G) 0 0 Q := by
  obtain ⟨hm, x, hx, ex, em, hH⟩ := id hP
  refine wx_in (M := mX3_takeBack) rfl rfl rfl (Nat.le_of_ble_eq_true rfl) ?_
  refine wx_aload_n rfl (e := 1) rfl rfl ?_
  refine wx_geti rfl (e := 4) rfl rfl ?_
  rw [em]
  refine wn_if_ne rfl (e := 7) rfl (by omega) (fun c_4 => ?_) (fun c_4 => ?_)
  · refine wx_aload_n rfl (e := 10) rfl rfl ?_
    refine wx_aload_n rfl (e := 11) rfl rfl ?_
    refine wx_geti rfl (e := 14) rfl rfl ?_
    rw [ex]
    refine wx_bipush (v := (nI 40)) rfl (e := 16) rfl (by decide) ?_
    refine wn_iadd rfl (e := 17) rfl ?_
    refine wx_iconst (v := (nI 1)) rfl (e := 18) rfl (by decide) ?_
    refine wn_isub rfl (e := 19) rfl (by omega) ?_
    refine wx_bipush (v := (nI 40)) rfl (e := 21) rfl (by decide) ?_
    refine wx_irem rfl (e := 22) rfl (by decide) ?_
    rw [pk_rem (by omega) (by omega) (by omega)]
    refine wx_puti rfl (e := 25) rfl rfl (by decide) ?_
    refine wx_aload_n rfl (e := 26) rfl rfl ?_
    refine wx_dup rfl (e := 27) rfl rfl ?_
    refine wx_geti rfl (e := 30) rfl rfl ?_
    rw [wr_at, if_pos rfl, if_neg (by decide), em]
    refine wx_iconst (v := (nI 1)) rfl (e := 31) rfl (by decide) ?_
    refine wn_isub rfl (e := 32) rfl (by omega) ?_
    refine wx_puti rfl (e := 35) rfl rfl (by decide) ?_
    refine wx_aload_n rfl (e := 36) rfl rfl ?_
    refine wx_aload_n rfl (e := 37) rfl rfl ?_
    refine wx_getr rfl (e := 40) rfl rfl rfl ?_
    refine wx_aload_n rfl (e := 41) rfl rfl ?_
    refine wx_geti rfl (e := 44) rfl rfl ?_
    rw [wr_at, if_pos rfl, if_neg (by decide), wr_at, if_pos rfl, if_pos rfl]
    refine wx_cv2 (mc := 0) (ms := 0) rfl (e := 47) rfl rfl (Nat.le_of_ble_eq_true rfl) ⟨by decide, by decide⟩ ?_
    refine c_X5_readFrom_49 (j := (x + 40 - 1) % 40) (by omega) (fun I2 f2 g2 => ?_)
    refine wx_iconst (v := (nI 1)) rfl (e := 48) rfl (by decide) ?_
    refine wx_iret rfl rfl rfl ⟨by decide, by decide⟩ ?_
    refine h1 (by omega) _ (fun q a b => by rw [f2 q b, wr_other _ _ _ _ a, wr_other _ _ _ _ a]) (fun k hk => ?_) ⟨by omega, (x + 40 - 1) % 40, by omega, ?_, ?_, fun j hj k hk => ?_⟩
    · rw [g2 k hk, wr_other _ _ _ _ (by decide), wr_other _ _ _ _ (by decide), ← hH 0 (by omega) k hk]; congr 1
    · rw [f2 48 (by decide), wr_at, if_pos rfl, if_neg (by decide), wr_at, if_pos rfl, if_pos rfl]
    · rw [f2 48 (by decide), wr_at, if_pos rfl, if_pos rfl]
    · rw [f2 49 (by decide), wr_other _ _ _ _ (by decide), wr_other _ _ _ _ (by decide), ← hH (j + 1) (by omega) k hk]; congr 3; omega
  · refine wx_iconst (v := (nI 0)) rfl (e := 8) rfl (by decide) ?_
    refine wx_iret rfl rfl rfl ⟨by decide, by decide⟩ ?_
    exact h0 c_4
theorem c_X3_putInSlot {d Lx t rt u : Nat} {I : Nat → Nat → Int32} {G : Nat → Nat → Int64} {Q : ab_Q} {hd : Nat → Bool} {sl : Nat → rw_} {r : rw_} {v : Int32} (hP : PS I hd sl) (hS : CS 39 I r) (h1 : ∀ s, s < 3 → v = nI s → ∀ I2, (∀ q, q ≠ 50 → q ≠ 51 → I2 q = I q) → PS I2 (fun j => if j = s then true else hd j) (fun j => if j = s then r else sl j) → Q (some (.int (nI 1))) (hp Lx t rt u I2 G)) (h0 : (∀ s, s < 3 → v ≠ nI s) → Q (some (.int (nI 0))) (hp Lx t rt u I G)) : ab_call ab_MT (d + 2) 51 [.ref 48, .ref 39, .int v] (hp Lx t rt u I G) 0 0 Q := by
  refine wx_in (M := mX3_putInSlot) rfl rfl rfl (Nat.le_of_ble_eq_true rfl) ?_
  refine wx_iload_n rfl (e := 1) rfl rfl ?_
  refine wx_iconst (v := (nI 0)) rfl (e := 2) rfl (by decide) ?_
  refine wx_iconst (v := (nI 2)) rfl (e := 3) rfl (by decide) ?_
  refine wx_cs3 (mc := 0) (ms := 0) rfl (e := 6) rfl (Nat.le_of_ble_eq_true rfl) ⟨by decide, by decide⟩ ?_
  refine c_X10_isWithin (by decide) (by decide) (fun s k1 k2 ev => ?_) (fun hno => ?_)
  · subst ev
    refine wn_if_ne rfl (e := 9) rfl (by omega) (fun c_6 => ?_) (fun c_6 => absurd c_6 (by omega))
    refine wx_aload_n rfl (e := 12) rfl rfl ?_
    refine wx_aload_n rfl (e := 13) rfl rfl ?_
    refine wx_getr rfl (e := 16) rfl rfl rfl ?_
    refine wx_iload_n rfl (e := 17) rfl rfl ?_
    refine wx_cv2 (mc := 0) (ms := 0) rfl (e := 20) rfl rfl (Nat.le_of_ble_eq_true rfl) ⟨by decide, by decide⟩ ?_
    refine c_X5_writeTo_50 (by omega) (fun I2 f2 g2 => ?_)
    refine wx_aload_n rfl (e := 21) rfl rfl ?_
    refine wx_getr rfl (e := 24) rfl rfl rfl ?_
    refine wx_iload_n rfl (e := 25) rfl rfl ?_
    refine wx_iconst (v := (nI 1)) rfl (e := 26) rfl (by decide) ?_
    refine wn_zast rfl (e := 27) rfl rfl (by decide) (by omega) (by decide) ?_
    refine wx_iconst (v := (nI 1)) rfl (e := 28) rfl (by decide) ?_
    refine wx_iret rfl rfl rfl ⟨by decide, by decide⟩ ?_
    refine h1 s (by omega) rfl _ (fun q a b => by rw [wr_other _ _ _ _ b]; exact f2 q a) (fun j hj => ?_)
    rw [wr_at, if_pos rfl, f2 51 (by decide), wr_other _ _ _ _ (by decide)]
    dsimp only
    by_cases z : j = s
    · subst z
      rw [if_pos rfl, if_pos rfl, if_pos rfl]
      refine ⟨rfl, fun _ k hk => ?_⟩
      rw [g2, if_pos (by omega), hS _ (by omega)]
      congr 1; omega
    · rw [if_neg z, if_neg z, if_neg z]
      refine ⟨(hP j hj).1, fun w k hk => ?_⟩
      rw [g2, if_neg (by omega)]
      exact (hP j hj).2 w k hk
  · refine wn_if_ne rfl (e := 9) rfl (by omega) (fun c_6 => absurd c_6 (by omega)) (fun c_6 => ?_)
    refine wx_iconst (v := (nI 0)) rfl (e := 10) rfl (by decide) ?_
    refine wx_iret rfl rfl rfl ⟨by decide, by decide⟩ ?_
    exact h0 (fun s hs => hno s (Nat.zero_le _) (by omega))
theorem c_X3_takeFromSlot {d Lx t rt u : Nat} {I : Nat → Nat → Int32} {G : Nat → Nat → Int64} {Q : ab_Q} {hd : Nat → Bool} {sl : Nat → rw_} {H : Nat → rw_} {m : Nat} {v : Int32} (hP : PS I hd sl) (hA : PA I H m) (h1 : ∀ s, s < 3 → v = nI s → hd s = true → ∀ I2, (∀ q, q ≠ 40 → q ≠ 48 → I2 q = I q) → CS 39 I2 (sl s) → PA I2 (fun _ _ => nI 0) 0 → Q (some (.int (nI 1))) (hp Lx t rt u I2 G)) (h0 : (∀ s, s < 3 → v = nI s → hd s = false) → Q (some (.int (nI 0))) (hp Lx t rt u I G)) : ab_call ab_MT (d + 2) 52 [.ref 48, .ref 39, .int v] (hp Lx t rt u I G) 0 0 Q := by
  obtain ⟨hm, x, hx, ex, em, hH⟩ := id hA
  refine wx_in (M := mX3_takeFromSlot) rfl rfl rfl (Nat.le_of_ble_eq_true rfl) ?_
  refine wx_iload_n rfl (e := 1) rfl rfl ?_
  refine wx_iconst (v := (nI 0)) rfl (e := 2) rfl (by decide) ?_
  refine wx_iconst (v := (nI 2)) rfl (e := 3) rfl (by decide) ?_
  refine wx_cs3 (mc := 0) (ms := 0) rfl (e := 6) rfl (Nat.le_of_ble_eq_true rfl) ⟨by decide, by decide⟩ ?_
  refine c_X10_isWithin (by decide) (by decide) (fun s k1 k2 ev => ?_) (fun hno => ?_)
  · subst ev
    refine wn_if_eq rfl (e := 9) rfl (by omega) (fun c_6 => absurd c_6 (by omega)) (fun c_6 => ?_)
    refine wx_aload_n rfl (e := 10) rfl rfl ?_
    refine wx_getr rfl (e := 13) rfl rfl rfl ?_
    refine wx_iload_n rfl (e := 14) rfl rfl ?_
    refine wn_zald rfl (e := 15) rfl rfl (by omega) (by decide) ?_
    rw [(hP s (by omega)).1]
    refine wx_if_ne rfl (e := 18) rfl (fun c_15 => ?_) (fun c_15 => ?_)
    · refine wx_aload_n rfl (e := 21) rfl rfl ?_
      refine wx_aload_n rfl (e := 22) rfl rfl ?_
      refine wx_getr rfl (e := 25) rfl rfl rfl ?_
      refine wx_iload_n rfl (e := 26) rfl rfl ?_
      refine wx_cv2 (mc := 0) (ms := 0) rfl (e := 29) rfl rfl (Nat.le_of_ble_eq_true rfl) ⟨by decide, by decide⟩ ?_
      refine c_X5_readFrom_50 (by omega) (fun I2 f2 g2 => ?_)
      refine wx_aload_n rfl (e := 30) rfl rfl ?_
      refine wx_iconst (v := (nI 0)) rfl (e := 31) rfl (by decide) ?_
      refine wx_puti rfl (e := 34) rfl rfl (by decide) ?_
      refine wx_iconst (v := (nI 1)) rfl (e := 35) rfl (by decide) ?_
      refine wx_iret rfl rfl rfl ⟨by decide, by decide⟩ ?_
      refine h1 s (by omega) rfl (b1_n0.mp c_15) _ (fun q a b => by rw [wr_other _ _ _ _ b]; exact f2 q a) (fun k hk => ?_) ⟨by omega, x, hx, ?_, ?_, fun j hj => absurd hj (Nat.not_lt_zero _)⟩
      · rw [wr_other _ _ _ _ (by decide), g2 k hk]; exact (hP s (by omega)).2 (b1_n0.mp c_15) k hk
      · rw [wr_at, if_pos rfl, if_neg (by decide), f2 48 (by decide)]; exact ex
      · rw [wr_at, if_pos rfl, if_pos rfl]
    · refine wx_iconst (v := (nI 0)) rfl (e := 19) rfl (by decide) ?_
      refine wx_iret rfl rfl rfl ⟨by decide, by decide⟩ ?_
      exact h0 (fun s2 hs e => by rw [(nI_eq (by omega) (by omega)).mp e] at c_15; exact b1_0.mp c_15)
  · refine wn_if_eq rfl (e := 9) rfl (by omega) (fun c_6 => ?_) (fun c_6 => absurd c_6 (by omega))
    refine wx_iconst (v := (nI 0)) rfl (e := 19) rfl (by decide) ?_
    refine wx_iret rfl rfl rfl ⟨by decide, by decide⟩ ?_
    exact h0 (fun s hs e => absurd e (hno s (Nat.zero_le _) (by omega)))
theorem c_X9_clear {d Lx t rt u : Nat} {I : Nat → Nat → Int32} {G : Nat → Nat → Int64} {Q : ab_Q} (hq : ∀ I2, (∀ q, q ≠ 52 → I2 q = I q) → TD I2 (fun _ => 0) (fun _ => false) 0 → Q none (hp Lx t rt u I2 G)) : ab_call ab_MT (d + 1) 131 [.ref 52] (hp Lx t rt u I G) 0 0 Q := by
  refine wx_in (M := mX9_clear) rfl rfl rfl (Nat.le_of_ble_eq_true rfl) ?_
  refine wx_aload_n rfl (e := 1) rfl rfl ?_
  refine wx_iconst (v := (nI 0)) rfl (e := 2) rfl (by decide) ?_
  refine wx_puti rfl (e := 5) rfl rfl (by decide) ?_
  refine wx_ret rfl rfl ⟨by decide, by decide⟩ ?_
  exact hq _ (fun q h => wr_other _ _ _ _ h) ⟨by omega, by rw [wr_at, if_pos rfl, if_pos rfl], fun j hj => absurd hj (Nat.not_lt_zero _)⟩
theorem c_X9_size {d Lx t rt u : Nat} {I : Nat → Nat → Int32} {G : Nat → Nat → Int64} {Q : ab_Q} {tp : Nat → Nat} {tw : Nat → Bool} {m : Nat} (hD : TD I tp tw m) (hq : Q (some (.int (nI m))) (hp Lx t rt u I G)) : ab_call ab_MT (d + 1) 132 [.ref 52] (hp Lx t rt u I G) 0 0 Q := by
  obtain ⟨hm, em, hj⟩ := hD
  rw [← em] at hq
  refine wx_in (M := mX9_size) rfl rfl rfl (Nat.le_of_ble_eq_true rfl) ?_
  refine wx_aload_n rfl (e := 1) rfl rfl ?_
  refine wx_geti rfl (e := 4) rfl rfl ?_
  refine wx_iret rfl rfl rfl ⟨by decide, by decide⟩ ?_
  exact hq
theorem c_X9_add {d Lx t rt u : Nat} {I : Nat → Nat → Int32} {G : Nat → Nat → Int64} {Q : ab_Q} {tp : Nat → Nat} {tw : Nat → Bool} {m : Nat} (hD : TD I tp tw m) {a : Nat} {w : Bool} (h0 : m = 20 → Q (some (.int (-1))) (hp Lx t rt u I G)) (h1 : m < 20 → ∀ I2, (∀ q, q ≠ 52 → q ≠ 53 → q ≠ 54 → I2 q = I q) → TD I2 (fun j => if j = m then a else tp j) (fun j => if j = m then w else tw j) (m + 1) → Q (some (.int (nI m))) (hp Lx t rt u I2 G)) : ab_call ab_MT (d + 1) 133 [.ref 52, .int (nI a), .int (b1 w)] (hp Lx t rt u I G) 0 0 Q := by
  obtain ⟨hm, em, hj⟩ := id hD
  refine wx_in (M := mX9_add) rfl rfl rfl (Nat.le_of_ble_eq_true rfl) ?_
  refine wx_aload_n rfl (e := 1) rfl rfl ?_
  refine wx_geti rfl (e := 4) rfl rfl ?_
  rw [em]
  refine wx_bipush (v := (nI 20)) rfl (e := 6) rfl (by decide) ?_
  refine wn_ic_lt rfl (e := 9) rfl (by omega) (by omega) (fun c_6 => ?_) (fun c_6 => ?_)
  · refine wx_aload_n rfl (e := 12) rfl rfl ?_
    refine wx_getr rfl (e := 15) rfl rfl rfl ?_
    refine wx_aload_n rfl (e := 16) rfl rfl ?_
    refine wx_geti rfl (e := 19) rfl rfl ?_
    rw [em]
    refine wx_iload_n rfl (e := 20) rfl rfl ?_
    refine wn_iast rfl (e := 21) rfl rfl (by decide) (by omega) (by decide) ?_
    refine wx_aload_n rfl (e := 22) rfl rfl ?_
    refine wx_getr rfl (e := 25) rfl rfl rfl ?_
    refine wx_aload_n rfl (e := 26) rfl rfl ?_
    refine wx_geti rfl (e := 29) rfl rfl ?_
    rw [wr_other _ _ _ _ (by decide), em]
    refine wx_iload_n rfl (e := 30) rfl rfl ?_
    refine wn_zast rfl (e := 31) rfl rfl (by decide) (by omega) (by decide) ?_
    refine wx_aload_n rfl (e := 32) rfl rfl ?_
    refine wx_dup rfl (e := 33) rfl rfl ?_
    refine wx_geti rfl (e := 36) rfl rfl ?_
    rw [wr_other _ _ _ _ (by decide), wr_other _ _ _ _ (by decide), em]
    refine wx_iconst (v := (nI 1)) rfl (e := 37) rfl (by decide) ?_
    refine wn_iadd rfl (e := 38) rfl ?_
    refine wx_puti rfl (e := 41) rfl rfl (by decide) ?_
    refine wx_aload_n rfl (e := 42) rfl rfl ?_
    refine wx_geti rfl (e := 45) rfl rfl ?_
    rw [wr_at, if_pos rfl, if_pos rfl]
    refine wx_iconst (v := (nI 1)) rfl (e := 46) rfl (by decide) ?_
    refine wn_isub rfl (e := 47) rfl (by omega) ?_
    refine wx_iret rfl rfl rfl ⟨by decide, by decide⟩ ?_
    rw [nar_b1]
    refine h1 (by omega) _ (fun q a b c => by rw [wr_other _ _ _ _ a, wr_other _ _ _ _ c, wr_other _ _ _ _ b]) ⟨by omega, by rw [wr_at, if_pos rfl, if_pos rfl], fun j hjm => ?_⟩
    rw [wr_other _ _ _ _ (by decide), wr_other _ _ _ _ (by decide), wr_at, if_pos rfl, wr_other _ _ _ _ (by decide), wr_at, if_pos rfl, wr_other _ _ _ _ (by decide)]
    dsimp only
    by_cases z : j = m
    · rw [if_pos z, if_pos z, if_pos z, if_pos z]; exact ⟨rfl, rfl⟩
    · rw [if_neg z, if_neg z, if_neg z, if_neg z]; exact hj j (by omega)
  · refine wx_iconst (v := (-1)) rfl (e := 10) rfl (by decide) ?_
    refine wx_iret rfl rfl rfl ⟨by decide, by decide⟩ ?_
    exact h0 (by omega)
def rlF (R : Nat) (tp : Nat → Nat) (tw : Nat → Bool) (wf : Nat → Nat → Bool) : Nat → Nat → Bool
  | 0 => fun e => decide (e < R)
  | i + 1 => fun e => rlF R tp tw wf i e && (if tw i = true then wf (tp i) e else !wf (tp i) e)
/-- the first of those before c for which f is least -/
def amn (f : Nat → Int32) : Nat → Int32 × Int32
  | 0 => (-2, nI 0)
  | c + 1 => if (amn f c).1 < nI 0 ∨ f c < (amn f c).2 then (nI c, f c) else amn f c
def wsN (l w : Nat → Bool) : Nat := max (cnF (fun e => l e && w e)) (cnF l - cnF (fun e => l e && w e))
theorem al6 : ∀ R, R ≤ 6 → (nI 1 <<< (nI R &&& 31)) - nI 1 = nI (bsF (fun e => decide (e < R))) := by decide +kernel
theorem no6 : ∀ a b c d e f a2 b2 c2 d2 e2 f2 : Bool, nI (bs6 a b c d e f) &&& (nI (bs6 a2 b2 c2 d2 e2 f2) ^^^ (-1)) = nI (bs6 (a && !a2) (b && !b2) (c && !c2) (d && !d2) (e && !e2) (f && !f2)) := by decide +kernel
theorem no_ok (f g : Nat → Bool) : nI (bsF f) &&& (nI (bsF g) ^^^ (-1)) = nI (bsF (fun e => f e && !g e)) := no6 _ _ _ _ _ _ _ _ _ _ _ _
theorem cna6 : ∀ a b c d e f a2 b2 c2 d2 e2 f2 : Bool, cn6 (a && a2) (b && b2) (c && c2) (d && d2) (e && e2) (f && f2) ≤ cn6 a b c d e f ∧ cn6 a b c d e f ≤ 6 := by decide +kernel
theorem cna_ok (f g : Nat → Bool) : cnF (fun e => f e && g e) ≤ cnF f ∧ cnF f ≤ 6 := cna6 _ _ _ _ _ _ _ _ _ _ _ _
theorem max_nn {a b : Nat} (ha : a < 2 ^ 31) (hb : b < 2 ^ 31) : (if nI a < nI b then nI b else nI a) = nI (max a b) := by
  by_cases z : a < b
  · rw [if_pos ((nI_ltI ha hb).mpr z), Nat.max_eq_right (by omega)]
  · rw [if_neg (fun w => z ((nI_ltI ha hb).mp w)), Nat.max_eq_left (by omega)]
theorem c_X9_relicsLeft {d Lx t rt u : Nat} {I : Nat → Nat → Int32} {G : Nat → Nat → Int64} {Q : ab_Q} {tp : Nat → Nat} {tw : Nat → Bool} {m : Nat} (hD : TD I tp tw m) {k R : Nat} {wf : Nat → Nat → Bool} (hk : k ≤ m) (hR : R ≤ 6) (htp : ∀ j, j < m → tp j < 5) (hW : ∀ a, a < 5 → I 43 a = nI (bsF (wf a))) (hq : Q (some (.int (nI (bsF (rlF R tp tw wf k))))) (hp Lx t rt u I G)) : ab_call ab_MT (d + 2) 134 [.ref 52, .int (nI k), .int (nI R), .ref 41] (hp Lx t rt u I G) 0 0 Q := by
  obtain ⟨hm, em, hj⟩ := id hD
  have loop : ∀ (n : Nat) (i : Nat), i ≤ k → k - i < n → ∀ x6, WP (d + 1) mX9_relicsLeft Q 10 [some (.ref 52), some (.int (nI k)), some (.int (nI R)), some (.ref 41), some (.int (nI (bsF (rlF R tp tw wf i)))), some (.int (nI i)), x6] [] (hp Lx t rt u I G) 0 0 := by
    intro n
    induction n with
    | zero => intro i hi hn x6; omega
    | succ n ih =>
      intro i hi hn x6
      refine wx_iload rfl (e := 12) rfl rfl ?_
      refine wx_iload_n rfl (e := 13) rfl rfl ?_
      refine wn_ic_ge rfl (e := 16) rfl (by omega) (by omega) (fun c_13 => ?_) (fun c_13 => ?_)
      · refine wx_iload rfl (e := 70) rfl rfl ?_
        refine wx_iret rfl rfl rfl ⟨by decide, by decide⟩ ?_
        have ei : i = k := by omega
        subst ei
        exact hq
      · refine wx_iload rfl (e := 18) rfl rfl ?_
        refine wx_aload_n rfl (e := 19) rfl rfl ?_
        refine wx_geti rfl (e := 22) rfl rfl ?_
        rw [em]
        refine wn_ic_ge rfl (e := 25) rfl (by omega) (by omega) (fun c_22 => absurd c_22 (by omega)) (fun c_22 => ?_)
        refine wx_aload_n rfl (e := 26) rfl rfl ?_
        refine wx_aload_n rfl (e := 27) rfl rfl ?_
        refine wx_getr rfl (e := 30) rfl rfl rfl ?_
        refine wx_iload rfl (e := 32) rfl rfl ?_
        refine wn_iald rfl (e := 33) rfl rfl (by omega) (by decide) ?_
        rw [(hj i (by omega)).1]
        refine wx_cv1 (mc := 0) (ms := 0) rfl (e := 36) rfl rfl (Nat.le_of_ble_eq_true rfl) ⟨by decide, by decide⟩ ?_
        refine c_X0_writtenFor (htp i (by omega)) ?_
        rw [hW _ (htp i (by omega))]
        refine wx_istore (L2 := [_, _, _, _, _, _, _]) rfl (e := 38) rfl (by decide) rfl ?_
        refine wx_iload rfl (e := 40) rfl rfl ?_
        refine wx_aload_n rfl (e := 41) rfl rfl ?_
        refine wx_getr rfl (e := 44) rfl rfl rfl ?_
        refine wx_iload rfl (e := 46) rfl rfl ?_
        refine wn_zald rfl (e := 47) rfl rfl (by omega) (by decide) ?_
        rw [(hj i (by omega)).2]
        refine wx_if_eq rfl (e := 50) rfl (fun c_47 => ?_) (fun c_47 => ?_)
        · have hw := b1_0.mp c_47
          have hG : rlF R tp tw wf (i + 1) = fun e => rlF R tp tw wf i e && !wf (tp i) e := by funext e; rw [rlF, hw]; rfl
          refine wx_iload rfl (e := 57) rfl rfl ?_
          refine wx_iconst (v := (-1)) rfl (e := 58) rfl (by decide) ?_
          refine wx_ixor rfl (e := 59) rfl ?_
          refine wx_iand rfl (e := 60) rfl ?_
          refine wx_istore (L2 := [_, _, _, _, _, _, _]) rfl (e := 62) rfl (by decide) rfl ?_
          refine wn_iinc (m := 1) (L2 := [_, _, _, _, _, _, _]) rfl (e := 65) rfl rfl (by decide) rfl ?_
          refine wx_goto rfl ?_
          have hh := fun x => ih (i + 1) (by omega) (by omega) x
          rw [hG] at hh
          rw [no_ok]
          exact hh _
        · have hw := b1_n0.mp c_47
          have hG : rlF R tp tw wf (i + 1) = fun e => rlF R tp tw wf i e && wf (tp i) e := by funext e; rw [rlF, hw]; rfl
          refine wx_iload rfl (e := 52) rfl rfl ?_
          refine wx_goto rfl ?_
          refine wx_iand rfl (e := 60) rfl ?_
          refine wx_istore (L2 := [_, _, _, _, _, _, _]) rfl (e := 62) rfl (by decide) rfl ?_
          refine wn_iinc (m := 1) (L2 := [_, _, _, _, _, _, _]) rfl (e := 65) rfl rfl (by decide) rfl ?_
          refine wx_goto rfl ?_
          have hh := fun x => ih (i + 1) (by omega) (by omega) x
          rw [hG] at hh
          rw [an_ok]
          exact hh _
  refine wx_in (M := mX9_relicsLeft) rfl rfl rfl (Nat.le_of_ble_eq_true rfl) ?_
  refine wx_iconst (v := (nI 1)) rfl (e := 1) rfl (by decide) ?_
  refine wx_iload_n rfl (e := 2) rfl rfl ?_
  refine wx_ishl rfl (e := 3) rfl ?_
  refine wx_iconst (v := (nI 1)) rfl (e := 4) rfl (by decide) ?_
  refine wx_isub rfl (e := 5) rfl ?_
  rw [al6 R hR]
  refine wx_istore (L2 := [_, _, _, _, _, _, _]) rfl (e := 7) rfl (by decide) rfl ?_
  refine wx_iconst (v := (nI 0)) rfl (e := 8) rfl (by decide) ?_
  refine wx_istore (L2 := [_, _, _, _, _, _, _]) rfl (e := 10) rfl (by decide) rfl ?_
  exact loop (k + 1) 0 (by omega) (by omega) _
theorem c_X9_bestToAsk {d Lx t rt u : Nat} {I : Nat → Nat → Int32} {G : Nat → Nat → Int64} {Q : ab_Q} {P : Nat} {l : Nat → Bool} {wf : Nat → Nat → Bool} (hP : P ≤ 5) (hW : ∀ a, a < 5 → I 43 a = nI (bsF (wf a))) (hq : Q (some (.int (amn (fun a => nI (wsN l (wf a))) P).1)) (hp Lx t rt u I G)) : ab_call ab_MT (d + 2) 135 [.ref 52, .int (nI (bsF l)), .int (nI P), .ref 41] (hp Lx t rt u I G) 0 0 Q := by
  have loop : ∀ (n : Nat) (a : Nat), a ≤ P → P - a < n → ∀ x7 x8, WP (d + 1) mX9_bestToAsk Q 10 [some (.ref 52), some (.int (nI (bsF l))), some (.int (nI P)), some (.ref 41), some (.int (amn (fun a => nI (wsN l (wf a))) a).1), some (.int (amn (fun a => nI (wsN l (wf a))) a).2), some (.int (nI a)), x7, x8] [] (hp Lx t rt u I G) 0 0 := by
    intro n
    induction n with
    | zero => intro a hi hn x7 x8; omega
    | succ n ih =>
      intro a hi hn x7 x8
      refine wx_iload rfl (e := 12) rfl rfl ?_
      refine wx_iload_n rfl (e := 13) rfl rfl ?_
      refine wn_ic_ge rfl (e := 16) rfl (by omega) (by omega) (fun c_13 => ?_) (fun c_13 => ?_)
      · refine wx_iload rfl (e := 71) rfl rfl ?_
        refine wx_iret rfl rfl rfl ⟨by decide, by decide⟩ ?_
        have ei : a = P := by omega
        subst ei
        exact hq
      · refine wx_iload_n rfl (e := 17) rfl rfl ?_
        refine wx_aload_n rfl (e := 18) rfl rfl ?_
        refine wx_iload rfl (e := 20) rfl rfl ?_
        refine wx_cv1 (mc := 0) (ms := 0) rfl (e := 23) rfl rfl (Nat.le_of_ble_eq_true rfl) ⟨by decide, by decide⟩ ?_
        refine c_X0_writtenFor (by omega) ?_
        rw [hW _ (by omega)]
        refine wx_iand rfl (e := 24) rfl ?_
        refine wx_cs1 (mc := 0) (ms := 0) rfl (e := 27) rfl (Nat.le_of_ble_eq_true rfl) ⟨by decide, by decide⟩ ?_
        rw [an_ok]
        refine c_J6_bitCount ?_
        rw [bc_ok]
        obtain ⟨hc1, hc2⟩ := cna_ok l (wf a)
        refine wx_istore (L2 := [_, _, _, _, _, _, _, _, _]) rfl (e := 29) rfl (by decide) rfl ?_
        refine wx_iload rfl (e := 31) rfl rfl ?_
        refine wx_iload_n rfl (e := 32) rfl rfl ?_
        refine wx_cs1 (mc := 0) (ms := 0) rfl (e := 35) rfl (Nat.le_of_ble_eq_true rfl) ⟨by decide, by decide⟩ ?_
        refine c_J6_bitCount ?_
        rw [bc_ok]
        refine wx_iload rfl (e := 37) rfl rfl ?_
        refine wn_isub rfl (e := 38) rfl (by omega) ?_
        refine wx_cs2 (mc := 0) (ms := 0) rfl (e := 41) rfl (Nat.le_of_ble_eq_true rfl) ⟨by decide, by decide⟩ ?_
        refine c_J9_max_7cf53 ?_
        rw [max_nn (by omega) (by omega)]
        show WP _ _ _ _ _ (.int (nI (wsN l (wf a))) :: _) _ _ _
        refine wx_istore (L2 := [_, _, _, _, _, _, _, _, _]) rfl (e := 43) rfl (by decide) rfl ?_
        refine wx_iload rfl (e := 45) rfl rfl ?_
        refine wx_if_lt rfl (e := 48) rfl (fun c_45 => ?_) (fun c_45 => ?_)
        · rw [← nI_0] at c_45
          have hG : amn (fun a => nI (wsN l (wf a))) (a + 1) = (nI a, nI (wsN l (wf a))) := by rw [amn, if_pos (Or.inl c_45)]
          refine wx_iload rfl (e := 57) rfl rfl ?_
          refine wx_istore (L2 := [_, _, _, _, _, _, _, _, _]) rfl (e := 59) rfl (by decide) rfl ?_
          refine wx_iload rfl (e := 61) rfl rfl ?_
          refine wx_istore (L2 := [_, _, _, _, _, _, _, _, _]) rfl (e := 63) rfl (by decide) rfl ?_
          refine wn_iinc (m := 1) (L2 := [_, _, _, _, _, _, _, _, _]) rfl (e := 66) rfl rfl (by decide) rfl ?_
          refine wx_goto rfl ?_
          have hh := fun x7 x8 => ih (a + 1) (by omega) (by omega) x7 x8
          rw [hG] at hh
          exact hh _ _
        · rw [← nI_0] at c_45
          refine wx_iload rfl (e := 50) rfl rfl ?_
          refine wx_iload rfl (e := 52) rfl rfl ?_
          refine wx_ic_ge rfl (e := 55) rfl (fun c_52 => ?_) (fun c_52 => ?_)
          · have hG : amn (fun a => nI (wsN l (wf a))) (a + 1) = amn (fun a => nI (wsN l (wf a))) a := by rw [amn, if_neg (fun z => z.elim c_45 (fun z => absurd c_52 (Int32.not_le.mpr z)))]
            refine wn_iinc (m := 1) (L2 := [_, _, _, _, _, _, _, _, _]) rfl (e := 66) rfl rfl (by decide) rfl ?_
            refine wx_goto rfl ?_
            have hh := fun x7 x8 => ih (a + 1) (by omega) (by omega) x7 x8
            rw [hG] at hh
            exact hh _ _
          · have hG : amn (fun a => nI (wsN l (wf a))) (a + 1) = (nI a, nI (wsN l (wf a))) := by rw [amn, if_pos (Or.inr (Int32.not_le.mp c_52))]
            refine wx_iload rfl (e := 57) rfl rfl ?_
            refine wx_istore (L2 := [_, _, _, _, _, _, _, _, _]) rfl (e := 59) rfl (by decide) rfl ?_
            refine wx_iload rfl (e := 61) rfl rfl ?_
            refine wx_istore (L2 := [_, _, _, _, _, _, _, _, _]) rfl (e := 63) rfl (by decide) rfl ?_
            refine wn_iinc (m := 1) (L2 := [_, _, _, _, _, _, _, _, _]) rfl (e := 66) rfl rfl (by decide) rfl ?_
            refine wx_goto rfl ?_
            have hh := fun x7 x8 => ih (a + 1) (by omega) (by omega) x7 x8
            rw [hG] at hh
            exact hh _ _
  refine wx_in (M := mX9_bestToAsk) rfl rfl rfl (Nat.le_of_ble_eq_true rfl) ?_
  refine wx_bipush (v := (-2)) rfl (e := 2) rfl (by decide) ?_
  refine wx_istore (L2 := [_, _, _, _, _, _, _, _, _]) rfl (e := 4) rfl (by decide) rfl ?_
  refine wx_iconst (v := (nI 0)) rfl (e := 5) rfl (by decide) ?_
  refine wx_istore (L2 := [_, _, _, _, _, _, _, _, _]) rfl (e := 7) rfl (by decide) rfl ?_
  refine wx_iconst (v := (nI 0)) rfl (e := 8) rfl (by decide) ?_
  refine wx_istore (L2 := [_, _, _, _, _, _, _, _, _]) rfl (e := 10) rfl (by decide) rfl ?_
  exact loop (P + 1) 0 (by omega) (by omega) _ _
theorem c_X6_length {d Lx t rt u : Nat} {I : Nat → Nat → Int32} {G : Nat → Nat → Int64} {Q : ab_Q} (hq : Q (some (.int (I 31 1))) (hp Lx t rt u I G)) : ab_call ab_MT (d + 1) 85 [.ref 31] (hp Lx t rt u I G) 0 0 Q := by
  refine wx_in (M := mX6_length) rfl rfl rfl (Nat.le_of_ble_eq_true rfl) ?_
  refine wx_aload_n rfl (e := 1) rfl rfl ?_
  refine wx_geti rfl (e := 4) rfl rfl ?_
  refine wx_iret rfl rfl rfl ⟨by decide, by decide⟩ ?_
  exact hq
def byS (w : Int32) (s : Nat) : Int32 := (w.toUInt32 >>> ((nI s).toUInt32 &&& Int32.toUInt32 31)).toInt32.toInt8.toInt32
def apB (B : Nat → Int32) (n : Nat) (w : Int32) (j : Nat) : Int32 := if j < n then B j else byS w (24 - 8 * (j - n))
theorem TP.app {I : Nat → Nat → Int32} {B : Nat → Int32} {n i : Nat} {w : Int32} (hi : i < 4) (hn : n + 4 ≤ 2000) (h : TP I (apB B n w) (n + i)) : TP (wr (wr I 32 (n + i) (vp_nar .byte (byS w (24 - 8 * i)))) 31 1 (nI (n + i + 1))) (apB B n w) (n + i + 1) := by
  refine ⟨by omega, by rw [wr_at, if_pos rfl, if_pos rfl], fun j hj => ?_⟩
  rw [wr_other _ _ _ _ (by decide), wr_at, if_pos rfl]
  by_cases z : j = n + i
  · rw [if_pos z, z]; unfold apB; rw [if_neg (by omega), show n + i - n = i by omega]; exact pk_vb _
  · rw [if_neg z]; exact h.2.2 j (by omega)
theorem c_X6_append {d Lx t rt u : Nat} {I : Nat → Nat → Int32} {G : Nat → Nat → Int64} {Q : ab_Q} {B : Nat → Int32} {n : Nat} {w : Int32} (hT : TP I B n) (hn : n + 4 ≤ 2000) (hq : ∀ I2, (∀ q, q ≠ 31 → q ≠ 32 → I2 q = I q) → TP I2 (apB B n w) (n + 4) → Q none (hp Lx t rt u I2 G)) : ab_call ab_MT (d + 1) 86 [.ref 31, .int w] (hp Lx t rt u I G) 0 0 Q := by
  have l4 : ∀ (I2 : Nat → Nat → Int32) (v : Int32), (∀ q, q ≠ 31 → q ≠ 32 → I2 q = I q) → TP I2 (apB B n w) (n + 4) → v < 0 → WP d mX6_append Q 3 [some (.ref 31), some (.int w), some (.int v)] [] (hp Lx t rt u I2 G) 0 0 := by
    intro I2 v f2 h2 hv
    refine wx_iload_n rfl (e := 4) rfl rfl ?_
    refine wx_if_lt rfl (e := 7) rfl (fun c_4 => ?_) (fun c_4 => absurd hv c_4)
    refine wx_ret rfl rfl ⟨by decide, by decide⟩ ?_
    exact hq I2 f2 h2
  have l3 : ∀ (I2 : Nat → Nat → Int32), (∀ q, q ≠ 31 → q ≠ 32 → I2 q = I q) → TP I2 (apB B n w) (n + 3) → WP d mX6_append Q 3 [some (.ref 31), some (.int w), some (.int (nI 0))] [] (hp Lx t rt u I2 G) 0 0 := by
    intro I2 f2 h2
    have h2n := h2.1
    refine wx_iload_n rfl (e := 4) rfl rfl ?_
    refine wx_if_lt rfl (e := 7) rfl (fun c_4 => absurd c_4 (by decide)) (fun c_4 => ?_)
    refine wx_aload_n rfl (e := 8) rfl rfl ?_
    refine wx_geti rfl (e := 11) rfl rfl ?_
    rw [h2.2.1]
    refine wx_sipush (v := (nI 2000)) rfl (e := 14) rfl (by decide) ?_
    refine wn_ic_ge rfl (e := 17) rfl (by omega) (by omega) (fun c_14 => absurd c_14 (by omega)) (fun c_14 => ?_)
    refine wx_aload_n rfl (e := 18) rfl rfl ?_
    refine wx_getr rfl (e := 21) rfl rfl rfl ?_
    refine wx_aload_n rfl (e := 22) rfl rfl ?_
    refine wx_geti rfl (e := 25) rfl rfl ?_
    rw [h2.2.1]
    refine wx_iload_n rfl (e := 26) rfl rfl ?_
    refine wx_iload_n rfl (e := 27) rfl rfl ?_
    refine wx_iushr rfl (e := 28) rfl ?_
    refine wx_i2b rfl (e := 29) rfl ?_
    refine wn_bast rfl (e := 30) rfl rfl (by decide) (by omega) (by decide) ?_
    refine wx_aload_n rfl (e := 31) rfl rfl ?_
    refine wx_dup rfl (e := 32) rfl rfl ?_
    refine wx_geti rfl (e := 35) rfl rfl ?_
    rw [wr_other _ _ _ _ (by decide), h2.2.1]
    refine wx_iconst (v := (nI 1)) rfl (e := 36) rfl (by decide) ?_
    refine wn_iadd rfl (e := 37) rfl ?_
    refine wx_puti rfl (e := 40) rfl rfl (by decide) ?_
    refine wx_iinc (L2 := [_, _, _]) rfl (e := 43) rfl rfl (by decide) rfl ?_
    refine wx_goto rfl ?_
    exact l4 _ _ (fun q a b => by rw [wr_other _ _ _ _ a, wr_other _ _ _ _ b]; exact f2 q a b) (h2.app (by omega) hn) (by decide)
  have l2 : ∀ (I2 : Nat → Nat → Int32), (∀ q, q ≠ 31 → q ≠ 32 → I2 q = I q) → TP I2 (apB B n w) (n + 2) → WP d mX6_append Q 3 [some (.ref 31), some (.int w), some (.int (nI 8))] [] (hp Lx t rt u I2 G) 0 0 := by
    intro I2 f2 h2
    have h2n := h2.1
    refine wx_iload_n rfl (e := 4) rfl rfl ?_
    refine wn_if_lt rfl (e := 7) rfl (by omega) ?_
    refine wx_aload_n rfl (e := 8) rfl rfl ?_
    refine wx_geti rfl (e := 11) rfl rfl ?_
    rw [h2.2.1]
    refine wx_sipush (v := (nI 2000)) rfl (e := 14) rfl (by decide) ?_
    refine wn_ic_ge rfl (e := 17) rfl (by omega) (by omega) (fun c_14 => absurd c_14 (by omega)) (fun c_14 => ?_)
    refine wx_aload_n rfl (e := 18) rfl rfl ?_
    refine wx_getr rfl (e := 21) rfl rfl rfl ?_
    refine wx_aload_n rfl (e := 22) rfl rfl ?_
    refine wx_geti rfl (e := 25) rfl rfl ?_
    rw [h2.2.1]
    refine wx_iload_n rfl (e := 26) rfl rfl ?_
    refine wx_iload_n rfl (e := 27) rfl rfl ?_
    refine wx_iushr rfl (e := 28) rfl ?_
    refine wx_i2b rfl (e := 29) rfl ?_
    refine wn_bast rfl (e := 30) rfl rfl (by decide) (by omega) (by decide) ?_
    refine wx_aload_n rfl (e := 31) rfl rfl ?_
    refine wx_dup rfl (e := 32) rfl rfl ?_
    refine wx_geti rfl (e := 35) rfl rfl ?_
    rw [wr_other _ _ _ _ (by decide), h2.2.1]
    refine wx_iconst (v := (nI 1)) rfl (e := 36) rfl (by decide) ?_
    refine wn_iadd rfl (e := 37) rfl ?_
    refine wx_puti rfl (e := 40) rfl rfl (by decide) ?_
    refine wn_idec (m := 7) (L2 := [_, _, _]) rfl (e := 43) rfl rfl (by omega) (by decide) rfl ?_
    refine wx_goto rfl ?_
    exact l3 _ (fun q a b => by rw [wr_other _ _ _ _ a, wr_other _ _ _ _ b]; exact f2 q a b) (h2.app (by omega) hn)
  have l1 : ∀ (I2 : Nat → Nat → Int32), (∀ q, q ≠ 31 → q ≠ 32 → I2 q = I q) → TP I2 (apB B n w) (n + 1) → WP d mX6_append Q 3 [some (.ref 31), some (.int w), some (.int (nI 16))] [] (hp Lx t rt u I2 G) 0 0 := by
    intro I2 f2 h2
    have h2n := h2.1
    refine wx_iload_n rfl (e := 4) rfl rfl ?_
    refine wn_if_lt rfl (e := 7) rfl (by omega) ?_
    refine wx_aload_n rfl (e := 8) rfl rfl ?_
    refine wx_geti rfl (e := 11) rfl rfl ?_
    rw [h2.2.1]
    refine wx_sipush (v := (nI 2000)) rfl (e := 14) rfl (by decide) ?_
    refine wn_ic_ge rfl (e := 17) rfl (by omega) (by omega) (fun c_14 => absurd c_14 (by omega)) (fun c_14 => ?_)
    refine wx_aload_n rfl (e := 18) rfl rfl ?_
    refine wx_getr rfl (e := 21) rfl rfl rfl ?_
    refine wx_aload_n rfl (e := 22) rfl rfl ?_
    refine wx_geti rfl (e := 25) rfl rfl ?_
    rw [h2.2.1]
    refine wx_iload_n rfl (e := 26) rfl rfl ?_
    refine wx_iload_n rfl (e := 27) rfl rfl ?_
    refine wx_iushr rfl (e := 28) rfl ?_
    refine wx_i2b rfl (e := 29) rfl ?_
    refine wn_bast rfl (e := 30) rfl rfl (by decide) (by omega) (by decide) ?_
    refine wx_aload_n rfl (e := 31) rfl rfl ?_
    refine wx_dup rfl (e := 32) rfl rfl ?_
    refine wx_geti rfl (e := 35) rfl rfl ?_
    rw [wr_other _ _ _ _ (by decide), h2.2.1]
    refine wx_iconst (v := (nI 1)) rfl (e := 36) rfl (by decide) ?_
    refine wn_iadd rfl (e := 37) rfl ?_
    refine wx_puti rfl (e := 40) rfl rfl (by decide) ?_
    refine wn_idec (m := 7) (L2 := [_, _, _]) rfl (e := 43) rfl rfl (by omega) (by decide) rfl ?_
    refine wx_goto rfl ?_
    exact l2 _ (fun q a b => by rw [wr_other _ _ _ _ a, wr_other _ _ _ _ b]; exact f2 q a b) (h2.app (by omega) hn)
  have l0 : ∀ (I2 : Nat → Nat → Int32), (∀ q, q ≠ 31 → q ≠ 32 → I2 q = I q) → TP I2 (apB B n w) (n + 0) → WP d mX6_append Q 3 [some (.ref 31), some (.int w), some (.int (nI 24))] [] (hp Lx t rt u I2 G) 0 0 := by
    intro I2 f2 h2
    have h2n := h2.1
    refine wx_iload_n rfl (e := 4) rfl rfl ?_
    refine wn_if_lt rfl (e := 7) rfl (by omega) ?_
    refine wx_aload_n rfl (e := 8) rfl rfl ?_
    refine wx_geti rfl (e := 11) rfl rfl ?_
    rw [h2.2.1]
    refine wx_sipush (v := (nI 2000)) rfl (e := 14) rfl (by decide) ?_
    refine wn_ic_ge rfl (e := 17) rfl (by omega) (by omega) (fun c_14 => absurd c_14 (by omega)) (fun c_14 => ?_)
    refine wx_aload_n rfl (e := 18) rfl rfl ?_
    refine wx_getr rfl (e := 21) rfl rfl rfl ?_
    refine wx_aload_n rfl (e := 22) rfl rfl ?_
    refine wx_geti rfl (e := 25) rfl rfl ?_
    rw [h2.2.1]
    refine wx_iload_n rfl (e := 26) rfl rfl ?_
    refine wx_iload_n rfl (e := 27) rfl rfl ?_
    refine wx_iushr rfl (e := 28) rfl ?_
    refine wx_i2b rfl (e := 29) rfl ?_
    refine wn_bast rfl (e := 30) rfl rfl (by decide) (by omega) (by decide) ?_
    refine wx_aload_n rfl (e := 31) rfl rfl ?_
    refine wx_dup rfl (e := 32) rfl rfl ?_
    refine wx_geti rfl (e := 35) rfl rfl ?_
    rw [wr_other _ _ _ _ (by decide), h2.2.1]
    refine wx_iconst (v := (nI 1)) rfl (e := 36) rfl (by decide) ?_
    refine wn_iadd rfl (e := 37) rfl ?_
    refine wx_puti rfl (e := 40) rfl rfl (by decide) ?_
    refine wn_idec (m := 7) (L2 := [_, _, _]) rfl (e := 43) rfl rfl (by omega) (by decide) rfl ?_
    refine wx_goto rfl ?_
    exact l1 _ (fun q a b => by rw [wr_other _ _ _ _ a, wr_other _ _ _ _ b]; exact f2 q a b) (h2.app (by omega) hn)
  refine wx_in (M := mX6_append) rfl rfl rfl (Nat.le_of_ble_eq_true rfl) ?_
  refine wx_bipush (v := (nI 24)) rfl (e := 2) rfl (by decide) ?_
  refine wx_istore_n (L2 := [_, _, _]) rfl (e := 3) rfl (by decide) rfl ?_
  exact l0 I (fun _ _ _ => rfl) ⟨by omega, hT.2.1, fun j hj => by unfold apB; rw [if_pos (by omega)]; exact hT.2.2 j (by omega)⟩
theorem c_X6_cutTo {d Lx t rt u : Nat} {I : Nat → Nat → Int32} {G : Nat → Nat → Int64} {Q : ab_Q} {B : Nat → Int32} {n k : Nat} (hT : TP I B n) (hk : k ≤ n) (hq : ∀ I2, (∀ q, q ≠ 31 → I2 q = I q) → TP I2 B k → Q none (hp Lx t rt u I2 G)) : ab_call ab_MT (d + 2) 87 [.ref 31, .int (nI k)] (hp Lx t rt u I G) 0 0 Q := by
  obtain ⟨hn, en, hB⟩ := id hT
  refine wx_in (M := mX6_cutTo) rfl rfl rfl (Nat.le_of_ble_eq_true rfl) ?_
  refine wx_iload_n rfl (e := 1) rfl rfl ?_
  refine wx_iconst (v := (nI 0)) rfl (e := 2) rfl (by decide) ?_
  refine wx_aload_n rfl (e := 3) rfl rfl ?_
  refine wx_geti rfl (e := 6) rfl rfl ?_
  rw [en]
  refine wx_cs3 (mc := 0) (ms := 0) rfl (e := 9) rfl (Nat.le_of_ble_eq_true rfl) ⟨by decide, by decide⟩ ?_
  refine c_X10_isWithin (Nat.zero_le _) (by omega) (fun s k1 k2 ev => ?_) (fun hno => absurd rfl (hno k (Nat.zero_le _) hk))
  · refine wn_if_eq rfl (e := 12) rfl (by omega) (fun c_9 => absurd c_9 (by omega)) (fun c_9 => ?_)
    refine wx_aload_n rfl (e := 13) rfl rfl ?_
    refine wx_iload_n rfl (e := 14) rfl rfl ?_
    refine wx_puti rfl (e := 17) rfl rfl (by decide) ?_
    refine wx_ret rfl rfl ⟨by decide, by decide⟩ ?_
    exact hq _ (fun q h => wr_other _ _ _ _ h) ⟨by omega, by rw [wr_at, if_pos rfl, if_pos rfl], fun j hj => (congrFun (wr_other _ _ _ _ (by decide)) j).trans (hB j (by omega))⟩
theorem c_X6_at {d Lx t rt u : Nat} {I : Nat → Nat → Int32} {G : Nat → Nat → Int64} {Q : ab_Q} {B : Nat → Int32} {n j : Nat} (hT : TP I B n) (hj : j < n) (hq : Q (some (.int (B j &&& nI 255))) (hp Lx t rt u I G)) : ab_call ab_MT (d + 1) 88 [.ref 31, .int (nI j)] (hp Lx t rt u I G) 0 0 Q := by
  obtain ⟨hn, en, hB⟩ := id hT
  refine wx_in (M := mX6_at) rfl rfl rfl (Nat.le_of_ble_eq_true rfl) ?_
  refine wx_iload_n rfl (e := 1) rfl rfl ?_
  refine wn_if_lt rfl (e := 4) rfl (by omega) ?_
  refine wx_iload_n rfl (e := 5) rfl rfl ?_
  refine wx_aload_n rfl (e := 6) rfl rfl ?_
  refine wx_geti rfl (e := 9) rfl rfl ?_
  rw [en]
  refine wn_ic_ge rfl (e := 12) rfl (by omega) (by omega) (fun c_9 => absurd c_9 (by omega)) (fun c_9 => ?_)
  refine wx_aload_n rfl (e := 13) rfl rfl ?_
  refine wx_getr rfl (e := 16) rfl rfl rfl ?_
  refine wx_iload_n rfl (e := 17) rfl rfl ?_
  refine wn_bald rfl (e := 18) rfl rfl (by omega) (by decide) ?_
  rw [hB j hj]
  refine wx_sipush (v := (nI 255)) rfl (e := 21) rfl (by decide) ?_
  refine wx_iand rfl (e := 22) rfl ?_
  refine wx_goto rfl ?_
  refine wx_iret rfl rfl rfl ⟨by decide, by decide⟩ ?_
  exact hq
def rwN (h k : Nat) : Nat → Nat
  | 0 => 1
  | i + 1 => rwN h k i * (if i < k then h else 100 - h)
theorem rwN_le {h k : Nat} (hh : h ≤ 100) : ∀ i, rwN h k i ≤ 100 ^ i
  | 0 => Nat.le_refl _
  | i + 1 => by
    rw [rwN, Nat.pow_succ]
    exact Nat.mul_le_mul (rwN_le hh i) (by split <;> omega)
theorem c_X10_likelyRow {d : Nat} {h : ab_H} {Q : ab_Q} {w n k : Nat} (hw : w ≤ 100) (hn : n ≤ 4) (hk : k ≤ 4) (hq : Q (some (.long (lN (rwN w k n)))) h) : ab_call ab_MT (d + 1) 178 [.int (nI w), .int (nI n), .int (nI k)] h 0 0 Q := by
  have loop : ∀ (m : Nat) (i : Nat), i ≤ n → n - i < m → WP d mX10_likelyRow Q 5 [some (.int (nI w)), some (.int (nI n)), some (.int (nI k)), some (.long (lN (rwN w k i))), none, some (.int (nI i))] [] h 0 0 := by
    intro m
    induction m with
    | zero => intro i hi hm; omega
    | succ m ih =>
      intro i hi hm
      refine wx_iload rfl (e := 7) rfl rfl ?_
      refine wx_iload_n rfl (e := 8) rfl rfl ?_
      refine wn_ic_ge rfl (e := 11) rfl (by omega) (by omega) (fun c_8 => ?_) (fun c_8 => ?_)
      · refine wx_lload_n rfl (e := 37) rfl rfl ?_
        refine wx_lret rfl rfl ⟨by decide, by decide⟩ ?_
        have ei : i = n := by omega
        subst ei
        exact hq
      · refine wx_lload_n rfl (e := 12) rfl rfl ?_
        refine wx_iload rfl (e := 14) rfl rfl ?_
        refine wx_iload_n rfl (e := 15) rfl rfl ?_
        refine wn_ic_ge rfl (e := 18) rfl (by omega) (by omega) (fun c_15 => ?_) (fun c_15 => ?_)
        · have hG : rwN w k (i + 1) = rwN w k i * (100 - w) := by rw [rwN, if_neg (by omega)]
          refine wx_bipush (v := (nI 100)) rfl (e := 25) rfl (by decide) ?_
          refine wx_iload_n rfl (e := 26) rfl rfl ?_
          refine wn_isub rfl (e := 27) rfl (by omega) ?_
          refine wx_i2l rfl (e := 28) rfl ?_
          rw [nI_l (by omega)]
          refine wx_lmul rfl (e := 29) rfl ?_
          rw [lN_mul]
          refine wx_lstore_n (L2 := [_, _, _, _, _, _]) rfl (e := 30) rfl (by decide) rfl ?_
          refine wn_iinc (m := 1) (L2 := [_, _, _, _, _, _]) rfl (e := 33) rfl rfl (by decide) rfl ?_
          refine wx_goto rfl ?_
          have hh := ih (i + 1) (by omega) (by omega)
          rw [hG] at hh
          exact hh
        · have hG : rwN w k (i + 1) = rwN w k i * w := by rw [rwN, if_pos (by omega)]
          refine wx_iload_n rfl (e := 19) rfl rfl ?_
          refine wx_i2l rfl (e := 20) rfl ?_
          rw [nI_l (by omega)]
          refine wx_goto rfl ?_
          refine wx_lmul rfl (e := 29) rfl ?_
          rw [lN_mul]
          refine wx_lstore_n (L2 := [_, _, _, _, _, _]) rfl (e := 30) rfl (by decide) rfl ?_
          refine wn_iinc (m := 1) (L2 := [_, _, _, _, _, _]) rfl (e := 33) rfl rfl (by decide) rfl ?_
          refine wx_goto rfl ?_
          have hh := ih (i + 1) (by omega) (by omega)
          rw [hG] at hh
          exact hh
  refine wx_in (M := mX10_likelyRow) rfl rfl rfl (Nat.le_of_ble_eq_true rfl) ?_
  refine wx_lconst (v := 1) rfl (e := 1) rfl (by decide) ?_
  refine wx_lstore_n (L2 := [_, _, _, _, _, _]) rfl (e := 2) rfl (by decide) rfl ?_
  refine wx_iconst (v := (nI 0)) rfl (e := 3) rfl (by decide) ?_
  refine wx_istore (L2 := [_, _, _, _, _, _]) rfl (e := 5) rfl (by decide) rfl ?_
  exact loop (n + 1) 0 (by omega) (by omega)
theorem c_J9_max_l {d : Nat} {h : ab_H} {Q : ab_Q} {a b : Int64} (h1 : b ≤ a → Q (some (.long a)) h) (h0 : ¬ b ≤ a → Q (some (.long b)) h) : ab_call ab_MT (d + 1) 300 [.long a, .long b] h 0 0 Q := by
  refine wx_in (M := mJ9_max_f86c9) rfl rfl rfl (Nat.le_of_ble_eq_true rfl) ?_
  refine wx_lload_n rfl (e := 1) rfl rfl ?_
  refine wx_lload_n rfl (e := 2) rfl rfl ?_
  refine wx_lcmp rfl (e := 3) rfl ?_
  refine wx_if_lt rfl (e := 6) rfl (fun c_3 => ?_) (fun c_3 => ?_)
  · refine wx_lload_n rfl (e := 11) rfl rfl ?_
    refine wx_lret rfl rfl ⟨by decide, by decide⟩ ?_
    exact h0 (Int64.not_le.mpr ((lg_cmp_lt _ _).mp c_3))
  · refine wx_lload_n rfl (e := 7) rfl rfl ?_
    refine wx_goto rfl ?_
    refine wx_lret rfl rfl ⟨by decide, by decide⟩ ?_
    exact h1 (Int64.not_lt.mp (fun z => c_3 ((lg_cmp_lt _ _).mpr z)))
theorem gcd_step {x y : Nat} (h : y ≤ x) (h0 : 0 < y) {k : Nat} (hk : x * y < 2 ^ (k + 1)) : y * (x % y) < 2 ^ k ∧ x % y < y := by
  have h1 : x % y < y := Nat.mod_lt _ h0
  have h2 : 2 * (x % y) ≤ x := by
    have h3 := Nat.div_add_mod x y
    have h4 : 1 ≤ x / y := (Nat.one_le_div_iff h0).mpr h
    have h5 : y * 1 ≤ y * (x / y) := Nat.mul_le_mul_left y h4
    omega
  refine ⟨?_, h1⟩
  have h6 : y * (2 * (x % y)) ≤ y * x := Nat.mul_le_mul_left y h2
  rw [Nat.pow_succ] at hk
  rw [Nat.mul_comm y x] at h6
  have h7 : y * (2 * (x % y)) = 2 * (y * (x % y)) := by rw [Nat.mul_left_comm]
  omega
theorem c_max1 {d : Nat} {h : ab_H} {Q : ab_Q} {x : Nat} (h0 : 0 < x) (hx : x < 2 ^ 31) (hq : Q (some (.long (lN x))) h) : ab_call ab_MT (d + 1) 300 [.long 1, .long (lN x)] h 0 0 Q := by
  refine c_J9_max_l (fun z => ?_) (fun _ => hq)
  have z1 : x ≤ 1 := (pk_lLE (a := x) (b := 1) (by omega) (by omega)).mp z
  have : x = 1 := by omega
  subst this
  exact hq
theorem c_X10_commonDivisor {d : Nat} {h : ab_H} {Q : ab_Q} {a b : Nat} (h0 : 0 < a) (hb : b ≤ a) (ha : a < 2 ^ 28) (hq : Q (some (.long (lN (Nat.gcd a b)))) h) : ab_call ab_MT (d + 2) 179 [.long (lN a), .long (lN b)] h 0 0 Q := by
  have loop : ∀ (j x y i : Nat), 0 < x → x < 2 ^ 28 → y ≤ x → i + j ≤ 56 → x * y < 2 ^ j → Nat.gcd x y = Nat.gcd a b → ∀ z1 z2, WP (d + 1) mX10_commonDivisor Q 9 [some (.long (lN a)), none, some (.long (lN b)), none, some (.long (lN x)), none, some (.long (lN y)), none, some (.int (nI i)), z1, z2] [] h 0 0 := by
    intro j
    induction j with
    | zero =>
      intro x y i hx hx2 hxy hij hp2 hg z1 z2
      have hy0 : y = 0 := by
        by_cases z : y = 0
        · exact z
        · have := Nat.mul_pos hx (Nat.pos_of_ne_zero z); omega
      refine wx_iload rfl (e := 11) rfl rfl ?_
      refine wx_sipush (v := (nI 200)) rfl (e := 14) rfl (by decide) ?_
      refine wn_ic_ge rfl (e := 17) rfl (by omega) (by omega) (fun c_14 => absurd c_14 (by omega)) (fun c_14 => ?_)
      refine wx_lload rfl (e := 19) rfl rfl ?_
      refine wx_lconst (v := 0) rfl (e := 20) rfl (by decide) ?_
      refine wx_lcmp rfl (e := 21) rfl ?_
      refine wx_if_le rfl (e := 24) rfl (fun c_21 => ?_) (fun c_21 => absurd ((lg_cmp_le _ _).mpr ((pk_lLE (a := y) (b := 0) (by omega) (by omega)).mpr (by omega))) c_21)
      have hy := hy0
      refine wx_lconst (v := 1) rfl (e := 46) rfl (by decide) ?_
      refine wx_lload rfl (e := 48) rfl rfl ?_
      refine wx_cs2 (mc := 0) (ms := 0) rfl (e := 51) rfl (Nat.le_of_ble_eq_true rfl) ⟨by decide, by decide⟩ ?_
      subst hy
      rw [Nat.gcd_zero_right] at hg
      subst hg
      refine c_max1 hx (by omega) ?_
      refine wx_lret rfl rfl ⟨by decide, by decide⟩ ?_
      exact hq
    | succ j ih =>
      intro x y i hx hx2 hxy hij hp2 hg z1 z2
      refine wx_iload rfl (e := 11) rfl rfl ?_
      refine wx_sipush (v := (nI 200)) rfl (e := 14) rfl (by decide) ?_
      refine wn_ic_ge rfl (e := 17) rfl (by omega) (by omega) (fun c_14 => absurd c_14 (by omega)) (fun c_14 => ?_)
      refine wx_lload rfl (e := 19) rfl rfl ?_
      refine wx_lconst (v := 0) rfl (e := 20) rfl (by decide) ?_
      refine wx_lcmp rfl (e := 21) rfl ?_
      refine wx_if_le rfl (e := 24) rfl (fun c_21 => ?_) (fun c_21 => ?_)
      · have hy : y = 0 := by have := (lg_cmp_le _ _).mp c_21; have := (pk_lLE (a := y) (b := 0) (by omega) (by omega)).mp this; omega
        refine wx_lconst (v := 1) rfl (e := 46) rfl (by decide) ?_
        refine wx_lload rfl (e := 48) rfl rfl ?_
        refine wx_cs2 (mc := 0) (ms := 0) rfl (e := 51) rfl (Nat.le_of_ble_eq_true rfl) ⟨by decide, by decide⟩ ?_
        subst hy
        rw [Nat.gcd_zero_right] at hg
        subst hg
        refine c_max1 hx (by omega) ?_
        refine wx_lret rfl rfl ⟨by decide, by decide⟩ ?_
        exact hq
      · have hy : 0 < y := by have := (not_congr (lg_cmp_le _ _)).mp c_21; have := (not_congr (pk_lLE (a := y) (b := 0) (by omega) (by omega))).mp this; omega
        obtain ⟨g1, g2⟩ := gcd_step hxy hy hp2
        refine wx_lload rfl (e := 26) rfl rfl ?_
        refine wx_lload rfl (e := 28) rfl rfl ?_
        refine wx_lrem rfl (e := 29) rfl (fun z => by have := (pk_lEQ (a := y) (b := 0) (by omega) (by omega)).mp z; omega) ?_
        rw [pk_lRem (by omega) hy (by omega)]
        refine wx_lstore (L2 := [_, _, _, _, _, _, _, _, _, _, _]) rfl (e := 31) rfl (by decide) rfl ?_
        refine wx_lload rfl (e := 33) rfl rfl ?_
        refine wx_lstore (L2 := [_, _, _, _, _, _, _, _, _, _, _]) rfl (e := 35) rfl (by decide) rfl ?_
        refine wx_lload rfl (e := 37) rfl rfl ?_
        refine wx_lstore (L2 := [_, _, _, _, _, _, _, _, _, _, _]) rfl (e := 39) rfl (by decide) rfl ?_
        refine wn_iinc (m := 1) (L2 := [_, _, _, _, _, _, _, _, _, _, _]) rfl (e := 42) rfl rfl (by decide) rfl ?_
        refine wx_goto rfl ?_
        exact ih y (x % y) (i + 1) hy (by omega) (by omega) (by omega) g1 (by rw [← hg, Nat.gcd_comm x y, Nat.gcd_rec y x, Nat.gcd_comm]) _ _
  refine wx_in (M := mX10_commonDivisor) rfl rfl rfl (Nat.le_of_ble_eq_true rfl) ?_
  refine wx_lload_n rfl (e := 1) rfl rfl ?_
  refine wx_lstore (L2 := [_, _, _, _, _, _, _, _, _, _, _]) rfl (e := 3) rfl (by decide) rfl ?_
  refine wx_lload_n rfl (e := 4) rfl rfl ?_
  refine wx_lstore (L2 := [_, _, _, _, _, _, _, _, _, _, _]) rfl (e := 6) rfl (by decide) rfl ?_
  refine wx_iconst (v := (nI 0)) rfl (e := 7) rfl (by decide) ?_
  refine wx_istore (L2 := [_, _, _, _, _, _, _, _, _, _, _]) rfl (e := 9) rfl (by decide) rfl ?_
  refine loop 56 a b 0 h0 ha hb (by omega) ?_ rfl _ _
  have := Nat.mul_le_mul (Nat.le_of_lt ha) (Nat.le_trans hb (Nat.le_of_lt ha))
  exact Nat.lt_of_lt_of_le (Nat.mul_lt_mul_of_lt_of_le ha (Nat.le_trans hb (Nat.le_of_lt ha)) (by omega)) (by decide)

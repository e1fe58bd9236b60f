/-! states: sums, copies, rows; thefts -/
def sm_ (f : Nat → Int32) (b : Nat) : Nat → Int32
  | 0 => nI 0
  | i + 1 => sm_ f b i + f (b + i)
def chN (r : rw_) (e : Nat) : Nat := (r (6 + e)).toNatClampNeg
/-- where the relics are when nobody tries anything: each at a church -/
def lok (T : tx) (r : rw_) : Prop := (∀ e, e < tR T → ∃ c, c < tC T ∧ r (6 + e) = nI c) ∧ (∀ e, tR T ≤ e → e < 6 → r (6 + e) = -1) ∧ ∀ c, c < 6 → ∃ w, w ≤ 9 ∧ r c = nI w
theorem lok.ch {T : tx} {r : rw_} (h : lok T r) (hT : tok T) {e : Nat} (he : e < tR T) : chN r e < tC T ∧ r (6 + e) = nI (chN r e) := by
  obtain ⟨c, h1, h2⟩ := h.1 e he
  have h6 := hT.1
  unfold chN
  rw [h2, nI_clamp (by omega)]
  exact ⟨h1, rfl⟩
def likS (T : tx) (r : rw_) (e n : Nat) : Int32 := leavS T r (chN r e) e n * (nI 100 - caugS T r (chN r e) (r (chN r e)) n)
def bnL (T : tx) (r : rw_) (e : Nat) : Nat → Nat × Int32
  | 0 => (1, likS T r e 1)
  | i + 1 => if (bnL T r e i).2 < likS T r e (i + 2) then (i + 2, likS T r e (i + 2)) else bnL T r e i
def bnS (T : tx) (r : rw_) (e : Nat) : Nat := (bnL T r e 8).1
def wkL (T : tx) (r : rw_) : Nat → Int32 × Int32
  | 0 => (-2, nI 0)
  | e + 1 => if (wkL T r e).1 < nI 0 ∨ (wkL T r e).2 < likS T r e (bnS T r e) then (nI e, likS T r e (bnS T r e)) else wkL T r e
def wkS (T : tx) (r : rw_) : Int32 := (wkL T r (tR T)).1
def wfF (T : tx) (r : rw_) (c : Nat) (p : Int32) (n : Nat) : Nat → Nat → Int32
  | 0, _ => -2
  | f + 1, m => if p ≤ caugS T r c (nI m) n then nI m else wfF T r c p n f (m + 1)
def wfS (T : tx) (r : rw_) (c : Nat) (p : Int32) (n : Nat) : Int32 := wfF T r c p n 10 0
def setr (r : rw_) (k : Nat) (v : Int32) : rw_ := fun j => if j = k then v else r j
/-- a theft that is tried: what comes of it, and the row behind it -/
def stS (T : tx) (r : rw_) (e c n : Nat) : Int32 × rw_ :=
  if lotH (tS T) (nI 1000000 + r 47) < caugS T (up1 r 47 (nI 1)) (chN r e) (r (chN r e)) n then (nI 2, up1 (setr (up1 r 47 (nI 1)) (chN r e) (heldS (r (chN r e) + nI 1) (nI 9))) 48 (nI 1))
  else if lotH (tS T) (nI 2000000 + r 47) < leavS T (up1 r 47 (nI 1)) (chN r e) e n then (nI 1, up1 (mvS (up1 r 47 (nI 1)) e (nI c)) (30 + e) (nI 1))
  else (nI 0, up1 r 47 (nI 1))
theorem c_X5_total {d Lx t rt u : Nat} {I : Nat → Nat → Int32} {G : Nat → Nat → Int64} {Q : ab_Q}  {s b m : Nat} (hs : s = 39 ∨ s = 45) (hb : b + m ≤ 55) (hq : Q (some (.int (sm_ (I (s + 1)) b m))) (hp Lx t rt u I G)) : ab_call ab_MT (d + 2) 77 [.ref s, .int (nI b), .int (nI m)] (hp Lx t rt u I G) 0 0 Q := by
  have loop : ∀ (n : Nat) (i : Nat), i ≤ m → m - i < n → WP (d + 1) mX5_total Q 5 [some (.ref s), some (.int (nI b)), some (.int (nI m)), some (.int (sm_ (I (s + 1)) b i)), some (.int (nI i))] [] (hp Lx t rt u I G) 0 0 := by
    intro n
    induction n with
    | zero => intro i hi hn; omega
    | succ n ih =>
      intro i hi hn
      refine wx_iload rfl (e := 7) rfl rfl ?_
      refine wx_iload_n rfl (e := 8) rfl rfl ?_
      refine wn_ic_ge rfl (e := 11) rfl (by omega) (by omega) (fun c_8 => ?_) (fun c_8 => ?_)
      · refine wx_iload_n rfl (e := 29) rfl rfl ?_
        refine wx_iret rfl rfl rfl ⟨by decide, by decide⟩ ?_
        rw [show i = m by omega]
        exact hq
      · refine wx_iload_n rfl (e := 12) rfl rfl ?_
        refine wx_aload_n rfl (e := 13) rfl rfl ?_
        refine wx_iload_n rfl (e := 14) rfl rfl ?_
        refine wx_iload rfl (e := 16) rfl rfl ?_
        refine wn_iadd rfl (e := 17) rfl ?_
        refine wx_cv1 (mc := 0) (ms := 0) rfl (e := 20) rfl (sh_s hs) (Nat.le_of_ble_eq_true rfl) ⟨by decide, by decide⟩ ?_
        refine c_X5_get hs (by omega) ?_
        refine wx_iadd rfl (e := 21) rfl ?_
        refine wx_istore_n (L2 := [_, _, _, _, _]) rfl (e := 22) rfl (by decide) rfl ?_
        refine wn_iinc (m := 1) (L2 := [_, _, _, _, _]) rfl (e := 25) rfl rfl (by decide) rfl ?_
        refine wx_goto rfl ?_
        exact ih (i + 1) (by omega) (by omega)
  refine wx_in (M := mX5_total) rfl rfl rfl (Nat.le_of_ble_eq_true rfl) ?_
  refine wx_iconst (v := (nI 0)) rfl (e := 1) rfl (by decide) ?_
  refine wx_istore_n (L2 := [_, _, _, _, _]) rfl (e := 2) rfl (by decide) rfl ?_
  refine wx_iconst (v := (nI 0)) rfl (e := 3) rfl (by decide) ?_
  refine wx_istore (L2 := [_, _, _, _, _]) rfl (e := 5) rfl (by decide) rfl ?_
  exact loop (m + 1) 0 (by omega) (by omega)
theorem c_X5_copyOf {d Lx t rt u : Nat} {I : Nat → Nat → Int32} {G : Nat → Nat → Int64} {Q : ab_Q}  (hq : ∀ I2, (∀ q, q ≠ 46 → I2 q = I q) → (∀ k, k < 55 → I2 46 k = I 40 k) → Q none (hp Lx t rt u I2 G)) : ab_call ab_MT (d + 1) 81 [.ref 45, .ref 39] (hp Lx t rt u I G) 0 0 Q := by
  have loop : ∀ (n : Nat) (i : Nat) (I2 : Nat → Nat → Int32), i ≤ 55 → 55 - i < n → (∀ q, q ≠ 46 → I2 q = I q) → (∀ k, k < i → I2 46 k = I 40 k) → WP d mX5_copyOf Q 2 [some (.ref 45), some (.ref 39), some (.int (nI i))] [] (hp Lx t rt u I2 G) 0 0 := by
    intro n
    induction n with
    | zero => intro i I2 hi hn f2 g2; omega
    | succ n ih =>
      intro i I2 hi hn f2 g2
      refine wx_iload_n rfl (e := 3) rfl rfl ?_
      refine wx_bipush (v := (nI 55)) rfl (e := 5) rfl (by decide) ?_
      refine wn_ic_ge rfl (e := 8) rfl (by omega) (by omega) (fun c_5 => ?_) (fun c_5 => ?_)
      · refine wx_ret rfl rfl ⟨by decide, by decide⟩ ?_
        exact hq I2 f2 (fun k hk => g2 k (by omega))
      · refine wx_aload_n rfl (e := 9) rfl rfl ?_
        refine wx_getr rfl (e := 12) rfl rfl rfl ?_
        refine wx_iload_n rfl (e := 13) rfl rfl ?_
        refine wx_aload_n rfl (e := 14) rfl rfl ?_
        refine wx_getr rfl (e := 17) rfl rfl rfl ?_
        refine wx_iload_n rfl (e := 18) rfl rfl ?_
        refine wn_iald rfl (e := 19) rfl rfl (by omega) (by decide) ?_
        rw [f2 40 (by decide)]
        refine wn_iast rfl (e := 20) rfl rfl (by decide) (by omega) (by decide) ?_
        refine wn_iinc (m := 1) (L2 := [_, _, _]) rfl (e := 23) rfl rfl (by decide) rfl ?_
        refine wx_goto rfl ?_
        refine ih (i + 1) _ (by omega) (by omega) (fun q h => (wr_other _ _ _ _ h).trans (f2 q h)) (wr_ext rfl (fun j hj hne => g2 j (by omega)))
  refine wx_in (M := mX5_copyOf) rfl rfl rfl (Nat.le_of_ble_eq_true rfl) ?_
  refine wx_iconst (v := (nI 0)) rfl (e := 1) rfl (by decide) ?_
  refine wx_istore_n (L2 := [_, _, _]) rfl (e := 2) rfl (by decide) rfl ?_
  exact loop 56 0 I (by omega) (by omega) (fun _ _ => rfl) (fun k hk => absurd hk (Nat.not_lt_zero _))
theorem c_X5_writeTo_49 {d Lx t rt u : Nat} {I : Nat → Nat → Int32} {G : Nat → Nat → Int64} {Q : ab_Q}  {j : Nat} (hj : j < 40) (hq : ∀ I2, (∀ q, q ≠ 49 → I2 q = I q) → (∀ k, I2 49 k = if j * 55 ≤ k ∧ k < j * 55 + 55 then I 40 (k - j * 55) else I 49 k) → Q none (hp Lx t rt u I2 G)) : ab_call ab_MT (d + 1) 82 [.ref 39, .ref 49, .int (nI j)] (hp Lx t rt u I G) 0 0 Q := by
  have loop : ∀ (n : Nat) (i : Nat) (I2 : Nat → Nat → Int32), i ≤ 55 → 55 - i < n → (∀ q, q ≠ 49 → I2 q = I q) → (∀ k, I2 49 k = if j * 55 ≤ k ∧ k < j * 55 + i then I 40 (k - j * 55) else I 49 k) → ∀ x4, WP d mX5_writeTo Q 2 [some (.ref 39), some (.ref 49), some (.int (nI j)), some (.int (nI i)), x4] [] (hp Lx t rt u I2 G) 0 0 := by
    intro n
    induction n with
    | zero => intro i I2 hi hn f2 g2 x4; omega
    | succ n ih =>
      intro i I2 hi hn f2 g2 x4
      refine wx_iload_n rfl (e := 3) rfl rfl ?_
      refine wx_bipush (v := (nI 55)) rfl (e := 5) rfl (by decide) ?_
      refine wn_ic_ge rfl (e := 8) rfl (by omega) (by omega) (fun c_5 => ?_) (fun c_5 => ?_)
      · refine wx_ret rfl rfl ⟨by decide, by decide⟩ ?_
        exact hq I2 f2 (fun k => by rw [g2 k, show i = 55 by omega])
      · refine wx_iload_n rfl (e := 9) rfl rfl ?_
        refine wx_bipush (v := (nI 55)) rfl (e := 11) rfl (by decide) ?_
        refine wn_imul rfl (e := 12) rfl ?_
        refine wx_iload_n rfl (e := 13) rfl rfl ?_
        refine wn_iadd rfl (e := 14) rfl ?_
        refine wx_istore (L2 := [_, _, _, _, _]) rfl (e := 16) rfl (by decide) rfl ?_
        refine wx_iload rfl (e := 18) rfl rfl ?_
        refine wn_if_lt rfl (e := 21) rfl (by omega) ?_
        refine wx_iload rfl (e := 23) rfl rfl ?_
        refine wx_aload_n rfl (e := 24) rfl rfl ?_
        refine wx_alen (v := nI 2200) rfl (e := 25) rfl rfl (by decide) rfl ?_
        refine wn_ic_ge rfl (e := 28) rfl (by omega) (by omega) (fun c_25 => absurd c_25 (by omega)) (fun c_25 => ?_)
        refine wx_aload_n rfl (e := 29) rfl rfl ?_
        refine wx_iload rfl (e := 31) rfl rfl ?_
        refine wx_aload_n rfl (e := 32) rfl rfl ?_
        refine wx_getr rfl (e := 35) rfl rfl rfl ?_
        refine wx_iload_n rfl (e := 36) rfl rfl ?_
        refine wn_iald rfl (e := 37) rfl rfl (by omega) (by decide) ?_
        rw [f2 40 (by decide)]
        refine wn_iast rfl (e := 38) rfl rfl (by decide) (by omega) (by decide) ?_
        refine wn_iinc (m := 1) (L2 := [_, _, _, _, _]) rfl (e := 41) rfl rfl (by decide) rfl ?_
        refine wx_goto rfl ?_
        refine ih (i + 1) _ (by omega) (by omega) (fun q h => (wr_other _ _ _ _ h).trans (f2 q h)) (fun k => ?_) _
        rw [wr_at, if_pos rfl]
        by_cases z : k = j * 55 + i
        · rw [if_pos z, if_pos (by omega)]; congr 1; omega
        · rw [if_neg z, g2 k]
          by_cases z2 : j * 55 ≤ k ∧ k < j * 55 + i
          · rw [if_pos z2, if_pos (by omega)]
          · rw [if_neg z2, if_neg (by omega)]
  refine wx_in (M := mX5_writeTo) rfl rfl rfl (Nat.le_of_ble_eq_true rfl) ?_
  refine wx_iconst (v := (nI 0)) rfl (e := 1) rfl (by decide) ?_
  refine wx_istore_n (L2 := [_, _, _, _, _]) rfl (e := 2) rfl (by decide) rfl ?_
  exact loop 56 0 I (by omega) (by omega) (fun _ _ => rfl) (fun k => by rw [if_neg (by omega)]) _
theorem c_X5_readFrom_49 {d Lx t rt u : Nat} {I : Nat → Nat → Int32} {G : Nat → Nat → Int64} {Q : ab_Q}  {j : Nat} (hj : j < 40) (hq : ∀ I2, (∀ q, q ≠ 40 → I2 q = I q) → (∀ k, k < 55 → I2 40 k = I 49 (j * 55 + k)) → Q none (hp Lx t rt u I2 G)) : ab_call ab_MT (d + 1) 83 [.ref 39, .ref 49, .int (nI j)] (hp Lx t rt u I G) 0 0 Q := by
  have loop : ∀ (n : Nat) (i : Nat) (I2 : Nat → Nat → Int32), i ≤ 55 → 55 - i < n → (∀ q, q ≠ 40 → I2 q = I q) → (∀ k, k < i → I2 40 k = I 49 (j * 55 + k)) → ∀ x4, WP d mX5_readFrom Q 2 [some (.ref 39), some (.ref 49), some (.int (nI j)), some (.int (nI i)), x4] [] (hp Lx t rt u I2 G) 0 0 := by
    intro n
    induction n with
    | zero => intro i I2 hi hn f2 g2 x4; omega
    | succ n ih =>
      intro i I2 hi hn f2 g2 x4
      refine wx_iload_n rfl (e := 3) rfl rfl ?_
      refine wx_bipush (v := (nI 55)) rfl (e := 5) rfl (by decide) ?_
      refine wn_ic_ge rfl (e := 8) rfl (by omega) (by omega) (fun c_5 => ?_) (fun c_5 => ?_)
      · refine wx_ret rfl rfl ⟨by decide, by decide⟩ ?_
        exact hq I2 f2 (fun k hk => g2 k (by omega))
      · refine wx_iload_n rfl (e := 9) rfl rfl ?_
        refine wx_bipush (v := (nI 55)) rfl (e := 11) rfl (by decide) ?_
        refine wn_imul rfl (e := 12) rfl ?_
        refine wx_iload_n rfl (e := 13) rfl rfl ?_
        refine wn_iadd rfl (e := 14) rfl ?_
        refine wx_istore (L2 := [_, _, _, _, _]) rfl (e := 16) rfl (by decide) rfl ?_
        refine wx_iload rfl (e := 18) rfl rfl ?_
        refine wn_if_lt rfl (e := 21) rfl (by omega) ?_
        refine wx_iload rfl (e := 23) rfl rfl ?_
        refine wx_aload_n rfl (e := 24) rfl rfl ?_
        refine wx_alen (v := nI 2200) rfl (e := 25) rfl rfl (by decide) rfl ?_
        refine wn_ic_ge rfl (e := 28) rfl (by omega) (by omega) (fun c_25 => absurd c_25 (by omega)) (fun c_25 => ?_)
        refine wx_aload_n rfl (e := 29) rfl rfl ?_
        refine wx_getr rfl (e := 32) rfl rfl rfl ?_
        refine wx_iload_n rfl (e := 33) rfl rfl ?_
        refine wx_aload_n rfl (e := 34) rfl rfl ?_
        refine wx_iload rfl (e := 36) rfl rfl ?_
        refine wn_iald rfl (e := 37) rfl rfl (by omega) (by decide) ?_
        rw [f2 49 (by decide)]
        refine wn_iast rfl (e := 38) rfl rfl (by decide) (by omega) (by decide) ?_
        refine wn_iinc (m := 1) (L2 := [_, _, _, _, _]) rfl (e := 41) rfl rfl (by decide) rfl ?_
        refine wx_goto rfl ?_
        refine ih (i + 1) _ (by omega) (by omega) (fun q h => (wr_other _ _ _ _ h).trans (f2 q h)) (wr_ext rfl (fun k hk hne => g2 k (by omega))) _
  refine wx_in (M := mX5_readFrom) rfl rfl rfl (Nat.le_of_ble_eq_true rfl) ?_
  refine wx_iconst (v := (nI 0)) rfl (e := 1) rfl (by decide) ?_
  refine wx_istore_n (L2 := [_, _, _, _, _]) rfl (e := 2) rfl (by decide) rfl ?_
  exact loop 56 0 I (by omega) (by omega) (fun _ _ => rfl) (fun k hk => absurd hk (Nat.not_lt_zero _)) _
theorem c_X5_writeTo_50 {d Lx t rt u : Nat} {I : Nat → Nat → Int32} {G : Nat → Nat → Int64} {Q : ab_Q}  {j : Nat} (hj : j < 3) (hq : ∀ I2, (∀ q, q ≠ 50 → I2 q = I q) → (∀ k, I2 50 k = if j * 55 ≤ k ∧ k < j * 55 + 55 then I 40 (k - j * 55) else I 50 k) → Q none (hp Lx t rt u I2 G)) : ab_call ab_MT (d + 1) 82 [.ref 39, .ref 50, .int (nI j)] (hp Lx t rt u I G) 0 0 Q := by
  have loop : ∀ (n : Nat) (i : Nat) (I2 : Nat → Nat → Int32), i ≤ 55 → 55 - i < n → (∀ q, q ≠ 50 → I2 q = I q) → (∀ k, I2 50 k = if j * 55 ≤ k ∧ k < j * 55 + i then I 40 (k - j * 55) else I 50 k) → ∀ x4, WP d mX5_writeTo Q 2 [some (.ref 39), some (.ref 50), some (.int (nI j)), some (.int (nI i)), x4] [] (hp Lx t rt u I2 G) 0 0 := by
    intro n
    induction n with
    | zero => intro i I2 hi hn f2 g2 x4; omega
    | succ n ih =>
      intro i I2 hi hn f2 g2 x4
      refine wx_iload_n rfl (e := 3) rfl rfl ?_
      refine wx_bipush (v := (nI 55)) rfl (e := 5) rfl (by decide) ?_
      refine wn_ic_ge rfl (e := 8) rfl (by omega) (by omega) (fun c_5 => ?_) (fun c_5 => ?_)
      · refine wx_ret rfl rfl ⟨by decide, by decide⟩ ?_
        exact hq I2 f2 (fun k => by rw [g2 k, show i = 55 by omega])
      · refine wx_iload_n rfl (e := 9) rfl rfl ?_
        refine wx_bipush (v := (nI 55)) rfl (e := 11) rfl (by decide) ?_
        refine wn_imul rfl (e := 12) rfl ?_
        refine wx_iload_n rfl (e := 13) rfl rfl ?_
        refine wn_iadd rfl (e := 14) rfl ?_
        refine wx_istore (L2 := [_, _, _, _, _]) rfl (e := 16) rfl (by decide) rfl ?_
        refine wx_iload rfl (e := 18) rfl rfl ?_
        refine wn_if_lt rfl (e := 21) rfl (by omega) ?_
        refine wx_iload rfl (e := 23) rfl rfl ?_
        refine wx_aload_n rfl (e := 24) rfl rfl ?_
        refine wx_alen (v := nI 165) rfl (e := 25) rfl rfl (by decide) rfl ?_
        refine wn_ic_ge rfl (e := 28) rfl (by omega) (by omega) (fun c_25 => absurd c_25 (by omega)) (fun c_25 => ?_)
        refine wx_aload_n rfl (e := 29) rfl rfl ?_
        refine wx_iload rfl (e := 31) rfl rfl ?_
        refine wx_aload_n rfl (e := 32) rfl rfl ?_
        refine wx_getr rfl (e := 35) rfl rfl rfl ?_
        refine wx_iload_n rfl (e := 36) rfl rfl ?_
        refine wn_iald rfl (e := 37) rfl rfl (by omega) (by decide) ?_
        rw [f2 40 (by decide)]
        refine wn_iast rfl (e := 38) rfl rfl (by decide) (by omega) (by decide) ?_
        refine wn_iinc (m := 1) (L2 := [_, _, _, _, _]) rfl (e := 41) rfl rfl (by decide) rfl ?_
        refine wx_goto rfl ?_
        refine ih (i + 1) _ (by omega) (by omega) (fun q h => (wr_other _ _ _ _ h).trans (f2 q h)) (fun k => ?_) _
        rw [wr_at, if_pos rfl]
        by_cases z : k = j * 55 + i
        · rw [if_pos z, if_pos (by omega)]; congr 1; omega
        · rw [if_neg z, g2 k]
          by_cases z2 : j * 55 ≤ k ∧ k < j * 55 + i
          · rw [if_pos z2, if_pos (by omega)]
          · rw [if_neg z2, if_neg (by omega)]
  refine wx_in (M := mX5_writeTo) rfl rfl rfl (Nat.le_of_ble_eq_true rfl) ?_
  refine wx_iconst (v := (nI 0)) rfl (e := 1) rfl (by decide) ?_
  refine wx_istore_n (L2 := [_, _, _, _, _]) rfl (e := 2) rfl (by decide) rfl ?_
  exact loop 56 0 I (by omega) (by omega) (fun _ _ => rfl) (fun k => by rw [if_neg (by omega)]) _
theorem c_X5_readFrom_50 {d Lx t rt u : Nat} {I : Nat → Nat → Int32} {G : Nat → Nat → Int64} {Q : ab_Q}  {j : Nat} (hj : j < 3) (hq : ∀ I2, (∀ q, q ≠ 40 → I2 q = I q) → (∀ k, k < 55 → I2 40 k = I 50 (j * 55 + k)) → Q none (hp Lx t rt u I2 G)) : ab_call ab_MT (d + 1) 83 [.ref 39, .ref 50, .int (nI j)] (hp Lx t rt u I G) 0 0 Q := by
  have loop : ∀ (n : Nat) (i : Nat) (I2 : Nat → Nat → Int32), i ≤ 55 → 55 - i < n → (∀ q, q ≠ 40 → I2 q = I q) → (∀ k, k < i → I2 40 k = I 50 (j * 55 + k)) → ∀ x4, WP d mX5_readFrom Q 2 [some (.ref 39), some (.ref 50), some (.int (nI j)), some (.int (nI i)), x4] [] (hp Lx t rt u I2 G) 0 0 := by
    intro n
    induction n with
    | zero => intro i I2 hi hn f2 g2 x4; omega
    | succ n ih =>
      intro i I2 hi hn f2 g2 x4
      refine wx_iload_n rfl (e := 3) rfl rfl ?_
      refine wx_bipush (v := (nI 55)) rfl (e := 5) rfl (by decide) ?_
      refine wn_ic_ge rfl (e := 8) rfl (by omega) (by omega) (fun c_5 => ?_) (fun c_5 => ?_)
      · refine wx_ret rfl rfl ⟨by decide, by decide⟩ ?_
        exact hq I2 f2 (fun k hk => g2 k (by omega))
      · refine wx_iload_n rfl (e := 9) rfl rfl ?_
        refine wx_bipush (v := (nI 55)) rfl (e := 11) rfl (by decide) ?_
        refine wn_imul rfl (e := 12) rfl ?_
        refine wx_iload_n rfl (e := 13) rfl rfl ?_
        refine wn_iadd rfl (e := 14) rfl ?_
        refine wx_istore (L2 := [_, _, _, _, _]) rfl (e := 16) rfl (by decide) rfl ?_
        refine wx_iload rfl (e := 18) rfl rfl ?_
        refine wn_if_lt rfl (e := 21) rfl (by omega) ?_
        refine wx_iload rfl (e := 23) rfl rfl ?_
        refine wx_aload_n rfl (e := 24) rfl rfl ?_
        refine wx_alen (v := nI 165) rfl (e := 25) rfl rfl (by decide) rfl ?_
        refine wn_ic_ge rfl (e := 28) rfl (by omega) (by omega) (fun c_25 => absurd c_25 (by omega)) (fun c_25 => ?_)
        refine wx_aload_n rfl (e := 29) rfl rfl ?_
        refine wx_getr rfl (e := 32) rfl rfl rfl ?_
        refine wx_iload_n rfl (e := 33) rfl rfl ?_
        refine wx_aload_n rfl (e := 34) rfl rfl ?_
        refine wx_iload rfl (e := 36) rfl rfl ?_
        refine wn_iald rfl (e := 37) rfl rfl (by omega) (by decide) ?_
        rw [f2 50 (by decide)]
        refine wn_iast rfl (e := 38) rfl rfl (by decide) (by omega) (by decide) ?_
        refine wn_iinc (m := 1) (L2 := [_, _, _, _, _]) rfl (e := 41) rfl rfl (by decide) rfl ?_
        refine wx_goto rfl ?_
        refine ih (i + 1) _ (by omega) (by omega) (fun q h => (wr_other _ _ _ _ h).trans (f2 q h)) (wr_ext rfl (fun k hk hne => g2 k (by omega))) _
  refine wx_in (M := mX5_readFrom) rfl rfl rfl (Nat.le_of_ble_eq_true rfl) ?_
  refine wx_iconst (v := (nI 0)) rfl (e := 1) rfl (by decide) ?_
  refine wx_istore_n (L2 := [_, _, _, _, _]) rfl (e := 2) rfl (by decide) rfl ?_
  exact loop 56 0 I (by omega) (by omega) (fun _ _ => rfl) (fun k hk => absurd hk (Nat.not_lt_zero _)) _
theorem c_X0_likely {d Lx t rt u : Nat} {I : Nat → Nat → Int32} {G : Nat → Nat → Int64} {Q : ab_Q} {T : tx} {r : rw_} {s : Nat} (hT : CT u I T) (hs : s = 39 ∨ s = 45) (hS : CS s I r) (hL : lok T r) {e n : Nat} (he : e < tR T) (hq : ∀ I2, fr5 u I I2 → Q (some (.int (likS T r e n))) (hp Lx t rt u I2 G)) : ab_call ab_MT (d + 5) 17 [.ref 41, .ref s, .int (nI e), .int (nI n)] (hp Lx t rt u I G) 0 0 Q := by
  have hu := hT.1
  obtain ⟨hC6, hR6, hP5, hH, hTf, hFn, hLx⟩ := hT.2.1
  obtain ⟨-, -, t1, t2, t3, t4, t5, t6, t7, -⟩ := id hT
  obtain ⟨hce, hre⟩ := hL.ch hT.2.1 he
  refine wx_in (M := mX0_likely) rfl rfl rfl (Nat.le_of_ble_eq_true rfl) ?_
  refine wx_aload_n rfl (e := 1) rfl rfl ?_
  refine wx_bipush (v := (nI 24)) rfl (e := 3) rfl (by decide) ?_
  refine wx_iload_n rfl (e := 4) rfl rfl ?_
  refine wn_iadd rfl (e := 5) rfl ?_
  refine wx_cv1 (mc := 0) (ms := 0) rfl (e := 8) rfl (sh_s hs) (Nat.le_of_ble_eq_true rfl) ⟨by decide, by decide⟩ ?_
  refine c_X5_get hs (by omega) ?_
  rw [hS _ (by omega), cst_r r (by omega), hre]
  refine wx_istore (L2 := [_, _, _, _, _, _]) rfl (e := 10) rfl (by decide) rfl ?_
  refine wx_aload_n rfl (e := 11) rfl rfl ?_
  refine wx_iconst (v := (nI 0)) rfl (e := 12) rfl (by decide) ?_
  refine wx_iload rfl (e := 14) rfl rfl ?_
  refine wn_iadd rfl (e := 15) rfl ?_
  refine wx_cv1 (mc := 0) (ms := 0) rfl (e := 18) rfl (sh_s hs) (Nat.le_of_ble_eq_true rfl) ⟨by decide, by decide⟩ ?_
  rw [Nat.zero_add]
  refine c_X5_get hs (by omega) ?_
  rw [hS _ (by omega), cst_w r (by omega)]
  refine wx_istore (L2 := [_, _, _, _, _, _]) rfl (e := 20) rfl (by decide) rfl ?_
  refine wx_aload_n rfl (e := 21) rfl rfl ?_
  refine wx_aload_n rfl (e := 22) rfl rfl ?_
  refine wx_iload_n rfl (e := 23) rfl rfl ?_
  refine wx_iload_n rfl (e := 24) rfl rfl ?_
  refine wx_cv3 (mc := 0) (ms := 0) rfl (e := 27) rfl rfl (Nat.le_of_ble_eq_true rfl) ⟨by decide, by decide⟩ ?_
  refine c_X0_leaving hT hs hS he hce hre (fun I2 f2 => ?_)
  refine wx_bipush (v := (nI 100)) rfl (e := 29) rfl (by decide) ?_
  refine wx_aload_n rfl (e := 30) rfl rfl ?_
  refine wx_aload_n rfl (e := 31) rfl rfl ?_
  refine wx_iload rfl (e := 33) rfl rfl ?_
  refine wx_iload rfl (e := 35) rfl rfl ?_
  refine wx_iload_n rfl (e := 36) rfl rfl ?_
  refine wx_cv4 (mc := 0) (ms := 0) rfl (e := 39) rfl rfl (Nat.le_of_ble_eq_true rfl) ⟨by decide, by decide⟩ ?_
  refine c_X0_catching (f2.T hT) hs (f2.S hu hs hS) hce (fun I3 f3 => ?_)
  refine wx_isub rfl (e := 40) rfl ?_
  refine wx_imul rfl (e := 41) rfl ?_
  refine wx_iret rfl rfl rfl ⟨by decide, by decide⟩ ?_
  exact hq I3 (f2.tr f3)
theorem c_X0_bestNights {d Lx t rt u : Nat} {I : Nat → Nat → Int32} {G : Nat → Nat → Int64} {Q : ab_Q} {T : tx} {r : rw_} {s : Nat} (hT : CT u I T) (hs : s = 39 ∨ s = 45) (hS : CS s I r) (hL : lok T r) {e : Nat} (he : e < tR T) (hq : ∀ I2, fr5 u I I2 → Q (some (.int (nI (bnS T r e)))) (hp Lx t rt u I2 G)) : ab_call ab_MT (d + 6) 18 [.ref 41, .ref s, .int (nI e)] (hp Lx t rt u I G) 0 0 Q := by
  have hu := hT.1
  obtain ⟨hC6, hR6, hP5, hH, hTf, hFn, hLx⟩ := hT.2.1
  obtain ⟨-, -, t1, t2, t3, t4, t5, t6, t7, -⟩ := id hT
  have loop : ∀ (n : Nat) (i : Nat) (I2 : Nat → Nat → Int32), i ≤ 8 → 8 - i < n → fr5 u I I2 → ∀ x6, WP (d + 5) mX0_bestNights Q 14 [some (.ref 41), some (.ref s), some (.int (nI e)), some (.int (nI (bnL T r e i).1)), some (.int (bnL T r e i).2), some (.int (nI (i + 2))), x6] [] (hp Lx t rt u I2 G) 0 0 := by
    intro n
    induction n with
    | zero => intro i I2 hi hn f2 x6; omega
    | succ n ih =>
      intro i I2 hi hn f2 x6
      refine wx_iload rfl (e := 16) rfl rfl ?_
      refine wx_bipush (v := (nI 9)) rfl (e := 18) rfl (by decide) ?_
      refine wn_ic_gt rfl (e := 21) rfl (by omega) (by omega) (fun c_18 => ?_) (fun c_18 => ?_)
      · refine wx_iload_n rfl (e := 52) rfl rfl ?_
        refine wx_iret rfl rfl rfl ⟨by decide, by decide⟩ ?_
        rw [show i = 8 by omega]
        exact hq I2 f2
      · refine wx_aload_n rfl (e := 22) rfl rfl ?_
        refine wx_aload_n rfl (e := 23) rfl rfl ?_
        refine wx_iload_n rfl (e := 24) rfl rfl ?_
        refine wx_iload rfl (e := 26) rfl rfl ?_
        refine wx_cv3 (mc := 0) (ms := 0) rfl (e := 29) rfl rfl (Nat.le_of_ble_eq_true rfl) ⟨by decide, by decide⟩ ?_
        refine c_X0_likely (f2.T hT) hs (f2.S hu hs hS) hL he (fun I3 f3 => ?_)
        refine wx_istore (L2 := [_, _, _, _, _, _, _]) rfl (e := 31) rfl (by decide) rfl ?_
        refine wx_iload rfl (e := 33) rfl rfl ?_
        refine wx_iload rfl (e := 35) rfl rfl ?_
        refine wx_ic_le rfl (e := 38) rfl (fun c_35 => ?_) (fun c_35 => ?_)
        · have hG : bnL T r e (i + 1) = bnL T r e i := by rw [bnL, if_neg (Int32.not_lt.mpr c_35)]
          refine wn_iinc (m := 1) (L2 := [_, _, _, _, _, _, _]) rfl (e := 48) rfl rfl (by decide) rfl ?_
          refine wx_goto rfl ?_
          have hh := fun x6 => ih (i + 1) _ (by omega) (by omega) (f2.tr f3) x6
          rw [hG] at hh
          exact hh _
        · have hG : bnL T r e (i + 1) = (i + 2, likS T r e (i + 2)) := by rw [bnL, if_pos (Int32.not_le.mp c_35)]
          refine wx_iload rfl (e := 40) rfl rfl ?_
          refine wx_istore_n (L2 := [_, _, _, _, _, _, _]) rfl (e := 41) rfl (by decide) rfl ?_
          refine wx_iload rfl (e := 43) rfl rfl ?_
          refine wx_istore (L2 := [_, _, _, _, _, _, _]) rfl (e := 45) rfl (by decide) rfl ?_
          refine wn_iinc (m := 1) (L2 := [_, _, _, _, _, _, _]) rfl (e := 48) rfl rfl (by decide) rfl ?_
          refine wx_goto rfl ?_
          have hh := fun x6 => ih (i + 1) _ (by omega) (by omega) (f2.tr f3) x6
          rw [hG] at hh
          exact hh _
  refine wx_in (M := mX0_bestNights) rfl rfl rfl (Nat.le_of_ble_eq_true rfl) ?_
  refine wx_iconst (v := (nI 1)) rfl (e := 1) rfl (by decide) ?_
  refine wx_istore_n (L2 := [_, _, _, _, _, _, _]) rfl (e := 2) rfl (by decide) rfl ?_
  refine wx_aload_n rfl (e := 3) rfl rfl ?_
  refine wx_aload_n rfl (e := 4) rfl rfl ?_
  refine wx_iload_n rfl (e := 5) rfl rfl ?_
  refine wx_iconst (v := (nI 1)) rfl (e := 6) rfl (by decide) ?_
  refine wx_cv3 (mc := 0) (ms := 0) rfl (e := 9) rfl rfl (Nat.le_of_ble_eq_true rfl) ⟨by decide, by decide⟩ ?_
  refine c_X0_likely hT hs hS hL he (fun I3 f3 => ?_)
  refine wx_istore (L2 := [_, _, _, _, _, _, _]) rfl (e := 11) rfl (by decide) rfl ?_
  refine wx_iconst (v := (nI 2)) rfl (e := 12) rfl (by decide) ?_
  refine wx_istore (L2 := [_, _, _, _, _, _, _]) rfl (e := 14) rfl (by decide) rfl ?_
  exact loop 9 0 I3 (by omega) (by omega) f3 _
theorem c_X0_weakest {d Lx t rt u : Nat} {I : Nat → Nat → Int32} {G : Nat → Nat → Int64} {Q : ab_Q} {T : tx} {r : rw_} {s : Nat} (hT : CT u I T) (hs : s = 39 ∨ s = 45) (hS : CS s I r) (hL : lok T r) (hq : ∀ I2, fr5 u I I2 → Q (some (.int (wkS T r))) (hp Lx t rt u I2 G)) : ab_call ab_MT (d + 7) 19 [.ref 41, .ref s] (hp Lx t rt u I G) 0 0 Q := by
  have hu := hT.1
  obtain ⟨hC6, hR6, hP5, hH, hTf, hFn, hLx⟩ := hT.2.1
  obtain ⟨-, -, t1, t2, t3, t4, t5, t6, t7, -⟩ := id hT
  have loop : ∀ (n : Nat) (e : Nat) (I2 : Nat → Nat → Int32), e ≤ tR T → tR T - e < n → fr5 u I I2 → ∀ x5, WP (d + 6) mX0_weakest Q 8 [some (.ref 41), some (.ref s), some (.int (wkL T r e).1), some (.int (wkL T r e).2), some (.int (nI e)), x5] [] (hp Lx t rt u I2 G) 0 0 := by
    intro n
    induction n with
    | zero => intro e I2 hi hn f2 x5; omega
    | succ n ih =>
      intro e I2 hi hn f2 x5
      refine wx_iload rfl (e := 10) rfl rfl ?_
      refine wx_aload_n rfl (e := 11) rfl rfl ?_
      refine wx_getr rfl (e := 14) rfl rfl rfl ?_
      refine wx_cv0 (mc := 0) (ms := 0) rfl (e := 17) rfl (sh_t hu) (Nat.le_of_ble_eq_true rfl) ⟨by decide, by decide⟩ ?_
      refine c_X7_relics hu ?_
      rw [f2 u (by omega) (by omega), t2]
      refine wn_ic_ge rfl (e := 20) rfl (by omega) (by omega) (fun c_17 => ?_) (fun c_17 => ?_)
      · refine wx_iload_n rfl (e := 59) rfl rfl ?_
        refine wx_iret rfl rfl rfl ⟨by decide, by decide⟩ ?_
        rw [show e = tR T by omega]
        exact hq I2 f2
      · refine wx_aload_n rfl (e := 21) rfl rfl ?_
        refine wx_aload_n rfl (e := 22) rfl rfl ?_
        refine wx_iload rfl (e := 24) rfl rfl ?_
        refine wx_aload_n rfl (e := 25) rfl rfl ?_
        refine wx_aload_n rfl (e := 26) rfl rfl ?_
        refine wx_iload rfl (e := 28) rfl rfl ?_
        refine wx_cv2 (mc := 0) (ms := 0) rfl (e := 31) rfl rfl (Nat.le_of_ble_eq_true rfl) ⟨by decide, by decide⟩ ?_
        refine c_X0_bestNights (f2.T hT) hs (f2.S hu hs hS) hL (by omega) (fun I3 f3 => ?_)
        refine wx_cv3 (mc := 0) (ms := 0) rfl (e := 34) rfl rfl (Nat.le_of_ble_eq_true rfl) ⟨by decide, by decide⟩ ?_
        refine c_X0_likely ((f2.tr f3).T hT) hs ((f2.tr f3).S hu hs hS) hL (by omega) (fun I4 f4 => ?_)
        refine wx_istore (L2 := [_, _, _, _, _, _]) rfl (e := 36) rfl (by decide) rfl ?_
        refine wx_iload_n rfl (e := 37) rfl rfl ?_
        refine wx_if_lt rfl (e := 40) rfl (fun c_37 => ?_) (fun c_37 => ?_)
        · rw [← nI_0] at c_37
          have hG : wkL T r (e + 1) = (nI e, likS T r e (bnS T r e)) := by rw [wkL, if_pos (Or.inl c_37)]
          refine wx_iload rfl (e := 48) rfl rfl ?_
          refine wx_istore_n (L2 := [_, _, _, _, _, _]) rfl (e := 49) rfl (by decide) rfl ?_
          refine wx_iload rfl (e := 51) rfl rfl ?_
          refine wx_istore_n (L2 := [_, _, _, _, _, _]) rfl (e := 52) rfl (by decide) rfl ?_
          refine wn_iinc (m := 1) (L2 := [_, _, _, _, _, _]) rfl (e := 55) rfl rfl (by decide) rfl ?_
          refine wx_goto rfl ?_
          have hh := fun x5 => ih (e + 1) _ (by omega) (by omega) (f2.tr (f3.tr f4)) x5
          rw [hG] at hh
          exact hh _
        · rw [← nI_0] at c_37
          refine wx_iload rfl (e := 42) rfl rfl ?_
          refine wx_iload_n rfl (e := 43) rfl rfl ?_
          refine wx_ic_le rfl (e := 46) rfl (fun c_43 => ?_) (fun c_43 => ?_)
          · have hG : wkL T r (e + 1) = wkL T r e := by rw [wkL, if_neg (fun z => z.elim c_37 (fun z => absurd c_43 (Int32.not_le.mpr z)))]
            refine wn_iinc (m := 1) (L2 := [_, _, _, _, _, _]) rfl (e := 55) rfl rfl (by decide) rfl ?_
            refine wx_goto rfl ?_
            have hh := fun x5 => ih (e + 1) _ (by omega) (by omega) (f2.tr (f3.tr f4)) x5
            rw [hG] at hh
            exact hh _
          · have hG : wkL T r (e + 1) = (nI e, likS T r e (bnS T r e)) := by rw [wkL, if_pos (Or.inr (Int32.not_le.mp c_43))]
            refine wx_iload rfl (e := 48) rfl rfl ?_
            refine wx_istore_n (L2 := [_, _, _, _, _, _]) rfl (e := 49) rfl (by decide) rfl ?_
            refine wx_iload rfl (e := 51) rfl rfl ?_
            refine wx_istore_n (L2 := [_, _, _, _, _, _]) rfl (e := 52) rfl (by decide) rfl ?_
            refine wn_iinc (m := 1) (L2 := [_, _, _, _, _, _]) rfl (e := 55) rfl rfl (by decide) rfl ?_
            refine wx_goto rfl ?_
            have hh := fun x5 => ih (e + 1) _ (by omega) (by omega) (f2.tr (f3.tr f4)) x5
            rw [hG] at hh
            exact hh _
  refine wx_in (M := mX0_weakest) rfl rfl rfl (Nat.le_of_ble_eq_true rfl) ?_
  refine wx_bipush (v := (-2)) rfl (e := 2) rfl (by decide) ?_
  refine wx_istore_n (L2 := [_, _, _, _, _, _]) rfl (e := 3) rfl (by decide) rfl ?_
  refine wx_iconst (v := (nI 0)) rfl (e := 4) rfl (by decide) ?_
  refine wx_istore_n (L2 := [_, _, _, _, _, _]) rfl (e := 5) rfl (by decide) rfl ?_
  refine wx_iconst (v := (nI 0)) rfl (e := 6) rfl (by decide) ?_
  refine wx_istore (L2 := [_, _, _, _, _, _]) rfl (e := 8) rfl (by decide) rfl ?_
  exact loop (tR T + 1) 0 I (by omega) (by omega) fr5.rf _
theorem c_X0_watchersFor {d Lx t rt u : Nat} {I : Nat → Nat → Int32} {G : Nat → Nat → Int64} {Q : ab_Q} {T : tx} {r : rw_} {s : Nat} (hT : CT u I T) (hs : s = 39 ∨ s = 45) (hS : CS s I r) {c n : Nat} {p : Int32} (hc : c < tC T) (hq : ∀ I2, fr5 u I I2 → Q (some (.int (wfS T r c p n))) (hp Lx t rt u I2 G)) : ab_call ab_MT (d + 5) 20 [.ref 41, .ref s, .int (nI c), .int p, .int (nI n)] (hp Lx t rt u I G) 0 0 Q := by
  have hu := hT.1
  obtain ⟨hC6, hR6, hP5, hH, hTf, hFn, hLx⟩ := hT.2.1
  obtain ⟨-, -, t1, t2, t3, t4, t5, t6, t7, -⟩ := id hT
  have loop : ∀ (f m : Nat) (I2 : Nat → Nat → Int32), m + f = 10 → fr5 u I I2 → wfF T r c p n f m = wfS T r c p n → WP (d + 4) mX0_watchersFor Q 3 [some (.ref 41), some (.ref s), some (.int (nI c)), some (.int p), some (.int (nI n)), some (.int (nI m))] [] (hp Lx t rt u I2 G) 0 0 := by
    intro f
    induction f with
    | zero =>
      intro m I2 hm f2 hv
      refine wx_iload rfl (e := 5) rfl rfl ?_
      refine wx_bipush (v := (nI 9)) rfl (e := 7) rfl (by decide) ?_
      refine wn_ic_gt rfl (e := 10) rfl (by omega) (by omega) (fun c_7 => ?_) (fun c_7 => absurd c_7 (by omega))
      refine wx_bipush (v := (-2)) rfl (e := 35) rfl (by decide) ?_
      refine wx_iret rfl rfl rfl ⟨by decide, by decide⟩ ?_
      have e : (-2 : Int32) = wfS T r c p n := hv
      rw [e]
      exact hq I2 f2
    | succ f ih =>
      intro m I2 hm f2 hv
      refine wx_iload rfl (e := 5) rfl rfl ?_
      refine wx_bipush (v := (nI 9)) rfl (e := 7) rfl (by decide) ?_
      refine wn_ic_gt rfl (e := 10) rfl (by omega) (by omega) (fun c_7 => absurd c_7 (by omega)) (fun c_7 => ?_)
      refine wx_aload_n rfl (e := 11) rfl rfl ?_
      refine wx_aload_n rfl (e := 12) rfl rfl ?_
      refine wx_iload_n rfl (e := 13) rfl rfl ?_
      refine wx_iload rfl (e := 15) rfl rfl ?_
      refine wx_iload rfl (e := 17) rfl rfl ?_
      refine wx_cv4 (mc := 0) (ms := 0) rfl (e := 20) rfl rfl (Nat.le_of_ble_eq_true rfl) ⟨by decide, by decide⟩ ?_
      refine c_X0_catching (f2.T hT) hs (f2.S hu hs hS) hc (fun I3 f3 => ?_)
      refine wx_iload_n rfl (e := 21) rfl rfl ?_
      refine wx_ic_lt rfl (e := 24) rfl (fun c_21 => ?_) (fun c_21 => ?_)
      · have hG : wfF T r c p n (f + 1) m = wfF T r c p n f (m + 1) := by rw [wfF, if_neg (Int32.not_le.mpr c_21)]
        rw [hG] at hv
        refine wn_iinc (m := 1) (L2 := [_, _, _, _, _, _]) rfl (e := 30) rfl rfl (by decide) rfl ?_
        refine wx_goto rfl ?_
        exact ih (m + 1) _ (by omega) (f2.tr f3) hv
      · have hG : wfF T r c p n (f + 1) m = nI m := by rw [wfF, if_pos (Int32.not_lt.mp c_21)]
        rw [hG] at hv
        refine wx_iload rfl (e := 26) rfl rfl ?_
        refine wx_iret rfl rfl rfl ⟨by decide, by decide⟩ ?_
        rw [hv]
        exact hq I3 (f2.tr f3)
  refine wx_in (M := mX0_watchersFor) rfl rfl rfl (Nat.le_of_ble_eq_true rfl) ?_
  refine wx_iconst (v := (nI 0)) rfl (e := 1) rfl (by decide) ?_
  refine wx_istore (L2 := [_, _, _, _, _, _]) rfl (e := 3) rfl (by decide) rfl ?_
  exact loop 10 0 I (by omega) fr5.rf rfl

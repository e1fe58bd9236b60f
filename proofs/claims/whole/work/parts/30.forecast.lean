/-! forecasts -/
def frf (u : Nat) (I I2 : Nat → Nat → Int32) : Prop := ∀ q, q ≠ u + 5 → q ≠ u + 6 → q ≠ 46 → q ≠ 42 → q ≠ 43 → q ≠ 47 → I2 q = I q
theorem frf.rf {u : Nat} {I : Nat → Nat → Int32} : frf u I I := fun _ _ _ _ _ _ _ => rfl
theorem frf.tr {u : Nat} {I I2 I3 : Nat → Nat → Int32} (h1 : frf u I I2) (h2 : frf u I2 I3) : frf u I I3 := fun q a b c d e f => (h2 q a b c d e f).trans (h1 q a b c d e f)
theorem frf.T {u : Nat} {I I2 : Nat → Nat → Int32} {T : tx} (h : frf u I I2) (hT : CT u I T) : CT u I2 T := by
  have hu := hT.1
  exact hT.kept (fun c _ _ c5 c6 => h c c5 c6 (by omega) (by omega) (by omega) (by omega))
theorem frf.S {u : Nat} {I I2 : Nat → Nat → Int32} {r : rw_} (hu : u = 1 ∨ u = 16) (h : frf u I I2) (hS : CS 39 I r) : CS 39 I2 r := hS.kept (h 40 (by omega) (by omega) (by omega) (by omega) (by omega) (by omega))
theorem frp.f {u : Nat} {I I2 : Nat → Nat → Int32} (h : frp u 45 I I2) : frf u I I2 := fun q a b c d e _ => h q a b c d e
theorem fr5.f {u : Nat} {I I2 : Nat → Nat → Int32} (h : fr5 u I I2) : frf u I I2 := fun q a b _ _ _ _ => h q a b
theorem f46 {u : Nat} {I I2 : Nat → Nat → Int32} (h : ∀ q, q ≠ 46 → I2 q = I q) : frf u I I2 := fun q _ _ a _ _ _ => h q a
theorem f47 {u : Nat} {I I2 : Nat → Nat → Int32} (h : ∀ q, q ≠ 47 → I2 q = I q) : frf u I I2 := fun q _ _ _ _ _ a => h q a
def yaS (T : tx) (r : rw_) (n : Nat) : rw_ := yrsS T (tS T) r n
/-- the first of the churches before c for which f is most -/
def amx (f : Nat → Int32) : Nat → Int32 × Int32
  | 0 => (-2, nI 0)
  | c + 1 => if (amx f c).1 < nI 0 ∨ (amx f c).2 < f c then (nI c, f c) else amx f c
def wdS (T : tx) (r : rw_) (e n c : Nat) : Int32 := yaS T (mvS r e (nI c)) n (18 + c) - yaS T (mvS r e (-1)) n (18 + c)
def bgn (T : tx) (r : rw_) (n e f : Nat) : Bool := decide (¬ r (6 + e) = r (6 + f) ∧ nI 0 < yaS T (xcS r e f) n (18 + chN r e) - yaS T r n (18 + chN r e) ∧ nI 0 < yaS T (xcS r e f) n (18 + chN r f) - yaS T r n (18 + chN r f))
def brI (g : Nat → Nat → Bool) (e : Nat) (s : Nat × Int32) : Nat → Nat × Int32
  | 0 => s
  | j + 1 => if g e (e + 1 + j) = true then ((brI g e s j).1 + 1, if (brI g e s j).2 < nI 0 then nI (10 * e + (e + 1 + j)) else (brI g e s j).2) else brI g e s j
def brO (g : Nat → Nat → Bool) (R : Nat) : Nat → Nat × Int32
  | 0 => (0, -2)
  | e + 1 => brI g e (brO g R e) (R - (e + 1))
def hwS (T : tx) (sd : Int32) (r : rw_) (e : Nat) : Nat → Bool
  | 0 => false
  | i + 1 => hwS T sd r e i || decide (r (24 + e) < yrsS T sd r (i + 1) (24 + e))
def cntS (g : Nat → Bool) : Nat → Nat
  | 0 => 0
  | i + 1 => cntS g i + (if g i = true then 1 else 0)
theorem amx_in (f : Nat → Int32) : ∀ c, ((amx f c).1 = -2 ∧ c = 0) ∨ ∃ b, b < c ∧ (amx f c).1 = nI b
  | 0 => Or.inl ⟨rfl, rfl⟩
  | c + 1 => by
    have ih := amx_in f c
    rw [amx]
    split
    · exact Or.inr ⟨c, by omega, rfl⟩
    · rename_i h
      rcases ih with ⟨h1, h2⟩ | ⟨b, h1, h2⟩
      · exact absurd (Or.inl (by rw [h1]; decide)) h
      · exact Or.inr ⟨b, by omega, h2⟩
theorem mv_rest {T : tx} {r : rw_} {e : Nat} {v : Int32} (he : e < tR T) (hr : ∀ e, tR T ≤ e → e < 6 → r (6 + e) = -1) : ∀ j, tR T ≤ j → j < 6 → mvS r e v (6 + j) = -1 := fun j h1 h2 => by
  unfold mvS; rw [if_neg (by omega)]; exact hr j h1 h2
theorem sd_u {u : Nat} {I : Nat → Nat → Int32} {T : tx} (h : CT u I T) : I u 15 = tS T := h.2.2.2.2.2.1
theorem c_X0_text {d Lx t rt u : Nat} {I : Nat → Nat → Int32} {G : Nat → Nat → Int64} {Q : ab_Q}  (hu : u = 1 ∨ u = 16) (hq : Q (some (.ref u)) (hp Lx t rt u I G)) : ab_call ab_MT (d + 1) 2 [.ref 41] (hp Lx t rt u I G) 0 0 Q := by
  refine wx_in (M := mX0_text) rfl rfl rfl (Nat.le_of_ble_eq_true rfl) ?_
  refine wx_aload_n rfl (e := 1) rfl rfl ?_
  refine wx_getr rfl (e := 4) rfl rfl rfl ?_
  refine wx_aret rfl rfl (by omega) ⟨by decide, by decide⟩ ?_
  exact hq
theorem c_X1_after {d Lx t rt u : Nat} {I : Nat → Nat → Int32} {G : Nat → Nat → Int64} {Q : ab_Q} {T : tx} {r : rw_} (hT : CT u I T) (hS : CS 39 I r) (hL : lok T r) {n : Nat} (hn : n ≤ 60) (hq : ∀ I2, frf u I I2 → CS 45 I2 (yaS T r n) → I2 47 = I 47 → (∀ m, n = m + 1 → ∀ a, a < 5 → I2 43 a = nI (yrW T (tS T) (yrsS T (tS T) r m) a)) → Q (some (.ref 45)) (hp Lx t rt u I2 G)) : ab_call ab_MT (d + 7) 22 [.ref 44, .int (nI n)] (hp Lx t rt u I G) 0 0 Q := by
  have hu := hT.1
  obtain ⟨hC6, hR6, hP5, hH, hTf, hFn, hLx⟩ := hT.2.1
  obtain ⟨-, -, t1, t2, t3, t4, t5, t6, t7, -⟩ := id hT
  have hr := hL.2.1
  refine wx_in (M := mX1_after) rfl rfl rfl (Nat.le_of_ble_eq_true rfl) ?_
  refine wx_aload_n rfl (e := 1) rfl rfl ?_
  refine wx_getr rfl (e := 4) rfl rfl rfl ?_
  refine wx_aload_n rfl (e := 5) rfl rfl ?_
  refine wx_getr rfl (e := 8) rfl rfl rfl ?_
  refine wx_cv1 (mc := 0) (ms := 0) rfl (e := 11) rfl rfl (Nat.le_of_ble_eq_true rfl) ⟨by decide, by decide⟩ ?_
  refine c_X5_copyOf (fun Ic fc gc => ?_)
  have Fc := f46 (u := u) fc
  have Tc := Fc.T hT
  have Sc : CS 45 Ic r := fun k hk => (gc k hk).trans (hS k hk)
  refine wx_aload_n rfl (e := 12) rfl rfl ?_
  refine wx_getr rfl (e := 15) rfl rfl rfl ?_
  refine wx_aload_n rfl (e := 16) rfl rfl ?_
  refine wx_getr rfl (e := 19) rfl rfl rfl ?_
  refine wx_aload_n rfl (e := 20) rfl rfl ?_
  refine wx_getr rfl (e := 23) rfl rfl rfl ?_
  refine wx_cv0 (mc := 0) (ms := 0) rfl (e := 26) rfl rfl (Nat.le_of_ble_eq_true rfl) ⟨by decide, by decide⟩ ?_
  refine c_X0_text hu ?_
  refine wx_cv0 (mc := 0) (ms := 0) rfl (e := 29) rfl (sh_t hu) (Nat.le_of_ble_eq_true rfl) ⟨by decide, by decide⟩ ?_
  refine c_X7_seed hu ?_
  rw [sd_u Tc]
  refine wx_iload_n rfl (e := 30) rfl rfl ?_
  refine wx_cv3 (mc := 0) (ms := 0) rfl (e := 33) rfl rfl (Nat.le_of_ble_eq_true rfl) ⟨by decide, by decide⟩ ?_
  refine c_X0_pass Tc (s := 45) (by omega) Sc hn hr (fun I2 f2 S2 w2 => ?_)
  refine wx_aload_n rfl (e := 34) rfl rfl ?_
  refine wx_getr rfl (e := 37) rfl rfl rfl ?_
  refine wx_aret rfl rfl (by decide) ⟨by decide, by decide⟩ ?_
  exact hq I2 (Fc.tr f2.f) S2 ((f2 47 (by omega) (by omega) (by omega) (by omega) (by omega)).trans (fc 47 (by omega))) w2
theorem c_X1_more {d Lx t rt u : Nat} {I : Nat → Nat → Int32} {G : Nat → Nat → Int64} {Q : ab_Q} {T : tx} {r : rw_} (hT : CT u I T) (hS : CS 39 I r) (hL : lok T r) {n k : Nat} (hn : n ≤ 60) (hk : k < 55) (hq : ∀ I2, frf u I I2 → Q (some (.int (cst (yaS T r n) k - cst r k))) (hp Lx t rt u I2 G)) : ab_call ab_MT (d + 8) 23 [.ref 44, .int (nI k), .int (nI n)] (hp Lx t rt u I G) 0 0 Q := by
  have hu := hT.1
  obtain ⟨hC6, hR6, hP5, hH, hTf, hFn, hLx⟩ := hT.2.1
  obtain ⟨-, -, t1, t2, t3, t4, t5, t6, t7, -⟩ := id hT
  have hr := hL.2.1
  refine wx_in (M := mX1_more) rfl rfl rfl (Nat.le_of_ble_eq_true rfl) ?_
  refine wx_aload_n rfl (e := 1) rfl rfl ?_
  refine wx_iload_n rfl (e := 2) rfl rfl ?_
  refine wx_cv1 (mc := 0) (ms := 0) rfl (e := 5) rfl rfl (Nat.le_of_ble_eq_true rfl) ⟨by decide, by decide⟩ ?_
  refine c_X1_after hT hS hL hn (fun I2 f2 S2 _ _ => ?_)
  have L2 := f2.S hu hS
  refine wx_iload_n rfl (e := 6) rfl rfl ?_
  refine wx_cv1 (mc := 0) (ms := 0) rfl (e := 9) rfl rfl (Nat.le_of_ble_eq_true rfl) ⟨by decide, by decide⟩ ?_
  refine c_X5_get (c := 45) (by omega) hk ?_
  rw [S2 _ hk]
  refine wx_aload_n rfl (e := 10) rfl rfl ?_
  refine wx_getr rfl (e := 13) rfl rfl rfl ?_
  refine wx_iload_n rfl (e := 14) rfl rfl ?_
  refine wx_cv1 (mc := 0) (ms := 0) rfl (e := 17) rfl rfl (Nat.le_of_ble_eq_true rfl) ⟨by decide, by decide⟩ ?_
  refine c_X5_get (c := 39) (by omega) hk ?_
  rw [L2 _ hk]
  refine wx_isub rfl (e := 18) rfl ?_
  refine wx_iret rfl rfl rfl ⟨by decide, by decide⟩ ?_
  exact hq I2 f2
theorem c_X1_keepTook {d Lx t rt u : Nat} {I : Nat → Nat → Int32} {G : Nat → Nat → Int64} {Q : ab_Q}  {r : rw_} (hS : CS 45 I r) (hq : ∀ I2, (∀ q, q ≠ 47 → I2 q = I q) → (∀ k, k < 6 → I2 47 k = r (18 + k)) → Q none (hp Lx t rt u I2 G)) : ab_call ab_MT (d + 2) 24 [.ref 44] (hp Lx t rt u I G) 0 0 Q := by
  have loop : ∀ (n : Nat) (i : Nat) (I2 : Nat → Nat → Int32), i ≤ 6 → 6 - i < n → (∀ q, q ≠ 47 → I2 q = I q) → (∀ k, k < i → I2 47 k = (fun j => r (18 + j)) k) → WP (d + 1) mX1_keepTook Q 2 [some (.ref 44), some (.int (nI i))] [] (hp Lx t rt u I2 G) 0 0 := by
    intro n
    induction n with
    | zero => intro i I2 hi hn f2 g2; omega
    | succ n ih =>
      intro i I2 hi hn f2 g2
      refine wx_iload_n rfl (e := 3) rfl rfl ?_
      refine wx_bipush (v := (nI 6)) rfl (e := 5) rfl (by decide) ?_
      refine wn_ic_ge rfl (e := 8) rfl (by omega) (by omega) (fun c_5 => ?_) (fun c_5 => ?_)
      · refine wx_ret rfl rfl ⟨by decide, by decide⟩ ?_
        exact hq I2 f2 (fun k hk => g2 k (by omega))
      · refine wx_aload_n rfl (e := 9) rfl rfl ?_
        refine wx_getr rfl (e := 12) rfl rfl rfl ?_
        refine wx_iload_n rfl (e := 13) rfl rfl ?_
        refine wx_aload_n rfl (e := 14) rfl rfl ?_
        refine wx_getr rfl (e := 17) rfl rfl rfl ?_
        refine wx_bipush (v := (nI 12)) rfl (e := 19) rfl (by decide) ?_
        refine wx_iload_n rfl (e := 20) rfl rfl ?_
        refine wn_iadd rfl (e := 21) rfl ?_
        refine wx_cv1 (mc := 0) (ms := 0) rfl (e := 24) rfl rfl (Nat.le_of_ble_eq_true rfl) ⟨by decide, by decide⟩ ?_
        refine c_X5_get (c := 45) (by omega) (by omega) ?_
        rw [f2 46 (by decide), hS _ (by omega), cst_m r (by omega) (by omega), show 12 + i + 6 = 18 + i by omega]
        refine wn_iast rfl (e := 25) rfl rfl (by decide) (by omega) (by decide) ?_
        refine wn_iinc (m := 1) (L2 := [_, _]) rfl (e := 28) rfl rfl (by decide) rfl ?_
        refine wx_goto rfl ?_
        refine ih (i + 1) _ (by omega) (by omega) (fun q h => (wr_other _ _ _ _ h).trans (f2 q h)) (wr_ext rfl (fun k hk hne => g2 k (by omega)))
  refine wx_in (M := mX1_keepTook) rfl rfl rfl (Nat.le_of_ble_eq_true rfl) ?_
  refine wx_iconst (v := (nI 0)) rfl (e := 1) rfl (by decide) ?_
  refine wx_istore_n (L2 := [_, _]) rfl (e := 2) rfl (by decide) rfl ?_
  exact loop 7 0 I (by omega) (by omega) (fun _ _ => rfl) (fun k hk => absurd hk (Nat.not_lt_zero _))
theorem c_X1_tookMoreThanElse {d Lx t rt u : Nat} {I : Nat → Nat → Int32} {G : Nat → Nat → Int64} {Q : ab_Q}  {r : rw_} (hS : CS 45 I r) {c : Nat} (hc : c < 6) (hq : Q (some (.int (r (18 + c) - I 47 c))) (hp Lx t rt u I G)) : ab_call ab_MT (d + 2) 25 [.ref 44, .int (nI c)] (hp Lx t rt u I G) 0 0 Q := by
  refine wx_in (M := mX1_tookMoreThanElse) rfl rfl rfl (Nat.le_of_ble_eq_true rfl) ?_
  refine wx_iload_n rfl (e := 1) rfl rfl ?_
  refine wx_iconst (v := (nI 0)) rfl (e := 2) rfl (by decide) ?_
  refine wx_iconst (v := (nI 5)) rfl (e := 3) rfl (by decide) ?_
  refine wx_cs3 (mc := 0) (ms := 0) rfl (e := 6) rfl (Nat.le_of_ble_eq_true rfl) ⟨by decide, by decide⟩ ?_
  refine c_X10_isWithin (by decide) (by decide) (fun k h1 h2 ek => ?_) (fun hno => absurd rfl (hno c (Nat.zero_le _) (by omega)))
  · refine wn_if_eq rfl (e := 9) rfl (by omega) (fun c_6 => absurd c_6 (by omega)) (fun c_6 => ?_)
    refine wx_aload_n rfl (e := 10) rfl rfl ?_
    refine wx_getr rfl (e := 13) rfl rfl rfl ?_
    refine wx_bipush (v := (nI 12)) rfl (e := 15) rfl (by decide) ?_
    refine wx_iload_n rfl (e := 16) rfl rfl ?_
    refine wn_iadd rfl (e := 17) rfl ?_
    refine wx_cv1 (mc := 0) (ms := 0) rfl (e := 20) rfl rfl (Nat.le_of_ble_eq_true rfl) ⟨by decide, by decide⟩ ?_
    refine c_X5_get (c := 45) (by omega) (by omega) ?_
    rw [hS _ (by omega), cst_m r (by omega) (by omega), show 12 + c + 6 = 18 + c by omega]
    refine wx_aload_n rfl (e := 21) rfl rfl ?_
    refine wx_getr rfl (e := 24) rfl rfl rfl ?_
    refine wx_iload_n rfl (e := 25) rfl rfl ?_
    refine wn_iald rfl (e := 26) rfl rfl (by omega) (by decide) ?_
    refine wx_isub rfl (e := 27) rfl ?_
    refine wx_goto rfl ?_
    refine wx_iret rfl rfl rfl ⟨by decide, by decide⟩ ?_
    exact hq
theorem c_X1_passWithRelicAt {d Lx t rt u : Nat} {I : Nat → Nat → Int32} {G : Nat → Nat → Int64} {Q : ab_Q} {T : tx} {r : rw_} (hT : CT u I T) (hS : CS 39 I r) (hL : lok T r) {e n : Nat} {v : Int32} (he : e < tR T) (hn : n ≤ 60) (hq : ∀ I2, frf u I I2 → I2 47 = I 47 → CS 45 I2 (yaS T (mvS r e v) n) → Q none (hp Lx t rt u I2 G)) : ab_call ab_MT (d + 7) 26 [.ref 44, .int (nI e), .int v, .int (nI n)] (hp Lx t rt u I G) 0 0 Q := by
  have hu := hT.1
  obtain ⟨hC6, hR6, hP5, hH, hTf, hFn, hLx⟩ := hT.2.1
  obtain ⟨-, -, t1, t2, t3, t4, t5, t6, t7, -⟩ := id hT
  have hr := hL.2.1
  refine wx_in (M := mX1_passWithRelicAt) rfl rfl rfl (Nat.le_of_ble_eq_true rfl) ?_
  refine wx_aload_n rfl (e := 1) rfl rfl ?_
  refine wx_getr rfl (e := 4) rfl rfl rfl ?_
  refine wx_aload_n rfl (e := 5) rfl rfl ?_
  refine wx_getr rfl (e := 8) rfl rfl rfl ?_
  refine wx_cv1 (mc := 0) (ms := 0) rfl (e := 11) rfl rfl (Nat.le_of_ble_eq_true rfl) ⟨by decide, by decide⟩ ?_
  refine c_X5_copyOf (fun Ic fc gc => ?_)
  have Fc := f46 (u := u) fc
  have Tc := Fc.T hT
  have Sc : CS 45 Ic r := fun k hk => (gc k hk).trans (hS k hk)
  refine wx_aload_n rfl (e := 12) rfl rfl ?_
  refine wx_getr rfl (e := 15) rfl rfl rfl ?_
  refine wx_iload_n rfl (e := 16) rfl rfl ?_
  refine wx_iload_n rfl (e := 17) rfl rfl ?_
  refine wx_cv2 (mc := 0) (ms := 0) rfl (e := 20) rfl rfl (Nat.le_of_ble_eq_true rfl) ⟨by decide, by decide⟩ ?_
  refine c_X5_move (s := 45) (by omega) Sc (by omega) (fun Im fm Sm => ?_)
  have Fm := f46 (u := u) fm
  have Tm := Fm.T Tc
  refine wx_aload_n rfl (e := 21) rfl rfl ?_
  refine wx_getr rfl (e := 24) rfl rfl rfl ?_
  refine wx_aload_n rfl (e := 25) rfl rfl ?_
  refine wx_getr rfl (e := 28) rfl rfl rfl ?_
  refine wx_aload_n rfl (e := 29) rfl rfl ?_
  refine wx_getr rfl (e := 32) rfl rfl rfl ?_
  refine wx_cv0 (mc := 0) (ms := 0) rfl (e := 35) rfl rfl (Nat.le_of_ble_eq_true rfl) ⟨by decide, by decide⟩ ?_
  refine c_X0_text hu ?_
  refine wx_cv0 (mc := 0) (ms := 0) rfl (e := 38) rfl (sh_t hu) (Nat.le_of_ble_eq_true rfl) ⟨by decide, by decide⟩ ?_
  refine c_X7_seed hu ?_
  rw [sd_u Tm]
  refine wx_iload_n rfl (e := 39) rfl rfl ?_
  refine wx_cv3 (mc := 0) (ms := 0) rfl (e := 42) rfl rfl (Nat.le_of_ble_eq_true rfl) ⟨by decide, by decide⟩ ?_
  refine c_X0_pass Tm (s := 45) (by omega) Sm hn (mv_rest he hr) (fun I2 f2 S2 w2 => ?_)
  refine wx_ret rfl rfl ⟨by decide, by decide⟩ ?_
  exact hq I2 (Fc.tr (Fm.tr f2.f)) ((f2 47 (by omega) (by omega) (by omega) (by omega) (by omega)).trans ((fm 47 (by omega)).trans (fc 47 (by omega)))) S2
set_option maxHeartbeats 1000000 in
theorem c_X1_bestHome {d Lx t rt u : Nat} {I : Nat → Nat → Int32} {G : Nat → Nat → Int64} {Q : ab_Q} {T : tx} {r : rw_} (hT : CT u I T) (hS : CS 39 I r) (hL : lok T r) {e n : Nat} {b : Int32} (he : e < tR T) (hn : n ≤ 24) (hq0 : b = 0 → ∀ I2, frf u I I2 → Q (some (.int (amx (wdS T r e n) (tC T)).1)) (hp Lx t rt u I2 G)) (hq1 : ¬ b = 0 → ∀ I2, frf u I I2 → Q (some (.int (amx (wdS T r e n) (tC T)).2)) (hp Lx t rt u I2 G)) : ab_call ab_MT (d + 8) 27 [.ref 44, .int (nI e), .int (nI n), .int b] (hp Lx t rt u I G) 0 0 Q := by
  have hu := hT.1
  obtain ⟨hC6, hR6, hP5, hH, hTf, hFn, hLx⟩ := hT.2.1
  obtain ⟨-, -, t1, t2, t3, t4, t5, t6, t7, -⟩ := id hT
  have hr := hL.2.1
  have loop : ∀ (m : Nat) (c : Nat) (I2 : Nat → Nat → Int32), c ≤ tC T → tC T - c < m → frf u I I2 → (∀ k, k < 6 → I2 47 k = yaS T (mvS r e (-1)) n (18 + k)) → ∀ x7, WP (d + 7) mX1_bestHome Q 21 [some (.ref 44), some (.int (nI e)), some (.int (nI n)), some (.int b), some (.int (amx (wdS T r e n) c).1), some (.int (amx (wdS T r e n) c).2), some (.int (nI c)), x7] [] (hp Lx t rt u I2 G) 0 0 := by
    intro m
    induction m with
    | zero => intro c I2 hi hm f2 g2 x7; omega
    | succ m ih =>
      intro c I2 hi hm f2 g2 x7
      refine wx_iload rfl (e := 23) rfl rfl ?_
      refine wx_aload_n rfl (e := 24) rfl rfl ?_
      refine wx_getr rfl (e := 27) rfl rfl rfl ?_
      refine wx_cv0 (mc := 0) (ms := 0) rfl (e := 30) rfl rfl (Nat.le_of_ble_eq_true rfl) ⟨by decide, by decide⟩ ?_
      refine c_X0_text hu ?_
      refine wx_cv0 (mc := 0) (ms := 0) rfl (e := 33) rfl (sh_t hu) (Nat.le_of_ble_eq_true rfl) ⟨by decide, by decide⟩ ?_
      refine c_X7_churches hu ?_
      rw [f2 u (by omega) (by omega) (by omega) (by omega) (by omega) (by omega), t1]
      refine wn_ic_ge rfl (e := 36) rfl (by omega) (by omega) (fun c_33 => ?_) (fun c_33 => ?_)
      · refine wx_iload_n rfl (e := 79) rfl rfl ?_
        refine wx_if_eq rfl (e := 82) rfl (fun c_79 => ?_) (fun c_79 => ?_)
        · refine wx_iload rfl (e := 89) rfl rfl ?_
          refine wx_iret rfl rfl rfl ⟨by decide, by decide⟩ ?_
          have ec : c = tC T := by omega
          subst ec
          exact hq0 c_79 I2 f2
        · refine wx_iload rfl (e := 84) rfl rfl ?_
          refine wx_goto rfl ?_
          refine wx_iret rfl rfl rfl ⟨by decide, by decide⟩ ?_
          have ec : c = tC T := by omega
          subst ec
          exact hq1 c_79 I2 f2
      · refine wx_aload_n rfl (e := 37) rfl rfl ?_
        refine wx_iload_n rfl (e := 38) rfl rfl ?_
        refine wx_iload rfl (e := 40) rfl rfl ?_
        refine wx_iload_n rfl (e := 41) rfl rfl ?_
        refine wx_cv3 (mc := 0) (ms := 0) rfl (e := 44) rfl rfl (Nat.le_of_ble_eq_true rfl) ⟨by decide, by decide⟩ ?_
        refine c_X1_passWithRelicAt (f2.T hT) (f2.S hu hS) hL he (by omega) (fun I3 f3 k3 S3 => ?_)
        refine wx_aload_n rfl (e := 45) rfl rfl ?_
        refine wx_iload rfl (e := 47) rfl rfl ?_
        refine wx_cv1 (mc := 0) (ms := 0) rfl (e := 50) rfl rfl (Nat.le_of_ble_eq_true rfl) ⟨by decide, by decide⟩ ?_
        refine c_X1_tookMoreThanElse S3 (by omega) ?_
        rw [k3, g2 c (by omega)]
        show WP _ _ _ _ _ (.int (wdS T r e n c) :: _) _ _ _
        refine wx_istore (L2 := [_, _, _, _, _, _, _, _]) rfl (e := 52) rfl (by decide) rfl ?_
        refine wx_iload rfl (e := 54) rfl rfl ?_
        refine wx_if_lt rfl (e := 57) rfl (fun c_54 => ?_) (fun c_54 => ?_)
        · rw [← nI_0] at c_54
          have hG : amx (wdS T r e n) (c + 1) = (nI c, (wdS T r e n) c) := by rw [amx, if_pos (Or.inl c_54)]
          refine wx_iload rfl (e := 66) rfl rfl ?_
          refine wx_istore (L2 := [_, _, _, _, _, _, _, _]) rfl (e := 68) rfl (by decide) rfl ?_
          refine wx_iload rfl (e := 70) rfl rfl ?_
          refine wx_istore (L2 := [_, _, _, _, _, _, _, _]) rfl (e := 72) rfl (by decide) rfl ?_
          refine wn_iinc (m := 1) (L2 := [_, _, _, _, _, _, _, _]) rfl (e := 75) rfl rfl (by decide) rfl ?_
          refine wx_goto rfl ?_
          have hh := fun x7 => ih (c + 1) I3 (by omega) (by omega) (f2.tr f3) (fun k hk => by rw [k3]; exact g2 k hk) x7
          rw [hG] at hh
          exact hh _
        · rw [← nI_0] at c_54
          refine wx_iload rfl (e := 59) rfl rfl ?_
          refine wx_iload rfl (e := 61) rfl rfl ?_
          refine wx_ic_le rfl (e := 64) rfl (fun c_61 => ?_) (fun c_61 => ?_)
          · have hG : amx (wdS T r e n) (c + 1) = amx (wdS T r e n) c := by rw [amx, if_neg (fun z => z.elim c_54 (fun z => absurd c_61 (Int32.not_le.mpr z)))]
            refine wn_iinc (m := 1) (L2 := [_, _, _, _, _, _, _, _]) rfl (e := 75) rfl rfl (by decide) rfl ?_
            refine wx_goto rfl ?_
            have hh := fun x7 => ih (c + 1) I3 (by omega) (by omega) (f2.tr f3) (fun k hk => by rw [k3]; exact g2 k hk) x7
            rw [hG] at hh
            exact hh _
          · have hG : amx (wdS T r e n) (c + 1) = (nI c, (wdS T r e n) c) := by rw [amx, if_pos (Or.inr (Int32.not_le.mp c_61))]
            refine wx_iload rfl (e := 66) rfl rfl ?_
            refine wx_istore (L2 := [_, _, _, _, _, _, _, _]) rfl (e := 68) rfl (by decide) rfl ?_
            refine wx_iload rfl (e := 70) rfl rfl ?_
            refine wx_istore (L2 := [_, _, _, _, _, _, _, _]) rfl (e := 72) rfl (by decide) rfl ?_
            refine wn_iinc (m := 1) (L2 := [_, _, _, _, _, _, _, _]) rfl (e := 75) rfl rfl (by decide) rfl ?_
            refine wx_goto rfl ?_
            have hh := fun x7 => ih (c + 1) I3 (by omega) (by omega) (f2.tr f3) (fun k hk => by rw [k3]; exact g2 k hk) x7
            rw [hG] at hh
            exact hh _
  refine wx_in (M := mX1_bestHome) rfl rfl rfl (Nat.le_of_ble_eq_true rfl) ?_
  refine wx_aload_n rfl (e := 1) rfl rfl ?_
  refine wx_iload_n rfl (e := 2) rfl rfl ?_
  refine wx_iconst (v := (-1)) rfl (e := 3) rfl (by decide) ?_
  refine wx_iload_n rfl (e := 4) rfl rfl ?_
  refine wx_cv3 (mc := 0) (ms := 0) rfl (e := 7) rfl rfl (Nat.le_of_ble_eq_true rfl) ⟨by decide, by decide⟩ ?_
  refine c_X1_passWithRelicAt hT hS hL he (by omega) (fun I3 f3 k3 S3 => ?_)
  refine wx_aload_n rfl (e := 8) rfl rfl ?_
  refine wx_cv0 (mc := 0) (ms := 0) rfl (e := 11) rfl rfl (Nat.le_of_ble_eq_true rfl) ⟨by decide, by decide⟩ ?_
  refine c_X1_keepTook S3 (fun I4 f4 g4 => ?_)
  refine wx_bipush (v := (-2)) rfl (e := 13) rfl (by decide) ?_
  refine wx_istore (L2 := [_, _, _, _, _, _, _, _]) rfl (e := 15) rfl (by decide) rfl ?_
  refine wx_iconst (v := (nI 0)) rfl (e := 16) rfl (by decide) ?_
  refine wx_istore (L2 := [_, _, _, _, _, _, _, _]) rfl (e := 18) rfl (by decide) rfl ?_
  refine wx_iconst (v := (nI 0)) rfl (e := 19) rfl (by decide) ?_
  refine wx_istore (L2 := [_, _, _, _, _, _, _, _]) rfl (e := 21) rfl (by decide) rfl ?_
  exact loop (tC T + 1) 0 I4 (by omega) (by omega) (f3.tr (f47 f4)) g4 _
set_option maxHeartbeats 1000000 in
theorem c_X1_bothGain {d Lx t rt u : Nat} {I : Nat → Nat → Int32} {G : Nat → Nat → Int64} {Q : ab_Q} {T : tx} {r : rw_} (hT : CT u I T) (hS : CS 39 I r) (hL : lok T r) {e f n : Nat} (he : e < tR T) (hf : f < tR T) (hn : n ≤ 24) (h47 : ∀ k, k < 6 → I 47 k = yaS T r n (18 + k)) (hq : ∀ I2, frf u I I2 → I2 47 = I 47 → Q (some (.int (b1 (bgn T r n e f)))) (hp Lx t rt u I2 G)) : ab_call ab_MT (d + 7) 29 [.ref 44, .int (nI e), .int (nI f), .int (nI n)] (hp Lx t rt u I G) 0 0 Q := by
  have hu := hT.1
  obtain ⟨hC6, hR6, hP5, hH, hTf, hFn, hLx⟩ := hT.2.1
  obtain ⟨-, -, t1, t2, t3, t4, t5, t6, t7, -⟩ := id hT
  have hr := hL.2.1
  obtain ⟨hce, hre⟩ := hL.ch hT.2.1 he
  obtain ⟨hcf, hrf⟩ := hL.ch hT.2.1 hf
  refine wx_in (M := mX1_bothGain) rfl rfl rfl (Nat.le_of_ble_eq_true rfl) ?_
  refine wx_aload_n rfl (e := 1) rfl rfl ?_
  refine wx_getr rfl (e := 4) rfl rfl rfl ?_
  refine wx_bipush (v := (nI 24)) rfl (e := 6) rfl (by decide) ?_
  refine wx_iload_n rfl (e := 7) rfl rfl ?_
  refine wn_iadd rfl (e := 8) rfl ?_
  refine wx_cv1 (mc := 0) (ms := 0) rfl (e := 11) rfl rfl (Nat.le_of_ble_eq_true rfl) ⟨by decide, by decide⟩ ?_
  refine c_X5_get (c := 39) (by omega) (by omega) ?_
  rw [hS _ (by omega), cst_r r (by omega), hre]
  refine wx_istore (L2 := [_, _, _, _, _, _]) rfl (e := 13) rfl (by decide) rfl ?_
  refine wx_aload_n rfl (e := 14) rfl rfl ?_
  refine wx_getr rfl (e := 17) rfl rfl rfl ?_
  refine wx_bipush (v := (nI 24)) rfl (e := 19) rfl (by decide) ?_
  refine wx_iload_n rfl (e := 20) rfl rfl ?_
  refine wn_iadd rfl (e := 21) rfl ?_
  refine wx_cv1 (mc := 0) (ms := 0) rfl (e := 24) rfl rfl (Nat.le_of_ble_eq_true rfl) ⟨by decide, by decide⟩ ?_
  refine c_X5_get (c := 39) (by omega) (by omega) ?_
  rw [hS _ (by omega), cst_r r (by omega), hrf]
  refine wx_istore (L2 := [_, _, _, _, _, _]) rfl (e := 26) rfl (by decide) rfl ?_
  refine wx_iload rfl (e := 28) rfl rfl ?_
  refine wx_iload rfl (e := 30) rfl rfl ?_
  refine wn_ic_ne rfl (e := 33) rfl (by omega) (by omega) (fun c_30 => ?_) (fun c_30 => ?_)
  · refine wx_aload_n rfl (e := 36) rfl rfl ?_
    refine wx_getr rfl (e := 39) rfl rfl rfl ?_
    refine wx_aload_n rfl (e := 40) rfl rfl ?_
    refine wx_getr rfl (e := 43) rfl rfl rfl ?_
    refine wx_cv1 (mc := 0) (ms := 0) rfl (e := 46) rfl rfl (Nat.le_of_ble_eq_true rfl) ⟨by decide, by decide⟩ ?_
    refine c_X5_copyOf (fun Ic fc gc => ?_)
    have Fc := f46 (u := u) fc
    have Tc := Fc.T hT
    have Sc : CS 45 Ic r := fun k hk => (gc k hk).trans (hS k hk)
    refine wx_aload_n rfl (e := 47) rfl rfl ?_
    refine wx_getr rfl (e := 50) rfl rfl rfl ?_
    refine wx_iload_n rfl (e := 51) rfl rfl ?_
    refine wx_iload_n rfl (e := 52) rfl rfl ?_
    refine wx_cv2 (mc := 0) (ms := 0) rfl (e := 55) rfl rfl (Nat.le_of_ble_eq_true rfl) ⟨by decide, by decide⟩ ?_
    refine c_X5_exchange (s := 45) (by omega) Sc (by omega) (by omega) (fun Im fm Sm => ?_)
    have Fm := f46 (u := u) fm
    have Tm := Fm.T Tc
    refine wx_aload_n rfl (e := 56) rfl rfl ?_
    refine wx_getr rfl (e := 59) rfl rfl rfl ?_
    refine wx_aload_n rfl (e := 60) rfl rfl ?_
    refine wx_getr rfl (e := 63) rfl rfl rfl ?_
    refine wx_aload_n rfl (e := 64) rfl rfl ?_
    refine wx_getr rfl (e := 67) rfl rfl rfl ?_
    refine wx_cv0 (mc := 0) (ms := 0) rfl (e := 70) rfl rfl (Nat.le_of_ble_eq_true rfl) ⟨by decide, by decide⟩ ?_
    refine c_X0_text hu ?_
    refine wx_cv0 (mc := 0) (ms := 0) rfl (e := 73) rfl (sh_t hu) (Nat.le_of_ble_eq_true rfl) ⟨by decide, by decide⟩ ?_
    refine c_X7_seed hu ?_
    rw [sd_u Tm]
    refine wx_iload_n rfl (e := 74) rfl rfl ?_
    refine wx_cv3 (mc := 0) (ms := 0) rfl (e := 77) rfl rfl (Nat.le_of_ble_eq_true rfl) ⟨by decide, by decide⟩ ?_
    refine c_X0_pass Tm (s := 45) (by omega) Sm (by omega) (mv_rest hf (mv_rest he hr)) (fun I2 f2 S2 w2 => ?_)
    have k2 : I2 47 = I 47 := (f2 47 (by omega) (by omega) (by omega) (by omega) (by omega)).trans ((fm 47 (by omega)).trans (fc 47 (by omega)))
    have FF := Fc.tr (Fm.tr f2.f)
    refine wx_aload_n rfl (e := 78) rfl rfl ?_
    refine wx_iload rfl (e := 80) rfl rfl ?_
    refine wx_cv1 (mc := 0) (ms := 0) rfl (e := 83) rfl rfl (Nat.le_of_ble_eq_true rfl) ⟨by decide, by decide⟩ ?_
    refine c_X1_tookMoreThanElse S2 (by omega) ?_
    rw [k2, h47 _ (by omega)]
    refine wx_if_le rfl (e := 86) rfl (fun c_83 => ?_) (fun c_83 => ?_)
    · refine wx_iconst (v := (nI 0)) rfl (e := 100) rfl (by decide) ?_
      refine wx_iret rfl rfl rfl ⟨by decide, by decide⟩ ?_
      have hG : bgn T r n e f = false := by
        unfold bgn; rw [decide_eq_false_iff_not]; intro z; exact absurd c_83 (Int32.not_le.mpr z.2.1)
      rw [hG] at hq
      exact hq I2 FF k2
    · refine wx_aload_n rfl (e := 87) rfl rfl ?_
      refine wx_iload rfl (e := 89) rfl rfl ?_
      refine wx_cv1 (mc := 0) (ms := 0) rfl (e := 92) rfl rfl (Nat.le_of_ble_eq_true rfl) ⟨by decide, by decide⟩ ?_
      refine c_X1_tookMoreThanElse S2 (by omega) ?_
      rw [k2, h47 _ (by omega)]
      refine wx_if_le rfl (e := 95) rfl (fun c_92 => ?_) (fun c_92 => ?_)
      · refine wx_iconst (v := (nI 0)) rfl (e := 100) rfl (by decide) ?_
        refine wx_iret rfl rfl rfl ⟨by decide, by decide⟩ ?_
        have hG : bgn T r n e f = false := by
          unfold bgn; rw [decide_eq_false_iff_not]; intro z; exact absurd c_92 (Int32.not_le.mpr z.2.2)
        rw [hG] at hq
        exact hq I2 FF k2
      · refine wx_iconst (v := (nI 1)) rfl (e := 96) rfl (by decide) ?_
        refine wx_goto rfl ?_
        refine wx_iret rfl rfl rfl ⟨by decide, by decide⟩ ?_
        have hG : bgn T r n e f = true := by
          unfold bgn; rw [decide_eq_true_iff]; exact ⟨by rw [hre, hrf]; intro z; exact c_30 ((nI6 (by omega) (by omega)).mp z), Int32.not_le.mp c_83, Int32.not_le.mp c_92⟩
        rw [hG] at hq
        exact hq I2 FF k2
  · refine wx_iconst (v := (nI 0)) rfl (e := 34) rfl (by decide) ?_
    refine wx_iret rfl rfl rfl ⟨by decide, by decide⟩ ?_
    have hG : bgn T r n e f = false := by
      unfold bgn; rw [decide_eq_false_iff_not]; intro z; exact z.1 (by rw [hre, hrf, c_30])
    rw [hG] at hq
    exact hq I frf.rf rfl
set_option maxHeartbeats 1000000 in
theorem c_X1_barters {d Lx t rt u : Nat} {I : Nat → Nat → Int32} {G : Nat → Nat → Int64} {Q : ab_Q} {T : tx} {r : rw_} (hT : CT u I T) (hS : CS 39 I r) (hL : lok T r) {n : Nat} {b : Int32} (hn : n ≤ 24) (hq0 : b = 0 → ∀ I2, frf u I I2 → Q (some (.int (nI (brO (bgn T r n) (tR T) (tR T)).1))) (hp Lx t rt u I2 G)) (hq1 : ¬ b = 0 → ∀ I2, frf u I I2 → Q (some (.int (brO (bgn T r n) (tR T) (tR T)).2)) (hp Lx t rt u I2 G)) : ab_call ab_MT (d + 8) 28 [.ref 44, .int (nI n), .int b] (hp Lx t rt u I G) 0 0 Q := by
  have hu := hT.1
  obtain ⟨hC6, hR6, hP5, hH, hTf, hFn, hLx⟩ := hT.2.1
  obtain ⟨-, -, t1, t2, t3, t4, t5, t6, t7, -⟩ := id hT
  have hr := hL.2.1
  have inner : ∀ e, e < tR T → (∀ (I2 : Nat → Nat → Int32), frf u I I2 → (∀ k, k < 6 → I2 47 k = yaS T r n (18 + k)) → ∀ x7, WP (d + 7) mX1_barters Q 92 [some (.ref 44), some (.int (nI n)), some (.int b), some (.int (nI (brO (bgn T r n) (tR T) (e + 1)).1)), some (.int (brO (bgn T r n) (tR T) (e + 1)).2), some (.int (nI (tR T))), some (.int (nI e)), x7] [] (hp Lx t rt u I2 G) 0 0) → ∀ (m j : Nat) (I2 : Nat → Nat → Int32), e + 1 + j ≤ tR T → tR T - (e + 1 + j) < m → frf u I I2 → (∀ k, k < 6 → I2 47 k = yaS T r n (18 + k)) → WP (d + 7) mX1_barters Q 44 [some (.ref 44), some (.int (nI n)), some (.int b), some (.int (nI (brI (bgn T r n) e (brO (bgn T r n) (tR T) e) j).1)), some (.int (brI (bgn T r n) e (brO (bgn T r n) (tR T) e) j).2), some (.int (nI (tR T))), some (.int (nI e)), some (.int (nI (e + 1 + j)))] [] (hp Lx t rt u I2 G) 0 0 := by
    intro e he go m
    induction m with
    | zero => intro j I2 h1 h2; omega
    | succ m ih =>
      intro j I2 h1 h2 f2 g2
      refine wx_iload rfl (e := 46) rfl rfl ?_
      refine wx_iload rfl (e := 48) rfl rfl ?_
      refine wn_ic_ge rfl (e := 51) rfl (by omega) (by omega) (fun c_48 => ?_) (fun c_48 => ?_)
      · have ej : j = tR T - (e + 1) := by omega
        subst ej
        exact go I2 f2 g2 _
      · refine wx_aload_n rfl (e := 52) rfl rfl ?_
        refine wx_iload rfl (e := 54) rfl rfl ?_
        refine wx_iload rfl (e := 56) rfl rfl ?_
        refine wx_iload_n rfl (e := 57) rfl rfl ?_
        refine wx_cv3 (mc := 0) (ms := 0) rfl (e := 60) rfl rfl (Nat.le_of_ble_eq_true rfl) ⟨by decide, by decide⟩ ?_
        refine c_X1_bothGain (f2.T hT) (f2.S hu hS) hL (by omega) (by omega) hn (fun k hk => g2 k hk) (fun I3 f3 k3 => ?_)
        by_cases hgb : bgn T r n e (e + 1 + j) = true
        · rw [hgb]
          show WP _ _ _ _ _ (.int (nI 1) :: _) _ _ _
          refine wn_if_eq rfl (e := 63) rfl (by omega) (fun c_60 => absurd c_60 (by omega)) (fun c_60 => ?_)
          refine wn_iinc (m := 1) (L2 := [_, _, _, _, _, _, _, _]) rfl (e := 66) rfl rfl (by decide) rfl ?_
          refine wx_iload rfl (e := 68) rfl rfl ?_
          refine wx_if_ge rfl (e := 71) rfl (fun c_68 => ?_) (fun c_68 => ?_)
          · rw [← nI_0] at c_68
            have hG : brI (bgn T r n) e (brO (bgn T r n) (tR T) e) (j + 1) = ((brI (bgn T r n) e (brO (bgn T r n) (tR T) e) j).1 + 1, (brI (bgn T r n) e (brO (bgn T r n) (tR T) e) j).2) := by rw [brI, if_pos hgb, if_neg (Int32.not_lt.mpr c_68)]
            refine wx_iload rfl (e := 84) rfl rfl ?_
            refine wx_istore (L2 := [_, _, _, _, _, _, _, _]) rfl (e := 86) rfl (by decide) rfl ?_
            refine wn_iinc (m := 1) (L2 := [_, _, _, _, _, _, _, _]) rfl (e := 89) rfl rfl (by decide) rfl ?_
            refine wx_goto rfl ?_
            have hh := ih (j + 1) I3 (by omega) (by omega) (f2.tr f3) (fun k hk => by rw [k3]; exact g2 k hk)
            rw [hG] at hh
            exact hh
          · rw [← nI_0] at c_68
            have hG : brI (bgn T r n) e (brO (bgn T r n) (tR T) e) (j + 1) = ((brI (bgn T r n) e (brO (bgn T r n) (tR T) e) j).1 + 1, nI (10 * e + (e + 1 + j))) := by rw [brI, if_pos hgb, if_pos (Int32.not_le.mp c_68)]
            refine wx_bipush (v := (nI 10)) rfl (e := 73) rfl (by decide) ?_
            refine wx_iload rfl (e := 75) rfl rfl ?_
            refine wn_imul rfl (e := 76) rfl ?_
            refine wx_iload rfl (e := 78) rfl rfl ?_
            refine wn_iadd rfl (e := 79) rfl ?_
            refine wx_goto rfl ?_
            refine wx_istore (L2 := [_, _, _, _, _, _, _, _]) rfl (e := 86) rfl (by decide) rfl ?_
            refine wn_iinc (m := 1) (L2 := [_, _, _, _, _, _, _, _]) rfl (e := 89) rfl rfl (by decide) rfl ?_
            refine wx_goto rfl ?_
            have hh := ih (j + 1) I3 (by omega) (by omega) (f2.tr f3) (fun k hk => by rw [k3]; exact g2 k hk)
            rw [hG] at hh
            exact hh
        · rw [Bool.not_eq_true] at hgb
          rw [hgb]
          show WP _ _ _ _ _ (.int (nI 0) :: _) _ _ _
          have hG : brI (bgn T r n) e (brO (bgn T r n) (tR T) e) (j + 1) = (brI (bgn T r n) e (brO (bgn T r n) (tR T) e) j) := by rw [brI, if_neg (by rw [hgb]; decide)]
          refine wn_if_eq rfl (e := 63) rfl (by omega) (fun c_60 => ?_) (fun c_60 => absurd c_60 (by omega))
          refine wn_iinc (m := 1) (L2 := [_, _, _, _, _, _, _, _]) rfl (e := 89) rfl rfl (by decide) rfl ?_
          refine wx_goto rfl ?_
          have hh := ih (j + 1) I3 (by omega) (by omega) (f2.tr f3) (fun k hk => by rw [k3]; exact g2 k hk)
          rw [hG] at hh
          exact hh
  have outer : ∀ (m : Nat) (e : Nat) (I2 : Nat → Nat → Int32), e ≤ tR T → tR T - e < m → frf u I I2 → (∀ k, k < 6 → I2 47 k = yaS T r n (18 + k)) → ∀ x7, WP (d + 7) mX1_barters Q 31 [some (.ref 44), some (.int (nI n)), some (.int b), some (.int (nI (brO (bgn T r n) (tR T) e).1)), some (.int (brO (bgn T r n) (tR T) e).2), some (.int (nI (tR T))), some (.int (nI e)), x7] [] (hp Lx t rt u I2 G) 0 0 := by
    intro m
    induction m with
    | zero => intro e I2 h1 h2 f2 g2 x7; omega
    | succ m ih =>
      intro e I2 h1 h2 f2 g2 x7
      refine wx_iload rfl (e := 33) rfl rfl ?_
      refine wx_iload rfl (e := 35) rfl rfl ?_
      refine wn_ic_ge rfl (e := 38) rfl (by omega) (by omega) (fun c_35 => ?_) (fun c_35 => ?_)
      · refine wx_iload_n rfl (e := 99) rfl rfl ?_
        refine wx_if_eq rfl (e := 102) rfl (fun c_99 => ?_) (fun c_99 => ?_)
        · refine wx_iload_n rfl (e := 108) rfl rfl ?_
          refine wx_iret rfl rfl rfl ⟨by decide, by decide⟩ ?_
          have ee : e = tR T := by omega
          subst ee
          exact hq0 c_99 I2 f2
        · refine wx_iload rfl (e := 104) rfl rfl ?_
          refine wx_goto rfl ?_
          refine wx_iret rfl rfl rfl ⟨by decide, by decide⟩ ?_
          have ee : e = tR T := by omega
          subst ee
          exact hq1 c_99 I2 f2
      · refine wx_iload rfl (e := 40) rfl rfl ?_
        refine wx_iconst (v := (nI 1)) rfl (e := 41) rfl (by decide) ?_
        refine wn_iadd rfl (e := 42) rfl ?_
        refine wx_istore (L2 := [_, _, _, _, _, _, _, _]) rfl (e := 44) rfl (by decide) rfl ?_
        refine inner e (by omega) (fun I3 f3 g3 x => ?_) (tR T + 1) 0 I2 (by omega) (by omega) f2 g2
        refine wn_iinc (m := 1) (L2 := [_, _, _, _, _, _, _, _]) rfl (e := 95) rfl rfl (by decide) rfl ?_
        refine wx_goto rfl ?_
        exact ih (e + 1) I3 (by omega) (by omega) f3 g3 _
  refine wx_in (M := mX1_barters) rfl rfl rfl (Nat.le_of_ble_eq_true rfl) ?_
  refine wx_aload_n rfl (e := 1) rfl rfl ?_
  refine wx_iload_n rfl (e := 2) rfl rfl ?_
  refine wx_cv1 (mc := 0) (ms := 0) rfl (e := 5) rfl rfl (Nat.le_of_ble_eq_true rfl) ⟨by decide, by decide⟩ ?_
  refine c_X1_after hT hS hL (by omega) (fun I3 f3 S3 _ _ => ?_)
  refine wx_pop rfl (e := 6) rfl rfl ?_
  refine wx_aload_n rfl (e := 7) rfl rfl ?_
  refine wx_cv0 (mc := 0) (ms := 0) rfl (e := 10) rfl rfl (Nat.le_of_ble_eq_true rfl) ⟨by decide, by decide⟩ ?_
  refine c_X1_keepTook S3 (fun I4 f4 g4 => ?_)
  have F4 := f3.tr (f47 f4)
  refine wx_iconst (v := (nI 0)) rfl (e := 11) rfl (by decide) ?_
  refine wx_istore_n (L2 := [_, _, _, _, _, _, _, _]) rfl (e := 12) rfl (by decide) rfl ?_
  refine wx_bipush (v := (-2)) rfl (e := 14) rfl (by decide) ?_
  refine wx_istore (L2 := [_, _, _, _, _, _, _, _]) rfl (e := 16) rfl (by decide) rfl ?_
  refine wx_aload_n rfl (e := 17) rfl rfl ?_
  refine wx_getr rfl (e := 20) rfl rfl rfl ?_
  refine wx_cv0 (mc := 0) (ms := 0) rfl (e := 23) rfl rfl (Nat.le_of_ble_eq_true rfl) ⟨by decide, by decide⟩ ?_
  refine c_X0_text hu ?_
  refine wx_cv0 (mc := 0) (ms := 0) rfl (e := 26) rfl (sh_t hu) (Nat.le_of_ble_eq_true rfl) ⟨by decide, by decide⟩ ?_
  refine c_X7_relics hu ?_
  rw [F4 u (by omega) (by omega) (by omega) (by omega) (by omega) (by omega), t2]
  refine wx_istore (L2 := [_, _, _, _, _, _, _, _]) rfl (e := 28) rfl (by decide) rfl ?_
  refine wx_iconst (v := (nI 0)) rfl (e := 29) rfl (by decide) ?_
  refine wx_istore (L2 := [_, _, _, _, _, _, _, _]) rfl (e := 31) rfl (by decide) rfl ?_
  exact outer (tR T + 1) 0 I4 (by omega) (by omega) F4 g4 _
set_option maxHeartbeats 1000000 in
theorem c_X1_richest {d Lx t rt u : Nat} {I : Nat → Nat → Int32} {G : Nat → Nat → Int64} {Q : ab_Q} {T : tx} {r : rw_} (hT : CT u I T) (hS : CS 39 I r) (hL : lok T r) {n : Nat} {b : Int32} (hn : n ≤ 60) (hq0 : (b = 0 ∨ (amx (fun c => yaS T r n (18 + c) - r (18 + c)) (tC T)).1 < 0) → ∀ I2, frf u I I2 → Q (some (.int (amx (fun c => yaS T r n (18 + c) - r (18 + c)) (tC T)).1)) (hp Lx t rt u I2 G)) (hq1 : ¬ b = 0 → ¬ (amx (fun c => yaS T r n (18 + c) - r (18 + c)) (tC T)).1 < 0 → ∀ I2, frf u I I2 → Q (some (.int (amx (fun c => yaS T r n (18 + c) - r (18 + c)) (tC T)).2)) (hp Lx t rt u I2 G)) : ab_call ab_MT (d + 8) 30 [.ref 44, .int (nI n), .int b] (hp Lx t rt u I G) 0 0 Q := by
  have hu := hT.1
  obtain ⟨hC6, hR6, hP5, hH, hTf, hFn, hLx⟩ := hT.2.1
  obtain ⟨-, -, t1, t2, t3, t4, t5, t6, t7, -⟩ := id hT
  have hr := hL.2.1
  refine wx_in (M := mX1_richest) rfl rfl rfl (Nat.le_of_ble_eq_true rfl) ?_
  refine wx_aload_n rfl (e := 1) rfl rfl ?_
  refine wx_iload_n rfl (e := 2) rfl rfl ?_
  refine wx_cv1 (mc := 0) (ms := 0) rfl (e := 5) rfl rfl (Nat.le_of_ble_eq_true rfl) ⟨by decide, by decide⟩ ?_
  refine c_X1_after hT hS hL (by omega) (fun I2 f2 S2 _ _ => ?_)
  have loop : ∀ (m c : Nat), c ≤ tC T → tC T - c < m → ∀ x6, WP (d + 7) mX1_richest Q 15 [some (.ref 44), some (.int (nI n)), some (.int b), some (.int (amx (fun c => yaS T r n (18 + c) - r (18 + c)) c).1), some (.int (amx (fun c => yaS T r n (18 + c) - r (18 + c)) c).2), some (.int (nI c)), x6] [] (hp Lx t rt u I2 G) 0 0 := by
    intro m
    induction m with
    | zero => intro c hi hm; omega
    | succ m ih =>
      intro c hi hm x6
      refine wx_iload rfl (e := 17) rfl rfl ?_
      refine wx_aload_n rfl (e := 18) rfl rfl ?_
      refine wx_getr rfl (e := 21) rfl rfl rfl ?_
      refine wx_cv0 (mc := 0) (ms := 0) rfl (e := 24) rfl rfl (Nat.le_of_ble_eq_true rfl) ⟨by decide, by decide⟩ ?_
      refine c_X0_text hu ?_
      refine wx_cv0 (mc := 0) (ms := 0) rfl (e := 27) rfl (sh_t hu) (Nat.le_of_ble_eq_true rfl) ⟨by decide, by decide⟩ ?_
      refine c_X7_churches hu ?_
      rw [f2 u (by omega) (by omega) (by omega) (by omega) (by omega) (by omega), t1]
      refine wn_ic_ge rfl (e := 30) rfl (by omega) (by omega) (fun c_27 => ?_) (fun c_27 => ?_)
      · refine wx_iload_n rfl (e := 82) rfl rfl ?_
        refine wx_if_eq rfl (e := 85) rfl (fun c_82 => ?_) (fun c_82 => ?_)
        · refine wx_iload_n rfl (e := 95) rfl rfl ?_
          refine wx_iret rfl rfl rfl ⟨by decide, by decide⟩ ?_
          have ec : c = tC T := by omega
          subst ec
          exact hq0 (Or.inl c_82) I2 f2
        · refine wx_iload_n rfl (e := 86) rfl rfl ?_
          refine wx_if_lt rfl (e := 89) rfl (fun c_86 => ?_) (fun c_86 => ?_)
          · refine wx_iload_n rfl (e := 95) rfl rfl ?_
            refine wx_iret rfl rfl rfl ⟨by decide, by decide⟩ ?_
            have ec : c = tC T := by omega
            subst ec
            exact hq0 (Or.inr c_86) I2 f2
          · refine wx_iload rfl (e := 91) rfl rfl ?_
            refine wx_goto rfl ?_
            refine wx_iret rfl rfl rfl ⟨by decide, by decide⟩ ?_
            have ec : c = tC T := by omega
            subst ec
            exact hq1 c_82 c_86 I2 f2
      · refine wx_aload_n rfl (e := 31) rfl rfl ?_
        refine wx_getr rfl (e := 34) rfl rfl rfl ?_
        refine wx_bipush (v := (nI 12)) rfl (e := 36) rfl (by decide) ?_
        refine wx_iload rfl (e := 38) rfl rfl ?_
        refine wn_iadd rfl (e := 39) rfl ?_
        refine wx_cv1 (mc := 0) (ms := 0) rfl (e := 42) rfl rfl (Nat.le_of_ble_eq_true rfl) ⟨by decide, by decide⟩ ?_
        refine c_X5_get (c := 45) (by omega) (by omega) ?_
        rw [S2 _ (by omega), cst_m _ (by omega) (by omega), show 12 + c + 6 = 18 + c by omega]
        refine wx_aload_n rfl (e := 43) rfl rfl ?_
        refine wx_getr rfl (e := 46) rfl rfl rfl ?_
        refine wx_bipush (v := (nI 12)) rfl (e := 48) rfl (by decide) ?_
        refine wx_iload rfl (e := 50) rfl rfl ?_
        refine wn_iadd rfl (e := 51) rfl ?_
        refine wx_cv1 (mc := 0) (ms := 0) rfl (e := 54) rfl rfl (Nat.le_of_ble_eq_true rfl) ⟨by decide, by decide⟩ ?_
        refine c_X5_get (c := 39) (by omega) (by omega) ?_
        rw [(f2.S hu hS) _ (by omega), cst_m _ (by omega) (by omega), show 12 + c + 6 = 18 + c by omega]
        refine wx_isub rfl (e := 55) rfl ?_
        refine wx_istore (L2 := [_, _, _, _, _, _, _]) rfl (e := 57) rfl (by decide) rfl ?_
        refine wx_iload_n rfl (e := 58) rfl rfl ?_
        refine wx_if_lt rfl (e := 61) rfl (fun c_58 => ?_) (fun c_58 => ?_)
        · rw [← nI_0] at c_58
          have hG : amx (fun c => yaS T r n (18 + c) - r (18 + c)) (c + 1) = (nI c, (fun c => yaS T r n (18 + c) - r (18 + c)) c) := by rw [amx, if_pos (Or.inl c_58)]
          refine wx_iload rfl (e := 70) rfl rfl ?_
          refine wx_istore_n (L2 := [_, _, _, _, _, _, _]) rfl (e := 71) rfl (by decide) rfl ?_
          refine wx_iload rfl (e := 73) rfl rfl ?_
          refine wx_istore (L2 := [_, _, _, _, _, _, _]) rfl (e := 75) rfl (by decide) rfl ?_
          refine wn_iinc (m := 1) (L2 := [_, _, _, _, _, _, _]) rfl (e := 78) rfl rfl (by decide) rfl ?_
          refine wx_goto rfl ?_
          have hh := fun x6 => ih (c + 1) (by omega) (by omega) x6
          rw [hG] at hh
          exact hh _
        · rw [← nI_0] at c_58
          refine wx_iload rfl (e := 63) rfl rfl ?_
          refine wx_iload rfl (e := 65) rfl rfl ?_
          refine wx_ic_le rfl (e := 68) rfl (fun c_65 => ?_) (fun c_65 => ?_)
          · have hG : amx (fun c => yaS T r n (18 + c) - r (18 + c)) (c + 1) = amx (fun c => yaS T r n (18 + c) - r (18 + c)) c := by rw [amx, if_neg (fun z => z.elim c_58 (fun z => absurd c_65 (Int32.not_le.mpr z)))]
            refine wn_iinc (m := 1) (L2 := [_, _, _, _, _, _, _]) rfl (e := 78) rfl rfl (by decide) rfl ?_
            refine wx_goto rfl ?_
            have hh := fun x6 => ih (c + 1) (by omega) (by omega) x6
            rw [hG] at hh
            exact hh _
          · have hG : amx (fun c => yaS T r n (18 + c) - r (18 + c)) (c + 1) = (nI c, (fun c => yaS T r n (18 + c) - r (18 + c)) c) := by rw [amx, if_pos (Or.inr (Int32.not_le.mp c_65))]
            refine wx_iload rfl (e := 70) rfl rfl ?_
            refine wx_istore_n (L2 := [_, _, _, _, _, _, _]) rfl (e := 71) rfl (by decide) rfl ?_
            refine wx_iload rfl (e := 73) rfl rfl ?_
            refine wx_istore (L2 := [_, _, _, _, _, _, _]) rfl (e := 75) rfl (by decide) rfl ?_
            refine wn_iinc (m := 1) (L2 := [_, _, _, _, _, _, _]) rfl (e := 78) rfl rfl (by decide) rfl ?_
            refine wx_goto rfl ?_
            have hh := fun x6 => ih (c + 1) (by omega) (by omega) x6
            rw [hG] at hh
            exact hh _
  refine wx_pop rfl (e := 6) rfl rfl ?_
  refine wx_bipush (v := (-2)) rfl (e := 8) rfl (by decide) ?_
  refine wx_istore_n (L2 := [_, _, _, _, _, _, _]) rfl (e := 9) rfl (by decide) rfl ?_
  refine wx_iconst (v := (nI 0)) rfl (e := 10) rfl (by decide) ?_
  refine wx_istore (L2 := [_, _, _, _, _, _, _]) rfl (e := 12) rfl (by decide) rfl ?_
  refine wx_iconst (v := (nI 0)) rfl (e := 13) rfl (by decide) ?_
  refine wx_istore (L2 := [_, _, _, _, _, _, _]) rfl (e := 15) rfl (by decide) rfl ?_
  exact loop (tC T + 1) 0 (by omega) (by omega) _
set_option maxHeartbeats 1000000 in
theorem c_X1_mostFamed {d Lx t rt u : Nat} {I : Nat → Nat → Int32} {G : Nat → Nat → Int64} {Q : ab_Q} {T : tx} {r : rw_} (hT : CT u I T) (hS : CS 39 I r) (hL : lok T r) {n : Nat} (hn : n ≤ 60) (hq : ∀ I2, frf u I I2 → Q (some (.int (amx (fun c => yaS T r n (12 + c)) (tC T)).1)) (hp Lx t rt u I2 G)) : ab_call ab_MT (d + 8) 31 [.ref 44, .int (nI n)] (hp Lx t rt u I G) 0 0 Q := by
  have hu := hT.1
  obtain ⟨hC6, hR6, hP5, hH, hTf, hFn, hLx⟩ := hT.2.1
  obtain ⟨-, -, t1, t2, t3, t4, t5, t6, t7, -⟩ := id hT
  have hr := hL.2.1
  refine wx_in (M := mX1_mostFamed) rfl rfl rfl (Nat.le_of_ble_eq_true rfl) ?_
  refine wx_aload_n rfl (e := 1) rfl rfl ?_
  refine wx_iload_n rfl (e := 2) rfl rfl ?_
  refine wx_cv1 (mc := 0) (ms := 0) rfl (e := 5) rfl rfl (Nat.le_of_ble_eq_true rfl) ⟨by decide, by decide⟩ ?_
  refine c_X1_after hT hS hL (by omega) (fun I2 f2 S2 _ _ => ?_)
  have loop : ∀ (m c : Nat), c ≤ tC T → tC T - c < m → ∀ x6, WP (d + 7) mX1_mostFamed Q 14 [some (.ref 44), some (.int (nI n)), some (.int (amx (fun c => yaS T r n (12 + c)) c).1), some (.int (amx (fun c => yaS T r n (12 + c)) c).2), some (.int (nI c)), x6] [] (hp Lx t rt u I2 G) 0 0 := by
    intro m
    induction m with
    | zero => intro c hi hm; omega
    | succ m ih =>
      intro c hi hm x6
      refine wx_iload rfl (e := 16) rfl rfl ?_
      refine wx_aload_n rfl (e := 17) rfl rfl ?_
      refine wx_getr rfl (e := 20) rfl rfl rfl ?_
      refine wx_cv0 (mc := 0) (ms := 0) rfl (e := 23) rfl rfl (Nat.le_of_ble_eq_true rfl) ⟨by decide, by decide⟩ ?_
      refine c_X0_text hu ?_
      refine wx_cv0 (mc := 0) (ms := 0) rfl (e := 26) rfl (sh_t hu) (Nat.le_of_ble_eq_true rfl) ⟨by decide, by decide⟩ ?_
      refine c_X7_churches hu ?_
      rw [f2 u (by omega) (by omega) (by omega) (by omega) (by omega) (by omega), t1]
      refine wn_ic_ge rfl (e := 29) rfl (by omega) (by omega) (fun c_26 => ?_) (fun c_26 => ?_)
      · refine wx_iload_n rfl (e := 66) rfl rfl ?_
        refine wx_iret rfl rfl rfl ⟨by decide, by decide⟩ ?_
        have ec : c = tC T := by omega
        subst ec
        exact hq I2 f2
      · refine wx_aload_n rfl (e := 30) rfl rfl ?_
        refine wx_getr rfl (e := 33) rfl rfl rfl ?_
        refine wx_bipush (v := (nI 6)) rfl (e := 35) rfl (by decide) ?_
        refine wx_iload rfl (e := 37) rfl rfl ?_
        refine wn_iadd rfl (e := 38) rfl ?_
        refine wx_cv1 (mc := 0) (ms := 0) rfl (e := 41) rfl rfl (Nat.le_of_ble_eq_true rfl) ⟨by decide, by decide⟩ ?_
        refine c_X5_get (c := 45) (by omega) (by omega) ?_
        rw [S2 _ (by omega), cst_m _ (by omega) (by omega), show 6 + c + 6 = 12 + c by omega]
        refine wx_istore (L2 := [_, _, _, _, _, _]) rfl (e := 43) rfl (by decide) rfl ?_
        refine wx_iload_n rfl (e := 44) rfl rfl ?_
        refine wx_if_lt rfl (e := 47) rfl (fun c_44 => ?_) (fun c_44 => ?_)
        · rw [← nI_0] at c_44
          have hG : amx (fun c => yaS T r n (12 + c)) (c + 1) = (nI c, (fun c => yaS T r n (12 + c)) c) := by rw [amx, if_pos (Or.inl c_44)]
          refine wx_iload rfl (e := 55) rfl rfl ?_
          refine wx_istore_n (L2 := [_, _, _, _, _, _]) rfl (e := 56) rfl (by decide) rfl ?_
          refine wx_iload rfl (e := 58) rfl rfl ?_
          refine wx_istore_n (L2 := [_, _, _, _, _, _]) rfl (e := 59) rfl (by decide) rfl ?_
          refine wn_iinc (m := 1) (L2 := [_, _, _, _, _, _]) rfl (e := 62) rfl rfl (by decide) rfl ?_
          refine wx_goto rfl ?_
          have hh := fun x6 => ih (c + 1) (by omega) (by omega) x6
          rw [hG] at hh
          exact hh _
        · rw [← nI_0] at c_44
          refine wx_iload rfl (e := 49) rfl rfl ?_
          refine wx_iload_n rfl (e := 50) rfl rfl ?_
          refine wx_ic_le rfl (e := 53) rfl (fun c_50 => ?_) (fun c_50 => ?_)
          · have hG : amx (fun c => yaS T r n (12 + c)) (c + 1) = amx (fun c => yaS T r n (12 + c)) c := by rw [amx, if_neg (fun z => z.elim c_44 (fun z => absurd c_50 (Int32.not_le.mpr z)))]
            refine wn_iinc (m := 1) (L2 := [_, _, _, _, _, _]) rfl (e := 62) rfl rfl (by decide) rfl ?_
            refine wx_goto rfl ?_
            have hh := fun x6 => ih (c + 1) (by omega) (by omega) x6
            rw [hG] at hh
            exact hh _
          · have hG : amx (fun c => yaS T r n (12 + c)) (c + 1) = (nI c, (fun c => yaS T r n (12 + c)) c) := by rw [amx, if_pos (Or.inr (Int32.not_le.mp c_50))]
            refine wx_iload rfl (e := 55) rfl rfl ?_
            refine wx_istore_n (L2 := [_, _, _, _, _, _]) rfl (e := 56) rfl (by decide) rfl ?_
            refine wx_iload rfl (e := 58) rfl rfl ?_
            refine wx_istore_n (L2 := [_, _, _, _, _, _]) rfl (e := 59) rfl (by decide) rfl ?_
            refine wn_iinc (m := 1) (L2 := [_, _, _, _, _, _]) rfl (e := 62) rfl rfl (by decide) rfl ?_
            refine wx_goto rfl ?_
            have hh := fun x6 => ih (c + 1) (by omega) (by omega) x6
            rw [hG] at hh
            exact hh _
  refine wx_pop rfl (e := 6) rfl rfl ?_
  refine wx_bipush (v := (-2)) rfl (e := 8) rfl (by decide) ?_
  refine wx_istore_n (L2 := [_, _, _, _, _, _]) rfl (e := 9) rfl (by decide) rfl ?_
  refine wx_iconst (v := (nI 0)) rfl (e := 10) rfl (by decide) ?_
  refine wx_istore_n (L2 := [_, _, _, _, _, _]) rfl (e := 11) rfl (by decide) rfl ?_
  refine wx_iconst (v := (nI 0)) rfl (e := 12) rfl (by decide) ?_
  refine wx_istore (L2 := [_, _, _, _, _, _]) rfl (e := 14) rfl (by decide) rfl ?_
  exact loop (tC T + 1) 0 (by omega) (by omega) _
theorem hw_up (T : tx) (sd : Int32) (r : rw_) (e : Nat) {i : Nat} (h : hwS T sd r e i = true) : ∀ n, i ≤ n → hwS T sd r e n = true
  | 0, hn => by have e0 : i = 0 := by omega
                subst e0; exact h
  | n + 1, hn => by
    by_cases z : i = n + 1
    · subst z; exact h
    · rw [hwS, hw_up T sd r e h n (by omega), Bool.true_or]
set_option maxHeartbeats 1000000 in
theorem c_X1_hasWonderBy {d Lx t rt u : Nat} {I : Nat → Nat → Int32} {G : Nat → Nat → Int64} {Q : ab_Q} {T : tx} {r : rw_} (hT : CT u I T) (hS : CS 39 I r) (hL : lok T r) {e n : Nat} {sd : Int32} (he : e < tR T) (hn : n ≤ 60) (hq : ∀ I2, frf u I I2 → Q (some (.int (b1 (hwS T sd r e n)))) (hp Lx t rt u I2 G)) : ab_call ab_MT (d + 7) 33 [.ref 44, .int sd, .int (nI e), .int (nI n)] (hp Lx t rt u I G) 0 0 Q := by
  have hu := hT.1
  obtain ⟨hC6, hR6, hP5, hH, hTf, hFn, hLx⟩ := hT.2.1
  obtain ⟨-, -, t1, t2, t3, t4, t5, t6, t7, -⟩ := id hT
  have hr := hL.2.1
  have loop : ∀ (m : Nat) (i : Nat) (I2 : Nat → Nat → Int32), i ≤ n → n - i < m → frf u I I2 → CS 45 I2 (yrsS T sd r i) → hwS T sd r e i = false → WP (d + 6) mX1_hasWonderBy Q 27 [some (.ref 44), some (.int sd), some (.int (nI e)), some (.int (nI n)), some (.int (r (24 + e))), some (.int (nI i))] [] (hp Lx t rt u I2 G) 0 0 := by
    intro m
    induction m with
    | zero => intro i I2 hi hm f2 S2 hw; omega
    | succ m ih =>
      intro i I2 hi hm f2 S2 hw
      refine wx_iload rfl (e := 29) rfl rfl ?_
      refine wx_iload_n rfl (e := 30) rfl rfl ?_
      refine wn_ic_ge rfl (e := 33) rfl (by omega) (by omega) (fun c_30 => ?_) (fun c_30 => ?_)
      · refine wx_iconst (v := (nI 0)) rfl (e := 71) rfl (by decide) ?_
        refine wx_iret rfl rfl rfl ⟨by decide, by decide⟩ ?_
        have ei : i = n := by omega
        subst ei
        rw [hw] at hq
        exact hq _ f2
      · refine wx_aload_n rfl (e := 34) rfl rfl ?_
        refine wx_getr rfl (e := 37) rfl rfl rfl ?_
        refine wx_aload_n rfl (e := 38) rfl rfl ?_
        refine wx_getr rfl (e := 41) rfl rfl rfl ?_
        refine wx_iload_n rfl (e := 42) rfl rfl ?_
        refine wx_iconst (v := (nI 1)) rfl (e := 43) rfl (by decide) ?_
        refine wx_cv3 (mc := 0) (ms := 0) rfl (e := 46) rfl rfl (Nat.le_of_ble_eq_true rfl) ⟨by decide, by decide⟩ ?_
        refine c_X0_pass (n := 1) (f2.T hT) (s := 45) (by omega) S2 (by omega) (fun e h1 h2 => by rw [yrsS_pos T sd r (by omega)]; exact hr e h1 h2) (fun I3 f3 S3 w3 => ?_)
        have S3 : CS 45 I3 (yrsS T sd r (i + 1)) := S3
        have F3 := f2.tr f3.f
        refine wx_aload_n rfl (e := 47) rfl rfl ?_
        refine wx_getr rfl (e := 50) rfl rfl rfl ?_
        refine wx_bipush (v := (nI 30)) rfl (e := 52) rfl (by decide) ?_
        refine wx_iload_n rfl (e := 53) rfl rfl ?_
        refine wn_iadd rfl (e := 54) rfl ?_
        refine wx_cv1 (mc := 0) (ms := 0) rfl (e := 57) rfl rfl (Nat.le_of_ble_eq_true rfl) ⟨by decide, by decide⟩ ?_
        refine c_X5_get (c := 45) (by omega) (by omega) ?_
        rw [S3 _ (by omega), cst_h _ (by omega), show 30 + e - 6 = 24 + e by omega]
        refine wx_iload rfl (e := 59) rfl rfl ?_
        refine wx_ic_le rfl (e := 62) rfl (fun c_59 => ?_) (fun c_59 => ?_)
        · refine wn_iinc (m := 1) (L2 := [_, _, _, _, _, _]) rfl (e := 67) rfl rfl (by decide) rfl ?_
          refine wx_goto rfl ?_
          refine ih (i + 1) I3 (by omega) (by omega) F3 S3 ?_
          rw [hwS, hw, Bool.false_or, decide_eq_false_iff_not]
          exact Int32.not_lt.mpr c_59
        · refine wx_iconst (v := (nI 1)) rfl (e := 63) rfl (by decide) ?_
          refine wx_iret rfl rfl rfl ⟨by decide, by decide⟩ ?_
          have hG : hwS T sd r e n = true := hw_up T sd r e (i := i + 1) (by rw [hwS, Bool.or_eq_true, decide_eq_true_iff]; exact Or.inr (Int32.not_le.mp c_59)) n (by omega)
          rw [hG] at hq
          exact hq _ F3
  refine wx_in (M := mX1_hasWonderBy) rfl rfl rfl (Nat.le_of_ble_eq_true rfl) ?_
  refine wx_aload_n rfl (e := 1) rfl rfl ?_
  refine wx_getr rfl (e := 4) rfl rfl rfl ?_
  refine wx_bipush (v := (nI 30)) rfl (e := 6) rfl (by decide) ?_
  refine wx_iload_n rfl (e := 7) rfl rfl ?_
  refine wn_iadd rfl (e := 8) rfl ?_
  refine wx_cv1 (mc := 0) (ms := 0) rfl (e := 11) rfl rfl (Nat.le_of_ble_eq_true rfl) ⟨by decide, by decide⟩ ?_
  refine c_X5_get (c := 39) (by omega) (by omega) ?_
  rw [hS _ (by omega), cst_h _ (by omega), show 30 + e - 6 = 24 + e by omega]
  refine wx_istore (L2 := [_, _, _, _, _, _]) rfl (e := 13) rfl (by decide) rfl ?_
  refine wx_aload_n rfl (e := 14) rfl rfl ?_
  refine wx_getr rfl (e := 17) rfl rfl rfl ?_
  refine wx_aload_n rfl (e := 18) rfl rfl ?_
  refine wx_getr rfl (e := 21) rfl rfl rfl ?_
  refine wx_cv1 (mc := 0) (ms := 0) rfl (e := 24) rfl rfl (Nat.le_of_ble_eq_true rfl) ⟨by decide, by decide⟩ ?_
  refine c_X5_copyOf (fun Ic fc gc => ?_)
  have Fc := f46 (u := u) fc
  have Tc := Fc.T hT
  have Sc : CS 45 Ic r := fun k hk => (gc k hk).trans (hS k hk)
  refine wx_iconst (v := (nI 0)) rfl (e := 25) rfl (by decide) ?_
  refine wx_istore (L2 := [_, _, _, _, _, _]) rfl (e := 27) rfl (by decide) rfl ?_
  exact loop (n + 1) 0 Ic (by omega) (by omega) Fc Sc rfl
set_option maxHeartbeats 1000000 in
theorem c_X1_seedsWithWonder {d Lx t rt u : Nat} {I : Nat → Nat → Int32} {G : Nat → Nat → Int64} {Q : ab_Q} {T : tx} {r : rw_} (hT : CT u I T) (hS : CS 39 I r) (hL : lok T r) {e n s : Nat} (he : e < tR T) (hn : n ≤ 60) (hs : s ≤ 20) (hq : ∀ I2, frf u I I2 → Q (some (.int (nI (cntS (fun i => hwS T (tS T + nI i) r e n) s)))) (hp Lx t rt u I2 G)) : ab_call ab_MT (d + 8) 32 [.ref 44, .int (nI e), .int (nI n), .int (nI s)] (hp Lx t rt u I G) 0 0 Q := by
  have hu := hT.1
  obtain ⟨hC6, hR6, hP5, hH, hTf, hFn, hLx⟩ := hT.2.1
  obtain ⟨-, -, t1, t2, t3, t4, t5, t6, t7, -⟩ := id hT
  have hr := hL.2.1
  have loop : ∀ (m : Nat) (i : Nat) (I2 : Nat → Nat → Int32), i ≤ s → s - i < m → frf u I I2 → WP (d + 7) mX1_seedsWithWonder Q 6 [some (.ref 44), some (.int (nI e)), some (.int (nI n)), some (.int (nI s)), some (.int (nI (cntS (fun i => hwS T (tS T + nI i) r e n) i))), some (.int (nI i))] [] (hp Lx t rt u I2 G) 0 0 := by
    intro m
    induction m with
    | zero => intro i I2 hi hm f2; omega
    | succ m ih =>
      intro i I2 hi hm f2
      refine wx_iload rfl (e := 8) rfl rfl ?_
      refine wx_iload_n rfl (e := 9) rfl rfl ?_
      refine wn_ic_ge rfl (e := 12) rfl (by omega) (by omega) (fun c_9 => ?_) (fun c_9 => ?_)
      · refine wx_iload rfl (e := 45) rfl rfl ?_
        refine wx_iret rfl rfl rfl ⟨by decide, by decide⟩ ?_
        have ei : i = s := by omega
        subst ei
        exact hq I2 f2
      · refine wx_aload_n rfl (e := 13) rfl rfl ?_
        refine wx_aload_n rfl (e := 14) rfl rfl ?_
        refine wx_getr rfl (e := 17) rfl rfl rfl ?_
        refine wx_cv0 (mc := 0) (ms := 0) rfl (e := 20) rfl rfl (Nat.le_of_ble_eq_true rfl) ⟨by decide, by decide⟩ ?_
        refine c_X0_text hu ?_
        refine wx_cv0 (mc := 0) (ms := 0) rfl (e := 23) rfl (sh_t hu) (Nat.le_of_ble_eq_true rfl) ⟨by decide, by decide⟩ ?_
        refine c_X7_seed hu ?_
        rw [sd_u (f2.T hT)]
        refine wx_iload rfl (e := 25) rfl rfl ?_
        refine wx_iadd rfl (e := 26) rfl ?_
        refine wx_iload_n rfl (e := 27) rfl rfl ?_
        refine wx_iload_n rfl (e := 28) rfl rfl ?_
        refine wx_cv3 (mc := 0) (ms := 0) rfl (e := 31) rfl rfl (Nat.le_of_ble_eq_true rfl) ⟨by decide, by decide⟩ ?_
        refine c_X1_hasWonderBy (f2.T hT) (f2.S hu hS) hL he hn (fun I3 f3 => ?_)
        by_cases hgb : hwS T (tS T + nI i) r e n = true
        · rw [hgb]
          show WP _ _ _ _ _ (.int (nI 1) :: _) _ _ _
          have hG : cntS (fun i => hwS T (tS T + nI i) r e n) (i + 1) = cntS (fun i => hwS T (tS T + nI i) r e n) i + 1 := by rw [cntS, if_pos hgb]
          refine wn_if_eq rfl (e := 34) rfl (by omega) (fun c_31 => absurd c_31 (by omega)) (fun c_31 => ?_)
          refine wn_iinc (m := 1) (L2 := [_, _, _, _, _, _]) rfl (e := 37) rfl rfl (by decide) rfl ?_
          refine wn_iinc (m := 1) (L2 := [_, _, _, _, _, _]) rfl (e := 40) rfl rfl (by decide) rfl ?_
          refine wx_goto rfl ?_
          have hh := ih (i + 1) I3 (by omega) (by omega) (f2.tr f3)
          rw [hG] at hh
          exact hh
        · rw [Bool.not_eq_true] at hgb
          rw [hgb]
          show WP _ _ _ _ _ (.int (nI 0) :: _) _ _ _
          have hG : cntS (fun i => hwS T (tS T + nI i) r e n) (i + 1) = cntS (fun i => hwS T (tS T + nI i) r e n) i := by rw [cntS, if_neg (by rw [hgb]; decide)]; rfl
          refine wn_if_eq rfl (e := 34) rfl (by omega) (fun c_31 => ?_) (fun c_31 => absurd c_31 (by omega))
          refine wn_iinc (m := 1) (L2 := [_, _, _, _, _, _]) rfl (e := 40) rfl rfl (by decide) rfl ?_
          refine wx_goto rfl ?_
          have hh := ih (i + 1) I3 (by omega) (by omega) (f2.tr f3)
          rw [hG] at hh
          exact hh
  refine wx_in (M := mX1_seedsWithWonder) rfl rfl rfl (Nat.le_of_ble_eq_true rfl) ?_
  refine wx_iconst (v := (nI 0)) rfl (e := 1) rfl (by decide) ?_
  refine wx_istore (L2 := [_, _, _, _, _, _]) rfl (e := 3) rfl (by decide) rfl ?_
  refine wx_iconst (v := (nI 0)) rfl (e := 4) rfl (by decide) ?_
  refine wx_istore (L2 := [_, _, _, _, _, _]) rfl (e := 6) rfl (by decide) rfl ?_
  exact loop (s + 1) 0 I (by omega) (by omega) frf.rf

/-! the course: where a pilgrim goes, what he does there, a year -/
theorem bc06 : ∀ a b c d e f : Bool, (bs6 a b c d e f = 0 ↔ cn6 a b c d e f = 0) ∧ bs6 a b c d e f < 64 := by decide +kernel
theorem bs_cn (f : Nat → Bool) : bsF f = 0 ↔ cnF f = 0 := (bc06 _ _ _ _ _ _).1
theorem bs_lt (f : Nat → Bool) : bsF f < 64 := (bc06 _ _ _ _ _ _).2
set_option maxHeartbeats 1000000 in
theorem c_X0_goal {d Lx t rt u : Nat} {I : Nat → Nat → Int32} {G : Nat → Nat → Int64} {Q : ab_Q} {T : tx} {r : rw_} {s : Nat} (hT : CT u I T) (hs : s = 39 ∨ s = 45) (hS : CS s I r) {a : Nat} (ha : a < tP T) (hq : ∀ I2, fr5 u I I2 → Q (some (.int (goalS T r a))) (hp Lx t rt u I2 G)) : ab_call ab_MT (d + 5) 13 [.ref 41, .ref s, .int (nI a)] (hp Lx t rt u I G) 0 0 Q := by
  have hu := hT.1
  obtain ⟨hC6, hR6, hP5, hH, hTf, hFn, hLx⟩ := hT.2.1
  obtain ⟨-, -, t1, t2, t3, t4, t5, t6, t7, -⟩ := id hT
  have hha := hH a ha
  have loop : ∀ (n : Nat) (c : Nat) (I2 : Nat → Nat → Int32), c ≤ tC T → tC T - c < n → fr5 u I I2 → ∀ x7, WP (d + 4) mX0_goal Q 19 [some (.ref 41), some (.ref s), some (.int (nI a)), some (.int (goalL T r a c).1), some (.int (goalL T r a c).2), some (.int (nI (tH T a))), some (.int (nI c)), x7] [] (hp Lx t rt u I2 G) 0 0 := by
    intro n
    induction n with
    | zero => intro c I2 hc hn f2 x7; omega
    | succ n ih =>
      intro c I2 hc hn f2 x7
      refine wx_iload rfl (e := 21) rfl rfl ?_
      refine wx_aload_n rfl (e := 22) rfl rfl ?_
      refine wx_getr rfl (e := 25) rfl rfl rfl ?_
      refine wx_cv0 (mc := 0) (ms := 0) rfl (e := 28) rfl (sh_t hu) (Nat.le_of_ble_eq_true rfl) ⟨by decide, by decide⟩ ?_
      refine c_X7_churches hu ?_
      rw [(f2 u (by omega) (by omega)), t1]
      refine wn_ic_ge rfl (e := 31) rfl (by omega) (by omega) (fun c_28 => ?_) (fun c_28 => ?_)
      · refine wx_iload_n rfl (e := 96) rfl rfl ?_
        refine wx_iret rfl rfl rfl ⟨by decide, by decide⟩ ?_
        rw [show c = tC T by omega]
        exact hq I2 f2
      · have hcC : c < tC T := by omega
        refine wx_aload_n rfl (e := 32) rfl rfl ?_
        refine wx_getr rfl (e := 35) rfl rfl rfl ?_
        refine wx_iload rfl (e := 37) rfl rfl ?_
        refine wx_iload rfl (e := 39) rfl rfl ?_
        refine wx_cv2 (mc := 0) (ms := 0) rfl (e := 42) rfl (sh_t hu) (Nat.le_of_ble_eq_true rfl) ⟨by decide, by decide⟩ ?_
        refine c_X7_far hu (n := tC T) (by rw [f2 u (by omega) (by omega)]; exact t1) hha hcC hC6 ?_
        rw [f2 (u + 10) (by omega) (by omega), t6 _ _ hha hcC]
        refine wx_sipush (v := (nI 999)) rfl (e := 45) rfl (by decide) ?_
        refine wx_ic_eq rfl (e := 48) rfl (fun c_45 => ?_) (fun c_45 => ?_)
        · have hG : goalL T r a (c + 1) = goalL T r a c := by rw [goalL, if_pos (Or.inl c_45)]
          refine wn_iinc (m := 1) (L2 := [_, _, _, _, _, _, _, _]) rfl (e := 92) rfl rfl (by decide) rfl ?_
          refine wx_goto rfl ?_
          first
          | (have hh := fun x7 => ih (c + 1) _ (by omega) (by omega) (f2.tr f3) x7; rw [hG] at hh; exact hh _)
          | (have hh := fun x7 => ih (c + 1) _ (by omega) (by omega) f2 x7; rw [hG] at hh; exact hh _)
        · refine wx_aload_n rfl (e := 49) rfl rfl ?_
          refine wx_bipush (v := (nI 18)) rfl (e := 51) rfl (by decide) ?_
          refine wx_iload rfl (e := 53) rfl rfl ?_
          refine wn_iadd rfl (e := 54) rfl ?_
          refine wx_cv1 (mc := 0) (ms := 0) rfl (e := 57) rfl (sh_s hs) (Nat.le_of_ble_eq_true rfl) ⟨by decide, by decide⟩ ?_
          refine c_X5_get hs (by omega) ?_
          rw [f2 (s + 1) (by omega) (by omega), hS _ (by omega), cst_at r (by omega)]
          have hb6 := bs_lt (atC r c)
          refine wn_if_eq rfl (e := 60) rfl (by omega) (fun c_57 => ?_) (fun c_57 => ?_)
          · have hG : goalL T r a (c + 1) = goalL T r a c := by rw [goalL, if_pos (Or.inr ((bs_cn _).mp c_57))]
            refine wn_iinc (m := 1) (L2 := [_, _, _, _, _, _, _, _]) rfl (e := 92) rfl rfl (by decide) rfl ?_
            refine wx_goto rfl ?_
            first
            | (have hh := fun x7 => ih (c + 1) _ (by omega) (by omega) (f2.tr f3) x7; rw [hG] at hh; exact hh _)
            | (have hh := fun x7 => ih (c + 1) _ (by omega) (by omega) f2 x7; rw [hG] at hh; exact hh _)
          · refine wx_aload_n rfl (e := 61) rfl rfl ?_
            refine wx_iconst (v := (nI 0)) rfl (e := 62) rfl (by decide) ?_
            refine wx_aload_n rfl (e := 63) rfl rfl ?_
            refine wx_iload_n rfl (e := 64) rfl rfl ?_
            refine wx_iload rfl (e := 66) rfl rfl ?_
            refine wx_cv4 (mc := 0) (ms := 0) rfl (e := 69) rfl rfl (Nat.le_of_ble_eq_true rfl) ⟨by decide, by decide⟩ ?_
            refine c_X0_draw (f2.T hT) hs (f2.S hu hs hS) ha hcC (fun I3 f3 => ?_)
            refine wx_istore (L2 := [_, _, _, _, _, _, _, _]) rfl (e := 71) rfl (by decide) rfl ?_
            refine wx_iload_n rfl (e := 72) rfl rfl ?_
            refine wx_if_lt rfl (e := 75) rfl (fun c_72 => ?_) (fun c_72 => ?_)
            · rw [← nI_0] at c_72
              have hG : goalL T r a (c + 1) = (nI c, drawS T r a c) := by rw [goalL, if_neg (fun z => z.elim c_45 (fun z => c_57 ((bs_cn _).mpr z))), if_pos (Or.inl c_72)]
              refine wx_iload rfl (e := 84) rfl rfl ?_
              refine wx_istore_n (L2 := [_, _, _, _, _, _, _, _]) rfl (e := 85) rfl (by decide) rfl ?_
              refine wx_iload rfl (e := 87) rfl rfl ?_
              refine wx_istore (L2 := [_, _, _, _, _, _, _, _]) rfl (e := 89) rfl (by decide) rfl ?_
              refine wn_iinc (m := 1) (L2 := [_, _, _, _, _, _, _, _]) rfl (e := 92) rfl rfl (by decide) rfl ?_
              refine wx_goto rfl ?_
              first
              | (have hh := fun x7 => ih (c + 1) _ (by omega) (by omega) (f2.tr f3) x7; rw [hG] at hh; exact hh _)
              | (have hh := fun x7 => ih (c + 1) _ (by omega) (by omega) f2 x7; rw [hG] at hh; exact hh _)
            · rw [← nI_0] at c_72
              refine wx_iload rfl (e := 77) rfl rfl ?_
              refine wx_iload rfl (e := 79) rfl rfl ?_
              refine wx_ic_le rfl (e := 82) rfl (fun c_79 => ?_) (fun c_79 => ?_)
              · have hG : goalL T r a (c + 1) = goalL T r a c := by rw [goalL, if_neg (fun z => z.elim c_45 (fun z => c_57 ((bs_cn _).mpr z))), if_neg (fun z => z.elim c_72 (fun z => absurd c_79 (Int32.not_le.mpr z)))]
                refine wn_iinc (m := 1) (L2 := [_, _, _, _, _, _, _, _]) rfl (e := 92) rfl rfl (by decide) rfl ?_
                refine wx_goto rfl ?_
                first
                | (have hh := fun x7 => ih (c + 1) _ (by omega) (by omega) (f2.tr f3) x7; rw [hG] at hh; exact hh _)
                | (have hh := fun x7 => ih (c + 1) _ (by omega) (by omega) f2 x7; rw [hG] at hh; exact hh _)
              · have hG : goalL T r a (c + 1) = (nI c, drawS T r a c) := by rw [goalL, if_neg (fun z => z.elim c_45 (fun z => c_57 ((bs_cn _).mpr z))), if_pos (Or.inr (Int32.not_le.mp c_79))]
                refine wx_iload rfl (e := 84) rfl rfl ?_
                refine wx_istore_n (L2 := [_, _, _, _, _, _, _, _]) rfl (e := 85) rfl (by decide) rfl ?_
                refine wx_iload rfl (e := 87) rfl rfl ?_
                refine wx_istore (L2 := [_, _, _, _, _, _, _, _]) rfl (e := 89) rfl (by decide) rfl ?_
                refine wn_iinc (m := 1) (L2 := [_, _, _, _, _, _, _, _]) rfl (e := 92) rfl rfl (by decide) rfl ?_
                refine wx_goto rfl ?_
                first
                | (have hh := fun x7 => ih (c + 1) _ (by omega) (by omega) (f2.tr f3) x7; rw [hG] at hh; exact hh _)
                | (have hh := fun x7 => ih (c + 1) _ (by omega) (by omega) f2 x7; rw [hG] at hh; exact hh _)
  refine wx_in (M := mX0_goal) rfl rfl rfl (Nat.le_of_ble_eq_true rfl) ?_
  refine wx_bipush (v := (-2)) rfl (e := 2) rfl (by decide) ?_
  refine wx_istore_n (L2 := [_, _, _, _, _, _, _, _]) rfl (e := 3) rfl (by decide) rfl ?_
  refine wx_iconst (v := (nI 0)) rfl (e := 4) rfl (by decide) ?_
  refine wx_istore (L2 := [_, _, _, _, _, _, _, _]) rfl (e := 6) rfl (by decide) rfl ?_
  refine wx_aload_n rfl (e := 7) rfl rfl ?_
  refine wx_getr rfl (e := 10) rfl rfl rfl ?_
  refine wx_iload_n rfl (e := 11) rfl rfl ?_
  refine wx_cv1 (mc := 0) (ms := 0) rfl (e := 14) rfl (sh_t hu) (Nat.le_of_ble_eq_true rfl) ⟨by decide, by decide⟩ ?_
  refine c_X7_home hu (n := tP T) t3 ha (by omega) (by omega) ?_
  rw [(t7 a ha).1]
  refine wx_istore (L2 := [_, _, _, _, _, _, _, _]) rfl (e := 16) rfl (by decide) rfl ?_
  refine wx_iconst (v := (nI 0)) rfl (e := 17) rfl (by decide) ?_
  refine wx_istore (L2 := [_, _, _, _, _, _, _, _]) rfl (e := 19) rfl (by decide) rfl ?_
  exact loop (tC T + 1) 0 I (by omega) (by omega) fr5.rf _
theorem or6 : ∀ e, e < 6 → ∀ w, w < 2 ^ e → nI w ||| (nI 1 <<< (nI e &&& 31)) = nI (w + 2 ^ e) := by decide +kernel
theorem b1_0 {b : Bool} : b1 b = 0 ↔ b = false := by cases b <;> decide
theorem visL_pos (T : tx) (sd : Int32) (a c : Nat) (r : rw_) : ∀ (e k : Nat), (k < 12 ∨ k = 46) → c < 6 → e ≤ 6 → a < 5 → (visL T sd a c r e).1 k = r k
  | 0, _, _, _, _, _ => rfl
  | e + 1, k, hk, hc, he, ha => by
    have ih := visL_pos T sd a c r e k hk hc (by omega) ha
    rw [visL]
    split
    · show up1 (up1 (up1 _ _ _) _ _) _ _ k = _
      unfold up1
      rw [if_neg (by omega), if_neg (by omega), if_neg (by omega)]
      exact ih
    · exact ih
theorem visL_lt (T : tx) (sd : Int32) (a c : Nat) (r : rw_) : ∀ e : Nat, (visL T sd a c r e).2 < 2 ^ e
  | 0 => Nat.one_pos
  | e + 1 => by
    have ih := visL_lt T sd a c r e
    rw [visL, Nat.pow_succ]
    split
    · show _ + 2 ^ e < _
      omega
    · omega
theorem nI_m1 {c : Nat} (h : c < 6) : ¬ (-1 : Int32) = nI c := by
  rcases (show c = 0 ∨ c = 1 ∨ c = 2 ∨ c = 3 ∨ c = 4 ∨ c = 5 by omega) with rfl | rfl | rfl | rfl | rfl | rfl <;> decide
theorem atC_up {r : rw_} {i c e : Nat} {v : Int32} (h : 12 ≤ i) (he : e < 6) : atC (up1 r i v) c e = atC r c e := by
  unfold atC up1
  rw [if_neg (by omega)]
theorem bsF_up {r : rw_} {i c : Nat} {v : Int32} (h : 12 ≤ i) : bsF (atC (up1 r i v) c) = bsF (atC r c) := by
  unfold bsF
  rw [atC_up h (by decide), atC_up h (by decide), atC_up h (by decide), atC_up h (by decide), atC_up h (by decide), atC_up h (by decide)]
theorem CS.addm {s k : Nat} {I : Nat → Nat → Int32} {r : rw_} {v : Int32} (h : CS s I r) (h1 : 6 ≤ k) (h2 : k < 18) : CS s (wr I (s + 1) k (I (s + 1) k + v)) (up1 r (k + 6) v) := by
  intro j hj
  rw [wr_at, if_pos rfl]
  by_cases e : j = k
  · subst e
    rw [if_pos rfl, h j hj, cst_m r h1 h2, cst_m _ h1 h2]
    unfold up1
    rw [if_pos rfl]
  · rw [if_neg e, h j hj]
    unfold cst
    split
    · unfold up1; rw [if_neg (by omega)]
    · split
      · unfold up1; rw [if_neg (by omega)]
      · split
        · rw [bsF_up (by omega)]
        · split
          · unfold up1; rw [if_neg (by omega)]
          · unfold up1; rw [if_neg (by omega)]
theorem CS.addh {s k : Nat} {I : Nat → Nat → Int32} {r : rw_} {v : Int32} (h : CS s I r) (h1 : 30 ≤ k) (h2 : k < 55) : CS s (wr I (s + 1) k (I (s + 1) k + v)) (up1 r (k - 6) v) := by
  intro j hj
  rw [wr_at, if_pos rfl]
  by_cases e : j = k
  · subst e
    rw [if_pos rfl, h j hj, cst_h r h1, cst_h _ h1]
    unfold up1
    rw [if_pos rfl]
  · rw [if_neg e, h j hj]
    unfold cst
    split
    · unfold up1; rw [if_neg (by omega)]
    · split
      · unfold up1; rw [if_neg (by omega)]
      · split
        · rw [bsF_up (by omega)]
        · split
          · unfold up1; rw [if_neg (by omega)]
          · unfold up1; rw [if_neg (by omega)]
/-- but for the laws' rows and a state's -/
def frs (u s : Nat) (I I2 : Nat → Nat → Int32) : Prop := ∀ q, q ≠ u + 5 → q ≠ u + 6 → q ≠ s + 1 → I2 q = I q
theorem frs.rf {u s : Nat} {I : Nat → Nat → Int32} : frs u s I I := fun _ _ _ _ => rfl
theorem frs.tr {u s : Nat} {I I2 I3 : Nat → Nat → Int32} (h1 : frs u s I I2) (h2 : frs u s I2 I3) : frs u s I I3 := fun q a b c => (h2 q a b c).trans (h1 q a b c)
theorem frs.T {u s : Nat} {I I2 : Nat → Nat → Int32} {T : tx} (hs : s = 39 ∨ s = 45) (h : frs u s I I2) (hT : CT u I T) : CT u I2 T := by
  have hu := hT.1
  exact hT.kept (fun c _ _ c5 c6 => h c c5 c6 (by omega))
theorem frs.w {u s : Nat} {I : Nat → Nat → Int32} (k : Nat) (v : Int32) : frs u s I (wr I (s + 1) k v) := fun _ _ _ a => wr_other _ _ _ _ a
theorem fr5.s {u s : Nat} {I I2 : Nat → Nat → Int32} (h : fr5 u I I2) : frs u s I I2 := fun q a b _ => h q a b
set_option maxHeartbeats 1000000 in
theorem c_X0_visit {d Lx t rt u : Nat} {I : Nat → Nat → Int32} {G : Nat → Nat → Int64} {Q : ab_Q} {T : tx} {r : rw_} {s : Nat} (hT : CT u I T) (hs : s = 39 ∨ s = 45) (hS : CS s I r) {a c : Nat} {sd : Int32} (ha : a < tP T) (hc : c < tC T) (hr : ∀ e, tR T ≤ e → e < 6 → r (6 + e) = -1) (hq : ∀ I2, frs u s I I2 → CS s I2 (visR T sd a c r) → Q (some (.int (nI (visW T sd a c r)))) (hp Lx t rt u I2 G)) : ab_call ab_MT (d + 5) 15 [.ref 41, .ref s, .int sd, .int (nI a), .int (nI c)] (hp Lx t rt u I G) 0 0 Q := by
  have hu := hT.1
  obtain ⟨hC6, hR6, hP5, hH, hTf, hFn, hLx⟩ := hT.2.1
  obtain ⟨-, -, t1, t2, t3, t4, t5, t6, t7, -⟩ := id hT
  have loop : ∀ (n : Nat) (e : Nat) (I2 : Nat → Nat → Int32), e ≤ 6 → 6 - e < n → frs u s I I2 → CS s I2 (visL T sd a c r e).1 → ∀ x8, WP (d + 4) mX0_visit Q 17 [some (.ref 41), some (.ref s), some (.int sd), some (.int (nI a)), some (.int (nI c)), some (.int (nI (bsF (atC r c)))), some (.int (nI (visL T sd a c r e).2)), some (.int (nI e)), x8] [] (hp Lx t rt u I2 G) 0 0 := by
    intro n
    induction n with
    | zero => intro e I2 he hn f2 S2 x8; omega
    | succ n ih =>
      intro e I2 he hn f2 S2 x8
      have T2 := f2.T hs hT
      refine wx_iload rfl (e := 19) rfl rfl ?_
      refine wx_bipush (v := (nI 6)) rfl (e := 21) rfl (by decide) ?_
      refine wn_ic_ge rfl (e := 24) rfl (by omega) (by omega) (fun c_21 => ?_) (fun c_21 => ?_)
      · refine wx_aload_n rfl (e := 124) rfl rfl ?_
        refine wx_iconst (v := (nI 2)) rfl (e := 125) rfl (by decide) ?_
        refine wx_aload_n rfl (e := 126) rfl rfl ?_
        refine wx_iload_n rfl (e := 127) rfl rfl ?_
        refine wx_iload rfl (e := 129) rfl rfl ?_
        refine wx_cv4 (mc := 0) (ms := 0) rfl (e := 132) rfl rfl (Nat.le_of_ble_eq_true rfl) ⟨by decide, by decide⟩ ?_
        refine c_X0_give T2 hs S2 ha hc (fun I3 f3 => ?_)
        have S3 := f3.S hu hs S2
        rw [show e = 6 by omega] at S3 ⊢
        refine wx_istore (L2 := [_, _, _, _, _, _, _, _, _]) rfl (e := 134) rfl (by decide) rfl ?_
        refine wx_aload_n rfl (e := 135) rfl rfl ?_
        refine wx_bipush (v := (nI 12)) rfl (e := 137) rfl (by decide) ?_
        refine wx_iload rfl (e := 139) rfl rfl ?_
        refine wn_iadd rfl (e := 140) rfl ?_
        refine wx_iload rfl (e := 142) rfl rfl ?_
        refine wx_cv2 (mc := 0) (ms := 0) rfl (e := 145) rfl (sh_s hs) (Nat.le_of_ble_eq_true rfl) ⟨by decide, by decide⟩ ?_
        refine c_X5_add hs (by omega) ?_
        refine wx_aload_n rfl (e := 146) rfl rfl ?_
        refine wx_bipush (v := (nI 42)) rfl (e := 148) rfl (by decide) ?_
        refine wx_iload_n rfl (e := 149) rfl rfl ?_
        refine wn_iadd rfl (e := 150) rfl ?_
        refine wx_iload rfl (e := 152) rfl rfl ?_
        refine wx_cv2 (mc := 0) (ms := 0) rfl (e := 155) rfl (sh_s hs) (Nat.le_of_ble_eq_true rfl) ⟨by decide, by decide⟩ ?_
        refine c_X5_add hs (by omega) ?_
        refine wx_iload rfl (e := 157) rfl rfl ?_
        refine wx_iret rfl rfl rfl ⟨by decide, by decide⟩ ?_
        have S4 := (S3.addm (k := 12 + c) (v := giveS T (visL T sd a c r 6).1 a c) (by omega) (by omega)).addh (k := 42 + a) (v := giveS T (visL T sd a c r 6).1 a c) (by omega) (by omega)
        rw [show 12 + c + 6 = 18 + c by omega, show 42 + a - 6 = 36 + a by omega] at S4
        exact hq _ (f2.tr (f3.s.tr ((frs.w _ _).tr (frs.w _ _)))) S4
      · have he6 : e < 6 := by omega
        refine wx_iload rfl (e := 26) rfl rfl ?_
        refine wx_iload rfl (e := 28) rfl rfl ?_
        refine wx_ishr rfl (e := 29) rfl ?_
        refine wx_iconst (v := (nI 1)) rfl (e := 30) rfl (by decide) ?_
        refine wx_iand rfl (e := 31) rfl ?_
        rw [sr_ok _ (by omega)]
        refine wx_if_eq rfl (e := 34) rfl (fun c_31 => ?_) (fun c_31 => ?_)
        · have hG : visL T sd a c r (e + 1) = visL T sd a c r e := by rw [visL, if_neg]; rw [visL_pos T sd a c r e (6 + e) (by omega) (by omega) (by omega) (by omega)]; intro z; have := b1_0.mp c_31; unfold atC at this; simp [z.1] at this
          refine wn_iinc (m := 1) (L2 := [_, _, _, _, _, _, _, _, _]) rfl (e := 120) rfl rfl (by decide) rfl ?_
          refine wx_goto rfl ?_
          first
          | (have hh := fun x8 => ih (e + 1) _ (by omega) (by omega) (f2.tr f3.s) (by rw [hG]; exact S3) x8; rw [hG] at hh; exact hh _)
          | (have hh := fun x8 => ih (e + 1) _ (by omega) (by omega) f2 (by rw [hG]; exact S2) x8; rw [hG] at hh; exact hh _)
          | (have S4 := ((S3.addm (k := 6 + c) (v := nI 1) (by omega) (by omega)).addh (k := 30 + e) (v := nI 1) (by omega) (by omega)).addh (k := 47 + a) (v := nI 1) (by omega) (by omega); rw [show 6 + c + 6 = 12 + c by omega, show 30 + e - 6 = 24 + e by omega, show 47 + a - 6 = 41 + a by omega] at S4; have hh := fun x8 => ih (e + 1) _ (by omega) (by omega) (f2.tr (f3.s.tr ((frs.w _ _).tr ((frs.w _ _).tr (frs.w _ _))))) (by rw [hG]; exact S4) x8; rw [hG] at hh; exact hh _)
        · have hat : r (6 + e) = nI c := by have : atC r c e = true := by { cases hb : atC r c e with | true => rfl | false => exact absurd (b1_0.mpr hb) c_31 }; unfold atC at this; simpa using this
          have heR : e < tR T := Nat.lt_of_not_le (fun z => nI_m1 (by omega) ((hr e z he6).symm.trans hat))
          have hpe : (visL T sd a c r e).1 (6 + e) = nI c := by rw [visL_pos T sd a c r e (6 + e) (by omega) (by omega) (by omega) (by omega)]; exact hat
          refine wx_bipush (v := (nI 64)) rfl (e := 36) rfl (by decide) ?_
          refine wx_aload_n rfl (e := 37) rfl rfl ?_
          refine wx_bipush (v := (nI 52)) rfl (e := 39) rfl (by decide) ?_
          refine wx_cv1 (mc := 0) (ms := 0) rfl (e := 42) rfl (sh_s hs) (Nat.le_of_ble_eq_true rfl) ⟨by decide, by decide⟩ ?_
          refine c_X5_get hs (by omega) ?_
          rw [S2 _ (by omega), cst_h _ (by omega), visL_pos T sd a c r e 46 (by omega) (by omega) (by omega) (by omega)]
          refine wx_imul rfl (e := 43) rfl ?_
          refine wx_bipush (v := (nI 8)) rfl (e := 45) rfl (by decide) ?_
          refine wx_iload_n rfl (e := 46) rfl rfl ?_
          refine wn_imul rfl (e := 47) rfl ?_
          refine wx_iadd rfl (e := 48) rfl ?_
          refine wx_iload rfl (e := 50) rfl rfl ?_
          refine wx_iadd rfl (e := 51) rfl ?_
          refine wx_istore (L2 := [_, _, _, _, _, _, _, _, _]) rfl (e := 53) rfl (by decide) rfl ?_
          refine wx_iload_n rfl (e := 54) rfl rfl ?_
          refine wx_iload rfl (e := 56) rfl rfl ?_
          refine wx_aload_n rfl (e := 57) rfl rfl ?_
          refine wx_aload_n rfl (e := 58) rfl rfl ?_
          refine wx_iload rfl (e := 60) rfl rfl ?_
          refine wx_iload_n rfl (e := 61) rfl rfl ?_
          refine wx_aload_n rfl (e := 62) rfl rfl ?_
          refine wx_getr rfl (e := 65) rfl rfl rfl ?_
          refine wx_iload rfl (e := 67) rfl rfl ?_
          refine wx_cv1 (mc := 0) (ms := 0) rfl (e := 70) rfl (sh_t hu) (Nat.le_of_ble_eq_true rfl) ⟨by decide, by decide⟩ ?_
          refine c_X7_truth hu (n := tR T) (T2.2.2.2.1) heR (by omega) ?_
          rw [T2.2.2.2.2.2.2.1, sr_ok _ (by omega)]
          refine wx_cv4 (mc := 0) (ms := 0) rfl (e := 73) rfl rfl (Nat.le_of_ble_eq_true rfl) ⟨by decide, by decide⟩ ?_
          refine c_X0_healing T2 hs S2 (by omega) ha hc hpe (fun I3 f3 => ?_)
          have S3 := f3.S hu hs S2
          refine wx_cs3 (mc := 0) (ms := 0) rfl (e := 76) rfl (Nat.le_of_ble_eq_true rfl) ⟨by decide, by decide⟩ ?_
          refine c_X0_falls (fun hl => ?_) (fun hl => ?_)
          · have hG : visL T sd a c r (e + 1) = (up1 (up1 (up1 (visL T sd a c r e).1 (12 + c) (nI 1)) (24 + e) (nI 1)) (41 + a) (nI 1), (visL T sd a c r e).2 + 2 ^ e) := by rw [visL, if_pos ⟨hpe, by rw [visL_pos T sd a c r e 46 (by omega) (by omega) (by omega) (by omega)]; exact hl⟩]
            refine wn_if_eq rfl (e := 79) rfl (by omega) (fun c_76 => absurd c_76 (by omega)) (fun c_76 => ?_)
            refine wx_iload rfl (e := 81) rfl rfl ?_
            refine wx_iconst (v := (nI 1)) rfl (e := 82) rfl (by decide) ?_
            refine wx_iload rfl (e := 84) rfl rfl ?_
            refine wx_ishl rfl (e := 85) rfl ?_
            refine wx_ior rfl (e := 86) rfl ?_
            rw [or6 e he6 _ (visL_lt T sd a c r e)]
            refine wx_istore (L2 := [_, _, _, _, _, _, _, _, _]) rfl (e := 88) rfl (by decide) rfl ?_
            refine wx_aload_n rfl (e := 89) rfl rfl ?_
            refine wx_bipush (v := (nI 6)) rfl (e := 91) rfl (by decide) ?_
            refine wx_iload rfl (e := 93) rfl rfl ?_
            refine wn_iadd rfl (e := 94) rfl ?_
            refine wx_iconst (v := (nI 1)) rfl (e := 95) rfl (by decide) ?_
            refine wx_cv2 (mc := 0) (ms := 0) rfl (e := 98) rfl (sh_s hs) (Nat.le_of_ble_eq_true rfl) ⟨by decide, by decide⟩ ?_
            refine c_X5_add hs (by omega) ?_
            refine wx_aload_n rfl (e := 99) rfl rfl ?_
            refine wx_bipush (v := (nI 30)) rfl (e := 101) rfl (by decide) ?_
            refine wx_iload rfl (e := 103) rfl rfl ?_
            refine wn_iadd rfl (e := 104) rfl ?_
            refine wx_iconst (v := (nI 1)) rfl (e := 105) rfl (by decide) ?_
            refine wx_cv2 (mc := 0) (ms := 0) rfl (e := 108) rfl (sh_s hs) (Nat.le_of_ble_eq_true rfl) ⟨by decide, by decide⟩ ?_
            refine c_X5_add hs (by omega) ?_
            refine wx_aload_n rfl (e := 109) rfl rfl ?_
            refine wx_bipush (v := (nI 47)) rfl (e := 111) rfl (by decide) ?_
            refine wx_iload_n rfl (e := 112) rfl rfl ?_
            refine wn_iadd rfl (e := 113) rfl ?_
            refine wx_iconst (v := (nI 1)) rfl (e := 114) rfl (by decide) ?_
            refine wx_cv2 (mc := 0) (ms := 0) rfl (e := 117) rfl (sh_s hs) (Nat.le_of_ble_eq_true rfl) ⟨by decide, by decide⟩ ?_
            refine c_X5_add hs (by omega) ?_
            refine wn_iinc (m := 1) (L2 := [_, _, _, _, _, _, _, _, _]) rfl (e := 120) rfl rfl (by decide) rfl ?_
            refine wx_goto rfl ?_
            first
            | (have hh := fun x8 => ih (e + 1) _ (by omega) (by omega) (f2.tr f3.s) (by rw [hG]; exact S3) x8; rw [hG] at hh; exact hh _)
            | (have hh := fun x8 => ih (e + 1) _ (by omega) (by omega) f2 (by rw [hG]; exact S2) x8; rw [hG] at hh; exact hh _)
            | (have S4 := ((S3.addm (k := 6 + c) (v := nI 1) (by omega) (by omega)).addh (k := 30 + e) (v := nI 1) (by omega) (by omega)).addh (k := 47 + a) (v := nI 1) (by omega) (by omega); rw [show 6 + c + 6 = 12 + c by omega, show 30 + e - 6 = 24 + e by omega, show 47 + a - 6 = 41 + a by omega] at S4; have hh := fun x8 => ih (e + 1) _ (by omega) (by omega) (f2.tr (f3.s.tr ((frs.w _ _).tr ((frs.w _ _).tr (frs.w _ _))))) (by rw [hG]; exact S4) x8; rw [hG] at hh; exact hh _)
          · have hG : visL T sd a c r (e + 1) = visL T sd a c r e := by rw [visL, if_neg]; rw [visL_pos T sd a c r e 46 (by omega) (by omega) (by omega) (by omega)]; exact fun z => hl z.2
            refine wn_if_eq rfl (e := 79) rfl (by omega) (fun c_76 => ?_) (fun c_76 => absurd c_76 (by omega))
            refine wn_iinc (m := 1) (L2 := [_, _, _, _, _, _, _, _, _]) rfl (e := 120) rfl rfl (by decide) rfl ?_
            refine wx_goto rfl ?_
            first
            | (have hh := fun x8 => ih (e + 1) _ (by omega) (by omega) (f2.tr f3.s) (by rw [hG]; exact S3) x8; rw [hG] at hh; exact hh _)
            | (have hh := fun x8 => ih (e + 1) _ (by omega) (by omega) f2 (by rw [hG]; exact S2) x8; rw [hG] at hh; exact hh _)
            | (have S4 := ((S3.addm (k := 6 + c) (v := nI 1) (by omega) (by omega)).addh (k := 30 + e) (v := nI 1) (by omega) (by omega)).addh (k := 47 + a) (v := nI 1) (by omega) (by omega); rw [show 6 + c + 6 = 12 + c by omega, show 30 + e - 6 = 24 + e by omega, show 47 + a - 6 = 41 + a by omega] at S4; have hh := fun x8 => ih (e + 1) _ (by omega) (by omega) (f2.tr (f3.s.tr ((frs.w _ _).tr ((frs.w _ _).tr (frs.w _ _))))) (by rw [hG]; exact S4) x8; rw [hG] at hh; exact hh _)
  refine wx_in (M := mX0_visit) rfl rfl rfl (Nat.le_of_ble_eq_true rfl) ?_
  refine wx_aload_n rfl (e := 1) rfl rfl ?_
  refine wx_bipush (v := (nI 18)) rfl (e := 3) rfl (by decide) ?_
  refine wx_iload rfl (e := 5) rfl rfl ?_
  first | refine wn_iadd rfl (e := 6) rfl ?_ | refine wx_iadd rfl (e := 6) rfl ?_
  refine wx_cv1 (mc := 0) (ms := 0) rfl (e := 9) rfl (sh_s hs) (Nat.le_of_ble_eq_true rfl) ⟨by decide, by decide⟩ ?_
  refine c_X5_get hs (by omega) ?_
  rw [hS _ (by omega), cst_at r (by omega)]
  refine wx_istore (L2 := [_, _, _, _, _, _, _, _, _]) rfl (e := 11) rfl (by decide) rfl ?_
  refine wx_iconst (v := (nI 0)) rfl (e := 12) rfl (by decide) ?_
  refine wx_istore (L2 := [_, _, _, _, _, _, _, _, _]) rfl (e := 14) rfl (by decide) rfl ?_
  refine wx_iconst (v := (nI 0)) rfl (e := 15) rfl (by decide) ?_
  refine wx_istore (L2 := [_, _, _, _, _, _, _, _, _]) rfl (e := 17) rfl (by decide) rfl ?_
  exact loop 7 0 I (by omega) (by omega) frs.rf hS _

/-! the class: read -/
def txS (S : ps) : tx := (sC S, sR S, sP S, fwS (sF S) (sC S), fun a => kS ((sH S).1 a), (sH S).2.1, (sH S).2.2, fun e => decide (e < sR S) && sU S e, sL S, sS S)
def nwG (s : gs) (S : ps) : gs := (txS S, nI (sD S), bgS (sW S) (sQ S) (sC S) (sR S), (fun _ _ => nI 0, 0), (fun _ => false, fun _ _ => nI 0), (fun _ => 0, fun _ => false, 0), ((gB s).1, 0), -1)
def ftG (s : gs) (p : Nat) : gs := (gT s, gD s, gR s, gH s, gK s, gW s, ((gB s).1, 0), nI p)
def tRead (s : gs) : Int32 × gs := if (rdS (bt (gB s).1) (gB s).2 402 ps0).1 = 0 then (if (sE (rdS (bt (gB s).1) (gB s).2 402 ps0).2.2).1 = 0 then (nI 0, nwG s (rdS (bt (gB s).1) (gB s).2 402 ps0).2.2) else (nI (sE (rdS (bt (gB s).1) (gB s).2 402 ps0).2.2).1, ftG s (stA (bt (gB s).1) (gB s).2 (sE (rdS (bt (gB s).1) (gB s).2 402 ps0).2.2).2))) else (nI (rdS (bt (gB s).1) (gB s).2 402 ps0).1, ftG s (stA (bt (gB s).1) (gB s).2 (rdS (bt (gB s).1) (gB s).2 402 ps0).2.1))
theorem tok_S {S : ps} (hV : PV S) (hW : PW S) (h0 : (sE S).1 = 0) : tok (txS S) := by
  obtain ⟨v1, v2, v3, v4, v5, v6⟩ := id hV
  have hl := hW.ln h0
  obtain ⟨w1, w2, w3⟩ := hW
  obtain ⟨q1, q2, q3, q4⟩ := w2 h0
  refine ⟨v1, v3, v4, fun a ha => ?_, fun e he => ?_, fun a c ha hc => ?_, w3⟩
  · obtain ⟨c, y1, y2⟩ := q4 a ha
    show kS ((sH S).1 a) < sC S
    rw [y2, kS_n (by omega)]; exact y1
  · show (decide (e < sR S) && sU S e) = false
    rw [decide_eq_false (show ¬ e < sR S from Nat.not_lt.mpr he), Bool.false_and]
  · have ha : a < sC S := ha
    have hc : c < sC S := hc
    obtain ⟨v, y1, y2, _⟩ := fw_in hl (sC S) v1 a c (by omega) (by omega)
    exact ⟨v, y1, y2⟩
theorem bgS_cg {w w2 q q2 : Nat → Int32} {C R : Nat} (h1 : ∀ c, c < C → w2 c = w c) (h2 : ∀ e, e < R → q2 e = q e) : bgS w2 q2 C R = bgS w q C R := by
  funext k
  unfold bgS
  by_cases z : k < 6
  · rw [if_pos z, if_pos z]
    by_cases y : k < C
    · rw [if_pos y, if_pos y, h1 k y]
    · rw [if_neg y, if_neg y]
  · rw [if_neg z, if_neg z]
    by_cases y : k < 12
    · rw [if_pos y, if_pos y]
      by_cases x : k - 6 < R
      · rw [if_pos x, if_pos x, h2 _ x]
      · rw [if_neg x, if_neg x]
    · rw [if_neg y, if_neg y]
theorem pf_tx {t rt u : Nat} (ht : t = 1 ∨ t = 16) : wq (wq (PF t rt u) 0 0 (some (17 - t))) 0 1 (some t) = PF (17 - t) rt u := by
  funext c k
  unfold wq va_up
  by_cases h : c = 0
  · subst h
    by_cases h2 : k = 1
    · subst h2; show some t = some (17 - (17 - t)); congr 1; omega
    · by_cases h1 : k = 0
      · subst h1; rfl
      · simp only [if_pos, h1, h2, if_false]
        match k, h1, h2 with
        | k + 2, _, _ => rfl
  · simp only [if_neg h]
    unfold PF
    split <;> first | rfl | (exact absurd rfl h)
theorem pf_cr {t rt u o : Nat} : wq (wq (PF t rt u) 41 2 (some o)) 41 3 (some (o + 1)) = PF t rt o := by
  funext c k
  unfold wq va_up
  by_cases h : c = 41
  · subst h
    by_cases h2 : k = 3
    · subst h2; rfl
    · by_cases h1 : k = 2
      · subst h1; rfl
      · simp only [if_pos, h1, h2, if_false]
        match k, h1, h2 with
        | 0, _, _ => rfl
        | 1, _, _ => rfl
        | k + 4, _, _ => rfl
  · simp only [if_neg h]
    unfold PF
    split <;> first | rfl | (exact absurd rfl h)
theorem c_X7_laws3_1 {d Lx t rt u : Nat} {I : Nat → Nat → Int32} {G : Nat → Nat → Int64} {Q : ab_Q} (hq : Q (some (.ref 2)) (99, SH Lx, I, G, wq (PF t rt u) 41 2 (some 1))) : ab_call ab_MT (d + 1) 91 [.ref 1] (99, SH Lx, I, G, wq (PF t rt u) 41 2 (some 1)) 0 0 Q := by
  refine wx_in (M := mX7_laws) rfl rfl rfl (Nat.le_of_ble_eq_true rfl) ?_
  refine wx_aload_n rfl (e := 1) rfl rfl ?_
  refine wx_getr rfl (e := 4) rfl rfl rfl ?_
  refine wx_aret rfl rfl (by decide) ⟨by decide, by decide⟩ ?_
  exact hq
theorem c_X7_laws3_16 {d Lx t rt u : Nat} {I : Nat → Nat → Int32} {G : Nat → Nat → Int64} {Q : ab_Q} (hq : Q (some (.ref 17)) (99, SH Lx, I, G, wq (PF t rt u) 41 2 (some 16))) : ab_call ab_MT (d + 1) 91 [.ref 16] (99, SH Lx, I, G, wq (PF t rt u) 41 2 (some 16)) 0 0 Q := by
  refine wx_in (M := mX7_laws) rfl rfl rfl (Nat.le_of_ble_eq_true rfl) ?_
  refine wx_aload_n rfl (e := 1) rfl rfl ?_
  refine wx_getr rfl (e := 4) rfl rfl rfl ?_
  refine wx_aret rfl rfl (by decide) ⟨by decide, by decide⟩ ?_
  exact hq
theorem c_X7_laws3 {d Lx t rt u : Nat} {I : Nat → Nat → Int32} {G : Nat → Nat → Int64} {Q : ab_Q} {o : Nat} (ho : o = 1 ∨ o = 16) (hq : Q (some (.ref (o + 1))) (99, SH Lx, I, G, wq (PF t rt u) 41 2 (some o))) : ab_call ab_MT (d + 1) 91 [.ref o] (99, SH Lx, I, G, wq (PF t rt u) 41 2 (some o)) 0 0 Q := by
  rcases ho with rfl | rfl
  · exact c_X7_laws3_1 hq
  · exact c_X7_laws3_16 hq
theorem c_X0_turnTo {d Lx t rt u : Nat} {I : Nat → Nat → Int32} {G : Nat → Nat → Int64} {Q : ab_Q} {o : Nat} (ho : o = 1 ∨ o = 16) (hq : Q none (hp Lx t rt o I G)) : ab_call ab_MT (d + 2) 1 [.ref 41, .ref o] (hp Lx t rt u I G) 0 0 Q := by
  refine wx_in (M := mX0_turnTo) rfl rfl rfl (Nat.le_of_ble_eq_true rfl) ?_
  refine wx_aload_n rfl (e := 1) rfl rfl ?_
  refine wx_aload_n rfl (e := 2) rfl rfl ?_
  refine wx_putr rfl (e := 5) rfl rfl (by decide) (by omega) ?_
  refine wx_aload_n rfl (e := 6) rfl rfl ?_
  refine wx_aload_n rfl (e := 7) rfl rfl ?_
  refine wx_cv0 (mc := 0) (ms := 0) rfl (e := 10) rfl (sh_t ho) (Nat.le_of_ble_eq_true rfl) ⟨by decide, by decide⟩ ?_
  refine c_X7_laws3 ho ?_
  refine wx_putr rfl (e := 13) rfl rfl (by decide) (by omega) ?_
  rw [pf_cr]
  refine wx_ret rfl rfl ⟨by decide, by decide⟩ ?_
  exact hq
theorem c_X10_startText {d Lx t rt u : Nat} {I : Nat → Nat → Int32} {G : Nat → Nat → Int64} {Q : ab_Q} (ht : t = 1 ∨ t = 16) {C R x : Nat} (h10 : I t 10 = nI C) (h12 : I t 12 = nI R) (hC6 : C ≤ 6) (hR6 : R ≤ 6) (hx : x < 40) (ex : I 48 3 = nI x) (hq : ∀ I2, (∀ q, q ≠ 40 → q ≠ 48 → q ≠ 51 → q ≠ 52 → I2 q = I q) → CS 39 I2 (bgS (I (t + 9)) (I (t + 11)) C R) → PA I2 (fun _ _ => nI 0) 0 → PS I2 (fun _ => false) (fun _ _ => nI 0) → TD I2 (fun _ => 0) (fun _ => false) 0 → Q none (hp Lx t rt t I2 G)) : ab_call ab_MT (d + 4) 140 [.ref 0] (hp Lx t rt u I G) 0 0 Q := by
  refine wx_in (M := mX10_startText) rfl rfl rfl (Nat.le_of_ble_eq_true rfl) ?_
  refine wx_aload_n rfl (e := 1) rfl rfl ?_
  refine wx_getr rfl (e := 4) rfl rfl rfl ?_
  refine wx_aload_n rfl (e := 5) rfl rfl ?_
  refine wx_getr rfl (e := 8) rfl rfl rfl ?_
  refine wx_cv1 (mc := 0) (ms := 0) rfl (e := 11) rfl rfl (Nat.le_of_ble_eq_true rfl) ⟨by decide, by decide⟩ ?_
  refine c_X5_begin ht h10 h12 hC6 hR6 (fun I1 f1 S1 => ?_)
  refine wx_aload_n rfl (e := 12) rfl rfl ?_
  refine wx_getr rfl (e := 15) rfl rfl rfl ?_
  refine wx_aload_n rfl (e := 16) rfl rfl ?_
  refine wx_getr rfl (e := 19) rfl rfl rfl ?_
  refine wx_cv1 (mc := 0) (ms := 0) rfl (e := 22) rfl rfl (Nat.le_of_ble_eq_true rfl) ⟨by decide, by decide⟩ ?_
  refine c_X0_turnTo ht ?_
  refine wx_aload_n rfl (e := 23) rfl rfl ?_
  refine wx_getr rfl (e := 26) rfl rfl rfl ?_
  refine wx_cv0 (mc := 0) (ms := 0) rfl (e := 29) rfl rfl (Nat.le_of_ble_eq_true rfl) ⟨by decide, by decide⟩ ?_
  refine c_X3_clear (x := x) hx (by rw [f1 48 (by decide)]; exact ex) (fun I2 f2 A2 P2 => ?_)
  refine wx_aload_n rfl (e := 30) rfl rfl ?_
  refine wx_getr rfl (e := 33) rfl rfl rfl ?_
  refine wx_cv0 (mc := 0) (ms := 0) rfl (e := 36) rfl rfl (Nat.le_of_ble_eq_true rfl) ⟨by decide, by decide⟩ ?_
  refine c_X9_clear (fun I3 f3 D3 => ?_)
  refine wx_ret rfl rfl ⟨by decide, by decide⟩ ?_
  exact hq I3 (fun q y1 y2 y3 y4 => by rw [f3 q y4, f2 q y2 y3, f1 q y1]) (S1.kept (by rw [f3 40 (by decide), f2 40 (by decide) (by decide)])) (A2.kept (f3 48 (by decide)) (f3 49 (by decide))) (P2.kept (f3 50 (by decide)) (f3 51 (by decide))) D3
def lE (S : ps) : Prop := (sE S).1 ≤ 5
theorem lte_5 {e : Nat × Nat} {c : Bool} {k tok : Nat} (h : e.1 ≤ 5) (hk : k ≤ 5) : (lte e c k tok).1 ≤ 5 := by
  unfold lte; split
  · exact hk
  · exact h
theorem st_5 {b : Nat → Nat} {n : Nat} {S : ps} (h : lE S) : lE (stX b n S).2.2 := by
  have key : ∀ (ks : List Nat) (S2 : ps), lE S2 → lE (stQ b n ks S S2).2.2 := by
    intro ks S2 h2
    unfold stQ; split
    · exact h2
    · exact h
  unfold stX
  split
  · split
    · exact h
    · exact key _ _ (lte_5 (lte_5 h (by decide)) (by decide))
  · split
    · split
      · exact h
      · exact key _ _ (lte_5 (lte_5 (lte_5 (lte_5 h (by decide)) (by decide)) (by decide)) (by decide))
    · split
      · split
        · exact h
        · exact key _ _ (lte_5 (lte_5 h (by decide)) (by decide))
      · split
        · split
          · exact h
          · exact key _ _ (lte_5 (lte_5 (lte_5 (lte_5 h (by decide)) (by decide)) (by decide)) (by decide))
        · split
          · exact key _ _ h
          · split
            · exact h
            · exact h
theorem rd_5 {b : Nat → Nat} {n : Nat} : ∀ (f : Nat) (S : ps), lE S → lE (rdS b n f S).2.2
  | 0, S, h => h
  | f + 1, S, h => by
    rw [rdS]
    split
    · exact h
    · split
      · exact rd_5 f _ (st_5 h)
      · exact st_5 h
theorem st_far2 {b : Nat → Nat} {n : Nat} {S : ps} (hV : PV S) (hW : PW S) (ht : sT S ≤ 400) (hg : gdT b n (sT S)) (hz : (stX b n S).1 = 0) : sT (stX b n S).2.2 ≤ 400 ∧ gdT b n (sT (stX b n S).2.2) := by
  have key : ∀ (ks : List Nat) (S2 : ps), (∀ k, k ∈ ks → k ≠ 26 ∧ k ≠ 27) → sT S2 = sT S + ks.length → (stQ b n ks S S2).1 = 0 → sT (stQ b n ks S S2).2.2 ≤ 400 ∧ gdT b n (sT (stQ b n ks S S2).2.2) := by
    intro ks S2 hks h2 h3
    obtain ⟨a1, a2, a3, a4⟩ := sq_far ks (sT S) hks ht hg
    unfold stQ at h3 ⊢
    by_cases z : (sqT b n ks (sT S)).1 = 0
    · rw [if_pos z]
      show sT S2 ≤ 400 ∧ gdT b n (sT S2)
      rw [h2, ← a3 z]; exact ⟨a1, a2⟩
    · rw [if_neg z] at h3; exact absurd h3 z
  have two : ∀ {P : Prop}, ((2, sT S, S) : sres).1 = 0 → P := fun {P} w => absurd w (show ¬ 2 = 0 by decide)
  unfold stX at hz ⊢
  by_cases k0 : kd b n (sT S) = 0
  · rw [if_pos k0] at hz ⊢
    by_cases z : sC S = 6
    · rw [if_pos z] at hz; exact two hz
    · rw [if_neg z] at hz ⊢; exact key _ _ (by decide) rfl hz
  · rw [if_neg k0] at hz ⊢
    by_cases k1 : kd b n (sT S) = 1
    · rw [if_pos k1] at hz ⊢
      by_cases z : sD S = 9
      · rw [if_pos z] at hz; exact two hz
      · rw [if_neg z] at hz ⊢; exact key _ _ (by decide) rfl hz
    · rw [if_neg k1] at hz ⊢
      by_cases k2 : kd b n (sT S) = 2
      · rw [if_pos k2] at hz ⊢
        by_cases z : sR S = 6
        · rw [if_pos z] at hz; exact two hz
        · rw [if_neg z] at hz ⊢
          refine key _ _ ?_ rfl hz
          by_cases y : kd b n (sT S + 3) = 11
          · rw [if_pos y]; decide
          · rw [if_neg y]; decide
      · rw [if_neg k2] at hz ⊢
        by_cases k3 : kd b n (sT S) = 3
        · rw [if_pos k3] at hz ⊢
          by_cases z : sP S = 5
          · rw [if_pos z] at hz; exact two hz
          · rw [if_neg z] at hz ⊢; exact key _ _ (by decide) rfl hz
        · rw [if_neg k3] at hz ⊢
          by_cases k9 : kd b n (sT S) = 9
          · rw [if_pos k9] at hz ⊢; exact key _ _ (by decide) rfl hz
          · rw [if_neg k9] at hz ⊢
            obtain ⟨a1, a2, a3, a4⟩ := lwQ_far (b := b) (n := n) ht hg
            by_cases z : (lwQ b n (sT S)).1 = 0
            · rw [if_pos z]; exact ⟨a1, a2⟩
            · rw [if_neg z] at hz; exact absurd hz z
theorem rd_1 {b : Nat → Nat} {n : Nat} : ∀ (f : Nat) (S : ps), PV S → PW S → 402 ≤ f + sT S → sT S ≤ 400 → gdT b n (sT S) → (rdS b n f S).1 ≤ 2
  | 0, S, _, _, h, h2, _ => by omega
  | f + 1, S, hV, hW, h, h2, h3 => by
    obtain ⟨a1, a2, a3⟩ := st_ok2 (b := b) (n := n) hV hW h2 h3
    rw [rdS]
    split
    · exact Nat.zero_le _
    · split
      · rename_i z
        obtain ⟨b1, b2, b3⟩ := a3 z
        by_cases y : sT (stX b n S).2.2 ≤ 400 ∧ gdT b n (sT (stX b n S).2.2)
        · exact rd_1 f _ b1 b2 (by omega) y.1 y.2
        · exact absurd (st_far2 hV hW h2 h3 z) y
      · exact a1
theorem rd_b {b : Nat → Nat} {n : Nat} {S : ps} (hV : PV S) (hW : PW S) (f : Nat) (h : 402 ≤ f + sT S) (h2 : sT S ≤ 400) (h3 : gdT b n (sT S)) (h5 : lE S := by exact Nat.zero_le _) : (rdS b n f S).1 ≤ 5 ∧ (sE (rdS b n f S).2.2).1 ≤ 5 := ⟨by have := rd_1 f S hV hW h h2 h3; omega, rd_5 f S h5⟩
set_option maxHeartbeats 4000000 in
theorem c_X10_read {d Lx t rt : Nat} {I : Nat → Nat → Int32} {G : Nat → Nat → Int64} {Q : ab_Q} {s : gs} {xs : Nat → Int32} (hC : CI t I s) (hCW : CW G) (hs : SP xs I) (hq : ∀ t2 rt2 I2 G2, (∀ q, 55 ≤ q → I2 q = I q) → (∀ q, q = 35 ∨ 55 ≤ q → G2 q = G q) → CI t2 I2 (tRead s).2 → Q (some (.int (tRead s).1)) (hp Lx t2 rt2 t2 I2 G2)) : ab_call ab_MT (d + 22) 139 [.ref 0] (hp Lx t rt t I G) 0 0 Q := by
  obtain ⟨hT, hD, hS, hA, hK, hW, hB, hP⟩ := id hC
  have hu := hT.1
  refine wx_in (M := mX10_read) rfl rfl rfl (Nat.le_of_ble_eq_true rfl) ?_
  refine wx_aload_n rfl (e := 1) rfl rfl ?_
  refine wx_getr rfl (e := 4) rfl rfl rfl ?_
  refine wx_aload_n rfl (e := 5) rfl rfl ?_
  refine wx_getr rfl (e := 8) rfl rfl rfl ?_
  refine wx_aload_n rfl (e := 9) rfl rfl ?_
  refine wx_getr rfl (e := 12) rfl rfl rfl ?_
  refine wx_cv2 (mc := 0) (ms := 0) rfl (e := 15) rfl rfl (Nat.le_of_ble_eq_true rfl) ⟨by decide, by decide⟩ ?_
  refine c_X4_readInto (o := 17 - t) (by omega) hB hCW hs (fun z0 I2 G2 f2 g6 => ?_) (fun z0 z1 I2 G2 f2 g6 => ?_) (fun z0 z1 I2 G2 f2 g6 hfin => ?_)
  · have hr2 : (rdS (bt (gB s).1) (gB s).2 402 ps0).1 ≤ 5 := (rd_b (V_0.1) (V_0.2) 402 (by show 402 ≤ 402 + 0; omega) (Nat.zero_le _) (fun j hj => absurd hj (Nat.not_lt_zero _))).1
    refine wx_istore_n (L2 := [_, _, _]) rfl (e := 16) rfl (by decide) rfl ?_
    refine wx_aload_n rfl (e := 17) rfl rfl ?_
    refine wx_getr rfl (e := 20) rfl rfl rfl ?_
    refine wx_iconst (v := (nI 0)) rfl (e := 21) rfl (by decide) ?_
    refine wx_cv1 (mc := 0) (ms := 0) rfl (e := 24) rfl rfl (Nat.le_of_ble_eq_true rfl) ⟨by decide, by decide⟩ ?_
    have T2 : TP I2 (gB s).1 (gB s).2 := hB.kept (f2.1 31 (by decide) (by decide) (by decide) (by decide) (by omega)) (f2.1 32 (by decide) (by decide) (by decide) (by decide) (by omega))
    refine c_X6_cutTo T2 (Nat.zero_le _) (fun I3 f3 T3 => ?_)
    refine wx_iload_n rfl (e := 25) rfl rfl ?_
    refine wn_if_ne rfl (e := 28) rfl (by omega) (fun c_25 => ?_) (fun c_25 => absurd c_25 (by omega))
    refine wx_iload_n rfl (e := 51) rfl rfl ?_
    refine wx_iret rfl rfl rfl ⟨by decide, by decide⟩ ?_
    unfold tRead at hq
    rw [if_neg z0] at hq
    have e : ∀ q, q ≠ 33 → q ≠ 34 → q ≠ 36 → q ≠ 37 → ¬ (17 - t ≤ q ∧ q ≤ 17 - t + 14) → q ≠ 31 → I3 q = I q := fun q y1 y2 y3 y4 y5 y6 => (f3 q y6).trans (f2.1 q y1 y2 y3 y4 y5)
    refine hq t (17 - t) I3 G2 (fun q h => e q (by omega) (by omega) (by omega) (by omega) (by omega) (by omega)) (fun q h => f2.2 q (by omega) (by omega) (by omega)) ⟨hT.kept (fun c h1 h2 _ _ => e c (by omega) (by omega) (by omega) (by omega) (by omega) (by omega)), by rw [e t (by omega) (by omega) (by omega) (by omega) (by omega) (by omega)]; exact hD, hS.kept (e 40 (by omega) (by omega) (by omega) (by omega) (by omega) (by omega)), hA.kept (e 48 (by omega) (by omega) (by omega) (by omega) (by omega) (by omega)) (e 49 (by omega) (by omega) (by omega) (by omega) (by omega) (by omega)), hK.kept (e 50 (by omega) (by omega) (by omega) (by omega) (by omega) (by omega)) (e 51 (by omega) (by omega) (by omega) (by omega) (by omega) (by omega)), hW.kept (e 52 (by omega) (by omega) (by omega) (by omega) (by omega) (by omega)) (e 53 (by omega) (by omega) (by omega) (by omega) (by omega) (by omega)) (e 54 (by omega) (by omega) (by omega) (by omega) (by omega) (by omega)), T3, by rw [f3 33 (by decide)]; exact g6⟩
  · have hr2 : (sE (rdS (bt (gB s).1) (gB s).2 402 ps0).2.2).1 ≤ 5 := (rd_b (V_0.1) (V_0.2) 402 (by show 402 ≤ 402 + 0; omega) (Nat.zero_le _) (fun j hj => absurd hj (Nat.not_lt_zero _))).2
    refine wx_istore_n (L2 := [_, _, _]) rfl (e := 16) rfl (by decide) rfl ?_
    refine wx_aload_n rfl (e := 17) rfl rfl ?_
    refine wx_getr rfl (e := 20) rfl rfl rfl ?_
    refine wx_iconst (v := (nI 0)) rfl (e := 21) rfl (by decide) ?_
    refine wx_cv1 (mc := 0) (ms := 0) rfl (e := 24) rfl rfl (Nat.le_of_ble_eq_true rfl) ⟨by decide, by decide⟩ ?_
    have T2 : TP I2 (gB s).1 (gB s).2 := hB.kept (f2.1 31 (by decide) (by decide) (by decide) (by decide) (by omega)) (f2.1 32 (by decide) (by decide) (by decide) (by decide) (by omega))
    refine c_X6_cutTo T2 (Nat.zero_le _) (fun I3 f3 T3 => ?_)
    refine wx_iload_n rfl (e := 25) rfl rfl ?_
    refine wn_if_ne rfl (e := 28) rfl (by omega) (fun c_25 => ?_) (fun c_25 => absurd c_25 (by omega))
    refine wx_iload_n rfl (e := 51) rfl rfl ?_
    refine wx_iret rfl rfl rfl ⟨by decide, by decide⟩ ?_
    unfold tRead at hq
    rw [if_pos z0, if_neg z1] at hq
    have e : ∀ q, q ≠ 33 → q ≠ 34 → q ≠ 36 → q ≠ 37 → ¬ (17 - t ≤ q ∧ q ≤ 17 - t + 14) → q ≠ 31 → I3 q = I q := fun q y1 y2 y3 y4 y5 y6 => (f3 q y6).trans (f2.1 q y1 y2 y3 y4 y5)
    refine hq t (17 - t) I3 G2 (fun q h => e q (by omega) (by omega) (by omega) (by omega) (by omega) (by omega)) (fun q h => f2.2 q (by omega) (by omega) (by omega)) ⟨hT.kept (fun c h1 h2 _ _ => e c (by omega) (by omega) (by omega) (by omega) (by omega) (by omega)), by rw [e t (by omega) (by omega) (by omega) (by omega) (by omega) (by omega)]; exact hD, hS.kept (e 40 (by omega) (by omega) (by omega) (by omega) (by omega) (by omega)), hA.kept (e 48 (by omega) (by omega) (by omega) (by omega) (by omega) (by omega)) (e 49 (by omega) (by omega) (by omega) (by omega) (by omega) (by omega)), hK.kept (e 50 (by omega) (by omega) (by omega) (by omega) (by omega) (by omega)) (e 51 (by omega) (by omega) (by omega) (by omega) (by omega) (by omega)), hW.kept (e 52 (by omega) (by omega) (by omega) (by omega) (by omega) (by omega)) (e 53 (by omega) (by omega) (by omega) (by omega) (by omega) (by omega)) (e 54 (by omega) (by omega) (by omega) (by omega) (by omega) (by omega)), T3, by rw [f3 33 (by decide)]; exact g6⟩
  · obtain ⟨V, W, q3, q4, xw, q5⟩ := hfin
    refine wx_istore_n (L2 := [_, _, _]) rfl (e := 16) rfl (by decide) rfl ?_
    refine wx_aload_n rfl (e := 17) rfl rfl ?_
    refine wx_getr rfl (e := 20) rfl rfl rfl ?_
    refine wx_iconst (v := (nI 0)) rfl (e := 21) rfl (by decide) ?_
    refine wx_cv1 (mc := 0) (ms := 0) rfl (e := 24) rfl rfl (Nat.le_of_ble_eq_true rfl) ⟨by decide, by decide⟩ ?_
    have T2 : TP I2 (gB s).1 (gB s).2 := hB.kept (f2.1 31 (by decide) (by decide) (by decide) (by decide) (by omega)) (f2.1 32 (by decide) (by decide) (by decide) (by decide) (by omega))
    refine c_X6_cutTo T2 (Nat.zero_le _) (fun I3 f3 T3 => ?_)
    refine wx_iload_n rfl (e := 25) rfl rfl ?_
    refine wn_if_ne rfl (e := 28) rfl (by omega) (fun c_25 => absurd c_25 (by omega)) (fun c_25 => ?_)
    refine wx_aload_n rfl (e := 29) rfl rfl ?_
    refine wx_getr rfl (e := 32) rfl rfl rfl ?_
    refine wx_astore_n (L2 := [_, _, _]) rfl (e := 33) rfl ⟨by omega, by decide⟩ rfl ?_
    refine wx_aload_n rfl (e := 34) rfl rfl ?_
    refine wx_aload_n rfl (e := 35) rfl rfl ?_
    refine wx_getr rfl (e := 38) rfl rfl rfl ?_
    refine wx_putr rfl (e := 41) rfl rfl (by decide) (by omega) ?_
    refine wx_aload_n rfl (e := 42) rfl rfl ?_
    refine wx_aload_n rfl (e := 43) rfl rfl ?_
    refine wx_putr rfl (e := 46) rfl rfl (by decide) (by omega) ?_
    rw [pf_tx hu]
    refine wx_aload_n rfl (e := 47) rfl rfl ?_
    refine wx_cv0 (mc := 0) (ms := 0) rfl (e := 50) rfl rfl (Nat.le_of_ble_eq_true rfl) ⟨by decide, by decide⟩ ?_
    obtain ⟨hA1, x, hx, ex, -⟩ := id hA
    refine c_X10_startText (t := 17 - t) (C := sC (rdS (bt (gB s).1) (gB s).2 402 ps0).2.2) (R := sR (rdS (bt (gB s).1) (gB s).2 402 ps0).2.2) (by omega) (by rw [f3 _ (by omega)]; exact q3.1.1) (by rw [f3 _ (by omega)]; exact q3.1.2.2.1) V.1 V.2.2.1 hx (by rw [f3 48 (by decide), f2.1 48 (by decide) (by decide) (by decide) (by decide) (by omega)]; exact ex) (fun I4 f4 S4 A4 P4 D4 => ?_)
    refine wx_iload_n rfl (e := 51) rfl rfl ?_
    refine wx_iret rfl rfl rfl ⟨by decide, by decide⟩ ?_
    unfold tRead at hq
    rw [if_pos z0, if_pos z1] at hq
    have e : ∀ q, q ≠ 33 → q ≠ 34 → q ≠ 36 → q ≠ 37 → ¬ (17 - t ≤ q ∧ q ≤ 17 - t + 14) → q ≠ 31 → I3 q = I q := fun q y1 y2 y3 y4 y5 y6 => (f3 q y6).trans (f2.1 q y1 y2 y3 y4 y5)
    have e4 : ∀ q, q ≠ 40 → q ≠ 48 → q ≠ 51 → q ≠ 52 → I4 q = I3 q := f4
    have e5 : ∀ q, 17 - t ≤ q → q ≤ 17 - t + 14 → I4 q = I2 q := fun q y1 y2 => (e4 q (by omega) (by omega) (by omega) (by omega)).trans (f3 q (by omega))
    obtain ⟨⟨b1, b2, b3, b4, b5, b6⟩, b7, b8, b9, b10⟩ := q3
    have b7 : ∀ c, c < sC (rdS (bt (gB s).1) (gB s).2 402 ps0).2.2 → I2 (17 - t + 9) c = sW (rdS (bt (gB s).1) (gB s).2 402 ps0).2.2 c := b7
    have b9 : ∀ c, c < sR (rdS (bt (gB s).1) (gB s).2 402 ps0).2.2 → I2 (17 - t + 11) c = sQ (rdS (bt (gB s).1) (gB s).2 402 ps0).2.2 c := b9
    obtain ⟨w1, w2, w3⟩ := q5.2
    refine hq (17 - t) (17 - t) I4 G2 (fun q h => (e4 q (by omega) (by omega) (by omega) (by omega)).trans (e q (by omega) (by omega) (by omega) (by omega) (by omega) (by omega))) (fun q h => f2.2 q (by omega) (by omega) (by omega)) ⟨⟨by omega, tok_S V W z1, ?_, ?_, ?_, ?_, ?_, ?_, ?_, xw, (fun k => kS (I2 (17 - t + 4) k)), ⟨w1, ?_, fun k hk => ?_, ?_⟩, fun k hk vs => ?_⟩, ?_, ?_, A4, P4, D4, ?_, ?_⟩
    · rw [e5 _ (by omega) (by omega)]; exact b1
    · rw [e5 _ (by omega) (by omega)]; exact b3
    · rw [e5 _ (by omega) (by omega)]; exact b4
    · rw [e5 _ (by omega) (by omega)]; exact b5
    · rw [e5 _ (by omega) (by omega)]; exact b6
    · intro a c ha hc; rw [e5 _ (by omega) (by omega)]; exact q4 a c ha hc
    · intro a ha
      have ha : a < sP (rdS (bt (gB s).1) (gB s).2 402 ps0).2.2 := ha
      obtain ⟨y1, y2, y3⟩ := b10 a ha
      rw [e5 _ (by omega) (by omega), e5 _ (by omega) (by omega), e5 _ (by omega) (by omega)]
      refine ⟨y1.trans ?_, y2, y3⟩
      obtain ⟨c, x1, x2⟩ := (W.2.1 z1).2.2.2 a ha
      show (sH (rdS (bt (gB s).1) (gB s).2 402 ps0).2.2).1 a = nI (kS ((sH (rdS (bt (gB s).1) (gB s).2 402 ps0).2.2).1 a))
      rw [x2, kS_n (by have := V.1; omega)]
    · rw [e5 _ (by omega) (by omega)]; exact q5.1
    · obtain ⟨sk, x1, x2, x3⟩ := w3 k hk; rw [e5 _ (by omega) (by omega)]; show kS (I2 (17 - t + 4) k) ≤ 420 ∧ I2 (17 - t + 4) k = nI (kS (I2 (17 - t + 4) k)); rw [x2, kS_n (by omega)]; exact ⟨by omega, rfl⟩
    · rw [e5 _ (by omega) (by omega), e5 _ (by omega) (by omega)]; exact w2
    · obtain ⟨sk, x1, x2, x3⟩ := w3 k hk
      show cev xw _ _ vs 421 (kS (I2 (17 - t + 4) k)) 0 _ = _
      rw [x2, kS_n (by omega), e5 _ (by omega) (by omega), e5 _ (by omega) (by omega)]
      exact x3 _ _ (fun i _ => ⟨rfl, rfl⟩) xw (Nat.le_refl _) w1 vs
    · rw [e5 _ (by omega) (by omega)]; exact b2
    · rw [f3 (17 - t + 9) (by omega), f3 (17 - t + 11) (by omega), bgS_cg b7 b9] at S4; exact S4
    · exact T3.kept (e4 31 (by decide) (by decide) (by decide) (by decide)) (e4 32 (by decide) (by decide) (by decide) (by decide))
    · rw [e4 33 (by decide) (by decide) (by decide) (by decide), f3 33 (by decide)]; exact g6

/-! the model: a law read -/
/-- but for where it reads, steps from a0 to h, branches from r0 to rh -/
def frq (a0 h r0 rh : Nat) (I I2 : Nat → Nat → Int32) : Prop := (∀ q, q ≠ 55 → ¬ (79 ≤ q ∧ q ≤ 86) → I2 q = I q) ∧ (∀ k, ¬ ((11 ≤ k ∧ k ≤ 14) ∨ k = 37 ∨ k = 43 ∨ k = 47) → I2 55 k = I 55 k) ∧ (∀ i, i < a0 ∨ h ≤ i → I2 84 i = I 84 i ∧ I2 85 i = I 85 i) ∧ ∀ i, i < r0 ∨ rh ≤ i → ∀ q, 79 ≤ q → q ≤ 83 → I2 q i = I q i
theorem frq.rf {a0 h r0 rh : Nat} {I : Nat → Nat → Int32} : frq a0 h r0 rh I I := ⟨fun _ _ _ => rfl, fun _ _ => rfl, fun _ _ => ⟨rfl, rfl⟩, fun _ _ _ _ _ => rfl⟩
theorem frq.tr {a0 h r0 rh : Nat} {I I2 I3 : Nat → Nat → Int32} (h1 : frq a0 h r0 rh I I2) (h2 : frq a0 h r0 rh I2 I3) : frq a0 h r0 rh I I3 := ⟨fun q a b => (h2.1 q a b).trans (h1.1 q a b), fun k a => (h2.2.1 k a).trans (h1.2.1 k a), fun i hi => ⟨(h2.2.2.1 i hi).1.trans (h1.2.2.1 i hi).1, (h2.2.2.1 i hi).2.trans (h1.2.2.1 i hi).2⟩, fun i hi q a b => (h2.2.2.2 i hi q a b).trans (h1.2.2.2 i hi q a b)⟩
theorem frx.q {a0 a1 h r0 rh : Nat} {I I2 : Nat → Nat → Int32} (f : frx a1 h I I2) (ha : a0 ≤ a1) : frq a0 h r0 rh I I2 := ⟨fun q a b => f.1 q a (by omega) (by omega) (by omega), fun k hk => f.2.1 k (by omega), fun i hi => f.2.2 i (by omega), fun i _ q a b => by rw [f.1 q (by omega) (by omega) (by omega) (by omega)]⟩
theorem frq.b {a0 h r0 rh q k : Nat} {I : Nat → Nat → Int32} {v : Int32} (h1 : 79 ≤ q ∧ q ≤ 83) (h2 : r0 ≤ k ∧ k < rh) : frq a0 h r0 rh I (wr I q k v) := ⟨fun p _ hp => wr_other _ _ _ _ (by omega), fun j _ => by rw [wr_other _ _ _ _ (by omega)], fun i _ => ⟨by rw [wr_other _ _ _ _ (by omega)], by rw [wr_other _ _ _ _ (by omega)]⟩, fun i hi p _ _ => by
  by_cases c : p = q
  · subst c; exact wr_ne _ _ _ _ (by omega)
  · rw [wr_other _ _ _ _ c]⟩
theorem frq.w {a0 h r0 rh k : Nat} {I : Nat → Nat → Int32} {v : Int32} (hk : (11 ≤ k ∧ k ≤ 14) ∨ k = 37 ∨ k = 43 ∨ k = 47) : frq a0 h r0 rh I (wr I 55 k v) := ⟨fun q a _ => wr_other _ _ _ _ a, fun j hj => wr_ne _ _ _ _ (by omega), fun i _ => ⟨by rw [wr_other _ _ _ _ (by decide)], by rw [wr_other _ _ _ _ (by decide)]⟩, fun i _ q _ _ => by rw [wr_other _ _ _ _ (by omega)]⟩
/-- tests laid -/
def MBp (I : Nat → Nat → Int32) (A X : Nat) : Nat → Nat → List (rpn × rpn × rpn) → Prop
  | b, e, [] => b = e
  | b, e, q :: ts => b < 260 ∧ I 79 b = nI 1 ∧ (∃ i j m n, I 80 b = nI i ∧ I 81 b = nI j ∧ I 82 b = nI m ∧ I 83 b = nI n ∧ i ≤ 840 ∧ j ≤ 840 ∧ m ≤ 840 ∧ (A ≤ i ∧ n ≤ X) ∧ MC I i j q.1 ∧ MC I j m q.2.1 ∧ MC I m n q.2.2 ∧ rwf q.1 0 ∧ rwf q.2.1 0 ∧ rwf q.2.2 0) ∧ MBp I A X (b + 1) e ts
theorem MBp.le {I : Nat → Nat → Int32} {A X : Nat} : ∀ {ts : List (rpn × rpn × rpn)} {b e : Nat}, MBp I A X b e ts → b ≤ e
  | [], b, e, h => by have h : b = e := h; omega
  | q :: ts, b, e, h => by have := h.2.2.2.le; omega
theorem MC.b {I : Nat → Nat → Int32} {p : rpn} {i j : Nat} (h : MC I i j p) : i ≤ j := by have := MC.len p i j h; omega
theorem MBp.kept {I I2 : Nat → Nat → Int32} {A X Y : Nat} (hXY : X ≤ Y) : ∀ {ts : List (rpn × rpn × rpn)} {b e : Nat}, (∀ i, b ≤ i → i < e → ∀ q, 79 ≤ q → q ≤ 83 → I2 q i = I q i) → (∀ i, A ≤ i → i < X → I2 84 i = I 84 i ∧ I2 85 i = I 85 i) → MBp I A X b e ts → MBp I2 A Y b e ts
  | [], b, e, _, _, h => h
  | q :: ts, b, e, hk, hc, h => by
    have hle := h.2.2.2.le
    obtain ⟨h1, h2, ⟨i, j, m, n, g1, g2, g3, g4, g5, g6, g7, g8, ga, gb, gc, gd, ge, gf⟩, hr⟩ := h
    have e1 := ga.b
    have e2 := gb.b
    have e3 := gc.b
    have l1 := MC.len _ _ _ ga
    have l2 := MC.len _ _ _ gb
    have l3 := MC.len _ _ _ gc
    refine ⟨h1, (hk b (Nat.le_refl _) (by omega) 79 (by decide) (by decide)).trans h2, ⟨i, j, m, n, (hk b (Nat.le_refl _) (by omega) 80 (by decide) (by decide)).trans g1, (hk b (Nat.le_refl _) (by omega) 81 (by decide) (by decide)).trans g2, (hk b (Nat.le_refl _) (by omega) 82 (by decide) (by decide)).trans g3, (hk b (Nat.le_refl _) (by omega) 83 (by decide) (by decide)).trans g4, g5, g6, g7, by omega, ga.kept2 _ _ _ (fun k h0 h2 => hc k (by omega) (by omega)), gb.kept2 _ _ _ (fun k h0 h2 => hc k (by omega) (by omega)), gc.kept2 _ _ _ (fun k h0 h2 => hc k (by omega) (by omega)), gd, ge, gf⟩, hr.kept hXY (fun i hi => hk i (by omega)) hc⟩
theorem MBp.ap {I : Nat → Nat → Int32} {A X : Nat} {q : rpn × rpn × rpn} : ∀ {ts : List (rpn × rpn × rpn)} {b e : Nat}, MBp I A X b e ts → MBp I A X e (e + 1) [q] → MBp I A X b (e + 1) (ts ++ [q])
  | [], b, e, h, h2 => by have h : b = e := h; subst h; exact h2
  | x :: ts, b, e, h, h2 => ⟨h.1, h.2.1, h.2.2.1, h.2.2.2.ap h2⟩
theorem MBp.end {I : Nat → Nat → Int32} {A X : Nat} {w : rpn} : ∀ {ts : List (rpn × rpn × rpn)} {b e : Nat}, MBp I A X b e ts → e + 1 ≤ 260 → I 79 e = nI 0 → (∃ i j, I 82 e = nI i ∧ I 83 e = nI j ∧ i ≤ 840 ∧ MC I i j w ∧ rwf w 0) → MB I w b (e + 1) ts
  | [], b, e, h, h1, h2, h3 => by have h : b = e := h; subst h; exact ⟨rfl, h1, h2, h3⟩
  | q :: ts, b, e, h, h1, h2, h3 => by
    obtain ⟨k1, k2, ⟨i, j, m, n, g1, g2, g3, g4, g5, g6, g7, g8, ga, gb, gc, gd, ge, gf⟩, hr⟩ := h
    exact ⟨k1, k2, ⟨i, j, m, n, g1, g2, g3, g4, g5, g6, g7, ga, gb, gc, gd, ge, gf⟩, hr.end h1 h2 h3⟩
theorem wr_j {I : Nat → Nat → Int32} {c k q j : Nat} {v : Int32} (h : j ≠ k) : wr I c k v q j = I q j := by
  rw [wr_at]
  by_cases z : q = c
  · rw [if_pos z, if_neg h, z]
  · rw [if_neg z]
theorem MS.q {b : Nat → Nat} {n t : Nat} {I I2 : Nat → Nat → Int32} {G : Nat → Nat → Int64} (h : MS b n t I G) (h1 : ∀ q, q = 58 ∨ q = 59 ∨ q = 60 → I2 q = I q) (h2 : ∀ k, k = 10 ∨ k = 11 ∨ k = 13 → I2 55 k = I 55 k) : MS b n t I2 G := h.k (h2 10 (by omega)) (h1 58 (by omega)) (h1 59 (by omega)) (h1 60 (by omega)) (h2 11 (by omega)) (h2 13 (by omega))
theorem c_expr0 {d Lx tt rt u : Nat} {I : Nat → Nat → Int32} {G : Nat → Nat → Int64} {Q : ab_Q} {e : Nat} (he : ¬ e = 0) (he2 : e ≤ 5) (h13 : I 55 13 = nI e) (hq : Q none (hp Lx tt rt u (wr I 55 47 (nI 0)) G)) : ab_call ab_MT (d + 5) 215 [.ref 55] (hp Lx tt rt u I G) 0 0 Q := by
  refine wx_in (M := mX11_expression) rfl rfl rfl (Nat.le_of_ble_eq_true rfl) ?_
  refine wx_aload_n rfl (e := 1) rfl rfl ?_
  refine wx_iconst (v := (nI 0)) rfl (e := 2) rfl (by decide) ?_
  refine wx_puti rfl (e := 5) rfl rfl (by decide) ?_
  refine wx_aload_n rfl (e := 6) rfl rfl ?_
  refine wx_geti rfl (e := 9) rfl rfl ?_
  refine wx_istore_n (L2 := [_, _, _]) rfl (e := 10) rfl (by decide) rfl ?_
  refine wx_iconst (v := (nI 1)) rfl (e := 11) rfl (by decide) ?_
  refine wx_istore_n (L2 := [_, _, _]) rfl (e := 12) rfl (by decide) rfl ?_
  refine wx_iload_n rfl (e := 13) rfl rfl ?_
  refine wn_if_eq rfl (e := 16) rfl (by omega) (fun c_13 => absurd c_13 (by omega)) (fun c_13 => ?_)
  refine wx_aload_n rfl (e := 17) rfl rfl ?_
  refine wx_geti rfl (e := 20) rfl rfl ?_
  rw [show wr I 55 47 (nI 0) 55 13 = nI e from (wr_ne _ _ _ _ (by decide)).trans h13]
  refine wn_if_ne rfl (e := 23) rfl (by omega) (fun c_20 => ?_) (fun c_20 => absurd c_20 (by omega))
  refine wx_ret rfl rfl ⟨by decide, by decide⟩ ?_
  exact hq
set_option maxHeartbeats 2000000 in
theorem c_term {d Lx tt rt u : Nat} {I : Nat → Nat → Int32} {G : Nat → Nat → Int64} {Q : ab_Q} {b : Nat → Nat} {n t a0 B br r0 rh : Nat} (hB840 : B + 420 ≤ 840) (hM : MS b n t I G) (h12 : I 55 12 = nI 0) (h43 : I 55 43 = nI a0) (hx : a0 ≤ B + t) (hbr : I 55 37 = nI br) (hr0 : r0 ≤ br) (hrh : br < rh) (hr2 : rh ≤ 260) (hy : (sumS b n t).1 = 0 → ∀ I2, frq a0 (B + 420) r0 rh I I2 → MS b n (sumS b n t).2.1 I2 G → MC I2 a0 (a0 + (sumS b n t).2.2.length) (sumS b n t).2.2 → I2 82 br = nI a0 → I2 83 br = nI (a0 + (sumS b n t).2.2.length) → I2 55 37 = nI (br + 1) → I2 55 43 = nI (a0 + (sumS b n t).2.2.length) → I2 55 12 = nI 0 → (∀ q, 79 ≤ q → q ≤ 81 → I2 q = I q) → Q none (hp Lx tt rt u I2 G)) (hn : ¬ (sumS b n t).1 = 0 → ∀ I2, frq a0 (B + 420) r0 rh I I2 → FM b n (sumS b n t).1 (sumS b n t).2.1 I2 → I2 55 37 = nI (br + 1) → Q none (hp Lx tt rt u I2 G)) : ab_call ab_MT (d + 6) 212 [.ref 55] (hp Lx tt rt u I G) 0 0 Q := by
  refine wx_in (M := mX11_term) rfl rfl rfl (Nat.le_of_ble_eq_true rfl) ?_
  refine wx_aload_n rfl (e := 1) rfl rfl ?_
  refine wx_getr rfl (e := 4) rfl rfl rfl ?_
  refine wx_aload_n rfl (e := 5) rfl rfl ?_
  refine wx_geti rfl (e := 8) rfl rfl ?_
  rw [hbr]
  refine wx_aload_n rfl (e := 9) rfl rfl ?_
  refine wx_geti rfl (e := 12) rfl rfl ?_
  rw [h43]
  refine wn_iast rfl (e := 13) rfl rfl (by decide) (by omega) (by decide) ?_
  refine wx_aload_n rfl (e := 14) rfl rfl ?_
  refine wx_geti rfl (e := 17) rfl rfl ?_
  rw [wr_other _ _ _ _ (by decide), hM.2.2.2.2]
  refine wn_if_ne rfl (e := 20) rfl (by omega) (fun c_17 => absurd c_17 (by omega)) (fun c_17 => ?_)
  refine wx_aload_n rfl (e := 21) rfl rfl ?_
  refine wx_cv0 (mc := 0) (ms := 0) rfl (e := 24) rfl rfl (Nat.le_of_ble_eq_true rfl) ⟨by decide, by decide⟩ ?_
  have M0 : MS b n t (wr I 82 br (nI a0)) G := hM.q (fun q h => wr_other _ _ _ _ (by omega)) (fun k h => by rw [wr_other _ _ _ _ (by omega)])
  refine c_expr hB840 M0 (by rw [wr_other _ _ _ _ (by decide)]; exact h12) (by rw [wr_other _ _ _ _ (by decide)]; exact h43) hx (fun z1 I2 f2 M2 L2 o2 => ?_) (fun z1 I2 f2 F2 => ?_)
  · refine wx_aload_n rfl (e := 25) rfl rfl ?_
    refine wx_getr rfl (e := 28) rfl rfl rfl ?_
    refine wx_aload_n rfl (e := 29) rfl rfl ?_
    refine wx_geti rfl (e := 32) rfl rfl ?_
    rw [f2.2.1 37 (by omega), wr_other _ _ _ _ (by decide), hbr]
    refine wx_aload_n rfl (e := 33) rfl rfl ?_
    refine wx_geti rfl (e := 36) rfl rfl ?_
    rw [L2.1]
    refine wn_iast rfl (e := 37) rfl rfl (by decide) (by omega) (by decide) ?_
    refine wx_aload_n rfl (e := 38) rfl rfl ?_
    refine wx_dup rfl (e := 39) rfl rfl ?_
    refine wx_geti rfl (e := 42) rfl rfl ?_
    rw [wr_other _ _ _ _ (by decide), f2.2.1 37 (by omega), wr_other _ _ _ _ (by decide), hbr]
    refine wx_iconst (v := (nI 1)) rfl (e := 43) rfl (by decide) ?_
    refine wn_iadd rfl (e := 44) rfl ?_
    refine wx_puti rfl (e := 47) rfl rfl (by decide) ?_
    refine wx_ret rfl rfl ⟨by decide, by decide⟩ ?_
    refine hy z1 (wr (wr I2 83 br (nI (a0 + (sumS b n t).2.2.length))) 55 37 (nI (br + 1))) ((frq.b (by decide) (by omega)).tr ((frx.q f2 (by omega)).tr ((frq.b (by decide) (by omega)).tr (frq.w (by omega))))) (M2.q (fun q h => by rw [wr_other _ _ _ _ (by omega), wr_other _ _ _ _ (by omega)]) (fun k h => by rw [wr_ne _ _ _ _ (by omega), wr_other _ _ _ _ (by omega)])) (L2.2.kept2 _ _ _ (fun k _ _ => ⟨by rw [wr_other _ _ _ _ (by decide), wr_other _ _ _ _ (by decide)], by rw [wr_other _ _ _ _ (by decide), wr_other _ _ _ _ (by decide)]⟩)) ?_ ?_ (wr_eq _ _ _ _) ?_ ?_ (fun q y1 y2 => by rw [wr_other _ _ _ _ (by omega), wr_other _ _ _ _ (by omega), f2.1 q (by omega) (by omega) (by omega) (by omega), wr_other _ _ _ _ (by omega)])
    · rw [wr_other _ _ _ _ (by decide), wr_other _ _ _ _ (by decide), f2.1 82 (by decide) (by decide) (by decide) (by decide), wr_eq]
    · rw [wr_other _ _ _ _ (by decide), wr_eq]
    · rw [wr_ne _ _ _ _ (by decide), wr_other _ _ _ _ (by decide)]; exact L2.1
    · rw [wr_ne _ _ _ _ (by decide), wr_other _ _ _ _ (by decide)]; exact o2
  · refine wx_aload_n rfl (e := 25) rfl rfl ?_
    refine wx_getr rfl (e := 28) rfl rfl rfl ?_
    refine wx_aload_n rfl (e := 29) rfl rfl ?_
    refine wx_geti rfl (e := 32) rfl rfl ?_
    rw [f2.2.1 37 (by omega), wr_other _ _ _ _ (by decide), hbr]
    refine wx_aload_n rfl (e := 33) rfl rfl ?_
    refine wx_geti rfl (e := 36) rfl rfl ?_
    skip
    refine wn_iast rfl (e := 37) rfl rfl (by decide) (by omega) (by decide) ?_
    refine wx_aload_n rfl (e := 38) rfl rfl ?_
    refine wx_dup rfl (e := 39) rfl rfl ?_
    refine wx_geti rfl (e := 42) rfl rfl ?_
    rw [wr_other _ _ _ _ (by decide), f2.2.1 37 (by omega), wr_other _ _ _ _ (by decide), hbr]
    refine wx_iconst (v := (nI 1)) rfl (e := 43) rfl (by decide) ?_
    refine wn_iadd rfl (e := 44) rfl ?_
    refine wx_puti rfl (e := 47) rfl rfl (by decide) ?_
    refine wx_ret rfl rfl ⟨by decide, by decide⟩ ?_
    refine hn z1 _ ((frq.b (by decide) (by omega)).tr ((frx.q f2 (by omega)).tr ((frq.b (by decide) (by omega)).tr (frq.w (by omega))))) (F2.co (by rw [wr_ne _ _ _ _ (by decide), wr_other _ _ _ _ (by decide)]) (by rw [wr_ne _ _ _ _ (by decide), wr_other _ _ _ _ (by decide)])) (wr_eq _ _ _ _)
theorem c_term0 {d Lx tt rt u : Nat} {I : Nat → Nat → Int32} {G : Nat → Nat → Int64} {Q : ab_Q} {e : Nat} (he : ¬ e = 0) (he2 : e ≤ 5) (h13 : I 55 13 = nI e) {a0 h br r0 rh : Nat} (hbr : I 55 37 = nI br) (hr0 : r0 ≤ br) (hrh : br < rh) (hr2 : rh ≤ 260) (hq : ∀ I2, frq a0 h r0 rh I I2 → (∀ k, k ≠ 37 → I2 55 k = I 55 k) → I2 55 37 = nI (br + 1) → Q none (hp Lx tt rt u I2 G)) : ab_call ab_MT (d + 6) 212 [.ref 55] (hp Lx tt rt u I G) 0 0 Q := by
  refine wx_in (M := mX11_term) rfl rfl rfl (Nat.le_of_ble_eq_true rfl) ?_
  refine wx_aload_n rfl (e := 1) rfl rfl ?_
  refine wx_getr rfl (e := 4) rfl rfl rfl ?_
  refine wx_aload_n rfl (e := 5) rfl rfl ?_
  refine wx_geti rfl (e := 8) rfl rfl ?_
  rw [hbr]
  refine wx_aload_n rfl (e := 9) rfl rfl ?_
  refine wx_geti rfl (e := 12) rfl rfl ?_
  refine wn_iast rfl (e := 13) rfl rfl (by decide) (by omega) (by decide) ?_
  refine wx_aload_n rfl (e := 14) rfl rfl ?_
  refine wx_geti rfl (e := 17) rfl rfl ?_
  rw [wr_other _ _ _ _ (by decide), h13]
  refine wn_if_ne rfl (e := 20) rfl (by omega) (fun c_17 => ?_) (fun c_17 => absurd c_17 (by omega))
  refine wx_aload_n rfl (e := 25) rfl rfl ?_
  refine wx_getr rfl (e := 28) rfl rfl rfl ?_
  refine wx_aload_n rfl (e := 29) rfl rfl ?_
  refine wx_geti rfl (e := 32) rfl rfl ?_
  rw [wr_other _ _ _ _ (by decide), hbr]
  refine wx_aload_n rfl (e := 33) rfl rfl ?_
  refine wx_geti rfl (e := 36) rfl rfl ?_
  refine wn_iast rfl (e := 37) rfl rfl (by decide) (by omega) (by decide) ?_
  refine wx_aload_n rfl (e := 38) rfl rfl ?_
  refine wx_dup rfl (e := 39) rfl rfl ?_
  refine wx_geti rfl (e := 42) rfl rfl ?_
  rw [wr_other _ _ _ _ (by decide), wr_other _ _ _ _ (by decide), hbr]
  refine wx_iconst (v := (nI 1)) rfl (e := 43) rfl (by decide) ?_
  refine wn_iadd rfl (e := 44) rfl ?_
  refine wx_puti rfl (e := 47) rfl rfl (by decide) ?_
  refine wx_ret rfl rfl ⟨by decide, by decide⟩ ?_
  exact hq _ ((frq.b (by decide) (by omega)).tr ((frq.b (by decide) (by omega)).tr (frq.w (by omega)))) (fun k h => by rw [wr_ne _ _ _ _ h, wr_other _ _ _ _ (by decide), wr_other _ _ _ _ (by decide)]) (wr_eq _ _ _ _)

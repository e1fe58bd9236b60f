/-! the model: tokens taken, faults -/
def vld (k : Nat) : Bool := decide (k < 28) || sgS k
theorem mk_inj : ∀ a, a < 62 → ∀ c, c < 62 → vld a = true → vld c = true → mk a = mk c → a = c := by decide +kernel
theorem kd_vld (b : Nat → Nat) (n t : Nat) : vld (kd b n t) = true := by
  unfold kd kdA vld
  split
  · rfl
  · split
    · split
      · rfl
      · rw [decide_eq_true (by have := wkd_le (lt_ b (stA b n t) (rn isLt b n (stA b n t) - stA b n t)); omega), Bool.true_or]
    · split
      · split <;> rfl
      · split
        · rename_i h; rw [h, Bool.or_true]
        · rfl
theorem mk_lt : ∀ a, a < 62 → mk a < 44 := by decide +kernel
theorem mk_eq {b : Nat → Nat} {n t κ : Nat} (h1 : κ < 62) (h2 : vld κ = true) : mk (kd b n t) = mk κ ↔ kd b n t = κ := ⟨fun h => mk_inj _ (kd62 b n t) _ h1 (kd_vld b n t) h2 h, fun h => by rw [h]⟩
def MK (b : Nat → Nat) (n : Nat) (I : Nat → Nat → Int32) (G : Nat → Nat → Int64) : Prop := ∃ m, CM b n I G m ∧ ∀ j, j ≤ 400 → gdT b n j → j < m
def MS (b : Nat → Nat) (n t : Nat) (I : Nat → Nat → Int32) (G : Nat → Nat → Int64) : Prop := MK b n I G ∧ t ≤ 400 ∧ gdT b n t ∧ I 55 11 = nI t ∧ I 55 13 = nI 0
def FM (b : Nat → Nat) (n k tok : Nat) (I : Nat → Nat → Int32) : Prop := ¬ k = 0 ∧ k ≤ 2 ∧ I 55 13 = nI k ∧ I 55 14 = nI (stA b n tok)
/-- what reading into the side sd may change -/
def own (sd q k : Nat) : Prop := (q = 55 ∧ ((11 ≤ k ∧ k ≤ 16) ∨ k = 20 ∨ k = 37 ∨ k = 43 ∨ k = 47)) ∨ q = 64 ∨ q = 86 ∨ ((q = 65 ∨ q = 67 ∨ q = 69 ∨ q = 72 ∨ q = 76) ∧ k = sd) ∨ ((q = 66 ∨ q = 70 ∨ q = 71) ∧ 6 * sd ≤ k ∧ k < 6 * sd + 6) ∨ (q = 68 ∧ 36 * sd ≤ k ∧ k < 36 * sd + 36) ∨ ((q = 73 ∨ q = 74 ∨ q = 75 ∨ q = 77 ∨ q = 78) ∧ 5 * sd ≤ k ∧ k < 5 * sd + 5) ∨ ((79 ≤ q ∧ q ≤ 83) ∧ 130 * sd ≤ k ∧ k < 130 * sd + 130) ∨ ((q = 84 ∨ q = 85) ∧ 420 * sd ≤ k ∧ k < 420 * sd + 420)
def fmp (sd : Nat) (I I2 : Nat → Nat → Int32) : Prop := ∀ q k, ¬ own sd q k → I2 q k = I q k
theorem fmp.rf {sd : Nat} {I : Nat → Nat → Int32} : fmp sd I I := fun _ _ _ => rfl
theorem fmp.tr {sd : Nat} {I I2 I3 : Nat → Nat → Int32} (h1 : fmp sd I I2) (h2 : fmp sd I2 I3) : fmp sd I I3 := fun q k h => (h2 q k h).trans (h1 q k h)
theorem fmp.w {sd q k : Nat} {I : Nat → Nat → Int32} {v : Int32} (h : own sd q k) : fmp sd I (wr I q k v) := fun q2 k2 h2 => by
  rw [wr_at]
  by_cases c : q2 = q
  · subst c
    rw [if_pos rfl]
    by_cases e : k2 = k
    · subst e; exact absurd h h2
    · rw [if_neg e]
  · rw [if_neg c]
theorem fmp.q {sd : Nat} {I I2 : Nat → Nat → Int32} (h : fmp sd I I2) {q : Nat} (hq : q < 55 ∨ (55 < q ∧ q < 64) ∨ 86 < q) : I2 q = I q := by
  funext k; exact h q k (by unfold own; omega)
theorem fmp.f {sd : Nat} {I I2 : Nat → Nat → Int32} (h : fmp sd I I2) {k : Nat} (hk : ¬ (((11 ≤ k ∧ k ≤ 16) ∨ k = 20 ∨ k = 37 ∨ k = 43 ∨ k = 47))) : I2 55 k = I 55 k := h 55 k (by unfold own; omega)
theorem CM.kept {b : Nat → Nat} {n m : Nat} {I I2 : Nat → Nat → Int32} {G G2 : Nat → Nat → Int64} (h : CM b n I G m) (h1 : I2 55 10 = I 55 10) (h2 : I2 58 = I 58) (h3 : I2 59 = I 59) (h4 : I2 60 = I 60) (h5 : G2 61 = G 61) : CM b n I2 G2 m := by
  unfold CM at *; rw [h1, h2, h3, h4, h5]; exact h
theorem MK.p {b : Nat → Nat} {n sd : Nat} {I I2 : Nat → Nat → Int32} {G G2 : Nat → Nat → Int64} (h : MK b n I G) (f : fmp sd I I2) (hG : G2 61 = G 61) : MK b n I2 G2 := by
  obtain ⟨m, h1, h2⟩ := h
  exact ⟨m, h1.kept (f.f (by omega)) (f.q (by omega)) (f.q (by omega)) (f.q (by omega)) hG, h2⟩
def nx (t : Nat) (I : Nat → Nat → Int32) : Nat → Nat → Int32 := wr I 55 11 (nI (t + 1))
def ft (k p : Nat) (I : Nat → Nat → Int32) : Nat → Nat → Int32 := wr (wr I 55 13 (nI k)) 55 14 (nI p)
theorem nx.p {sd t : Nat} {I : Nat → Nat → Int32} : fmp sd I (nx t I) := fmp.w (by unfold own; omega)
theorem ft.p {sd k p : Nat} {I : Nat → Nat → Int32} : fmp sd I (ft k p I) := (fmp.w (by unfold own; omega)).tr (fmp.w (by unfold own; omega))
theorem nx.f {t : Nat} {I : Nat → Nat → Int32} {k : Nat} (hk : k ≠ 11) : nx t I 55 k = I 55 k := wr_ne _ _ _ _ hk
theorem nx.q {t : Nat} {I : Nat → Nat → Int32} {q : Nat} (hq : q ≠ 55) : nx t I q = I q := wr_other _ _ _ _ hq
theorem MS.nx {b : Nat → Nat} {n t : Nat} {I : Nat → Nat → Int32} {G : Nat → Nat → Int64} (h : MS b n t I G) (h4 : t < 400) (hk : kd b n t ≠ 26 ∧ kd b n t ≠ 27) : MS b n (t + 1) (nx t I) G := ⟨h.1.p (sd := 0) nx.p rfl, by omega, h.2.2.1.s hk.1 hk.2, wr_eq _ _ _ _, by rw [nx.f (by decide)]; exact h.2.2.2.2⟩
theorem ft.m {b : Nat → Nat} {n k tok : Nat} {I : Nat → Nat → Int32} (hk : ¬ k = 0) (hk2 : k ≤ 2) : FM b n k tok (ft k (stA b n tok) I) := ⟨hk, hk2, by unfold ft; rw [wr_ne _ _ _ _ (by decide), wr_eq], by unfold ft; rw [wr_eq]⟩
theorem c_is {d Lx tt rt u : Nat} {I : Nat → Nat → Int32} {G : Nat → Nat → Int64} {Q : ab_Q} {b : Nat → Nat} {n t : Nat} (hM : MS b n t I G) {k κ : Nat} (hk : mk κ = k) (h1 : κ < 62) (h2 : vld κ = true) (hy : kd b n t = κ → Q (some (.int (nI 1))) (hp Lx tt rt u I G)) (hn : ¬ kd b n t = κ → Q (some (.int (nI 0))) (hp Lx tt rt u I G)) : ab_call ab_MT (d + 1) 194 [.ref 55, .int (nI k)] (hp Lx tt rt u I G) 0 0 Q := by
  obtain ⟨⟨m, hK, hm⟩, ht, hgd, r11, r13⟩ := id hM
  have hlt := hm t ht hgd
  have hkl := kd62 b n t
  have hml := mk_lt _ hkl
  have hK1 := hK.1
  refine wx_in (M := mX11_is) rfl rfl rfl (Nat.le_of_ble_eq_true rfl) ?_
  refine wx_aload_n rfl (e := 1) rfl rfl ?_
  refine wx_geti rfl (e := 4) rfl rfl ?_
  rw [r13]
  refine wn_if_ne rfl (e := 7) rfl (by omega) (fun c_4 => absurd c_4 (by omega)) (fun c_4 => ?_)
  refine wx_aload_n rfl (e := 8) rfl rfl ?_
  refine wx_getr rfl (e := 11) rfl rfl rfl ?_
  refine wx_aload_n rfl (e := 12) rfl rfl ?_
  refine wx_geti rfl (e := 15) rfl rfl ?_
  rw [r11]
  refine wn_iald rfl (e := 16) rfl rfl (by omega) (by decide) ?_
  rw [(hK.2.2 t hlt).1]
  have hkk := mk_lt κ h1
  refine wx_iload_n rfl (e := 17) rfl rfl ?_
  refine wn_ic_ne rfl (e := 20) rfl (by omega) (by omega) (fun c_17 => ?_) (fun c_17 => ?_)
  · refine wx_iconst (v := (nI 0)) rfl (e := 25) rfl (by decide) ?_
    refine wx_iret rfl rfl rfl ⟨by decide, by decide⟩ ?_
    exact hn (fun w => c_17 (by rw [w]; exact hk))
  · refine wx_iconst (v := (nI 1)) rfl (e := 21) rfl (by decide) ?_
    refine wx_goto rfl ?_
    refine wx_iret rfl rfl rfl ⟨by decide, by decide⟩ ?_
    exact hy ((mk_eq h1 h2).mp (c_17.trans hk.symm))
theorem c_is0 {d Lx tt rt u : Nat} {I : Nat → Nat → Int32} {G : Nat → Nat → Int64} {Q : ab_Q} {e : Nat} (he : ¬ e = 0) (he2 : e ≤ 5) (h13 : I 55 13 = nI e) {k : Int32} (hq : Q (some (.int (nI 0))) (hp Lx tt rt u I G)) : ab_call ab_MT (d + 1) 194 [.ref 55, .int k] (hp Lx tt rt u I G) 0 0 Q := by
  refine wx_in (M := mX11_is) rfl rfl rfl (Nat.le_of_ble_eq_true rfl) ?_
  refine wx_aload_n rfl (e := 1) rfl rfl ?_
  refine wx_geti rfl (e := 4) rfl rfl ?_
  rw [h13]
  refine wn_if_ne rfl (e := 7) rfl (by omega) (fun c_4 => ?_) (fun c_4 => absurd c_4 (by omega))
  refine wx_iconst (v := (nI 0)) rfl (e := 25) rfl (by decide) ?_
  refine wx_iret rfl rfl rfl ⟨by decide, by decide⟩ ?_
  exact hq
theorem c_fail {d Lx tt rt u : Nat} {I : Nat → Nat → Int32} {G : Nat → Nat → Int64} {Q : ab_Q} {b : Nat → Nat} {n t : Nat} (hM : MS b n t I G) {k : Nat} (hq : Q none (hp Lx tt rt u (ft k (stA b n t) I) G)) : ab_call ab_MT (d + 1) 195 [.ref 55, .int (nI k)] (hp Lx tt rt u I G) 0 0 Q := by
  obtain ⟨⟨m, hK, hm⟩, ht, hgd, r11, r13⟩ := id hM
  have hlt := hm t ht hgd
  have hkl := kd62 b n t
  have hml := mk_lt _ hkl
  have hK1 := hK.1
  refine wx_in (M := mX11_fail) rfl rfl rfl (Nat.le_of_ble_eq_true rfl) ?_
  refine wx_aload_n rfl (e := 1) rfl rfl ?_
  refine wx_geti rfl (e := 4) rfl rfl ?_
  rw [r13]
  refine wn_if_le rfl (e := 7) rfl (by omega) (fun c_4 => ?_) (fun c_4 => absurd c_4 (by omega))
  refine wx_aload_n rfl (e := 9) rfl rfl ?_
  refine wx_iload_n rfl (e := 10) rfl rfl ?_
  refine wx_puti rfl (e := 13) rfl rfl (by decide) ?_
  refine wx_aload_n rfl (e := 14) rfl rfl ?_
  refine wx_aload_n rfl (e := 15) rfl rfl ?_
  refine wx_getr rfl (e := 18) rfl rfl rfl ?_
  refine wx_aload_n rfl (e := 19) rfl rfl ?_
  refine wx_geti rfl (e := 22) rfl rfl ?_
  rw [wr_ne _ _ _ _ (by decide), r11]
  refine wn_iald rfl (e := 23) rfl rfl (by omega) (by decide) ?_
  rw [wr_other _ _ _ _ (by decide), (hK.2.2 t hlt).2.1]
  refine wx_puti rfl (e := 26) rfl rfl (by decide) ?_
  refine wx_ret rfl rfl ⟨by decide, by decide⟩ ?_
  exact hq
theorem c_fail0 {d Lx tt rt u : Nat} {I : Nat → Nat → Int32} {G : Nat → Nat → Int64} {Q : ab_Q} {e : Nat} (he : ¬ e = 0) (he2 : e ≤ 5) (h13 : I 55 13 = nI e) {k : Int32} (hq : Q none (hp Lx tt rt u I G)) : ab_call ab_MT (d + 1) 195 [.ref 55, .int k] (hp Lx tt rt u I G) 0 0 Q := by
  refine wx_in (M := mX11_fail) rfl rfl rfl (Nat.le_of_ble_eq_true rfl) ?_
  refine wx_aload_n rfl (e := 1) rfl rfl ?_
  refine wx_geti rfl (e := 4) rfl rfl ?_
  rw [h13]
  refine wn_if_le rfl (e := 7) rfl (by omega) (fun c_4 => absurd c_4 (by omega)) (fun c_4 => ?_)
  refine wx_ret rfl rfl ⟨by decide, by decide⟩ ?_
  exact hq
theorem c_goes {d Lx tt rt u : Nat} {I : Nat → Nat → Int32} {G : Nat → Nat → Int64} {Q : ab_Q} {b : Nat → Nat} {n t : Nat} (hM : MS b n t I G) (hy : t < 400 → Q none (hp Lx tt rt u (nx t I) G)) (hn : 400 ≤ t → Q none (hp Lx tt rt u (ft 2 (stA b n t) I) G)) : ab_call ab_MT (d + 2) 197 [.ref 55] (hp Lx tt rt u I G) 0 0 Q := by
  obtain ⟨⟨m, hK, hm⟩, ht, hgd, r11, r13⟩ := id hM
  have hlt := hm t ht hgd
  have hkl := kd62 b n t
  have hml := mk_lt _ hkl
  have hK1 := hK.1
  refine wx_in (M := mX11_goesOn) rfl rfl rfl (Nat.le_of_ble_eq_true rfl) ?_
  refine wx_aload_n rfl (e := 1) rfl rfl ?_
  refine wx_geti rfl (e := 4) rfl rfl ?_
  rw [r11]
  refine wx_sipush (v := (nI 400)) rfl (e := 7) rfl (by decide) ?_
  refine wn_ic_ne rfl (e := 10) rfl (by omega) (by omega) (fun c_7 => ?_) (fun c_7 => ?_)
  · refine wx_aload_n rfl (e := 19) rfl rfl ?_
    refine wx_dup rfl (e := 20) rfl rfl ?_
    refine wx_geti rfl (e := 23) rfl rfl ?_
    rw [r11]
    refine wx_iconst (v := (nI 1)) rfl (e := 24) rfl (by decide) ?_
    refine wn_iadd rfl (e := 25) rfl ?_
    refine wx_puti rfl (e := 28) rfl rfl (by decide) ?_
    refine wx_ret rfl rfl ⟨by decide, by decide⟩ ?_
    exact hy (by omega)
  · refine wx_aload_n rfl (e := 11) rfl rfl ?_
    refine wx_iconst (v := (nI 2)) rfl (e := 12) rfl (by decide) ?_
    refine wx_cv1 (mc := 0) (ms := 0) rfl (e := 15) rfl rfl (Nat.le_of_ble_eq_true rfl) ⟨by decide, by decide⟩ ?_
    refine c_fail hM (k := 2) ?_
    refine wx_goto rfl ?_
    refine wx_ret rfl rfl ⟨by decide, by decide⟩ ?_
    exact hn (by omega)
theorem c_goes0 {d Lx tt rt u : Nat} {I : Nat → Nat → Int32} {G : Nat → Nat → Int64} {Q : ab_Q} {e : Nat} (he : ¬ e = 0) (he2 : e ≤ 5) (h13 : I 55 13 = nI e) (hq : ∀ v, Q none (hp Lx tt rt u (wr I 55 11 v) G)) (hq2 : Q none (hp Lx tt rt u I G)) : ab_call ab_MT (d + 2) 197 [.ref 55] (hp Lx tt rt u I G) 0 0 Q := by
  refine wx_in (M := mX11_goesOn) rfl rfl rfl (Nat.le_of_ble_eq_true rfl) ?_
  refine wx_aload_n rfl (e := 1) rfl rfl ?_
  refine wx_geti rfl (e := 4) rfl rfl ?_
  refine wx_sipush (v := (nI 400)) rfl (e := 7) rfl (by decide) ?_
  refine wx_ic_ne rfl (e := 10) rfl (fun c_7 => ?_) (fun c_7 => ?_)
  · refine wx_aload_n rfl (e := 19) rfl rfl ?_
    refine wx_dup rfl (e := 20) rfl rfl ?_
    refine wx_geti rfl (e := 23) rfl rfl ?_
    refine wx_iconst (v := (nI 1)) rfl (e := 24) rfl (by decide) ?_
    refine wx_iadd rfl (e := 25) rfl ?_
    refine wx_puti rfl (e := 28) rfl rfl (by decide) ?_
    refine wx_ret rfl rfl ⟨by decide, by decide⟩ ?_
    exact hq _
  · refine wx_aload_n rfl (e := 11) rfl rfl ?_
    refine wx_iconst (v := (nI 2)) rfl (e := 12) rfl (by decide) ?_
    refine wx_cv1 (mc := 0) (ms := 0) rfl (e := 15) rfl rfl (Nat.le_of_ble_eq_true rfl) ⟨by decide, by decide⟩ ?_
    refine c_fail0 he he2 h13 ?_
    refine wx_goto rfl ?_
    refine wx_ret rfl rfl ⟨by decide, by decide⟩ ?_
    exact hq2
theorem c_must {d Lx tt rt u : Nat} {I : Nat → Nat → Int32} {G : Nat → Nat → Int64} {Q : ab_Q} {b : Nat → Nat} {n t : Nat} (hM : MS b n t I G) {k κ : Nat} (hk : mk κ = k) (h1 : κ < 62) (h2 : vld κ = true) (h3 : κ ≠ 26 ∧ κ ≠ 27) (hy : kd b n t = κ → t < 400 → MS b n (t + 1) (nx t I) G → Q none (hp Lx tt rt u (nx t I) G)) (hn : ∀ e, (e = 1 ∧ ¬ kd b n t = κ) ∨ (e = 2 ∧ kd b n t = κ ∧ 400 ≤ t) → FM b n e t (ft e (stA b n t) I) → Q none (hp Lx tt rt u (ft e (stA b n t) I) G)) : ab_call ab_MT (d + 3) 198 [.ref 55, .int (nI k)] (hp Lx tt rt u I G) 0 0 Q := by
  refine wx_in (M := mX11_must) rfl rfl rfl (Nat.le_of_ble_eq_true rfl) ?_
  refine wx_aload_n rfl (e := 1) rfl rfl ?_
  refine wx_iload_n rfl (e := 2) rfl rfl ?_
  refine wx_cv1 (mc := 0) (ms := 0) rfl (e := 5) rfl rfl (Nat.le_of_ble_eq_true rfl) ⟨by decide, by decide⟩ ?_
  refine c_is hM hk h1 h2 (fun hz => ?_) (fun hz => ?_)
  · refine wn_if_eq rfl (e := 8) rfl (by omega) (fun c_5 => absurd c_5 (by omega)) (fun c_5 => ?_)
    refine wx_aload_n rfl (e := 9) rfl rfl ?_
    refine wx_cv0 (mc := 0) (ms := 0) rfl (e := 12) rfl rfl (Nat.le_of_ble_eq_true rfl) ⟨by decide, by decide⟩ ?_
    refine c_goes hM (fun h4 => ?_) (fun h4 => ?_)
    · refine wx_goto rfl ?_
      refine wx_ret rfl rfl ⟨by decide, by decide⟩ ?_
      exact hy hz h4 (hM.nx h4 (by rw [hz]; exact h3))
    · refine wx_goto rfl ?_
      refine wx_ret rfl rfl ⟨by decide, by decide⟩ ?_
      exact hn 2 (Or.inr ⟨rfl, hz, h4⟩) (ft.m (by decide) (by decide))
  · refine wn_if_eq rfl (e := 8) rfl (by omega) (fun c_5 => ?_) (fun c_5 => absurd c_5 (by omega))
    refine wx_aload_n rfl (e := 16) rfl rfl ?_
    refine wx_iconst (v := (nI 1)) rfl (e := 17) rfl (by decide) ?_
    refine wx_cv1 (mc := 0) (ms := 0) rfl (e := 20) rfl rfl (Nat.le_of_ble_eq_true rfl) ⟨by decide, by decide⟩ ?_
    refine c_fail hM (k := 1) ?_
    refine wx_ret rfl rfl ⟨by decide, by decide⟩ ?_
    exact hn 1 (Or.inl ⟨rfl, hz⟩) (ft.m (by decide) (by decide))
theorem c_must0 {d Lx tt rt u : Nat} {I : Nat → Nat → Int32} {G : Nat → Nat → Int64} {Q : ab_Q} {e : Nat} (he : ¬ e = 0) (he2 : e ≤ 5) (h13 : I 55 13 = nI e) {k : Int32} (hq : Q none (hp Lx tt rt u I G)) : ab_call ab_MT (d + 3) 198 [.ref 55, .int k] (hp Lx tt rt u I G) 0 0 Q := by
  refine wx_in (M := mX11_must) rfl rfl rfl (Nat.le_of_ble_eq_true rfl) ?_
  refine wx_aload_n rfl (e := 1) rfl rfl ?_
  refine wx_iload_n rfl (e := 2) rfl rfl ?_
  refine wx_cv1 (mc := 0) (ms := 0) rfl (e := 5) rfl rfl (Nat.le_of_ble_eq_true rfl) ⟨by decide, by decide⟩ ?_
  refine c_is0 he he2 h13 ?_
  refine wn_if_eq rfl (e := 8) rfl (by omega) (fun c_5 => ?_) (fun c_5 => absurd c_5 (by omega))
  refine wx_aload_n rfl (e := 16) rfl rfl ?_
  refine wx_iconst (v := (nI 1)) rfl (e := 17) rfl (by decide) ?_
  refine wx_cv1 (mc := 0) (ms := 0) rfl (e := 20) rfl rfl (Nat.le_of_ble_eq_true rfl) ⟨by decide, by decide⟩ ?_
  refine c_fail0 he he2 h13 ?_
  refine wx_ret rfl rfl ⟨by decide, by decide⟩ ?_
  exact hq
def LTm (b : Nat → Nat) (n : Nat) (e : Nat × Nat) (I : Nat → Nat → Int32) : Prop := e.1 ≤ 5 ∧ I 55 15 = nI e.1 ∧ (¬ e.1 = 0 → I 55 16 = nI (stA b n e.2))
theorem LTm.t {b : Nat → Nat} {n : Nat} {e : Nat × Nat} {I I2 : Nat → Nat → Int32} (h : LTm b n e I) (h7 : I2 55 15 = I 55 15) (h8 : I2 55 16 = I 55 16) : LTm b n e I2 := by
  unfold LTm at *; rw [h7, h8]; exact h
def frg (I I2 : Nat → Nat → Int32) : Prop := (∀ q, q ≠ 55 → I2 q = I q) ∧ ∀ k, k ≠ 15 → k ≠ 16 → I2 55 k = I 55 k
theorem frg.rf {I : Nat → Nat → Int32} : frg I I := ⟨fun _ _ => rfl, fun _ _ _ => rfl⟩
theorem frg.tr {I I2 I3 : Nat → Nat → Int32} (h1 : frg I I2) (h2 : frg I2 I3) : frg I I3 := ⟨fun q a => (h2.1 q a).trans (h1.1 q a), fun k a b => (h2.2 k a b).trans (h1.2 k a b)⟩
theorem frg.p {sd : Nat} {I I2 : Nat → Nat → Int32} (h : frg I I2) : fmp sd I I2 := fun q k hn => by
  by_cases c : q = 55
  · subst c; exact h.2 k (by unfold own at hn; omega) (by unfold own at hn; omega)
  · rw [h.1 q c]
theorem MS.g {b : Nat → Nat} {n t : Nat} {I I2 : Nat → Nat → Int32} {G : Nat → Nat → Int64} (h : MS b n t I G) (f : frg I I2) : MS b n t I2 G := ⟨h.1.p (sd := 0) f.p rfl, h.2.1, h.2.2.1, by rw [f.2 11 (by decide) (by decide)]; exact h.2.2.2.1, by rw [f.2 13 (by decide) (by decide)]; exact h.2.2.2.2⟩
theorem stA_b {b : Nat → Nat} {n : Nat} (hn : n ≤ 2000) (k : Nat) : stA b n k ≤ 2000 := Nat.le_trans (stA_le b n k) hn
theorem c_wrong {d Lx tt rt u : Nat} {I : Nat → Nat → Int32} {G : Nat → Nat → Int64} {Q : ab_Q} {b : Nat → Nat} {n t : Nat} (hn : n ≤ 2000) (hM : MS b n t I G) {e : Nat × Nat} (hE : LTm b n e I) {k tok : Nat} (hk : k ≤ 5) (htok : tok ≤ t) (ho : ¬ e.1 = 0 → e.2 < tok ∨ (e.2 = tok ∧ e.1 ≤ k)) (hq : ∀ I2, frg I I2 → LTm b n (lte e true k tok) I2 → Q none (hp Lx tt rt u I2 G)) : ab_call ab_MT (d + 1) 196 [.ref 55, .int (nI k), .int (nI tok)] (hp Lx tt rt u I G) 0 0 Q := by
  obtain ⟨⟨m, hK, hm⟩, ht, hgd, r11, r13⟩ := id hM
  have hlt := hm tok (by omega) (fun j hj => hgd j (by omega))
  obtain ⟨e5, e15, e16⟩ := id hE
  have hs1 := stA_b (b := b) hn tok
  have hK1 := hK.1
  refine wx_in (M := mX11_wrong) rfl rfl rfl (Nat.le_of_ble_eq_true rfl) ?_
  refine wx_aload_n rfl (e := 1) rfl rfl ?_
  refine wx_getr rfl (e := 4) rfl rfl rfl ?_
  refine wx_iload_n rfl (e := 5) rfl rfl ?_
  refine wn_iald rfl (e := 6) rfl rfl (by omega) (by decide) ?_
  rw [(hK.2.2 tok hlt).2.1]
  refine wx_istore_n (L2 := [_, _, _, _]) rfl (e := 7) rfl (by decide) rfl ?_
  refine wx_aload_n rfl (e := 8) rfl rfl ?_
  refine wx_geti rfl (e := 11) rfl rfl ?_
  rw [r13]
  refine wn_if_gt rfl (e := 14) rfl (by omega) (fun c_11 => absurd c_11 (by omega)) (fun c_11 => ?_)
  refine wx_aload_n rfl (e := 15) rfl rfl ?_
  refine wx_geti rfl (e := 18) rfl rfl ?_
  rw [e15]
  refine wn_if_eq rfl (e := 21) rfl (by omega) (fun c_18 => ?_) (fun c_18 => ?_)
  · refine wx_aload_n rfl (e := 47) rfl rfl ?_
    refine wx_iload_n rfl (e := 48) rfl rfl ?_
    refine wx_puti rfl (e := 51) rfl rfl (by decide) ?_
    refine wx_aload_n rfl (e := 52) rfl rfl ?_
    refine wx_iload_n rfl (e := 53) rfl rfl ?_
    refine wx_puti rfl (e := 56) rfl rfl (by decide) ?_
    refine wx_ret rfl rfl ⟨by decide, by decide⟩ ?_
    exact hq _ ⟨fun q h => by rw [wr_other _ _ _ _ h, wr_other _ _ _ _ h], fun j h1 h2 => by rw [wr_ne _ _ _ _ h2, wr_ne _ _ _ _ h1]⟩ (by rw [lte_t c_18]; exact ⟨hk, by rw [wr_ne _ _ _ _ (by decide), wr_eq], fun _ => wr_eq _ _ _ _⟩)
  · have e16 := e16 c_18
    have hs2 := stA_b (b := b) hn e.2
    have hcmp : e.2 < tok → stA b n e.2 < stA b n tok := fun w => st_mono hgd w htok
    refine wx_iload_n rfl (e := 22) rfl rfl ?_
    refine wx_aload_n rfl (e := 23) rfl rfl ?_
    refine wx_geti rfl (e := 26) rfl rfl ?_
    rw [e16]
    refine wn_ic_gt rfl (e := 29) rfl (by omega) (by omega) (fun c_26 => ?_) (fun c_26 => ?_)
    · refine wx_ret rfl rfl ⟨by decide, by decide⟩ ?_
      exact hq I frg.rf (by rw [lte_o c_18]; exact hE)
    · refine wx_iload_n rfl (e := 30) rfl rfl ?_
      refine wx_aload_n rfl (e := 31) rfl rfl ?_
      refine wx_geti rfl (e := 34) rfl rfl ?_
      rw [e16]
      refine wn_ic_ne rfl (e := 37) rfl (by omega) (by omega) (fun c_34 => ?_) (fun c_34 => ?_)
      · refine wx_aload_n rfl (e := 47) rfl rfl ?_
        refine wx_iload_n rfl (e := 48) rfl rfl ?_
        refine wx_puti rfl (e := 51) rfl rfl (by decide) ?_
        refine wx_aload_n rfl (e := 52) rfl rfl ?_
        refine wx_iload_n rfl (e := 53) rfl rfl ?_
        refine wx_puti rfl (e := 56) rfl rfl (by decide) ?_
        refine wx_ret rfl rfl ⟨by decide, by decide⟩ ?_
        exfalso
        rcases ho c_18 with w | w
        · have := hcmp w; omega
        · have := congrArg (stA b n) w.1; omega
      · refine wx_iload_n rfl (e := 38) rfl rfl ?_
        refine wx_aload_n rfl (e := 39) rfl rfl ?_
        refine wx_geti rfl (e := 42) rfl rfl ?_
        rw [e15]
        refine wn_ic_lt rfl (e := 45) rfl (by omega) (by omega) (fun c_42 => absurd c_42 (by omega)) (fun c_42 => ?_)
        refine wx_ret rfl rfl ⟨by decide, by decide⟩ ?_
        exact hq I frg.rf (by rw [lte_o c_18]; exact hE)

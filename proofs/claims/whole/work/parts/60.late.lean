/-! the class: statements read -/
/-- late faults -/
def LT_ (e : Nat × Nat) (I : Nat → Nat → Int32) : Prop := e.1 ≤ 5 ∧ I 33 7 = nI e.1 ∧ (¬ e.1 = 0 → I 33 8 = nI e.2)
def frk (I I2 : Nat → Nat → Int32) : Prop := (∀ q, q ≠ 33 → I2 q = I q) ∧ ∀ k, k ≠ 7 → k ≠ 8 → I2 33 k = I 33 k
theorem frk.rf {I : Nat → Nat → Int32} : frk I I := ⟨fun _ _ => rfl, fun _ _ _ => rfl⟩
theorem frk.tr {I I2 I3 : Nat → Nat → Int32} (h1 : frk I I2) (h2 : frk I2 I3) : frk I I3 := ⟨fun q a => (h2.1 q a).trans (h1.1 q a), fun k a b => (h2.2 k a b).trans (h1.2 k a b)⟩
theorem LT_.t {e : Nat × Nat} {I I2 : Nat → Nat → Int32} (h : LT_ e I) (h7 : I2 33 7 = I 33 7) (h8 : I2 33 8 = I 33 8) : LT_ e I2 := by
  unfold LT_ at *; rw [h7, h8]; exact h
theorem RK.k {b : Nat → Nat} {n : Nat} {I I2 : Nat → Nat → Int32} {G : Nat → Nat → Int64} (h : RK b n I G) (f : frk I I2) : RK b n I2 G := h.kept (f.1 _ (by decide)) (f.1 _ (by decide)) (f.1 _ (by decide)) rfl
theorem lte_f {e : Nat × Nat} {k tok : Nat} : lte e false k tok = e := if_neg (fun h => absurd h.2 (by decide))
theorem lte_o {e : Nat × Nat} {c : Bool} {k tok : Nat} (h : ¬ e.1 = 0) : lte e c k tok = e := if_neg (fun w => h w.1)
theorem lte_t {e : Nat × Nat} {k tok : Nat} (h : e.1 = 0) : lte e true k tok = (k, tok) := if_pos ⟨h, rfl⟩
theorem c_X4_refuseLate {d Lx t rt u : Nat} {I : Nat → Nat → Int32} {G : Nat → Nat → Int64} {Q : ab_Q} {e : Nat × Nat} (hE : LT_ e I) {k tok : Nat} (hk : k ≤ 5) (hq : ∀ I2, frk I I2 → LT_ (lte e true k tok) I2 → Q none (hp Lx t rt u I2 G)) : ab_call ab_MT (d + 1) 60 [.ref 33, .int (nI k), .int (nI tok)] (hp Lx t rt u I G) 0 0 Q := by
  obtain ⟨h5, h7, h8⟩ := id hE
  refine wx_in (M := mX4_refuseLate) rfl rfl rfl (Nat.le_of_ble_eq_true rfl) ?_
  refine wx_aload_n rfl (e := 1) rfl rfl ?_
  refine wx_geti rfl (e := 4) rfl rfl ?_
  rw [h7]
  refine wn_if_ne rfl (e := 7) rfl (by omega) (fun c_4 => ?_) (fun c_4 => ?_)
  · refine wx_ret rfl rfl ⟨by decide, by decide⟩ ?_
    exact hq I frk.rf (by rw [lte_o c_4]; exact hE)
  · refine wx_aload_n rfl (e := 8) rfl rfl ?_
    refine wx_iload_n rfl (e := 9) rfl rfl ?_
    refine wx_puti rfl (e := 12) rfl rfl (by decide) ?_
    refine wx_aload_n rfl (e := 13) rfl rfl ?_
    refine wx_iload_n rfl (e := 14) rfl rfl ?_
    refine wx_puti rfl (e := 17) rfl rfl (by decide) ?_
    refine wx_ret rfl rfl ⟨by decide, by decide⟩ ?_
    exact hq _ ⟨fun q h => by rw [wr_other _ _ _ _ h, wr_other _ _ _ _ h], fun j h1 h2 => by rw [wr_ne _ _ _ _ h2, wr_ne _ _ _ _ h1]⟩ (by rw [lte_t c_4]; exact ⟨hk, by rw [wr_ne _ _ _ _ (by decide), wr_eq], fun _ => wr_eq _ _ _ _⟩)
def NMs (o : Nat) (I : Nat → Nat → Int32) (G : Nat → Nat → Int64) (N : (Nat → List Nat) × (Nat → Int32) × Nat) : Prop := ∃ kn cm, kn ≤ N.2.2 ∧ I o 9 = nI kn ∧ wdL (G (o + 7)) cm kn ∧ ∀ w, dpS cm w kn = dpS N.1 w N.2.2
def NMc (o : Nat) (G : Nat → Nat → Int64) (N : (Nat → List Nat) × (Nat → Int32) × Nat) (C : Nat) : Prop := ∃ cn, wdL (G (o + 8)) cn C ∧ ∀ w, chS N.1 N.2.1 w N.2.2 = chF cn w C
theorem wdOK {b : Nat → Nat} {n k : Nat} (h : kd b n k = 24) : ltr (wdT b n k) ∧ (wdT b n k).length ≤ 8 := ⟨wd_ltr b n k, by unfold wdT; rw [lt_len]; exact (kd_24 h).2.2⟩
set_option maxHeartbeats 1000000 in
theorem c_X4_addName {d Lx tt u : Nat} {I : Nat → Nat → Int32} {G : Nat → Nat → Int64} {Q : ab_Q} {b : Nat → Nat} {n o tok : Nat} (ho : o = 1 ∨ o = 16) (hK : RK b n I G) (h4 : tok ≤ 400) (hg : gdT b n tok) (h24 : kd b n tok = 24) {e : Nat × Nat} (hE : LT_ e I) {N : (Nat → List Nat) × (Nat → Int32) × Nat} (hN : NMs o I G N) (h17 : N.2.2 < 17) {a : Int32} (hq : ∀ I2 G2, (∀ q, q ≠ 33 → q ≠ o → I2 q = I q) → (∀ k, k ≠ 7 → k ≠ 8 → I2 33 k = I 33 k) → (∀ q, q ≠ o + 7 → G2 q = G q) → (∀ k, k ≠ 9 → I2 o k = I o k) → LT_ (lte e (dpS N.1 (wdT b n tok) N.2.2) 3 tok) I2 → NMs o I2 G2 (psN N (wdT b n tok) a) → Q none (hp Lx tt o u I2 G2)) : ab_call ab_MT (d + 3) 66 [.ref 33, .int (nI tok)] (hp Lx tt o u I G) 0 0 Q := by
  obtain ⟨m, hK1, hm⟩ := id hK
  have hlt := hm tok h4 hg
  refine wx_in (M := mX4_addName) rfl rfl rfl (Nat.le_of_ble_eq_true rfl) ?_
  refine wx_aload_n rfl (e := 1) rfl rfl ?_
  refine wx_getr rfl (e := 4) rfl rfl rfl ?_
  refine wx_aload_n rfl (e := 5) rfl rfl ?_
  refine wx_getr rfl (e := 8) rfl rfl rfl ?_
  refine wx_iload_n rfl (e := 9) rfl rfl ?_
  refine wx_cv1 (mc := 0) (ms := 0) rfl (e := 12) rfl rfl (Nat.le_of_ble_eq_true rfl) ⟨by decide, by decide⟩ ?_
  refine c_X8_valueAt hK1 hlt ?_
  rw [(hK1.2.2 tok hlt).2.2.1 h24]
  refine wx_cv1 (mc := 0) (ms := 0) rfl (e := 15) rfl (sh_t ho) (Nat.le_of_ble_eq_true rfl) ⟨by decide, by decide⟩ ?_
  obtain ⟨kn, cm, k1, k2, k3, k4⟩ := hN
  refine c_X7_addName ho (kn := kn) (nm := cm) k2 (by omega) k3 (wdOK h24) (fun hd => ?_) (fun hd => ?_)
  · rw [k4] at hd
    refine wn_if_ne rfl (e := 18) rfl (by omega) (fun c_15 => absurd c_15 (by omega)) (fun c_15 => ?_)
    refine wx_aload_n rfl (e := 19) rfl rfl ?_
    refine wx_iconst (v := (nI 3)) rfl (e := 20) rfl (by decide) ?_
    refine wx_iload_n rfl (e := 21) rfl rfl ?_
    refine wx_cv2 (mc := 0) (ms := 0) rfl (e := 24) rfl rfl (Nat.le_of_ble_eq_true rfl) ⟨by decide, by decide⟩ ?_
    refine c_X4_refuseLate hE (k := 3) (tok := tok) (by decide) (fun I2 f2 E2 => ?_)
    refine wx_ret rfl rfl ⟨by decide, by decide⟩ ?_
    refine hq I2 G (fun q h1 _ => f2.1 q h1) f2.2 (fun q _ => rfl) (fun k _ => by rw [f2.1 o (by omega)]) (by rw [hd]; exact E2) ⟨kn, cm, by show kn ≤ N.2.2 + 1; omega, by rw [f2.1 o (by omega)]; exact k2, k3, fun w => ?_⟩
    rw [psN_dp, k4]
    by_cases zw : wdT b n tok = w
    · rw [← zw, hd, Bool.true_or]
    · rw [decide_eq_false zw, Bool.or_false]
  · have hd2 := hd
    rw [k4] at hd
    refine wn_if_ne rfl (e := 18) rfl (by omega) (fun c_15 => ?_) (fun c_15 => absurd c_15 (by omega))
    refine wx_ret rfl rfl ⟨by decide, by decide⟩ ?_
    refine hq _ _ (fun q _ h => wr_other _ _ _ _ h) (fun k _ _ => by rw [wr_other _ _ _ _ (by omega)]) (fun q h => wl_other _ _ _ _ h) (fun k h => wr_ne _ _ _ _ h) (by rw [hd, lte_f]; exact hE.t (by rw [wr_other _ _ _ _ (by omega)]) (by rw [wr_other _ _ _ _ (by omega)])) ⟨kn + 1, fun i => if i = kn then wdT b n tok else cm i, by show kn + 1 ≤ N.2.2 + 1; omega, wr_eq _ _ _ _, fun i hi => ?_, fun w => ?_⟩
    · dsimp only
      by_cases zi : i = kn
      · rw [if_pos zi, zi, wl_eq]; exact ⟨rfl, wdOK h24⟩
      · rw [if_neg zi, wl_ne _ _ _ _ zi]; exact k3 i (by omega)
    · rw [psN_dp, ← k4, dpS, if_pos rfl, dpS_cg kn (fun i hi => if_neg (by omega))]
set_option maxHeartbeats 1000000 in
theorem c_X4_churchAt {d Lx tt u : Nat} {I : Nat → Nat → Int32} {G : Nat → Nat → Int64} {Q : ab_Q} {b : Nat → Nat} {n o tok : Nat} (ho : o = 1 ∨ o = 16) (hK : RK b n I G) (h4 : tok ≤ 400) (hg : gdT b n tok) (h24 : kd b n tok = 24) {e : Nat × Nat} (hE : LT_ e I) {N : (Nat → List Nat) × (Nat → Int32) × Nat} {C : Nat} (hC : I o 10 = nI C) (hC6 : C ≤ 6) (hN : NMc o G N C) (hq : ∀ I2, frk I I2 → LT_ (lte e (decide (chS N.1 N.2.1 (wdT b n tok) N.2.2 < nI 0)) 4 tok) I2 → Q (some (.int (chS N.1 N.2.1 (wdT b n tok) N.2.2))) (hp Lx tt o u I2 G)) : ab_call ab_MT (d + 3) 67 [.ref 33, .int (nI tok)] (hp Lx tt o u I G) 0 0 Q := by
  obtain ⟨m, hK1, hm⟩ := id hK
  have hlt := hm tok h4 hg
  refine wx_in (M := mX4_churchAt) rfl rfl rfl (Nat.le_of_ble_eq_true rfl) ?_
  refine wx_aload_n rfl (e := 1) rfl rfl ?_
  refine wx_getr rfl (e := 4) rfl rfl rfl ?_
  refine wx_aload_n rfl (e := 5) rfl rfl ?_
  refine wx_getr rfl (e := 8) rfl rfl rfl ?_
  refine wx_iload_n rfl (e := 9) rfl rfl ?_
  refine wx_cv1 (mc := 0) (ms := 0) rfl (e := 12) rfl rfl (Nat.le_of_ble_eq_true rfl) ⟨by decide, by decide⟩ ?_
  refine c_X8_valueAt hK1 hlt ?_
  rw [(hK1.2.2 tok hlt).2.2.1 h24]
  refine wx_cv1 (mc := 0) (ms := 0) rfl (e := 15) rfl (sh_t ho) (Nat.le_of_ble_eq_true rfl) ⟨by decide, by decide⟩ ?_
  obtain ⟨cn, c1, c2⟩ := hN
  refine c_X7_churchNamed ho hC hC6 c1 (wdOK h24) ?_
  rw [← c2]
  refine wx_istore_n (L2 := [_, _, _]) rfl (e := 16) rfl (by decide) rfl ?_
  refine wx_iload_n rfl (e := 17) rfl rfl ?_
  refine wx_if_ge rfl (e := 20) rfl (fun c_17 => ?_) (fun c_17 => ?_)
  · rw [← nI_0] at c_17
    refine wx_iload_n rfl (e := 27) rfl rfl ?_
    refine wx_iret rfl rfl rfl ⟨by decide, by decide⟩ ?_
    exact hq I frk.rf (by rw [decide_eq_false (Int32.not_lt.mpr c_17), lte_f]; exact hE)
  · rw [← nI_0] at c_17
    refine wx_aload_n rfl (e := 21) rfl rfl ?_
    refine wx_iconst (v := (nI 4)) rfl (e := 22) rfl (by decide) ?_
    refine wx_iload_n rfl (e := 23) rfl rfl ?_
    refine wx_cv2 (mc := 0) (ms := 0) rfl (e := 26) rfl rfl (Nat.le_of_ble_eq_true rfl) ⟨by decide, by decide⟩ ?_
    refine c_X4_refuseLate hE (k := 4) (tok := tok) (by decide) (fun I2 f2 E2 => ?_)
    refine wx_iload_n rfl (e := 27) rfl rfl ?_
    refine wx_iret rfl rfl rfl ⟨by decide, by decide⟩ ?_
    exact hq I2 f2 (by rw [decide_eq_true (Int32.not_le.mp c_17)]; exact E2)
set_option maxHeartbeats 1000000 in
theorem c_X4_numberAt {d Lx tt u : Nat} {I : Nat → Nat → Int32} {G : Nat → Nat → Int64} {Q : ab_Q} {b : Nat → Nat} {n o tok : Nat} (ho : o = 1 ∨ o = 16) (hK : RK b n I G) (h4 : tok ≤ 400) (hg : gdT b n tok) (h25 : kd b n tok = 25) {e : Nat × Nat} (hE : LT_ e I) {lo hi : Nat} (hlh : lo ≤ hi) (hhi : hi < 100000) {c : Bool} (hc : c = true ↔ ¬ (lo ≤ nuT b n tok ∧ nuT b n tok ≤ hi)) (hq : ∀ I2, frk I I2 → LT_ (lte e c 5 tok) I2 → Q (some (.int (nI (nuT b n tok)))) (hp Lx tt o u I2 G)) : ab_call ab_MT (d + 2) 68 [.ref 33, .int (nI tok), .int (nI lo), .int (nI hi)] (hp Lx tt o u I G) 0 0 Q := by
  obtain ⟨m, hK1, hm⟩ := id hK
  have hlt := hm tok h4 hg
  refine wx_in (M := mX4_numberAt) rfl rfl rfl (Nat.le_of_ble_eq_true rfl) ?_
  refine wx_aload_n rfl (e := 1) rfl rfl ?_
  refine wx_getr rfl (e := 4) rfl rfl rfl ?_
  refine wx_iload_n rfl (e := 5) rfl rfl ?_
  refine wx_cv1 (mc := 0) (ms := 0) rfl (e := 8) rfl rfl (Nat.le_of_ble_eq_true rfl) ⟨by decide, by decide⟩ ?_
  refine c_X8_valueAt hK1 hlt ?_
  rw [(hK1.2.2 tok hlt).2.2.2 h25]
  have hnu := nu_lt h25
  refine wx_l2i rfl (e := 9) rfl ?_
  rw [lN_i]
  refine wx_istore (L2 := [_, _, _, _, _]) rfl (e := 11) rfl (by decide) rfl ?_
  refine wx_iload rfl (e := 13) rfl rfl ?_
  refine wx_iload_n rfl (e := 14) rfl rfl ?_
  refine wx_iload_n rfl (e := 15) rfl rfl ?_
  refine wx_cs3 (mc := 0) (ms := 0) rfl (e := 18) rfl (Nat.le_of_ble_eq_true rfl) ⟨by decide, by decide⟩ ?_
  refine c_X10_isWithin (lo := lo) (hi := hi) hlh (by omega) (fun k a1 b1 ek => ?_) (fun no => ?_)
  · have ek := (nI_eq (by omega) (by omega)).mp ek
    refine wn_if_ne rfl (e := 21) rfl (by omega) (fun c_18 => ?_) (fun c_18 => absurd c_18 (by omega))
    refine wx_iload rfl (e := 29) rfl rfl ?_
    refine wx_iret rfl rfl rfl ⟨by decide, by decide⟩ ?_
    exact hq I frk.rf (by rw [show c = false from by cases c with | false => rfl | true => exact absurd (hc.mp rfl) (by omega), lte_f]; exact hE)
  · refine wn_if_ne rfl (e := 21) rfl (by omega) (fun c_18 => absurd c_18 (by omega)) (fun c_18 => ?_)
    refine wx_aload_n rfl (e := 22) rfl rfl ?_
    refine wx_iconst (v := (nI 5)) rfl (e := 23) rfl (by decide) ?_
    refine wx_iload_n rfl (e := 24) rfl rfl ?_
    refine wx_cv2 (mc := 0) (ms := 0) rfl (e := 27) rfl rfl (Nat.le_of_ble_eq_true rfl) ⟨by decide, by decide⟩ ?_
    refine c_X4_refuseLate hE (k := 5) (tok := tok) (by decide) (fun I2 f2 E2 => ?_)
    refine wx_iload rfl (e := 29) rfl rfl ?_
    refine wx_iret rfl rfl rfl ⟨by decide, by decide⟩ ?_
    exact hq I2 f2 (by rw [show c = true from hc.mpr (fun w => no _ w.1 w.2 rfl)]; exact E2)

/-! the model: names, churches, numbers -/
def frm (I I2 : Nat → Nat → Int32) : Prop := (∀ q, q ≠ 55 → I2 q = I q) ∧ ∀ k, ¬ (k = 11 ∨ (13 ≤ k ∧ k ≤ 16)) → I2 55 k = I 55 k
theorem frm.rf {I : Nat → Nat → Int32} : frm I I := ⟨fun _ _ => rfl, fun _ _ => rfl⟩
theorem frm.tr {I I2 I3 : Nat → Nat → Int32} (h1 : frm I I2) (h2 : frm I2 I3) : frm I I3 := ⟨fun q a => (h2.1 q a).trans (h1.1 q a), fun k a => (h2.2 k a).trans (h1.2 k a)⟩
theorem frm.p {sd : Nat} {I I2 : Nat → Nat → Int32} (h : frm I I2) : fmp sd I I2 := fun q k hn => by
  by_cases c : q = 55
  · subst c; exact h.2 k (by unfold own at hn; omega)
  · rw [h.1 q c]
theorem frg.m {I I2 : Nat → Nat → Int32} (h : frg I I2) : frm I I2 := ⟨h.1, fun k hk => h.2 k (by omega) (by omega)⟩
theorem nx.m {t : Nat} {I : Nat → Nat → Int32} : frm I (nx t I) := ⟨fun q h => nx.q h, fun k h => nx.f (by omega)⟩
theorem ft.m2 {k p : Nat} {I : Nat → Nat → Int32} : frm I (ft k p I) := ⟨fun q h => by unfold ft; rw [wr_other _ _ _ _ h, wr_other _ _ _ _ h], fun j h => by unfold ft; rw [wr_ne _ _ _ _ (by omega), wr_ne _ _ _ _ (by omega)]⟩
def NMm (I : Nat → Nat → Int32) (G : Nat → Nat → Int64) (N : (Nat → List Nat) × (Nat → Int32) × Nat) : Prop := N.2.2 ≤ 17 ∧ I 55 20 = nI N.2.2 ∧ ∀ i, i < N.2.2 → (G 63 i = lN (vl_ 27 (N.1 i)) ∧ ltr (N.1 i) ∧ (N.1 i).length ≤ 8) ∧ I 64 i = N.2.1 i
theorem wd27 {xs ys : List Nat} (h1 : ltr xs ∧ xs.length ≤ 8) (h2 : ltr ys ∧ ys.length ≤ 8) : lN (vl_ 27 xs) = lN (vl_ 27 ys) ↔ xs = ys := by
  have b1 := vl_8 (q := 27) (by decide) (by decide) h1.1 h1.2
  have b2 := vl_8 (q := 27) (by decide) (by decide) h2.1 h2.2
  exact ⟨fun h => vl_inj (by decide) _ _ h1.1 h2.1 ((pk_lEQ (by omega) (by omega)).mp h), fun h => by rw [h]⟩
theorem NMm.kept {I I2 : Nat → Nat → Int32} {G G2 : Nat → Nat → Int64} {N : (Nat → List Nat) × (Nat → Int32) × Nat} (h : NMm I G N) (h1 : I2 55 20 = I 55 20) (h2 : I2 64 = I 64) (h3 : G2 63 = G 63) : NMm I2 G2 N := by
  unfold NMm at *; rw [h1, h2, h3]; exact h
theorem lte_lte {e : Nat × Nat} {c : Bool} {k tok : Nat} (hk : ¬ k = 0) : lte (lte e c k tok) true k tok = lte e true k tok := by
  by_cases h : e.1 = 0
  · rw [lte_t h]
    cases c with
    | true => rw [lte_t h]; exact lte_o hk
    | false => rw [lte_f, lte_t h]
  · rw [lte_o h, lte_o h]
theorem lte_at {e : Nat × Nat} {c : Bool} {k tok : Nat} (h : ¬ e.1 = 0 → e.2 < tok) : ¬ (lte e c k tok).1 = 0 → (lte e c k tok).2 < tok ∨ ((lte e c k tok).2 = tok ∧ (lte e c k tok).1 ≤ k) := by
  unfold lte
  split
  · exact fun _ => Or.inr ⟨rfl, Nat.le_refl _⟩
  · exact fun w => Or.inl (h w)
set_option maxHeartbeats 1000000 in
theorem c_named {d Lx tt rt u : Nat} {I : Nat → Nat → Int32} {G : Nat → Nat → Int64} {Q : ab_Q} {b : Nat → Nat} {n t : Nat} (hn2 : n ≤ 2000) (hM : MS b n t I G) {e : Nat × Nat} (hE : LTm b n e I) (he : ¬ e.1 = 0 → e.2 < t) {N : (Nat → List Nat) × (Nat → Int32) × Nat} (hN : NMm I G N) (hy : kd b n t = 24 → t < 400 → ∀ I2, frm I I2 → MS b n (t + 1) I2 G → LTm b n (lte e (dpS N.1 (wdT b n t) N.2.2) 3 t) I2 → Q (some (.int (nI t))) (hp Lx tt rt u I2 G)) (hn : ∀ k, (k = 1 ∧ ¬ kd b n t = 24) ∨ (k = 2 ∧ kd b n t = 24 ∧ 400 ≤ t) → FM b n k t (ft k (stA b n t) I) → Q (some (.int (nI t))) (hp Lx tt rt u (ft k (stA b n t) I) G)) : ab_call ab_MT (d + 4) 204 [.ref 55] (hp Lx tt rt u I G) 0 0 Q := by
  obtain ⟨⟨m, hK, hm⟩, ht, hgd, r11, r13⟩ := id hM
  have hlt := hm t ht hgd
  have hK1 := hK.1
  obtain ⟨n1, n2, n3⟩ := id hN
  refine wx_in (M := mX11_named) rfl rfl rfl (Nat.le_of_ble_eq_true rfl) ?_
  refine wx_aload_n rfl (e := 1) rfl rfl ?_
  refine wx_geti rfl (e := 4) rfl rfl ?_
  rw [r11]
  refine wx_istore_n (L2 := [_, _, _]) rfl (e := 5) rfl (by decide) rfl ?_
  refine wx_aload_n rfl (e := 6) rfl rfl ?_
  refine wx_iconst (v := (nI 1)) rfl (e := 7) rfl (by decide) ?_
  refine wx_cv1 (mc := 0) (ms := 0) rfl (e := 10) rfl rfl (Nat.le_of_ble_eq_true rfl) ⟨by decide, by decide⟩ ?_
  refine c_must hM (κ := 24) (by decide) (by decide) (by decide) (by decide) (fun hk h4 M1 => ?_) (fun k hc F1 => ?_)
  · have k0 := True.intro
    have loop : ∀ (q i : Nat) (I2 : Nat → Nat → Int32), i ≤ N.2.2 → N.2.2 - i < q → frm I I2 → MS b n (t + 1) I2 G → LTm b n (lte e (dpS N.1 (wdT b n t) i) 3 t) I2 → WP (d + 3) mX11_named Q 12 [some (.ref 55), some (.int (nI t)), some (.int (nI i))] [] (hp Lx tt rt u I2 G) 0 0 := by
      intro q
      induction q with
      | zero => intro i I2 h1 h2; omega
      | succ q ih =>
        intro i I2 h1 h2 f2 M2 E2
        refine wx_iload_n rfl (e := 13) rfl rfl ?_
        refine wx_aload_n rfl (e := 14) rfl rfl ?_
        refine wx_geti rfl (e := 17) rfl rfl ?_
        rw [f2.2 20 (by omega), n2]
        refine wn_ic_ge rfl (e := 20) rfl (by omega) (by omega) (fun c_17 => ?_) (fun c_17 => ?_)
        · refine wx_iload_n rfl (e := 56) rfl rfl ?_
          refine wx_iret rfl rfl rfl ⟨by decide, by decide⟩ ?_
          have ei : i = N.2.2 := by omega
          subst ei
          exact hy hk h4 I2 f2 M2 E2
        · refine wx_aload_n rfl (e := 21) rfl rfl ?_
          refine wx_geti rfl (e := 24) rfl rfl ?_
          rw [M2.2.2.2.2]
          refine wn_if_ne rfl (e := 27) rfl (by omega) (fun c_24 => absurd c_24 (by omega)) (fun c_24 => ?_)
          refine wx_aload_n rfl (e := 28) rfl rfl ?_
          refine wx_getr rfl (e := 31) rfl rfl rfl ?_
          refine wx_iload_n rfl (e := 32) rfl rfl ?_
          refine wn_lald rfl (e := 33) rfl rfl (by omega) (by decide) ?_
          rw [(n3 i (by omega)).1.1]
          refine wx_aload_n rfl (e := 34) rfl rfl ?_
          refine wx_getr rfl (e := 37) rfl rfl rfl ?_
          refine wx_iload_n rfl (e := 38) rfl rfl ?_
          refine wn_lald rfl (e := 39) rfl rfl (by omega) (by decide) ?_
          rw [(hK.2.2 t hlt).2.2.2 hk]
          refine wx_lcmp rfl (e := 40) rfl ?_
          refine wx_if_ne rfl (e := 43) rfl (fun c_40 => ?_) (fun c_40 => ?_)
          · have hG : dpS N.1 (wdT b n t) (i + 1) = dpS N.1 (wdT b n t) i := by rw [dpS, decide_eq_false (fun w => c_40 ((lg_cmp_eq _ _).mpr (by rw [w]))), Bool.or_false]
            refine wn_iinc (m := 1) (L2 := [_, _, _]) rfl (e := 52) rfl rfl (by decide) rfl ?_
            refine wx_goto rfl ?_
            exact ih (i + 1) I2 (by omega) (by omega) f2 M2 (by rw [hG]; exact E2)
          · have hG : dpS N.1 (wdT b n t) (i + 1) = true := by rw [dpS, decide_eq_true ((wd27 (n3 i (by omega)).1.2 (wdOK hk)).mp ((lg_cmp_eq _ _).mp c_40)), Bool.or_true]
            refine wx_aload_n rfl (e := 44) rfl rfl ?_
            refine wx_iconst (v := (nI 3)) rfl (e := 45) rfl (by decide) ?_
            refine wx_iload_n rfl (e := 46) rfl rfl ?_
            refine wx_cv2 (mc := 0) (ms := 0) rfl (e := 49) rfl rfl (Nat.le_of_ble_eq_true rfl) ⟨by decide, by decide⟩ ?_
            refine c_wrong hn2 M2 E2 (k := 3) (tok := t) (by decide) (by omega) (lte_at he) (fun I3 f3 E3 => ?_)
            rw [lte_lte (by decide)] at E3
            refine wn_iinc (m := 1) (L2 := [_, _, _]) rfl (e := 52) rfl rfl (by decide) rfl ?_
            refine wx_goto rfl ?_
            exact ih (i + 1) I3 (by omega) (by omega) (f2.tr f3.m) (M2.g f3) (by rw [hG]; exact E3)
    refine wx_iconst (v := (nI 0)) rfl (e := 11) rfl (by decide) ?_
    refine wx_istore_n (L2 := [_, _, _]) rfl (e := 12) rfl (by decide) rfl ?_
    exact loop (N.2.2 + 1) 0 (nx t I) (by omega) (by omega) nx.m M1 (by rw [show dpS N.1 (wdT b n t) 0 = false from rfl, lte_f]; exact hE.t (nx.f (by decide)) (nx.f (by decide)))
  · have k2 := F1.2.1
    have k1 := F1.1
    refine wx_iconst (v := (nI 0)) rfl (e := 11) rfl (by decide) ?_
    refine wx_istore_n (L2 := [_, _, _]) rfl (e := 12) rfl (by decide) rfl ?_
    refine wx_iload_n rfl (e := 13) rfl rfl ?_
    refine wx_aload_n rfl (e := 14) rfl rfl ?_
    refine wx_geti rfl (e := 17) rfl rfl ?_
    refine wx_ic_ge rfl (e := 20) rfl (fun c_17 => ?_) (fun c_17 => ?_)
    · refine wx_iload_n rfl (e := 56) rfl rfl ?_
      refine wx_iret rfl rfl rfl ⟨by decide, by decide⟩ ?_
      exact hn k hc F1
    · refine wx_aload_n rfl (e := 21) rfl rfl ?_
      refine wx_geti rfl (e := 24) rfl rfl ?_
      rw [F1.2.2.1]
      refine wn_if_ne rfl (e := 27) rfl (by omega) (fun c_24 => ?_) (fun c_24 => absurd c_24 (by omega))
      refine wx_iload_n rfl (e := 56) rfl rfl ?_
      refine wx_iret rfl rfl rfl ⟨by decide, by decide⟩ ?_
      exact hn k hc F1
theorem c_named0 {d Lx tt rt u : Nat} {I : Nat → Nat → Int32} {G : Nat → Nat → Int64} {Q : ab_Q} {e : Nat} (he : ¬ e = 0) (he2 : e ≤ 5) (h13 : I 55 13 = nI e) (hq : ∀ v, Q (some (.int v)) (hp Lx tt rt u I G)) : ab_call ab_MT (d + 4) 204 [.ref 55] (hp Lx tt rt u I G) 0 0 Q := by
  refine wx_in (M := mX11_named) rfl rfl rfl (Nat.le_of_ble_eq_true rfl) ?_
  refine wx_aload_n rfl (e := 1) rfl rfl ?_
  refine wx_geti rfl (e := 4) rfl rfl ?_
  refine wx_istore_n (L2 := [_, _, _]) rfl (e := 5) rfl (by decide) rfl ?_
  refine wx_aload_n rfl (e := 6) rfl rfl ?_
  refine wx_iconst (v := (nI 1)) rfl (e := 7) rfl (by decide) ?_
  refine wx_cv1 (mc := 0) (ms := 0) rfl (e := 10) rfl rfl (Nat.le_of_ble_eq_true rfl) ⟨by decide, by decide⟩ ?_
  refine c_must0 he he2 h13 ?_
  refine wx_iconst (v := (nI 0)) rfl (e := 11) rfl (by decide) ?_
  refine wx_istore_n (L2 := [_, _, _]) rfl (e := 12) rfl (by decide) rfl ?_
  refine wx_iload_n rfl (e := 13) rfl rfl ?_
  refine wx_aload_n rfl (e := 14) rfl rfl ?_
  refine wx_geti rfl (e := 17) rfl rfl ?_
  refine wx_ic_ge rfl (e := 20) rfl (fun c_17 => ?_) (fun c_17 => ?_)
  · refine wx_iload_n rfl (e := 56) rfl rfl ?_
    refine wx_iret rfl rfl rfl ⟨by decide, by decide⟩ ?_
    exact hq _
  · refine wx_aload_n rfl (e := 21) rfl rfl ?_
    refine wx_geti rfl (e := 24) rfl rfl ?_
    rw [h13]
    refine wn_if_ne rfl (e := 27) rfl (by omega) (fun c_24 => ?_) (fun c_24 => absurd c_24 (by omega))
    refine wx_iload_n rfl (e := 56) rfl rfl ?_
    refine wx_iret rfl rfl rfl ⟨by decide, by decide⟩ ?_
    exact hq _
set_option maxHeartbeats 1000000 in
theorem c_ends {d Lx tt rt u : Nat} {I : Nat → Nat → Int32} {G : Nat → Nat → Int64} {Q : ab_Q} {b : Nat → Nat} {n t : Nat} (hM : MS b n t I G) {N : (Nat → List Nat) × (Nat → Int32) × Nat} (hN : NMm I G N) (h17 : N.2.2 < 17) {tok : Nat} (htok : tok < t) (h24 : kd b n tok = 24) {a : Int32} (hy : kd b n t = 59 → t < 400 → ∀ I2 G2, (∀ q, q ≠ 55 → q ≠ 64 → I2 q = I q) → (∀ k, k ≠ 11 → k ≠ 20 → I2 55 k = I 55 k) → (∀ q, q ≠ 63 → G2 q = G q) → MS b n (t + 1) I2 G2 → NMm I2 G2 (psN N (wdT b n tok) a) → Q none (hp Lx tt rt u I2 G2)) (hn : ∀ k, (k = 1 ∧ ¬ kd b n t = 59) ∨ (k = 2 ∧ kd b n t = 59 ∧ 400 ≤ t) → FM b n k t (ft k (stA b n t) I) → Q none (hp Lx tt rt u (ft k (stA b n t) I) G)) : ab_call ab_MT (d + 4) 205 [.ref 55, .int (nI tok), .int a] (hp Lx tt rt u I G) 0 0 Q := by
  obtain ⟨⟨m, hK, hm⟩, ht, hgd, r11, r13⟩ := id hM
  have hlt := hm tok (by omega) (fun j hj => hgd j (by omega))
  have hK1 := hK.1
  obtain ⟨n1, n2, n3⟩ := id hN
  refine wx_in (M := mX11_ends) rfl rfl rfl (Nat.le_of_ble_eq_true rfl) ?_
  refine wx_aload_n rfl (e := 1) rfl rfl ?_
  refine wx_iconst (v := (nI 4)) rfl (e := 2) rfl (by decide) ?_
  refine wx_cv1 (mc := 0) (ms := 0) rfl (e := 5) rfl rfl (Nat.le_of_ble_eq_true rfl) ⟨by decide, by decide⟩ ?_
  refine c_must hM (κ := 59) (by decide) (by decide) (by decide) (by decide) (fun hk h4 M1 => ?_) (fun k hc F1 => ?_)
  · have r13b := M1.2.2.2.2
    refine wx_aload_n rfl (e := 6) rfl rfl ?_
    refine wx_geti rfl (e := 9) rfl rfl ?_
    rw [r13b]
    refine wn_if_le rfl (e := 12) rfl (by omega) (fun c_9 => ?_) (fun c_9 => absurd c_9 (by omega))
    refine wx_aload_n rfl (e := 14) rfl rfl ?_
    refine wx_getr rfl (e := 17) rfl rfl rfl ?_
    refine wx_aload_n rfl (e := 18) rfl rfl ?_
    refine wx_geti rfl (e := 21) rfl rfl ?_
    rw [nx.f (by decide), n2]
    refine wx_aload_n rfl (e := 22) rfl rfl ?_
    refine wx_getr rfl (e := 25) rfl rfl rfl ?_
    refine wx_iload_n rfl (e := 26) rfl rfl ?_
    refine wn_lald rfl (e := 27) rfl rfl (by omega) (by decide) ?_
    rw [(hK.2.2 tok hlt).2.2.2 h24]
    refine wn_last rfl (e := 28) rfl rfl (by decide) (by omega) (by decide) ?_
    refine wx_aload_n rfl (e := 29) rfl rfl ?_
    refine wx_getr rfl (e := 32) rfl rfl rfl ?_
    refine wx_aload_n rfl (e := 33) rfl rfl ?_
    refine wx_geti rfl (e := 36) rfl rfl ?_
    rw [nx.f (by decide), n2]
    refine wx_iload_n rfl (e := 37) rfl rfl ?_
    refine wn_iast rfl (e := 38) rfl rfl (by decide) (by omega) (by decide) ?_
    refine wx_aload_n rfl (e := 39) rfl rfl ?_
    refine wx_dup rfl (e := 40) rfl rfl ?_
    refine wx_geti rfl (e := 43) rfl rfl ?_
    rw [wr_other _ _ _ _ (by decide), nx.f (by decide), n2]
    refine wx_iconst (v := (nI 1)) rfl (e := 44) rfl (by decide) ?_
    refine wn_iadd rfl (e := 45) rfl ?_
    refine wx_puti rfl (e := 48) rfl rfl (by decide) ?_
    refine wx_ret rfl rfl ⟨by decide, by decide⟩ ?_
    have e55 : ∀ k, k ≠ 11 → k ≠ 20 → (wr (wr (nx t I) 64 N.2.2 a) 55 20 (nI (N.2.2 + 1))) 55 k = I 55 k := fun k h1 h2 => by rw [wr_ne _ _ _ _ h2, wr_other _ _ _ _ (by decide), nx.f h1]
    have eq : ∀ q, q ≠ 55 → q ≠ 64 → (wr (wr (nx t I) 64 N.2.2 a) 55 20 (nI (N.2.2 + 1))) q = I q := fun q h1 h2 => by rw [wr_other _ _ _ _ h1, wr_other _ _ _ _ h2, nx.q h1]
    refine hy hk h4 (wr (wr (nx t I) 64 N.2.2 a) 55 20 (nI (N.2.2 + 1))) (wl G 63 N.2.2 (lN (vl_ 27 (wdT b n tok)))) eq e55 (fun q h => wl_other _ _ _ _ h) ⟨⟨m, hK.kept (e55 10 (by decide) (by decide)) (eq 58 (by decide) (by decide)) (eq 59 (by decide) (by decide)) (eq 60 (by decide) (by decide)) (wl_other _ _ _ _ (by decide)), hm⟩, M1.2.1, M1.2.2.1, by rw [wr_ne _ _ _ _ (by decide), wr_other _ _ _ _ (by decide)]; exact M1.2.2.2.1, (e55 13 (by decide) (by decide)).trans r13⟩ ⟨by show N.2.2 + 1 ≤ 17; omega, wr_eq _ _ _ _, fun i hi => ?_⟩
    have hi : i < N.2.2 + 1 := hi
    rw [wr_other _ _ _ _ (by decide)]
    show (_ = lN (vl_ 27 (if i = N.2.2 then wdT b n tok else N.1 i)) ∧ ltr (if i = N.2.2 then wdT b n tok else N.1 i) ∧ (if i = N.2.2 then wdT b n tok else N.1 i).length ≤ 8) ∧ _ = (if i = N.2.2 then a else N.2.1 i)
    by_cases zi : i = N.2.2
    · rw [if_pos zi, if_pos zi, zi, wl_eq, wr_eq]; exact ⟨⟨rfl, wdOK h24⟩, rfl⟩
    · rw [if_neg zi, if_neg zi, wl_ne _ _ _ _ zi, wr_ne _ _ _ _ zi, nx.q (by decide)]; exact n3 i (by omega)
  · have r13b := F1.2.2.1
    have k2 := F1.2.1
    have k1 := F1.1
    refine wx_aload_n rfl (e := 6) rfl rfl ?_
    refine wx_geti rfl (e := 9) rfl rfl ?_
    rw [r13b]
    refine wn_if_le rfl (e := 12) rfl (by omega) (fun c_9 => absurd c_9 (by omega)) (fun c_9 => ?_)
    refine wx_ret rfl rfl ⟨by decide, by decide⟩ ?_
    exact hn k hc F1
theorem c_ends0 {d Lx tt rt u : Nat} {I : Nat → Nat → Int32} {G : Nat → Nat → Int64} {Q : ab_Q} {e : Nat} (he : ¬ e = 0) (he2 : e ≤ 5) (h13 : I 55 13 = nI e) {v a : Int32} (hq : Q none (hp Lx tt rt u I G)) : ab_call ab_MT (d + 4) 205 [.ref 55, .int v, .int a] (hp Lx tt rt u I G) 0 0 Q := by
  refine wx_in (M := mX11_ends) rfl rfl rfl (Nat.le_of_ble_eq_true rfl) ?_
  refine wx_aload_n rfl (e := 1) rfl rfl ?_
  refine wx_iconst (v := (nI 4)) rfl (e := 2) rfl (by decide) ?_
  refine wx_cv1 (mc := 0) (ms := 0) rfl (e := 5) rfl rfl (Nat.le_of_ble_eq_true rfl) ⟨by decide, by decide⟩ ?_
  refine c_must0 he he2 h13 ?_
  refine wx_aload_n rfl (e := 6) rfl rfl ?_
  refine wx_geti rfl (e := 9) rfl rfl ?_
  rw [h13]
  refine wn_if_le rfl (e := 12) rfl (by omega) (fun c_9 => absurd c_9 (by omega)) (fun c_9 => ?_)
  refine wx_ret rfl rfl ⟨by decide, by decide⟩ ?_
  exact hq
theorem chS_st {nm : Nat → List Nat} {na : Nat → Int32} {w : List Nat} {i : Nat} (h0 : chS nm na w i < nI 0) (h1 : nm i = w) (h2 : ¬ na i < nI 0) : ∀ k, i < k → chS nm na w k = na i
  | 0, h => absurd h (Nat.not_lt_zero _)
  | k + 1, h => by
    by_cases z : i = k
    · subst z; rw [chS, if_pos h0, if_pos ⟨h1, h2⟩]
    · rw [chS, chS_st h0 h1 h2 k (by omega), if_neg h2]
set_option maxHeartbeats 1000000 in
theorem c_known {d Lx tt rt u : Nat} {I : Nat → Nat → Int32} {G : Nat → Nat → Int64} {Q : ab_Q} {b : Nat → Nat} {n t : Nat} (hn2 : n ≤ 2000) (hM : MS b n t I G) {e : Nat × Nat} (hE : LTm b n e I) (he : ¬ e.1 = 0 → e.2 < t) {N : (Nat → List Nat) × (Nat → Int32) × Nat} (hN : NMm I G N) (hy : kd b n t = 24 → t < 400 → ∀ I2, frm I I2 → MS b n (t + 1) I2 G → LTm b n (lte e (decide ((chS N.1 N.2.1 (wdT b n t) N.2.2) < nI 0)) 4 t) I2 → Q (some (.int (chS N.1 N.2.1 (wdT b n t) N.2.2))) (hp Lx tt rt u I2 G)) (hn : ∀ k, (k = 1 ∧ ¬ kd b n t = 24) ∨ (k = 2 ∧ kd b n t = 24 ∧ 400 ≤ t) → FM b n k t (ft k (stA b n t) I) → Q (some (.int (-1))) (hp Lx tt rt u (ft k (stA b n t) I) G)) : ab_call ab_MT (d + 4) 206 [.ref 55] (hp Lx tt rt u I G) 0 0 Q := by
  obtain ⟨⟨m, hK, hm⟩, ht, hgd, r11, r13⟩ := id hM
  have hlt := hm t ht hgd
  have hK1 := hK.1
  obtain ⟨n1, n2, n3⟩ := id hN
  refine wx_in (M := mX11_knownChurch) rfl rfl rfl (Nat.le_of_ble_eq_true rfl) ?_
  refine wx_aload_n rfl (e := 1) rfl rfl ?_
  refine wx_geti rfl (e := 4) rfl rfl ?_
  rw [r11]
  refine wx_istore_n (L2 := [_, _, _]) rfl (e := 5) rfl (by decide) rfl ?_
  refine wx_aload_n rfl (e := 6) rfl rfl ?_
  refine wx_iconst (v := (nI 1)) rfl (e := 7) rfl (by decide) ?_
  refine wx_cv1 (mc := 0) (ms := 0) rfl (e := 10) rfl rfl (Nat.le_of_ble_eq_true rfl) ⟨by decide, by decide⟩ ?_
  refine c_must hM (κ := 24) (by decide) (by decide) (by decide) (by decide) (fun hk h4 M1 => ?_) (fun k hc F1 => ?_)
  · have k0 := True.intro
    have loop : ∀ (q i : Nat), i ≤ N.2.2 → N.2.2 - i < q → chS N.1 N.2.1 (wdT b n t) i = -1 → WP (d + 3) mX11_knownChurch Q 21 [some (.ref 55), some (.int (nI t)), some (.int (nI i))] [] (hp Lx tt rt u (nx t I) G) 0 0 := by
      intro q
      induction q with
      | zero => intro i h1 h2; omega
      | succ q ih =>
        intro i h1 h2 hc0
        refine wx_iload_n rfl (e := 22) rfl rfl ?_
        refine wx_aload_n rfl (e := 23) rfl rfl ?_
        refine wx_geti rfl (e := 26) rfl rfl ?_
        rw [nx.f (by decide), n2]
        refine wn_ic_ge rfl (e := 29) rfl (by omega) (by omega) (fun c_26 => ?_) (fun c_26 => ?_)
        · refine wx_aload_n rfl (e := 68) rfl rfl ?_
          refine wx_iconst (v := (nI 4)) rfl (e := 69) rfl (by decide) ?_
          refine wx_iload_n rfl (e := 70) rfl rfl ?_
          refine wx_cv2 (mc := 0) (ms := 0) rfl (e := 73) rfl rfl (Nat.le_of_ble_eq_true rfl) ⟨by decide, by decide⟩ ?_
          refine c_wrong hn2 M1 (hE.t (nx.f (by decide)) (nx.f (by decide))) (k := 4) (tok := t) (by decide) (by omega) (fun w => Or.inl (he w)) (fun I3 f3 E3 => ?_)
          refine wx_iconst (v := (-1)) rfl (e := 74) rfl (by decide) ?_
          refine wx_iret rfl rfl rfl ⟨by decide, by decide⟩ ?_
          have ei : i = N.2.2 := by omega
          subst ei
          rw [hc0] at hy
          exact hy hk h4 I3 (nx.m.tr f3.m) (M1.g f3) E3
        · refine wx_aload_n rfl (e := 30) rfl rfl ?_
          refine wx_getr rfl (e := 33) rfl rfl rfl ?_
          refine wx_iload_n rfl (e := 34) rfl rfl ?_
          refine wn_lald rfl (e := 35) rfl rfl (by omega) (by decide) ?_
          rw [(n3 i (by omega)).1.1]
          refine wx_aload_n rfl (e := 36) rfl rfl ?_
          refine wx_getr rfl (e := 39) rfl rfl rfl ?_
          refine wx_iload_n rfl (e := 40) rfl rfl ?_
          refine wn_lald rfl (e := 41) rfl rfl (by omega) (by decide) ?_
          rw [(hK.2.2 t hlt).2.2.2 hk]
          refine wx_lcmp rfl (e := 42) rfl ?_
          refine wx_if_ne rfl (e := 45) rfl (fun c_42 => ?_) (fun c_42 => ?_)
          · have hG : chS N.1 N.2.1 (wdT b n t) (i + 1) = -1 := by rw [chS, if_pos (by rw [hc0]; decide), if_neg (fun w => c_42 ((lg_cmp_eq _ _).mpr (by rw [w.1])))]
            refine wn_iinc (m := 1) (L2 := [_, _, _]) rfl (e := 64) rfl rfl (by decide) rfl ?_
            refine wx_goto rfl ?_
            exact ih (i + 1) (by omega) (by omega) hG
          · have hm1 := (wd27 (n3 i (by omega)).1.2 (wdOK hk)).mp ((lg_cmp_eq _ _).mp c_42)
            refine wx_aload_n rfl (e := 46) rfl rfl ?_
            refine wx_getr rfl (e := 49) rfl rfl rfl ?_
            refine wx_iload_n rfl (e := 50) rfl rfl ?_
            refine wn_iald rfl (e := 51) rfl rfl (by omega) (by decide) ?_
            rw [nx.q (by decide), (n3 i (by omega)).2]
            refine wx_if_lt rfl (e := 54) rfl (fun c_51 => ?_) (fun c_51 => ?_)
            · rw [← nI_0] at c_51
              have hG : chS N.1 N.2.1 (wdT b n t) (i + 1) = -1 := by rw [chS, if_pos (by rw [hc0]; decide), if_neg (fun w => w.2 c_51)]
              refine wn_iinc (m := 1) (L2 := [_, _, _]) rfl (e := 64) rfl rfl (by decide) rfl ?_
              refine wx_goto rfl ?_
              exact ih (i + 1) (by omega) (by omega) hG
            · rw [← nI_0] at c_51
              refine wx_aload_n rfl (e := 55) rfl rfl ?_
              refine wx_getr rfl (e := 58) rfl rfl rfl ?_
              refine wx_iload_n rfl (e := 59) rfl rfl ?_
              refine wn_iald rfl (e := 60) rfl rfl (by omega) (by decide) ?_
              rw [nx.q (by decide), (n3 i (by omega)).2]
              refine wx_iret rfl rfl rfl ⟨by decide, by decide⟩ ?_
              have hcc := chS_st (by rw [hc0]; decide) hm1 c_51 N.2.2 (by omega)
              rw [hcc] at hy
              exact hy hk h4 (nx t I) nx.m M1 (by rw [decide_eq_false c_51, lte_f]; exact hE.t (nx.f (by decide)) (nx.f (by decide)))
    refine wx_aload_n rfl (e := 11) rfl rfl ?_
    refine wx_geti rfl (e := 14) rfl rfl ?_
    rw [M1.2.2.2.2]
    refine wn_if_le rfl (e := 17) rfl (by omega) (fun c_14 => ?_) (fun c_14 => absurd c_14 (by omega))
    refine wx_iconst (v := (nI 0)) rfl (e := 20) rfl (by decide) ?_
    refine wx_istore_n (L2 := [_, _, _]) rfl (e := 21) rfl (by decide) rfl ?_
    exact loop (N.2.2 + 1) 0 (by omega) (by omega) rfl
  · have k2 := F1.2.1
    have k1 := F1.1
    refine wx_aload_n rfl (e := 11) rfl rfl ?_
    refine wx_geti rfl (e := 14) rfl rfl ?_
    rw [F1.2.2.1]
    refine wn_if_le rfl (e := 17) rfl (by omega) (fun c_14 => absurd c_14 (by omega)) (fun c_14 => ?_)
    refine wx_iconst (v := (-1)) rfl (e := 18) rfl (by decide) ?_
    refine wx_iret rfl rfl rfl ⟨by decide, by decide⟩ ?_
    exact hn k hc F1
theorem c_known0 {d Lx tt rt u : Nat} {I : Nat → Nat → Int32} {G : Nat → Nat → Int64} {Q : ab_Q} {e : Nat} (he : ¬ e = 0) (he2 : e ≤ 5) (h13 : I 55 13 = nI e) (hq : Q (some (.int (-1))) (hp Lx tt rt u I G)) : ab_call ab_MT (d + 4) 206 [.ref 55] (hp Lx tt rt u I G) 0 0 Q := by
  refine wx_in (M := mX11_knownChurch) rfl rfl rfl (Nat.le_of_ble_eq_true rfl) ?_
  refine wx_aload_n rfl (e := 1) rfl rfl ?_
  refine wx_geti rfl (e := 4) rfl rfl ?_
  refine wx_istore_n (L2 := [_, _, _]) rfl (e := 5) rfl (by decide) rfl ?_
  refine wx_aload_n rfl (e := 6) rfl rfl ?_
  refine wx_iconst (v := (nI 1)) rfl (e := 7) rfl (by decide) ?_
  refine wx_cv1 (mc := 0) (ms := 0) rfl (e := 10) rfl rfl (Nat.le_of_ble_eq_true rfl) ⟨by decide, by decide⟩ ?_
  refine c_must0 he he2 h13 ?_
  refine wx_aload_n rfl (e := 11) rfl rfl ?_
  refine wx_geti rfl (e := 14) rfl rfl ?_
  rw [h13]
  refine wn_if_le rfl (e := 17) rfl (by omega) (fun c_14 => absurd c_14 (by omega)) (fun c_14 => ?_)
  refine wx_iconst (v := (-1)) rfl (e := 18) rfl (by decide) ?_
  refine wx_iret rfl rfl rfl ⟨by decide, by decide⟩ ?_
  exact hq
set_option maxHeartbeats 1000000 in
theorem c_bounded {d Lx tt rt u : Nat} {I : Nat → Nat → Int32} {G : Nat → Nat → Int64} {Q : ab_Q} {b : Nat → Nat} {n t : Nat} (hn2 : n ≤ 2000) (hM : MS b n t I G) {e : Nat × Nat} (hE : LTm b n e I) (he : ¬ e.1 = 0 → e.2 < t) {lo hi : Nat} (hlo : lo < 100000) (hhi : hi < 100000) {c : Bool} (hc : kd b n t = 25 → (c = true ↔ ¬ (lo ≤ nuT b n t ∧ nuT b n t ≤ hi))) (hy : kd b n t = 25 → t < 400 → ∀ I2, frm I I2 → MS b n (t + 1) I2 G → LTm b n (lte e c 5 t) I2 → Q (some (.int (nI (nuT b n t)))) (hp Lx tt rt u I2 G)) (hn : ∀ k, (k = 1 ∧ ¬ kd b n t = 25) ∨ (k = 2 ∧ kd b n t = 25 ∧ 400 ≤ t) → ∀ I2 v, frm I I2 → FM b n k t I2 → Q (some (.int v)) (hp Lx tt rt u I2 G)) : ab_call ab_MT (d + 3) 207 [.ref 55, .int (nI lo), .int (nI hi)] (hp Lx tt rt u I G) 0 0 Q := by
  obtain ⟨⟨m, hK, hm⟩, ht, hgd, r11, r13⟩ := id hM
  have hlt := hm t ht hgd
  have hK1 := hK.1
  refine wx_in (M := mX11_bounded) rfl rfl rfl (Nat.le_of_ble_eq_true rfl) ?_
  refine wx_aload_n rfl (e := 1) rfl rfl ?_
  refine wx_geti rfl (e := 4) rfl rfl ?_
  rw [r13]
  refine wn_if_gt rfl (e := 7) rfl (by omega) (fun c_4 => absurd c_4 (by omega)) (fun c_4 => ?_)
  refine wx_aload_n rfl (e := 8) rfl rfl ?_
  refine wx_iconst (v := (nI 2)) rfl (e := 9) rfl (by decide) ?_
  refine wx_cv1 (mc := 0) (ms := 0) rfl (e := 12) rfl rfl (Nat.le_of_ble_eq_true rfl) ⟨by decide, by decide⟩ ?_
  refine c_is hM (κ := 25) (by decide) (by decide) (by decide) (fun hz => ?_) (fun hz => ?_)
  · refine wn_if_ne rfl (e := 15) rfl (by omega) (fun c_12 => ?_) (fun c_12 => absurd c_12 (by omega))
    refine wx_aload_n rfl (e := 23) rfl rfl ?_
    refine wx_getr rfl (e := 26) rfl rfl rfl ?_
    refine wx_aload_n rfl (e := 27) rfl rfl ?_
    refine wx_geti rfl (e := 30) rfl rfl ?_
    rw [r11]
    refine wn_iald rfl (e := 31) rfl rfl (by omega) (by decide) ?_
    rw [(hK.2.2 t hlt).2.2.1 hz]
    have hnu := nu_lt hz
    refine wx_istore_n (L2 := [_, _, _, _]) rfl (e := 32) rfl (by decide) rfl ?_
    refine wx_iload_n rfl (e := 33) rfl rfl ?_
    refine wx_iload_n rfl (e := 34) rfl rfl ?_
    refine wn_ic_lt rfl (e := 37) rfl (by omega) (by omega) (fun c_34 => ?_) (fun c_34 => ?_)
    · refine wx_aload_n rfl (e := 43) rfl rfl ?_
      refine wx_iconst (v := (nI 5)) rfl (e := 44) rfl (by decide) ?_
      refine wx_aload_n rfl (e := 45) rfl rfl ?_
      refine wx_geti rfl (e := 48) rfl rfl ?_
      rw [r11]
      refine wx_cv2 (mc := 0) (ms := 0) rfl (e := 51) rfl rfl (Nat.le_of_ble_eq_true rfl) ⟨by decide, by decide⟩ ?_
      refine c_wrong hn2 hM hE (k := 5) (tok := t) (by decide) (Nat.le_refl _) (fun w => Or.inl (he w)) (fun I3 f3 E3 => ?_)
      have MJ := hM.g f3
      refine wx_aload_n rfl (e := 52) rfl rfl ?_
      refine wx_cv0 (mc := 0) (ms := 0) rfl (e := 55) rfl rfl (Nat.le_of_ble_eq_true rfl) ⟨by decide, by decide⟩ ?_
      refine c_goes MJ (fun h4 => ?_) (fun h4 => ?_)
      · refine wx_iload_n rfl (e := 56) rfl rfl ?_
        refine wx_iret rfl rfl rfl ⟨by decide, by decide⟩ ?_
        have ec : c = true := (hc hz).mpr (by omega)
        exact hy hz h4 (nx t I3) (f3.m.tr nx.m) (MJ.nx h4 (by omega)) (by rw [ec]; exact E3.t (nx.f (by decide)) (nx.f (by decide)))
      · refine wx_iload_n rfl (e := 56) rfl rfl ?_
        refine wx_iret rfl rfl rfl ⟨by decide, by decide⟩ ?_
        exact hn 2 (Or.inr ⟨rfl, hz, h4⟩) _ _ (f3.m.tr ft.m2) (ft.m (by decide) (by decide))
    · refine wx_iload_n rfl (e := 38) rfl rfl ?_
      refine wx_iload_n rfl (e := 39) rfl rfl ?_
      refine wn_ic_le rfl (e := 42) rfl (by omega) (by omega) (fun c_39 => ?_) (fun c_39 => ?_)
      · have MJ := hM
        refine wx_aload_n rfl (e := 52) rfl rfl ?_
        refine wx_cv0 (mc := 0) (ms := 0) rfl (e := 55) rfl rfl (Nat.le_of_ble_eq_true rfl) ⟨by decide, by decide⟩ ?_
        refine c_goes MJ (fun h4 => ?_) (fun h4 => ?_)
        · refine wx_iload_n rfl (e := 56) rfl rfl ?_
          refine wx_iret rfl rfl rfl ⟨by decide, by decide⟩ ?_
          have ec : c = false := by cases c with | false => rfl | true => exact absurd ((hc hz).mp rfl) (by omega)
          exact hy hz h4 (nx t I) (frm.rf.tr nx.m) (MJ.nx h4 (by omega)) (by rw [ec, lte_f]; exact hE.t (nx.f (by decide)) (nx.f (by decide)))
        · refine wx_iload_n rfl (e := 56) rfl rfl ?_
          refine wx_iret rfl rfl rfl ⟨by decide, by decide⟩ ?_
          exact hn 2 (Or.inr ⟨rfl, hz, h4⟩) _ _ (frm.rf.tr ft.m2) (ft.m (by decide) (by decide))
      · refine wx_aload_n rfl (e := 43) rfl rfl ?_
        refine wx_iconst (v := (nI 5)) rfl (e := 44) rfl (by decide) ?_
        refine wx_aload_n rfl (e := 45) rfl rfl ?_
        refine wx_geti rfl (e := 48) rfl rfl ?_
        rw [r11]
        refine wx_cv2 (mc := 0) (ms := 0) rfl (e := 51) rfl rfl (Nat.le_of_ble_eq_true rfl) ⟨by decide, by decide⟩ ?_
        refine c_wrong hn2 hM hE (k := 5) (tok := t) (by decide) (Nat.le_refl _) (fun w => Or.inl (he w)) (fun I3 f3 E3 => ?_)
        have MJ := hM.g f3
        refine wx_aload_n rfl (e := 52) rfl rfl ?_
        refine wx_cv0 (mc := 0) (ms := 0) rfl (e := 55) rfl rfl (Nat.le_of_ble_eq_true rfl) ⟨by decide, by decide⟩ ?_
        refine c_goes MJ (fun h4 => ?_) (fun h4 => ?_)
        · refine wx_iload_n rfl (e := 56) rfl rfl ?_
          refine wx_iret rfl rfl rfl ⟨by decide, by decide⟩ ?_
          have ec : c = true := (hc hz).mpr (by omega)
          exact hy hz h4 (nx t I3) (f3.m.tr nx.m) (MJ.nx h4 (by omega)) (by rw [ec]; exact E3.t (nx.f (by decide)) (nx.f (by decide)))
        · refine wx_iload_n rfl (e := 56) rfl rfl ?_
          refine wx_iret rfl rfl rfl ⟨by decide, by decide⟩ ?_
          exact hn 2 (Or.inr ⟨rfl, hz, h4⟩) _ _ (f3.m.tr ft.m2) (ft.m (by decide) (by decide))
  · refine wn_if_ne rfl (e := 15) rfl (by omega) (fun c_12 => absurd c_12 (by omega)) (fun c_12 => ?_)
    refine wx_aload_n rfl (e := 16) rfl rfl ?_
    refine wx_iconst (v := (nI 1)) rfl (e := 17) rfl (by decide) ?_
    refine wx_cv1 (mc := 0) (ms := 0) rfl (e := 20) rfl rfl (Nat.le_of_ble_eq_true rfl) ⟨by decide, by decide⟩ ?_
    refine c_fail hM (k := 1) ?_
    refine wx_iload_n rfl (e := 21) rfl rfl ?_
    refine wx_iret rfl rfl rfl ⟨by decide, by decide⟩ ?_
    exact hn 1 (Or.inl ⟨rfl, hz⟩) _ _ ft.m2 (ft.m (by decide) (by decide))
theorem c_bounded0 {d Lx tt rt u : Nat} {I : Nat → Nat → Int32} {G : Nat → Nat → Int64} {Q : ab_Q} {e : Nat} (he : ¬ e = 0) (he2 : e ≤ 5) (h13 : I 55 13 = nI e) {v w : Int32} (hq : Q (some (.int v)) (hp Lx tt rt u I G)) : ab_call ab_MT (d + 2) 207 [.ref 55, .int v, .int w] (hp Lx tt rt u I G) 0 0 Q := by
  refine wx_in (M := mX11_bounded) rfl rfl rfl (Nat.le_of_ble_eq_true rfl) ?_
  refine wx_aload_n rfl (e := 1) rfl rfl ?_
  refine wx_geti rfl (e := 4) rfl rfl ?_
  rw [h13]
  refine wn_if_gt rfl (e := 7) rfl (by omega) (fun c_4 => ?_) (fun c_4 => absurd c_4 (by omega))
  refine wx_aload_n rfl (e := 16) rfl rfl ?_
  refine wx_iconst (v := (nI 1)) rfl (e := 17) rfl (by decide) ?_
  refine wx_cv1 (mc := 0) (ms := 0) rfl (e := 20) rfl rfl (Nat.le_of_ble_eq_true rfl) ⟨by decide, by decide⟩ ?_
  refine c_fail0 he he2 h13 ?_
  refine wx_iload_n rfl (e := 21) rfl rfl ?_
  refine wx_iret rfl rfl rfl ⟨by decide, by decide⟩ ?_
  exact hq

/-! the class: the reader begins and ends -/
def frR (o : Nat) (I I2 : Nat → Nat → Int32) (G G2 : Nat → Nat → Int64) : Prop := (∀ q, q ≠ 33 → q ≠ 34 → q ≠ 36 → q ≠ 37 → ¬ (o ≤ q ∧ q ≤ o + 14) → I2 q = I q) ∧ ∀ q, q ≠ 38 → q ≠ o + 7 → q ≠ o + 8 → G2 q = G q
theorem frR.tr {o : Nat} {I I2 I3 : Nat → Nat → Int32} {G G2 G3 : Nat → Nat → Int64} (h1 : frR o I I2 G G2) (h2 : frR o I2 I3 G2 G3) : frR o I I3 G G3 := ⟨fun q a b c d e => (h2.1 q a b c d e).trans (h1.1 q a b c d e), fun q a b c => (h2.2 q a b c).trans (h1.2 q a b c)⟩
theorem frS.R {o : Nat} {I I2 : Nat → Nat → Int32} {G G2 : Nat → Nat → Int64} (h : frS o I I2 G G2) : frR o I I2 G G2 := ⟨fun q a _ _ _ e => h.1 q a e, fun q _ b c => h.2.2 q b c⟩
theorem frR.w {o k : Nat} {I : Nat → Nat → Int32} {G : Nat → Nat → Int64} {v : Int32} : frR o I (wr I 33 k v) G G := ⟨fun q a _ _ _ _ => wr_other _ _ _ _ a, fun _ _ _ _ => rfl⟩
theorem pf_rd {t rt u o : Nat} : wq (wq (PF t rt u) 33 1 (some o)) 33 2 (some (o + 1)) = PF t o u := by
  funext c k
  unfold wq va_up
  by_cases h : c = 33
  · subst h
    by_cases h2 : k = 2
    · subst h2; rfl
    · by_cases h1 : k = 1
      · subst h1; rfl
      · simp only [if_pos, h1, h2, if_false]
        match k, h1, h2 with
        | 0, _, _ => rfl
        | k + 3, _, _ => rfl
  · simp only [if_neg h]
    unfold PF
    split <;> first | rfl | (exact absurd rfl h)
theorem c_X7_laws_1 {d Lx t rt u : Nat} {I : Nat → Nat → Int32} {G : Nat → Nat → Int64} {Q : ab_Q} (hq : Q (some (.ref 2)) (99, SH Lx, I, G, wq (PF t rt u) 33 1 (some 1))) : ab_call ab_MT (d + 1) 91 [.ref 1] (99, SH Lx, I, G, wq (PF t rt u) 33 1 (some 1)) 0 0 Q := by
  refine wx_in (M := mX7_laws) rfl rfl rfl (Nat.le_of_ble_eq_true rfl) ?_
  refine wx_aload_n rfl (e := 1) rfl rfl ?_
  refine wx_getr rfl (e := 4) rfl rfl rfl ?_
  refine wx_aret rfl rfl (by decide) ⟨by decide, by decide⟩ ?_
  exact hq
theorem c_X7_laws_16 {d Lx t rt u : Nat} {I : Nat → Nat → Int32} {G : Nat → Nat → Int64} {Q : ab_Q} (hq : Q (some (.ref 17)) (99, SH Lx, I, G, wq (PF t rt u) 33 1 (some 16))) : ab_call ab_MT (d + 1) 91 [.ref 16] (99, SH Lx, I, G, wq (PF t rt u) 33 1 (some 16)) 0 0 Q := by
  refine wx_in (M := mX7_laws) rfl rfl rfl (Nat.le_of_ble_eq_true rfl) ?_
  refine wx_aload_n rfl (e := 1) rfl rfl ?_
  refine wx_getr rfl (e := 4) rfl rfl rfl ?_
  refine wx_aret rfl rfl (by decide) ⟨by decide, by decide⟩ ?_
  exact hq
theorem c_X7_laws2 {d Lx t rt u : Nat} {I : Nat → Nat → Int32} {G : Nat → Nat → Int64} {Q : ab_Q} {o : Nat} (ho : o = 1 ∨ o = 16) (hq : Q (some (.ref (o + 1))) (99, SH Lx, I, G, wq (PF t rt u) 33 1 (some o))) : ab_call ab_MT (d + 1) 91 [.ref o] (99, SH Lx, I, G, wq (PF t rt u) 33 1 (some o)) 0 0 Q := by
  rcases ho with rfl | rfl
  · exact c_X7_laws_1 hq
  · exact c_X7_laws_16 hq
set_option maxHeartbeats 2000000 in
theorem c_X4_begin {d Lx tt rt u : Nat} {I : Nat → Nat → Int32} {G : Nat → Nat → Int64} {Q : ab_Q} {o n : Nat} {B : Nat → Int32} {xs : Nat → Int32} (ho : o = 1 ∨ o = 16) (hT : TP I B n) (hW : CW G) (hs : SP xs I) (hq : ∀ I2 G2, frR o I I2 G G2 → CP (bt B) n o ps0 I2 G2 → Q none (hp Lx tt o u I2 G2)) : ab_call ab_MT (d + 7) 56 [.ref 33, .ref o, .ref 31] (hp Lx tt rt u I G) 0 0 Q := by
  refine wx_in (M := mX4_begin) rfl rfl rfl (Nat.le_of_ble_eq_true rfl) ?_
  refine wx_aload_n rfl (e := 1) rfl rfl ?_
  refine wx_getr rfl (e := 4) rfl rfl rfl ?_
  refine wx_aload_n rfl (e := 5) rfl rfl ?_
  refine wx_cv1 (mc := 0) (ms := 0) rfl (e := 8) rfl rfl (Nat.le_of_ble_eq_true rfl) ⟨by decide, by decide⟩ ?_
  refine c_X8_scan hT hW hs (fun I2 G2 m f2 K2 hm => ?_)
  refine wx_aload_n rfl (e := 9) rfl rfl ?_
  refine wx_cv0 (mc := 0) (ms := 0) rfl (e := 12) rfl (sh_t ho) (Nat.le_of_ble_eq_true rfl) ⟨by decide, by decide⟩ ?_
  refine c_X7_clear ho (fun I3 f3 z3 W3 j3 => ?_)
  refine wx_aload_n rfl (e := 13) rfl rfl ?_
  refine wx_aload_n rfl (e := 14) rfl rfl ?_
  refine wx_putr rfl (e := 17) rfl rfl (by decide) (by omega) ?_
  refine wx_aload_n rfl (e := 18) rfl rfl ?_
  refine wx_aload_n rfl (e := 19) rfl rfl ?_
  refine wx_cv0 (mc := 0) (ms := 0) rfl (e := 22) rfl (sh_t ho) (Nat.le_of_ble_eq_true rfl) ⟨by decide, by decide⟩ ?_
  refine c_X7_laws2 ho ?_
  refine wx_putr rfl (e := 25) rfl rfl (by decide) (by omega) ?_
  rw [pf_rd]
  show WP _ _ _ _ _ _ (hp Lx tt o u I3 G2) _ _
  refine wx_aload_n rfl (e := 26) rfl rfl ?_
  refine wx_iconst (v := (nI 0)) rfl (e := 27) rfl (by decide) ?_
  refine wx_puti rfl (e := 30) rfl rfl (by decide) ?_
  refine wx_aload_n rfl (e := 31) rfl rfl ?_
  refine wx_aload_n rfl (e := 32) rfl rfl ?_
  refine wx_getr rfl (e := 35) rfl rfl rfl ?_
  refine wx_iconst (v := (nI 0)) rfl (e := 36) rfl (by decide) ?_
  refine wx_cv1 (mc := 0) (ms := 0) rfl (e := 39) rfl rfl (Nat.le_of_ble_eq_true rfl) ⟨by decide, by decide⟩ ?_
  refine c_X8_kindAt (b := bt B) (n := n) (m := m) (K2.kept (by rw [wr_other _ _ _ _ (by decide)]; exact f3 34 (by omega) (by omega)) (by rw [wr_other _ _ _ _ (by decide)]; exact f3 36 (by omega) (by omega)) (by rw [wr_other _ _ _ _ (by decide)]; exact f3 37 (by omega) (by omega)) rfl) (hm 0 (by omega) (fun j hj => absurd hj (Nat.not_lt_zero _))) ?_
  refine wx_puti rfl (e := 42) rfl rfl (by decide) ?_
  refine wx_aload_n rfl (e := 43) rfl rfl ?_
  refine wx_iconst (v := (nI 0)) rfl (e := 44) rfl (by decide) ?_
  refine wx_puti rfl (e := 47) rfl rfl (by decide) ?_
  refine wx_aload_n rfl (e := 48) rfl rfl ?_
  refine wx_iconst (v := (nI 0)) rfl (e := 49) rfl (by decide) ?_
  refine wx_puti rfl (e := 52) rfl rfl (by decide) ?_
  refine wx_aload_n rfl (e := 53) rfl rfl ?_
  refine wx_iconst (v := (nI 0)) rfl (e := 54) rfl (by decide) ?_
  refine wx_puti rfl (e := 57) rfl rfl (by decide) ?_
  refine wx_ret rfl rfl ⟨by decide, by decide⟩ ?_
  have f9 : ∀ q, q ≠ 33 → (wr (wr (wr (wr (wr I3 33 3 (nI 0)) 33 4 (nI (kd (bt B) n 0))) 33 5 (nI 0)) 33 7 (nI 0)) 33 8 (nI 0)) q = I3 q := fun q h => by rw [wr_other _ _ _ _ h, wr_other _ _ _ _ h, wr_other _ _ _ _ h, wr_other _ _ _ _ h, wr_other _ _ _ _ h]
  refine hq (wr (wr (wr (wr (wr I3 33 3 (nI 0)) 33 4 (nI (kd (bt B) n 0))) 33 5 (nI 0)) 33 7 (nI 0)) 33 8 (nI 0)) G2 ⟨fun q h1 h2 h3 h4 h5 => by rw [f9 q h1, f3 q (by omega) (by omega)]; exact f2.1 q h2 h3 h4, fun q h1 h2 h3 => f2.2 q h1⟩ ⟨⟨⟨m, K2.kept (by rw [f9 34 (by decide)]; exact f3 34 (by omega) (by omega)) (by rw [f9 36 (by decide)]; exact f3 36 (by omega) (by omega)) (by rw [f9 37 (by decide)]; exact f3 37 (by omega) (by omega)) rfl, hm⟩, Nat.zero_le _, fun j hj => absurd hj (Nat.not_lt_zero _), ?_, ?_, ?_⟩, ⟨Nat.zero_le _, ?_, fun h => absurd rfl h⟩, ⟨0, fun _ => [], Nat.le_refl _, ?_, fun i hi => absurd hi (Nat.not_lt_zero _), fun w => rfl⟩, ⟨fun _ => [], fun i hi => absurd hi (Nat.not_lt_zero _), fun w => rfl⟩, ⟨⟨?_, ?_, ?_, ?_, ?_, ?_⟩, fun c hc => absurd hc (Nat.not_lt_zero _), fun _ a c ha hc => ?_, fun i hi => absurd hi (Nat.not_lt_zero _), fun a ha => absurd ha (Nat.not_lt_zero _)⟩, 16, W3.kept (f9 _ (by omega)) (f9 _ (by omega)) (f9 _ (by omega)) (f9 _ (by omega)), by omega⟩
  · simp [wr_at]; rfl
  · simp [wr_at]; rfl
  · simp [wr_at]
  · simp [wr_at]; rfl
  · rw [f9 o (by omega)]; exact z3 9 (by decide) (by decide)
  · rw [f9 o (by omega)]; exact z3 10 (by decide) (by decide)
  · rw [f9 o (by omega)]; exact z3 11 (by decide) (by decide)
  · rw [f9 o (by omega)]; exact z3 12 (by decide) (by decide)
  · rw [f9 o (by omega)]; exact z3 14 (by decide) (by decide)
  · rw [f9 o (by omega)]; exact z3 15 (by decide) (by decide)
  · rw [f9 o (by omega)]; exact z3 13 (by decide) (by decide)
  · rw [f9 (o + 10) (by omega), j3 _ (by omega)]
    show _ = if a = c then nI 0 else nI 999
    by_cases e : a = c
    · rw [if_pos e, if_pos (by omega)]
    · rw [if_neg e, if_neg (by omega)]
theorem c_settle1 {d Lx tt u : Nat} {I : Nat → Nat → Int32} {G : Nat → Nat → Int64} {Q : ab_Q} {o n : Nat} {b : Nat → Nat} (hK : RK b n I G) {k tok : Nat} (hk : ¬ k = 0) (hk2 : k ≤ 5) (h3 : I 33 3 = nI tok) (h5 : I 33 5 = nI k) (ht : tok ≤ 400) (hg : gdT b n tok) (hq : Q none (hp Lx tt o u (wr I 33 6 (nI (stA b n tok))) G)) : ab_call ab_MT (d + 2) 57 [.ref 33] (hp Lx tt o u I G) 0 0 Q := by
  obtain ⟨m, K, hm⟩ := hK
  refine wx_in (M := mX4_settle) rfl rfl rfl (Nat.le_of_ble_eq_true rfl) ?_
  refine wx_aload_n rfl (e := 1) rfl rfl ?_
  refine wx_geti rfl (e := 4) rfl rfl ?_
  rw [h3]
  refine wx_istore_n (L2 := [_, _]) rfl (e := 5) rfl (by decide) rfl ?_
  refine wx_aload_n rfl (e := 6) rfl rfl ?_
  refine wx_geti rfl (e := 9) rfl rfl ?_
  rw [h5]
  refine wn_if_ne rfl (e := 12) rfl (by omega) (fun c_9 => ?_) (fun c_9 => absurd c_9 (by omega))
  refine wx_aload_n rfl (e := 26) rfl rfl ?_
  refine wx_geti rfl (e := 29) rfl rfl ?_
  rw [h5]
  refine wn_if_ne rfl (e := 32) rfl (by omega) (fun c_29 => ?_) (fun c_29 => absurd c_29 (by omega))
  refine wx_aload_n rfl (e := 48) rfl rfl ?_
  refine wx_aload_n rfl (e := 49) rfl rfl ?_
  refine wx_getr rfl (e := 52) rfl rfl rfl ?_
  refine wx_iload_n rfl (e := 53) rfl rfl ?_
  refine wx_cv1 (mc := 0) (ms := 0) rfl (e := 56) rfl rfl (Nat.le_of_ble_eq_true rfl) ⟨by decide, by decide⟩ ?_
  refine c_X8_placeAt K (hm tok ht hg) ?_
  refine wx_puti rfl (e := 59) rfl rfl (by decide) ?_
  refine wx_ret rfl rfl ⟨by decide, by decide⟩ ?_
  exact hq
theorem c_settle2 {d Lx tt u : Nat} {I : Nat → Nat → Int32} {G : Nat → Nat → Int64} {Q : ab_Q} {o n : Nat} {b : Nat → Nat} (hK : RK b n I G) {e : Nat × Nat} (hE : LT_ e I) (hk : ¬ e.1 = 0) (h5 : I 33 5 = nI 0) (ht : e.2 ≤ 400) (hg : gdT b n e.2) (hq : Q none (hp Lx tt o u (wr (wr I 33 5 (nI e.1)) 33 6 (nI (stA b n e.2))) G)) : ab_call ab_MT (d + 2) 57 [.ref 33] (hp Lx tt o u I G) 0 0 Q := by
  obtain ⟨m, K, hm⟩ := hK
  obtain ⟨q1, q2, q3⟩ := hE
  have q3 := q3 hk
  refine wx_in (M := mX4_settle) rfl rfl rfl (Nat.le_of_ble_eq_true rfl) ?_
  refine wx_aload_n rfl (e := 1) rfl rfl ?_
  refine wx_geti rfl (e := 4) rfl rfl ?_
  refine wx_istore_n (L2 := [_, _]) rfl (e := 5) rfl (by decide) rfl ?_
  refine wx_aload_n rfl (e := 6) rfl rfl ?_
  refine wx_geti rfl (e := 9) rfl rfl ?_
  rw [h5]
  refine wn_if_ne rfl (e := 12) rfl (by omega) (fun c_9 => absurd c_9 (by omega)) (fun c_9 => ?_)
  refine wx_aload_n rfl (e := 13) rfl rfl ?_
  refine wx_aload_n rfl (e := 14) rfl rfl ?_
  refine wx_geti rfl (e := 17) rfl rfl ?_
  rw [q2]
  refine wx_puti rfl (e := 20) rfl rfl (by decide) ?_
  refine wx_aload_n rfl (e := 21) rfl rfl ?_
  refine wx_geti rfl (e := 24) rfl rfl ?_
  rw [wr_ne _ _ _ _ (by decide), q3]
  refine wx_istore_n (L2 := [_, _]) rfl (e := 25) rfl (by decide) rfl ?_
  refine wx_aload_n rfl (e := 26) rfl rfl ?_
  refine wx_geti rfl (e := 29) rfl rfl ?_
  rw [wr_eq]
  refine wn_if_ne rfl (e := 32) rfl (by omega) (fun c_29 => ?_) (fun c_29 => absurd c_29 (by omega))
  refine wx_aload_n rfl (e := 48) rfl rfl ?_
  refine wx_aload_n rfl (e := 49) rfl rfl ?_
  refine wx_getr rfl (e := 52) rfl rfl rfl ?_
  refine wx_iload_n rfl (e := 53) rfl rfl ?_
  refine wx_cv1 (mc := 0) (ms := 0) rfl (e := 56) rfl rfl (Nat.le_of_ble_eq_true rfl) ⟨by decide, by decide⟩ ?_
  refine c_X8_placeAt (K.kept (wr_other _ _ _ _ (by decide)) (wr_other _ _ _ _ (by decide)) (wr_other _ _ _ _ (by decide)) rfl) (hm e.2 ht hg) ?_
  refine wx_puti rfl (e := 59) rfl rfl (by decide) ?_
  refine wx_ret rfl rfl ⟨by decide, by decide⟩ ?_
  exact hq
theorem c_settle3 {d Lx tt u : Nat} {I : Nat → Nat → Int32} {G : Nat → Nat → Int64} {Q : ab_Q} {o n : Nat} {b : Nat → Nat} (ho : o = 1 ∨ o = 16) {e : Nat × Nat} (hE : LT_ e I) (hk : e.1 = 0) (h5 : I 33 5 = nI 0) {C : Nat} {F : Nat → Nat → Int32} (hC : I o 10 = nI C) (hC6 : C ≤ 6) (hF : lnF F) (hI : ∀ a c, a < C → c < C → I (o + 10) (a * 6 + c) = F a c) (hq : ∀ I2, (∀ q, q ≠ 33 → q ≠ o + 10 → I2 q = I q) → I2 33 6 = -1 → I2 33 5 = nI 0 → (∀ a c, a < C → c < C → I2 (o + 10) (a * 6 + c) = fwS F C a c) → Q none (hp Lx tt o u I2 G)) : ab_call ab_MT (d + 3) 57 [.ref 33] (hp Lx tt o u I G) 0 0 Q := by
  obtain ⟨q1, q2, q3⟩ := hE
  refine wx_in (M := mX4_settle) rfl rfl rfl (Nat.le_of_ble_eq_true rfl) ?_
  refine wx_aload_n rfl (e := 1) rfl rfl ?_
  refine wx_geti rfl (e := 4) rfl rfl ?_
  refine wx_istore_n (L2 := [_, _]) rfl (e := 5) rfl (by decide) rfl ?_
  refine wx_aload_n rfl (e := 6) rfl rfl ?_
  refine wx_geti rfl (e := 9) rfl rfl ?_
  rw [h5]
  refine wn_if_ne rfl (e := 12) rfl (by omega) (fun c_9 => absurd c_9 (by omega)) (fun c_9 => ?_)
  refine wx_aload_n rfl (e := 13) rfl rfl ?_
  refine wx_aload_n rfl (e := 14) rfl rfl ?_
  refine wx_geti rfl (e := 17) rfl rfl ?_
  rw [q2, hk]
  refine wx_puti rfl (e := 20) rfl rfl (by decide) ?_
  refine wx_aload_n rfl (e := 21) rfl rfl ?_
  refine wx_geti rfl (e := 24) rfl rfl ?_
  refine wx_istore_n (L2 := [_, _]) rfl (e := 25) rfl (by decide) rfl ?_
  refine wx_aload_n rfl (e := 26) rfl rfl ?_
  refine wx_geti rfl (e := 29) rfl rfl ?_
  rw [wr_eq]
  refine wn_if_ne rfl (e := 32) rfl (by omega) (fun c_29 => absurd c_29 (by omega)) (fun c_29 => ?_)
  refine wx_aload_n rfl (e := 33) rfl rfl ?_
  refine wx_iconst (v := (-1)) rfl (e := 34) rfl (by decide) ?_
  refine wx_puti rfl (e := 37) rfl rfl (by decide) ?_
  refine wx_aload_n rfl (e := 38) rfl rfl ?_
  refine wx_getr rfl (e := 41) rfl rfl rfl ?_
  refine wx_cv0 (mc := 0) (ms := 0) rfl (e := 44) rfl (sh_t ho) (Nat.le_of_ble_eq_true rfl) ⟨by decide, by decide⟩ ?_
  refine c_X7_joinRoads ho (C := C) (F := F) (by rw [wr_other _ _ _ _ (by omega), wr_other _ _ _ _ (by omega)]; exact hC) hC6 hF (fun a c ha hc => by rw [wr_other _ _ _ _ (by omega), wr_other _ _ _ _ (by omega)]; exact hI a c ha hc) (fun I2 f2 j2 => ?_)
  refine wx_goto rfl ?_
  refine wx_ret rfl rfl ⟨by decide, by decide⟩ ?_
  exact hq I2 (fun q h1 h2 => by rw [f2 q h2, wr_other _ _ _ _ h1, wr_other _ _ _ _ h1]) (by rw [f2 33 (by omega), wr_eq]) (by rw [f2 33 (by omega), wr_ne _ _ _ _ (by decide), wr_eq]) j2

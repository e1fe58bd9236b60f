/-! the class: statements -/
def CQ (o : Nat) (N : Nat × Nat × Nat × Nat) (sd : Int32) (W : Nat → Int32) (e : Nat) (F : Nat → Nat → Int32) (R : Nat → Int32) (U : Nat → Bool) (H : (Nat → Int32) × (Nat → Int32) × (Nat → Int32)) (I : Nat → Nat → Int32) : Prop := (I o 10 = nI N.1 ∧ I o 11 = nI N.2.1 ∧ I o 12 = nI N.2.2.1 ∧ I o 14 = nI N.2.2.2 ∧ I o 15 = sd ∧ I o 13 = nI (bsF (fun i => decide (i < N.2.2.1) && U i))) ∧ (∀ c, c < N.1 → I (o + 9) c = W c) ∧ (e = 0 → ∀ a c, a < 6 → c < 6 → I (o + 10) (a * 6 + c) = F a c) ∧ (∀ i, i < N.2.2.1 → I (o + 11) i = R i) ∧ ∀ a, a < N.2.2.2 → I (o + 12) a = H.1 a ∧ I (o + 13) a = H.2.1 a ∧ I (o + 14) a = H.2.2 a
def CP (b : Nat → Nat) (n o : Nat) (S : ps) (I : Nat → Nat → Int32) (G : Nat → Nat → Int64) : Prop := RS b n (sT S) I G ∧ LT_ (sE S) I ∧ NMs o I G (sM S) ∧ NMc o G (sM S) (sC S) ∧ CQ o (sN S) (sS S) (sW S) (sE S).1 (sF S) (sQ S) (sU S) (sH S) I ∧ ∃ x, CLW o I (sL S) x ∧ x ≤ 16 + sT S
def PV (S : ps) : Prop := sC S ≤ 6 ∧ sD S ≤ 9 ∧ sR S ≤ 6 ∧ sP S ≤ 5 ∧ (sM S).2.2 = sC S + sR S + sP S ∧ ∀ i, i < (sM S).2.2 → (sM S).2.1 i = -1 ∨ ∃ c, c < sC S ∧ (sM S).2.1 i = nI c
def frS (o : Nat) (I I2 : Nat → Nat → Int32) (G G2 : Nat → Nat → Int64) : Prop := (∀ q, q ≠ 33 → ¬ (o ≤ q ∧ q ≤ o + 14) → I2 q = I q) ∧ (∀ k, k ≠ 3 → k ≠ 4 → k ≠ 5 → k ≠ 7 → k ≠ 8 → I2 33 k = I 33 k) ∧ ∀ q, q ≠ o + 7 → q ≠ o + 8 → G2 q = G q
theorem frS.rf {o : Nat} {I : Nat → Nat → Int32} {G : Nat → Nat → Int64} : frS o I I G G := ⟨fun _ _ _ => rfl, fun _ _ _ _ _ _ => rfl, fun _ _ _ => rfl⟩
theorem frS.tr {o : Nat} {I I2 I3 : Nat → Nat → Int32} {G G2 G3 : Nat → Nat → Int64} (h1 : frS o I I2 G G2) (h2 : frS o I2 I3 G2 G3) : frS o I I3 G G3 := ⟨fun q a b => (h2.1 q a b).trans (h1.1 q a b), fun k a b c d e => (h2.2.1 k a b c d e).trans (h1.2.1 k a b c d e), fun q a b => (h2.2.2 q a b).trans (h1.2.2 q a b)⟩
theorem frt.tr {I I2 I3 : Nat → Nat → Int32} (h1 : frt I I2) (h2 : frt I2 I3) : frt I I3 := ⟨fun q a => (h2.1 q a).trans (h1.1 q a), fun k a b c => (h2.2 k a b c).trans (h1.2 k a b c)⟩
theorem frt.S {o : Nat} {I I2 : Nat → Nat → Int32} {G : Nat → Nat → Int64} (h : frt I I2) : frS o I I2 G G := ⟨fun q a _ => h.1 q a, fun k a b c _ _ => h.2 k a b c, fun _ _ _ => rfl⟩
theorem frl.S {o : Nat} {I I2 : Nat → Nat → Int32} {G : Nat → Nat → Int64} (h : frl o I I2) : frS o I I2 G G := ⟨fun q a b => h.1 q a (by omega) (by omega) (by omega) (by omega), fun k a b c _ _ => h.2 k a b c, fun _ _ _ => rfl⟩
theorem lte_0 {e : Nat × Nat} {c : Bool} {k tok : Nat} (hk : ¬ k = 0) (h : (lte e c k tok).1 = 0) : e.1 = 0 := by
  unfold lte at h
  split at h
  · exact absurd h hk
  · exact h
theorem NMs.kept {o : Nat} {I I2 : Nat → Nat → Int32} {G G2 : Nat → Nat → Int64} {N : (Nat → List Nat) × (Nat → Int32) × Nat} (h : NMs o I G N) (h1 : I2 o 9 = I o 9) (h2 : G2 (o + 7) = G (o + 7)) : NMs o I2 G2 N := by
  obtain ⟨kn, cm, a1, a2, a3, a4⟩ := h
  exact ⟨kn, cm, a1, h1.trans a2, by rw [h2]; exact a3, a4⟩
theorem NMc.kept {o : Nat} {G G2 : Nat → Nat → Int64} {N : (Nat → List Nat) × (Nat → Int32) × Nat} {C : Nat} (h : NMc o G N C) (h2 : G2 (o + 8) = G (o + 8)) : NMc o G2 N C := by
  obtain ⟨cn, a1, a2⟩ := h
  exact ⟨cn, by rw [h2]; exact a1, a2⟩
theorem chF_neg {cn : Nat → List Nat} {w : List Nat} : ∀ {C : Nat}, chF cn w C < nI 0 → chF cn w C = -1 ∨ 2 ^ 31 ≤ C
  | 0, _ => Or.inl rfl
  | C + 1, h => by
    rw [chF] at h ⊢
    by_cases c : chF cn w C < nI 0
    · rw [if_pos c] at h ⊢
      by_cases z : cn C = w
      · rw [if_pos z] at h
        by_cases zz : C < 2 ^ 31
        · exact absurd h (nI_nn zz)
        · exact Or.inr (by omega)
      · rw [if_neg z]; exact Or.inl rfl
    · rw [if_neg c] at h; exact absurd h c
theorem NMc.push {o : Nat} {G : Nat → Nat → Int64} {N : (Nat → List Nat) × (Nat → Int32) × Nat} {C : Nat} (hC : C ≤ 6) (h : NMc o G N C) (w : List Nat) : NMc o G (psN N w (-1)) C := by
  obtain ⟨cn, a1, a2⟩ := h
  refine ⟨cn, a1, fun w2 => ?_⟩
  rw [psN_ch, ← a2 w2]
  by_cases c : chS N.1 N.2.1 w2 N.2.2 < nI 0
  · rw [if_pos c, if_neg (fun y => y.2 (show (-1 : Int32) < nI 0 by decide))]
    rw [a2 w2] at c ⊢
    exact ((chF_neg c).resolve_right (by omega)).symm
  · rw [if_neg c]
theorem RS.f {b : Nat → Nat} {n t o : Nat} (ho : o = 1 ∨ o = 16) {I I2 : Nat → Nat → Int32} {G G2 : Nat → Nat → Int64} (h : RS b n t I G) (f : ∀ q, 33 < q → q < 38 → I2 q = I q) (f3 : I2 33 3 = I 33 3) (f4 : I2 33 4 = I 33 4) (f5 : I2 33 5 = I 33 5) (hG : G2 38 = G 38) : RS b n t I2 G2 := by
  obtain ⟨h1, h2, h3, h4, h5, h6⟩ := h
  exact ⟨RK.kept h1 (f 34 (by omega) (by omega)) (f 36 (by omega) (by omega)) (f 37 (by omega) (by omega)) hG, h2, h3, f3.trans h4, f4.trans h5, f5.trans h6⟩
theorem CQ.e0 {o : Nat} {N : Nat × Nat × Nat × Nat} {sd : Int32} {W : Nat → Int32} {e e2 : Nat} {F : Nat → Nat → Int32} {R : Nat → Int32} {U : Nat → Bool} {H : (Nat → Int32) × (Nat → Int32) × (Nat → Int32)} {I : Nat → Nat → Int32} (h : CQ o N sd W e F R U H I) (he : e2 = 0 → e = 0) : CQ o N sd W e2 F R U H I := ⟨h.1, h.2.1, fun z => h.2.2.1 (he z), h.2.2.2⟩
theorem CQ.kept {o : Nat} {N : Nat × Nat × Nat × Nat} {sd : Int32} {W : Nat → Int32} {e : Nat} {F : Nat → Nat → Int32} {R : Nat → Int32} {U : Nat → Bool} {H : (Nat → Int32) × (Nat → Int32) × (Nat → Int32)} {I I2 : Nat → Nat → Int32} (h : CQ o N sd W e F R U H I) (h0 : ∀ k, k ≠ 9 → I2 o k = I o k) (h9 : ∀ q, o + 9 ≤ q → q ≤ o + 14 → I2 q = I q) : CQ o N sd W e F R U H I2 := by
  unfold CQ at *
  rw [h0 10 (by decide), h0 11 (by decide), h0 12 (by decide), h0 13 (by decide), h0 14 (by decide), h0 15 (by decide), h9 (o + 9) (by omega) (by omega), h9 (o + 10) (by omega) (by omega), h9 (o + 11) (by omega) (by omega), h9 (o + 12) (by omega) (by omega), h9 (o + 13) (by omega) (by omega), h9 (o + 14) (by omega) (by omega)]; exact h
set_option maxHeartbeats 4000000 in
theorem c_X4_readSeed {d Lx tt u : Nat} {I : Nat → Nat → Int32} {G : Nat → Nat → Int64} {Q : ab_Q} {b : Nat → Nat} {n o : Nat} {S : ps} (ho : o = 1 ∨ o = 16) (hV : PV S) (hC : CP b n o S I G) (hy : (sqT b n [9, 25, 59] (sT S)).1 = 0 → ∀ I2 G2, frS o I I2 G G2 → CP b n o (nwS b n S) I2 G2 → Q (some (.int (nI 1))) (hp Lx tt o u I2 G2)) (hn : ∀ k tok, ¬ k = 0 → (False ∧ k = 2 ∧ tok = sT S) ∨ (True ∧ sqT b n [9, 25, 59] (sT S) = (k, tok)) → ∀ I2, frS o I I2 G G → I2 33 3 = nI tok → I2 33 5 = nI k → Q (some (.int (nI 0))) (hp Lx tt o u I2 G)) : ab_call ab_MT (d + 4) 65 [.ref 33] (hp Lx tt o u I G) 0 0 Q := by
  obtain ⟨hR, hE, hNs, hNc, hQ, x, hW, hx⟩ := id hC
  obtain ⟨v1, v2, v3, v4, v5, v6⟩ := id hV
  obtain ⟨-, ht, hgd, r3, r4, r5⟩ := id hR
  obtain ⟨⟨c1, c2, c3, c4, c5, c6⟩, c7, c8, c9, c10⟩ := id hQ
  have c1 : I o 10 = nI (sC S) := c1
  have c2 : I o 11 = nI (sD S) := c2
  have c3 : I o 12 = nI (sR S) := c3
  have c4 : I o 14 = nI (sP S) := c4
  have c7 : ∀ c, c < sC S → I (o + 9) c = sW S c := c7
  have c9 : ∀ i, i < sR S → I (o + 11) i = sQ S i := c9
  have c10 : ∀ a, a < sP S → I (o + 12) a = (sH S).1 a ∧ I (o + 13) a = (sH S).2.1 a ∧ I (o + 14) a = (sH S).2.2 a := c10
  refine wx_in (M := mX4_readSeed) rfl rfl rfl (Nat.le_of_ble_eq_true rfl) ?_
  refine wx_aload_n rfl (e := 1) rfl rfl ?_
  refine wx_geti rfl (e := 4) rfl rfl ?_
  rw [r3]
  refine wx_istore_n (L2 := [_, _]) rfl (e := 5) rfl (by decide) rfl ?_
  refine wx_aload_n rfl (e := 6) rfl rfl ?_
  refine wx_bipush (v := (nI 9)) rfl (e := 8) rfl (by decide) ?_
  refine wx_cv1 (mc := 0) (ms := 0) rfl (e := 11) rfl rfl (Nat.le_of_ble_eq_true rfl) ⟨by decide, by decide⟩ ?_
  refine c_X4_take hR (k := 9) (by first | omega | (split <;> omega)) (by first | omega | (split <;> omega)) (fun hk1 h41 I1 f1 R1 => ?_) (fun e1 he1 I1 f1 g3 g5 => ?_)
  · refine wn_if_eq rfl (e := 14) rfl (by omega) (fun c_11 => absurd c_11 (by omega)) (fun c_11 => ?_)
    refine wx_aload_n rfl (e := 15) rfl rfl ?_
    refine wx_bipush (v := (nI 25)) rfl (e := 17) rfl (by decide) ?_
    refine wx_cv1 (mc := 0) (ms := 0) rfl (e := 20) rfl rfl (Nat.le_of_ble_eq_true rfl) ⟨by decide, by decide⟩ ?_
    refine c_X4_take R1 (k := 25) (by first | omega | (split <;> omega)) (by first | omega | (split <;> omega)) (fun hk2 h42 I2 f2 R2 => ?_) (fun e2 he2 I2 f2 g3 g5 => ?_)
    · refine wn_if_eq rfl (e := 23) rfl (by omega) (fun c_20 => absurd c_20 (by omega)) (fun c_20 => ?_)
      refine wx_aload_n rfl (e := 24) rfl rfl ?_
      refine wx_bipush (v := (nI 59)) rfl (e := 26) rfl (by decide) ?_
      refine wx_cv1 (mc := 0) (ms := 0) rfl (e := 29) rfl rfl (Nat.le_of_ble_eq_true rfl) ⟨by decide, by decide⟩ ?_
      refine c_X4_take R2 (k := 59) (by first | omega | (split <;> omega)) (by first | omega | (split <;> omega)) (fun hk3 h43 I3 f3 R3 => ?_) (fun e3 he3 I3 f3 g3 g5 => ?_)
      · refine wn_if_ne rfl (e := 32) rfl (by omega) (fun c_29 => ?_) (fun c_29 => absurd c_29 (by omega))
        refine wx_aload_n rfl (e := 35) rfl rfl ?_
        refine wx_getr rfl (e := 38) rfl rfl rfl ?_
        refine wx_aload_n rfl (e := 39) rfl rfl ?_
        refine wx_getr rfl (e := 42) rfl rfl rfl ?_
        refine wx_iload_n rfl (e := 43) rfl rfl ?_
        refine wx_iconst (v := (nI 1)) rfl (e := 44) rfl (by decide) ?_
        refine wn_iadd rfl (e := 45) rfl ?_
        refine wx_cv1 (mc := 0) (ms := 0) rfl (e := 48) rfl rfl (Nat.le_of_ble_eq_true rfl) ⟨by decide, by decide⟩ ?_
        have FT : frt I I3 := ((f1.tr f2).tr f3)
        have hg3 := R3.2.2.1
        have hE0 : LT_ (sE S) I3 := hE.t (FT.2 7 (by decide) (by decide) (by decide)) (FT.2 8 (by decide) (by decide) (by decide))
        have hsq : (sqT b n [9, 25, 59] (sT S)).1 = 0 := by rw [sqT_y hk1 h41, sqT_y hk2 h42, sqT_y hk3 h43]; rfl
        obtain ⟨m3, K3, n3⟩ := id R3.1
        have hl3 := n3 (sT S + 1) (by omega) (fun j hj => hg3 j (by omega))
        refine c_X8_valueAt K3 hl3 ?_
        rw [(K3.2.2 _ hl3).2.2.2 hk2]
        refine wx_l2i rfl (e := 49) rfl ?_
        rw [lN_i]
        refine wx_cv1 (mc := 0) (ms := 0) rfl (e := 52) rfl (sh_t ho) (Nat.le_of_ble_eq_true rfl) ⟨by decide, by decide⟩ ?_
        refine c_X7_sow ho ?_
        refine wx_iconst (v := (nI 1)) rfl (e := 53) rfl (by decide) ?_
        refine wx_iret rfl rfl rfl ⟨by decide, by decide⟩ ?_
        refine hy hsq _ _ (FT.S.tr ⟨fun q h1 h2 => wr_other _ _ _ _ (by omega), fun k _ _ _ _ _ => by rw [wr_other _ _ _ _ (by omega)], fun _ _ _ => rfl⟩) ⟨R3.f ho (fun q h1 h2 => wr_other _ _ _ _ (by omega)) (by rw [wr_other _ _ _ _ (by omega)]) (by rw [wr_other _ _ _ _ (by omega)]) (by rw [wr_other _ _ _ _ (by omega)]) rfl, hE0.t (by rw [wr_other _ _ _ _ (by omega)]) (by rw [wr_other _ _ _ _ (by omega)]), hNs.kept (by rw [wr_ne _ _ _ _ (by decide), FT.1 o (by omega)]) rfl, hNc, ?_, x, hW.kept (by rw [wr_other _ _ _ _ (by omega), FT.1 (o + 1) (by omega)]) (by rw [wr_other _ _ _ _ (by omega), FT.1 (o + 2) (by omega)]) (by rw [wr_other _ _ _ _ (by omega), FT.1 (o + 3) (by omega)]) (by rw [wr_other _ _ _ _ (by omega), FT.1 (o + 4) (by omega)]), by show x ≤ 16 + (sT S + 3); omega⟩
        refine ⟨⟨?_, ?_, ?_, ?_, wr_eq _ _ _ _, ?_⟩, ?_, ?_, ?_, ?_⟩
        · rw [wr_ne _ _ _ _ (by decide), FT.1 o (by omega)]; exact c1
        · rw [wr_ne _ _ _ _ (by decide), FT.1 o (by omega)]; exact c2
        · rw [wr_ne _ _ _ _ (by decide), FT.1 o (by omega)]; exact c3
        · rw [wr_ne _ _ _ _ (by decide), FT.1 o (by omega)]; exact c4
        · rw [wr_ne _ _ _ _ (by decide), FT.1 o (by omega)]; exact c6
        · rw [wr_other _ _ _ _ (by omega), FT.1 (o + 9) (by omega)]; exact c7
        · rw [wr_other _ _ _ _ (by omega), FT.1 (o + 10) (by omega)]; exact c8
        · rw [wr_other _ _ _ _ (by omega), FT.1 (o + 11) (by omega)]; exact c9
        · rw [wr_other _ _ _ _ (by omega), wr_other _ _ _ _ (by omega), wr_other _ _ _ _ (by omega), FT.1 (o + 12) (by omega), FT.1 (o + 13) (by omega), FT.1 (o + 14) (by omega)]; exact c10
      · refine wn_if_ne rfl (e := 32) rfl (by omega) (fun c_29 => absurd c_29 (by omega)) (fun c_29 => ?_)
        refine wx_iconst (v := (nI 0)) rfl (e := 33) rfl (by decide) ?_
        refine wx_iret rfl rfl rfl ⟨by decide, by decide⟩ ?_
        rcases he3 with ⟨w1, w⟩ | ⟨w1, w, w2⟩
        · subst w1; exact hn 1 _ (by decide) (Or.inr ⟨True.intro, by rw [sqT_y hk1 h41, sqT_y hk2 h42, sqT_1 w]⟩) _ ((f1.tr f2).tr f3).S g3 g5
        · subst w1; exact hn 2 _ (by decide) (Or.inr ⟨True.intro, by rw [sqT_y hk1 h41, sqT_y hk2 h42, sqT_2 w w2]⟩) _ ((f1.tr f2).tr f3).S g3 g5
    · refine wn_if_eq rfl (e := 23) rfl (by omega) (fun c_20 => ?_) (fun c_20 => absurd c_20 (by omega))
      refine wx_iconst (v := (nI 0)) rfl (e := 33) rfl (by decide) ?_
      refine wx_iret rfl rfl rfl ⟨by decide, by decide⟩ ?_
      rcases he2 with ⟨w1, w⟩ | ⟨w1, w, w2⟩
      · subst w1; exact hn 1 _ (by decide) (Or.inr ⟨True.intro, by rw [sqT_y hk1 h41, sqT_1 w]⟩) _ (f1.tr f2).S g3 g5
      · subst w1; exact hn 2 _ (by decide) (Or.inr ⟨True.intro, by rw [sqT_y hk1 h41, sqT_2 w w2]⟩) _ (f1.tr f2).S g3 g5
  · refine wn_if_eq rfl (e := 14) rfl (by omega) (fun c_11 => ?_) (fun c_11 => absurd c_11 (by omega))
    refine wx_iconst (v := (nI 0)) rfl (e := 33) rfl (by decide) ?_
    refine wx_iret rfl rfl rfl ⟨by decide, by decide⟩ ?_
    rcases he1 with ⟨w1, w⟩ | ⟨w1, w, w2⟩
    · subst w1; exact hn 1 _ (by decide) (Or.inr ⟨True.intro, by exact sqT_1 w⟩) _ f1.S g3 g5
    · subst w1; exact hn 2 _ (by decide) (Or.inr ⟨True.intro, by exact sqT_2 w w2⟩) _ f1.S g3 g5
theorem chF_cg {cn cn2 : Nat → List Nat} {w : List Nat} : ∀ C, (∀ i, i < C → cn2 i = cn i) → chF cn2 w C = chF cn w C
  | 0, _ => rfl
  | C + 1, h => by rw [chF, chF, chF_cg C (fun i hi => h i (by omega)), h C (by omega)]
theorem NMc.add {o : Nat} {G : Nat → Nat → Int64} {N : (Nat → List Nat) × (Nat → Int32) × Nat} {C : Nat} (hC : C < 6) (h : NMc o G N C) {w : List Nat} (hw : ltr w ∧ w.length ≤ 8) : NMc o (wl G (o + 8) C (lN (vl_ 32 w))) (psN N w (nI C)) (C + 1) := by
  obtain ⟨cn, a1, a2⟩ := h
  refine ⟨fun i => if i = C then w else cn i, fun i hi => ?_, fun w2 => ?_⟩
  · dsimp only
    by_cases z : i = C
    · rw [if_pos z, z, wl_eq]; exact ⟨rfl, hw⟩
    · rw [if_neg z, wl_ne _ _ _ _ z]; exact a1 i (by omega)
  · rw [psN_ch, chF, chF_cg C (fun i hi => if_neg (by omega)), if_pos rfl, ← a2 w2]
    by_cases c : chS N.1 N.2.1 w2 N.2.2 < nI 0
    · rw [if_pos c, if_pos c]
      by_cases z : w = w2
      · rw [if_pos ⟨z, nI_nn (by omega)⟩, if_pos z]
      · rw [if_neg (fun y => z y.1), if_neg z]
    · rw [if_neg c, if_neg c]
theorem bs_set {U : Nat → Bool} {R : Nat} {v : Bool} : set1 (fun i => decide (i < R) && U i) R v = fun i => decide (i < R + 1) && set1 U R v i := by
  funext i
  unfold set1
  by_cases z : i = R
  · rw [if_pos z, if_pos z, decide_eq_true (by omega), Bool.true_and]
  · rw [if_neg z, if_neg z]
    dsimp only
    by_cases z2 : i < R
    · rw [decide_eq_true z2, decide_eq_true (by omega)]
    · rw [decide_eq_false z2, decide_eq_false (by omega)]
set_option maxHeartbeats 4000000 in
theorem c_X4_readChurch {d Lx tt u : Nat} {I : Nat → Nat → Int32} {G : Nat → Nat → Int64} {Q : ab_Q} {b : Nat → Nat} {n o : Nat} {S : ps} (ho : o = 1 ∨ o = 16) (hV : PV S) (hC : CP b n o S I G) (hy : ¬ sC S = 6 → (sqT b n [0, 24, 25, 59] (sT S)).1 = 0 → ∀ I2 G2, frS o I I2 G G2 → CP b n o (nwC b n S) I2 G2 → Q (some (.int (nI 1))) (hp Lx tt o u I2 G2)) (hn : ∀ k tok, ¬ k = 0 → (sC S = 6 ∧ k = 2 ∧ tok = sT S) ∨ (¬ sC S = 6 ∧ sqT b n [0, 24, 25, 59] (sT S) = (k, tok)) → ∀ I2, frS o I I2 G G → I2 33 3 = nI tok → I2 33 5 = nI k → Q (some (.int (nI 0))) (hp Lx tt o u I2 G)) : ab_call ab_MT (d + 4) 61 [.ref 33] (hp Lx tt o u I G) 0 0 Q := by
  obtain ⟨hR, hE, hNs, hNc, hQ, x, hW, hx⟩ := id hC
  obtain ⟨v1, v2, v3, v4, v5, v6⟩ := id hV
  obtain ⟨-, ht, hgd, r3, r4, r5⟩ := id hR
  obtain ⟨⟨c1, c2, c3, c4, c5, c6⟩, c7, c8, c9, c10⟩ := id hQ
  have c1 : I o 10 = nI (sC S) := c1
  have c2 : I o 11 = nI (sD S) := c2
  have c3 : I o 12 = nI (sR S) := c3
  have c4 : I o 14 = nI (sP S) := c4
  have c7 : ∀ c, c < sC S → I (o + 9) c = sW S c := c7
  have c9 : ∀ i, i < sR S → I (o + 11) i = sQ S i := c9
  have c10 : ∀ a, a < sP S → I (o + 12) a = (sH S).1 a ∧ I (o + 13) a = (sH S).2.1 a ∧ I (o + 14) a = (sH S).2.2 a := c10
  refine wx_in (M := mX4_readChurch) rfl rfl rfl (Nat.le_of_ble_eq_true rfl) ?_
  refine wx_aload_n rfl (e := 1) rfl rfl ?_
  refine wx_geti rfl (e := 4) rfl rfl ?_
  rw [r3]
  refine wx_istore_n (L2 := [_, _]) rfl (e := 5) rfl (by decide) rfl ?_
  refine wx_aload_n rfl (e := 6) rfl rfl ?_
  refine wx_getr rfl (e := 9) rfl rfl rfl ?_
  refine wx_cv0 (mc := 0) (ms := 0) rfl (e := 12) rfl (sh_t ho) (Nat.le_of_ble_eq_true rfl) ⟨by decide, by decide⟩ ?_
  refine c_X7_churches ho ?_
  rw [c1]
  refine wx_bipush (v := (nI 6)) rfl (e := 14) rfl (by decide) ?_
  refine wn_ic_lt rfl (e := 17) rfl (by omega) (by omega) (fun c_14 => ?_) (fun c_14 => ?_)
  · refine wx_aload_n rfl (e := 24) rfl rfl ?_
    refine wx_iconst (v := (nI 0)) rfl (e := 25) rfl (by decide) ?_
    refine wx_cv1 (mc := 0) (ms := 0) rfl (e := 28) rfl rfl (Nat.le_of_ble_eq_true rfl) ⟨by decide, by decide⟩ ?_
    refine c_X4_take hR (k := 0) (by first | omega | (split <;> omega)) (by first | omega | (split <;> omega)) (fun hk1 h41 I1 f1 R1 => ?_) (fun e1 he1 I1 f1 g3 g5 => ?_)
    · refine wn_if_eq rfl (e := 31) rfl (by omega) (fun c_28 => absurd c_28 (by omega)) (fun c_28 => ?_)
      refine wx_aload_n rfl (e := 32) rfl rfl ?_
      refine wx_bipush (v := (nI 24)) rfl (e := 34) rfl (by decide) ?_
      refine wx_cv1 (mc := 0) (ms := 0) rfl (e := 37) rfl rfl (Nat.le_of_ble_eq_true rfl) ⟨by decide, by decide⟩ ?_
      refine c_X4_take R1 (k := 24) (by first | omega | (split <;> omega)) (by first | omega | (split <;> omega)) (fun hk2 h42 I2 f2 R2 => ?_) (fun e2 he2 I2 f2 g3 g5 => ?_)
      · refine wn_if_eq rfl (e := 40) rfl (by omega) (fun c_37 => absurd c_37 (by omega)) (fun c_37 => ?_)
        refine wx_aload_n rfl (e := 41) rfl rfl ?_
        refine wx_bipush (v := (nI 25)) rfl (e := 43) rfl (by decide) ?_
        refine wx_cv1 (mc := 0) (ms := 0) rfl (e := 46) rfl rfl (Nat.le_of_ble_eq_true rfl) ⟨by decide, by decide⟩ ?_
        refine c_X4_take R2 (k := 25) (by first | omega | (split <;> omega)) (by first | omega | (split <;> omega)) (fun hk3 h43 I3 f3 R3 => ?_) (fun e3 he3 I3 f3 g3 g5 => ?_)
        · refine wn_if_eq rfl (e := 49) rfl (by omega) (fun c_46 => absurd c_46 (by omega)) (fun c_46 => ?_)
          refine wx_aload_n rfl (e := 50) rfl rfl ?_
          refine wx_bipush (v := (nI 59)) rfl (e := 52) rfl (by decide) ?_
          refine wx_cv1 (mc := 0) (ms := 0) rfl (e := 55) rfl rfl (Nat.le_of_ble_eq_true rfl) ⟨by decide, by decide⟩ ?_
          refine c_X4_take R3 (k := 59) (by first | omega | (split <;> omega)) (by first | omega | (split <;> omega)) (fun hk4 h44 I4 f4 R4 => ?_) (fun e4 he4 I4 f4 g3 g5 => ?_)
          · refine wn_if_ne rfl (e := 58) rfl (by omega) (fun c_55 => ?_) (fun c_55 => absurd c_55 (by omega))
            refine wx_aload_n rfl (e := 61) rfl rfl ?_
            refine wx_iload_n rfl (e := 62) rfl rfl ?_
            refine wx_iconst (v := (nI 1)) rfl (e := 63) rfl (by decide) ?_
            refine wn_iadd rfl (e := 64) rfl ?_
            refine wx_cv1 (mc := 0) (ms := 0) rfl (e := 67) rfl rfl (Nat.le_of_ble_eq_true rfl) ⟨by decide, by decide⟩ ?_
            have FT : frt I I4 := (((f1.tr f2).tr f3).tr f4)
            have hg4 := R4.2.2.1
            have hE0 : LT_ (sE S) I4 := hE.t (FT.2 7 (by decide) (by decide) (by decide)) (FT.2 8 (by decide) (by decide) (by decide))
            have hsq : (sqT b n [0, 24, 25, 59] (sT S)).1 = 0 := by rw [sqT_y hk1 h41, sqT_y hk2 h42, sqT_y hk3 h43, sqT_y hk4 h44]; rfl
            refine c_X4_addName ho R4.1 (tok := sT S + 1) (by omega) (fun j hj => hg4 j (by omega)) hk2 hE0 (N := sM S) (hNs.kept (by rw [FT.1 o (by omega)]) rfl) (by omega) (a := nI (sC S)) (fun I7 G7 a1 a2 a3 a4 E7 N7 => ?_)
            have K7 : RK b n I7 G7 := RK.kept R4.1 (a1 34 (by omega) (by omega)) (a1 36 (by omega) (by omega)) (a1 37 (by omega) (by omega)) (a3 38 (by omega))
            refine wx_aload_n rfl (e := 68) rfl rfl ?_
            refine wx_getr rfl (e := 71) rfl rfl rfl ?_
            refine wx_aload_n rfl (e := 72) rfl rfl ?_
            refine wx_getr rfl (e := 75) rfl rfl rfl ?_
            refine wx_iload_n rfl (e := 76) rfl rfl ?_
            refine wx_iconst (v := (nI 1)) rfl (e := 77) rfl (by decide) ?_
            refine wn_iadd rfl (e := 78) rfl ?_
            refine wx_cv1 (mc := 0) (ms := 0) rfl (e := 81) rfl rfl (Nat.le_of_ble_eq_true rfl) ⟨by decide, by decide⟩ ?_
            obtain ⟨m7, K7a, n7⟩ := id K7
            have hl7 := n7 (sT S + 1) (by omega) (fun j hj => hg4 j (by omega))
            refine c_X8_valueAt K7a hl7 ?_
            rw [(K7a.2.2 _ hl7).2.2.1 hk2]
            refine wx_aload_n rfl (e := 82) rfl rfl ?_
            refine wx_iload_n rfl (e := 83) rfl rfl ?_
            refine wx_iconst (v := (nI 2)) rfl (e := 84) rfl (by decide) ?_
            refine wn_iadd rfl (e := 85) rfl ?_
            refine wx_iconst (v := (nI 0)) rfl (e := 86) rfl (by decide) ?_
            refine wx_bipush (v := (nI 9)) rfl (e := 88) rfl (by decide) ?_
            refine wx_cv3 (mc := 0) (ms := 0) rfl (e := 91) rfl rfl (Nat.le_of_ble_eq_true rfl) ⟨by decide, by decide⟩ ?_
            refine c_X4_numberAt ho K7 (tok := sT S + 2) (by omega) (fun j hj => hg4 j (by omega)) hk3 E7 (lo := 0) (hi := 9) (by omega) (by omega) (c := decide (9 < nuT b n (sT S + 2))) (by rw [decide_eq_true_iff]; omega) (fun I8 f8 E8 => ?_)
            refine wx_cv2 (mc := 0) (ms := 0) rfl (e := 94) rfl (sh_t ho) (Nat.le_of_ble_eq_true rfl) ⟨by decide, by decide⟩ ?_
            refine c_X7_addChurch ho (C := sC S) (by rw [f8.1 o (by omega), a4 10 (by decide), FT.1 o (by omega)]; exact c1) (by omega) ?_
            refine wx_iconst (v := (nI 1)) rfl (e := 95) rfl (by decide) ?_
            refine wx_iret rfl rfl rfl ⟨by decide, by decide⟩ ?_
            have hb : ∀ q, q ≠ 33 → q ≠ o → q ≠ o + 9 → (wr (wr I8 (o + 9) (sC S) (nI (nuT b n (sT S + 2)))) o 10 (nI (sC S + 1))) q = I q := fun q y1 y2 y3 => by rw [wr_other _ _ _ _ y2, wr_other _ _ _ _ y3, f8.1 q y1, a1 q y1 y2, FT.1 q y1]
            have hoo : ∀ k, k ≠ 9 → k ≠ 10 → (wr (wr I8 (o + 9) (sC S) (nI (nuT b n (sT S + 2)))) o 10 (nI (sC S + 1))) o k = I o k := fun k y1 y2 => by rw [wr_ne _ _ _ _ y2, wr_other _ _ _ _ (by omega), f8.1 o (by omega), a4 k y1, FT.1 o (by omega)]
            have h33 : ∀ k, k ≠ 7 → k ≠ 8 → (wr (wr I8 (o + 9) (sC S) (nI (nuT b n (sT S + 2)))) o 10 (nI (sC S + 1))) 33 k = I4 33 k := fun k y1 y2 => by rw [wr_other _ _ _ _ (by omega), wr_other _ _ _ _ (by omega), f8.2 k y1 y2, a2 k y1 y2]
            have g38 : (wl G7 (o + 8) (sC S) (lN (vl_ 32 (wdT b n (sT S + 1))))) 38 = G 38 := by rw [wl_other _ _ _ _ (by omega)]; exact a3 38 (by omega)
            refine hy (by omega) hsq (wr (wr I8 (o + 9) (sC S) (nI (nuT b n (sT S + 2)))) o 10 (nI (sC S + 1))) (wl G7 (o + 8) (sC S) (lN (vl_ 32 (wdT b n (sT S + 1))))) ⟨fun q y1 y2 => hb q y1 (by omega) (by omega), fun k y1 y2 y3 y4 y5 => (h33 k y4 y5).trans (FT.2 k y1 y2 y3), fun q y1 y2 => by rw [wl_other _ _ _ _ y2]; exact a3 q y1⟩ ⟨R4.f ho (fun q y1 y2 => (hb q (by omega) (by omega) (by omega)).trans (FT.1 q (by omega)).symm) (h33 3 (by decide) (by decide)) (h33 4 (by decide) (by decide)) (h33 5 (by decide) (by decide)) g38, E8.t (by rw [wr_other _ _ _ _ (by omega), wr_other _ _ _ _ (by omega)]) (by rw [wr_other _ _ _ _ (by omega), wr_other _ _ _ _ (by omega)]), N7.kept (by rw [wr_ne _ _ _ _ (by decide), wr_other _ _ _ _ (by omega), f8.1 o (by omega)]) (wl_other _ _ _ _ (by omega)), (hNc.kept (a3 (o + 8) (by omega))).add (by omega) (wdOK hk2), ?_, x, hW.kept (hb _ (by omega) (by omega) (by omega)) (hb _ (by omega) (by omega) (by omega)) (hb _ (by omega) (by omega) (by omega)) (hb _ (by omega) (by omega) (by omega)), by show x ≤ 16 + (sT S + 4); omega⟩
            refine ⟨⟨wr_eq _ _ _ _, (hoo 11 (by decide) (by decide)).trans c2, (hoo 12 (by decide) (by decide)).trans c3, (hoo 14 (by decide) (by decide)).trans c4, (hoo 15 (by decide) (by decide)).trans c5, (hoo 13 (by decide) (by decide)).trans c6⟩, fun c hc => ?_, fun y => ?_, ?_, ?_⟩
            · have hc : c < sC S + 1 := hc
              rw [wr_other _ _ _ _ (by omega)]
              show _ = set1 (sW S) (sC S) _ c
              unfold set1
              by_cases zc : c = sC S
              · rw [if_pos zc, zc, wr_eq]
              · rw [if_neg zc, wr_ne _ _ _ _ zc, f8.1 (o + 9) (by omega), a1 (o + 9) (by omega) (by omega), FT.1 (o + 9) (by omega)]; exact c7 c (by omega)
            · rw [hb (o + 10) (by omega) (by omega) (by omega)]; exact c8 (lte_0 (by decide) (lte_0 (by decide) y))
            · rw [hb (o + 11) (by omega) (by omega) (by omega)]; exact c9
            · rw [hb (o + 12) (by omega) (by omega) (by omega), hb (o + 13) (by omega) (by omega) (by omega), hb (o + 14) (by omega) (by omega) (by omega)]; exact c10
          · refine wn_if_ne rfl (e := 58) rfl (by omega) (fun c_55 => absurd c_55 (by omega)) (fun c_55 => ?_)
            refine wx_iconst (v := (nI 0)) rfl (e := 59) rfl (by decide) ?_
            refine wx_iret rfl rfl rfl ⟨by decide, by decide⟩ ?_
            rcases he4 with ⟨w1, w⟩ | ⟨w1, w, w2⟩
            · subst w1; exact hn 1 _ (by decide) (Or.inr ⟨by omega, by rw [sqT_y hk1 h41, sqT_y hk2 h42, sqT_y hk3 h43, sqT_1 w]⟩) _ (((f1.tr f2).tr f3).tr f4).S g3 g5
            · subst w1; exact hn 2 _ (by decide) (Or.inr ⟨by omega, by rw [sqT_y hk1 h41, sqT_y hk2 h42, sqT_y hk3 h43, sqT_2 w w2]⟩) _ (((f1.tr f2).tr f3).tr f4).S g3 g5
        · refine wn_if_eq rfl (e := 49) rfl (by omega) (fun c_46 => ?_) (fun c_46 => absurd c_46 (by omega))
          refine wx_iconst (v := (nI 0)) rfl (e := 59) rfl (by decide) ?_
          refine wx_iret rfl rfl rfl ⟨by decide, by decide⟩ ?_
          rcases he3 with ⟨w1, w⟩ | ⟨w1, w, w2⟩
          · subst w1; exact hn 1 _ (by decide) (Or.inr ⟨by omega, by rw [sqT_y hk1 h41, sqT_y hk2 h42, sqT_1 w]⟩) _ ((f1.tr f2).tr f3).S g3 g5
          · subst w1; exact hn 2 _ (by decide) (Or.inr ⟨by omega, by rw [sqT_y hk1 h41, sqT_y hk2 h42, sqT_2 w w2]⟩) _ ((f1.tr f2).tr f3).S g3 g5
      · refine wn_if_eq rfl (e := 40) rfl (by omega) (fun c_37 => ?_) (fun c_37 => absurd c_37 (by omega))
        refine wx_iconst (v := (nI 0)) rfl (e := 59) rfl (by decide) ?_
        refine wx_iret rfl rfl rfl ⟨by decide, by decide⟩ ?_
        rcases he2 with ⟨w1, w⟩ | ⟨w1, w, w2⟩
        · subst w1; exact hn 1 _ (by decide) (Or.inr ⟨by omega, by rw [sqT_y hk1 h41, sqT_1 w]⟩) _ (f1.tr f2).S g3 g5
        · subst w1; exact hn 2 _ (by decide) (Or.inr ⟨by omega, by rw [sqT_y hk1 h41, sqT_2 w w2]⟩) _ (f1.tr f2).S g3 g5
    · refine wn_if_eq rfl (e := 31) rfl (by omega) (fun c_28 => ?_) (fun c_28 => absurd c_28 (by omega))
      refine wx_iconst (v := (nI 0)) rfl (e := 59) rfl (by decide) ?_
      refine wx_iret rfl rfl rfl ⟨by decide, by decide⟩ ?_
      rcases he1 with ⟨w1, w⟩ | ⟨w1, w, w2⟩
      · subst w1; exact hn 1 _ (by decide) (Or.inr ⟨by omega, by exact sqT_1 w⟩) _ f1.S g3 g5
      · subst w1; exact hn 2 _ (by decide) (Or.inr ⟨by omega, by exact sqT_2 w w2⟩) _ f1.S g3 g5
  · refine wx_aload_n rfl (e := 18) rfl rfl ?_
    refine wx_iconst (v := (nI 2)) rfl (e := 19) rfl (by decide) ?_
    refine wx_cv1 (mc := 0) (ms := 0) rfl (e := 22) rfl rfl (Nat.le_of_ble_eq_true rfl) ⟨by decide, by decide⟩ ?_
    refine c_X4_refuse ?_
    refine wx_iret rfl rfl rfl ⟨by decide, by decide⟩ ?_
    exact hn 2 _ (by decide) (Or.inl ⟨by omega, rfl, rfl⟩) _ (frt.S ⟨fun q h => wr_other _ _ _ _ h, fun k _ _ h => wr_ne _ _ _ _ h⟩) ((wr_ne _ _ _ _ (by decide)).trans r3) (wr_eq _ _ _ _)

/-! the class: the reader, tokens taken, terms read -/
def RS (b : Nat → Nat) (n t : Nat) (I : Nat → Nat → Int32) (G : Nat → Nat → Int64) : Prop := (∃ m, CK b n I G m ∧ ∀ j, j ≤ 400 → gdT b n j → j < m) ∧ t ≤ 400 ∧ gdT b n t ∧ I 33 3 = nI t ∧ I 33 4 = nI (kd b n t) ∧ I 33 5 = nI 0
def frt (I I2 : Nat → Nat → Int32) : Prop := (∀ q, q ≠ 33 → I2 q = I q) ∧ ∀ k, k ≠ 3 → k ≠ 4 → k ≠ 5 → I2 33 k = I 33 k
theorem kd62 (b : Nat → Nat) (n t : Nat) : kd b n t < 62 := kd_lt b n _
theorem CK.kept {b : Nat → Nat} {n m : Nat} {I I2 : Nat → Nat → Int32} {G G2 : Nat → Nat → Int64} (h : CK b n I G m) (h1 : I2 34 = I 34) (h2 : I2 36 = I 36) (h3 : I2 37 = I 37) (h4 : G2 38 = G 38) : CK b n I2 G2 m := by
  unfold CK at *; rw [h1, h2, h3, h4]; exact h
def RK (b : Nat → Nat) (n : Nat) (I : Nat → Nat → Int32) (G : Nat → Nat → Int64) : Prop := ∃ m, CK b n I G m ∧ ∀ j, j ≤ 400 → gdT b n j → j < m
theorem RK.kept {b : Nat → Nat} {n : Nat} {I I2 : Nat → Nat → Int32} {G G2 : Nat → Nat → Int64} (h : RK b n I G) (h1 : I2 34 = I 34) (h2 : I2 36 = I 36) (h3 : I2 37 = I 37) (h4 : G2 38 = G 38) : RK b n I2 G2 := by
  obtain ⟨m, hK, hm⟩ := h
  exact ⟨m, hK.kept h1 h2 h3 h4, hm⟩
theorem c_X4_refuse {d Lx t rt u : Nat} {I : Nat → Nat → Int32} {G : Nat → Nat → Int64} {Q : ab_Q} {k : Int32} (hq : Q (some (.int (nI 0))) (hp Lx t rt u (wr I 33 5 k) G)) : ab_call ab_MT (d + 1) 59 [.ref 33, .int k] (hp Lx t rt u I G) 0 0 Q := by
  refine wx_in (M := mX4_refuse) rfl rfl rfl (Nat.le_of_ble_eq_true rfl) ?_
  refine wx_aload_n rfl (e := 1) rfl rfl ?_
  refine wx_iload_n rfl (e := 2) rfl rfl ?_
  refine wx_puti rfl (e := 5) rfl rfl (by decide) ?_
  refine wx_iconst (v := (nI 0)) rfl (e := 6) rfl (by decide) ?_
  refine wx_iret rfl rfl rfl ⟨by decide, by decide⟩ ?_
  exact hq
theorem c_X4_take {d Lx tt rt u : Nat} {I : Nat → Nat → Int32} {G : Nat → Nat → Int64} {Q : ab_Q} {b : Nat → Nat} {n t : Nat} (hR : RS b n t I G) {k : Nat} (hk : k < 62) (hk2 : k ≠ 26 ∧ k ≠ 27) (hy : kd b n t = k → t < 400 → ∀ I2, frt I I2 → RS b n (t + 1) I2 G → Q (some (.int (nI 1))) (hp Lx tt rt u I2 G)) (hn : ∀ e, (e = 1 ∧ ¬ kd b n t = k) ∨ (e = 2 ∧ kd b n t = k ∧ 400 ≤ t) → ∀ I2, frt I I2 → I2 33 3 = nI t → I2 33 5 = nI e → Q (some (.int (nI 0))) (hp Lx tt rt u I2 G)) : ab_call ab_MT (d + 2) 58 [.ref 33, .int (nI k)] (hp Lx tt rt u I G) 0 0 Q := by
  obtain ⟨⟨m, hK, hm⟩, ht, hgd, r3, r4, r5⟩ := id hR
  have hkl := kd62 b n t
  refine wx_in (M := mX4_take) rfl rfl rfl (Nat.le_of_ble_eq_true rfl) ?_
  refine wx_aload_n rfl (e := 1) rfl rfl ?_
  refine wx_geti rfl (e := 4) rfl rfl ?_
  rw [r4]
  refine wx_iload_n rfl (e := 5) rfl rfl ?_
  refine wn_ic_eq rfl (e := 8) rfl (by omega) (by omega) (fun c_5 => ?_) (fun c_5 => ?_)
  · refine wx_aload_n rfl (e := 15) rfl rfl ?_
    refine wx_geti rfl (e := 18) rfl rfl ?_
    rw [r3]
    refine wx_sipush (v := (nI 400)) rfl (e := 21) rfl (by decide) ?_
    refine wn_ic_lt rfl (e := 24) rfl (by omega) (by omega) (fun c_21 => ?_) (fun c_21 => ?_)
    · have hg1 : gdT b n (t + 1) := hgd.s (by omega) (by omega)
      refine wx_aload_n rfl (e := 31) rfl rfl ?_
      refine wx_dup rfl (e := 32) rfl rfl ?_
      refine wx_geti rfl (e := 35) rfl rfl ?_
      rw [r3]
      refine wx_iconst (v := (nI 1)) rfl (e := 36) rfl (by decide) ?_
      refine wn_iadd rfl (e := 37) rfl ?_
      refine wx_puti rfl (e := 40) rfl rfl (by decide) ?_
      refine wx_aload_n rfl (e := 41) rfl rfl ?_
      refine wx_aload_n rfl (e := 42) rfl rfl ?_
      refine wx_getr rfl (e := 45) rfl rfl rfl ?_
      refine wx_aload_n rfl (e := 46) rfl rfl ?_
      refine wx_geti rfl (e := 49) rfl rfl ?_
      rw [wr_eq]
      refine wx_cv1 (mc := 0) (ms := 0) rfl (e := 52) rfl rfl (Nat.le_of_ble_eq_true rfl) ⟨by decide, by decide⟩ ?_
      refine c_X8_kindAt (hK.kept (wr_other _ _ _ _ (by decide)) (wr_other _ _ _ _ (by decide)) (wr_other _ _ _ _ (by decide)) rfl) (hm (t + 1) (by omega) hg1) ?_
      refine wx_puti rfl (e := 55) rfl rfl (by decide) ?_
      refine wx_iconst (v := (nI 1)) rfl (e := 56) rfl (by decide) ?_
      refine wx_iret rfl rfl rfl ⟨by decide, by decide⟩ ?_
      exact hy c_5 (by omega) _ ⟨fun q h => by rw [wr_other _ _ _ _ h, wr_other _ _ _ _ h], fun k h1 h2 _ => by rw [wr_ne _ _ _ _ h2, wr_ne _ _ _ _ h1]⟩ ⟨⟨m, hK.kept (by rw [wr_other _ _ _ _ (by decide), wr_other _ _ _ _ (by decide)]) (by rw [wr_other _ _ _ _ (by decide), wr_other _ _ _ _ (by decide)]) (by rw [wr_other _ _ _ _ (by decide), wr_other _ _ _ _ (by decide)]) rfl, hm⟩, by omega, hg1, by rw [wr_ne _ _ _ _ (by decide), wr_eq], wr_eq _ _ _ _, by rw [wr_ne _ _ _ _ (by decide), wr_ne _ _ _ _ (by decide)]; exact r5⟩
    · refine wx_aload_n rfl (e := 25) rfl rfl ?_
      refine wx_iconst (v := (nI 2)) rfl (e := 26) rfl (by decide) ?_
      refine wx_cv1 (mc := 0) (ms := 0) rfl (e := 29) rfl rfl (Nat.le_of_ble_eq_true rfl) ⟨by decide, by decide⟩ ?_
      refine c_X4_refuse ?_
      refine wx_iret rfl rfl rfl ⟨by decide, by decide⟩ ?_
      exact hn 2 (Or.inr ⟨rfl, c_5, by omega⟩) _ ⟨fun q h => wr_other _ _ _ _ h, fun k _ _ h => wr_ne _ _ _ _ h⟩ ((wr_ne _ _ _ _ (by decide)).trans r3) (wr_eq _ _ _ _)
  · refine wx_aload_n rfl (e := 9) rfl rfl ?_
    refine wx_iconst (v := (nI 1)) rfl (e := 10) rfl (by decide) ?_
    refine wx_cv1 (mc := 0) (ms := 0) rfl (e := 13) rfl rfl (Nat.le_of_ble_eq_true rfl) ⟨by decide, by decide⟩ ?_
    refine c_X4_refuse ?_
    refine wx_iret rfl rfl rfl ⟨by decide, by decide⟩ ?_
    exact hn 1 (Or.inl ⟨rfl, c_5⟩) _ ⟨fun q h => wr_other _ _ _ _ h, fun k _ _ h => wr_ne _ _ _ _ h⟩ ((wr_ne _ _ _ _ (by decide)).trans r3) (wr_eq _ _ _ _)
/-- but for the reader's place and steps from a0 on -/
def fre (o a0 : Nat) (I I2 : Nat → Nat → Int32) : Prop := (∀ q, q ≠ 33 → q ≠ o + 1 → q ≠ o + 2 → q ≠ o + 3 → I2 q = I q) ∧ (∀ k, k ≠ 3 → k ≠ 4 → k ≠ 5 → I2 33 k = I 33 k) ∧ ∀ i, i < a0 → I2 (o + 2) i = I (o + 2) i ∧ I2 (o + 3) i = I (o + 3) i
theorem fre.rf {o a0 : Nat} {I : Nat → Nat → Int32} : fre o a0 I I := ⟨fun _ _ _ _ _ => rfl, fun _ _ _ _ => rfl, fun _ _ => ⟨rfl, rfl⟩⟩
theorem fre.tr {o a0 : Nat} {I I2 I3 : Nat → Nat → Int32} (h1 : fre o a0 I I2) (h2 : fre o a0 I2 I3) : fre o a0 I I3 := ⟨fun q a b c d => (h2.1 q a b c d).trans (h1.1 q a b c d), fun k a b c => (h2.2.1 k a b c).trans (h1.2.1 k a b c), fun i hi => ⟨(h2.2.2 i hi).1.trans (h1.2.2 i hi).1, (h2.2.2 i hi).2.trans (h1.2.2 i hi).2⟩⟩
theorem frt.e {o a0 : Nat} (ho : o = 1 ∨ o = 16) {I I2 : Nat → Nat → Int32} (h : frt I I2) : fre o a0 I I2 := ⟨fun q a _ _ _ => h.1 q a, h.2, fun i _ => ⟨by rw [h.1 _ (by omega)], by rw [h.1 _ (by omega)]⟩⟩
/-- steps told so far -/
def lsK (o a0 : Nat) (c : rpn) (I : Nat → Nat → Int32) : Prop := I (o + 1) 5 = nI (a0 + c.length) ∧ KC (I (o + 2)) (I (o + 3)) a0 c
theorem lsK.t {o a0 : Nat} (ho : o = 1 ∨ o = 16) {c : rpn} {I I2 : Nat → Nat → Int32} (h : lsK o a0 c I) (f : frt I I2) : lsK o a0 c I2 := by
  unfold lsK at *
  rw [f.1 (o + 1) (by omega), f.1 (o + 2) (by omega), f.1 (o + 3) (by omega)]; exact h
def emW (o : Nat) (I : Nat → Nat → Int32) (x : Nat) (k v : Int32) : Nat → Nat → Int32 := wr (wr (wr I (o + 1 + 1) x k) (o + 1 + 2) x v) (o + 1) 5 (nI (x + 1))
theorem emW.f {o a0 x : Nat} (ho : o = 1 ∨ o = 16) (hx : a0 ≤ x) {I : Nat → Nat → Int32} {k v : Int32} : fre o a0 I (emW o I x k v) := by
  refine ⟨fun q h1 h2 h3 h4 => ?_, fun j _ _ _ => ?_, fun i hi => ⟨?_, ?_⟩⟩
  · unfold emW; rw [wr_other _ _ _ _ h2, wr_other _ _ _ _ (by omega), wr_other _ _ _ _ (by omega)]
  · unfold emW; rw [wr_other _ _ _ _ (by omega), wr_other _ _ _ _ (by omega), wr_other _ _ _ _ (by omega)]
  · unfold emW; rw [wr_other _ _ _ _ (by omega), wr_other _ _ _ _ (by omega)]; exact wr_ne _ _ _ _ (by omega)
  · unfold emW; rw [wr_other _ _ _ _ (by omega)]; refine (wr_ne _ _ _ _ (by omega)).trans ?_; rw [wr_other _ _ _ _ (by omega)]
theorem emW.s {o a0 : Nat} (ho : o = 1 ∨ o = 16) {c : rpn} {I : Nat → Nat → Int32} {q : Nat × Int32} {k v : Int32} (h : lsK o a0 c I) (hk : k = nI (stK q.1)) (hv : q.1 < 2 → v = q.2) : lsK o a0 (c ++ [q]) (emW o I (a0 + c.length) k v) := by
  have e2 : ∀ i, emW o I (a0 + c.length) k v (o + 2) i = if i = a0 + c.length then k else I (o + 2) i := fun i => by
    unfold emW; rw [wr_other _ _ _ _ (by omega), wr_other _ _ _ _ (by omega), wr_at, if_pos rfl]
  have e3 : ∀ i, emW o I (a0 + c.length) k v (o + 3) i = if i = a0 + c.length then v else I (o + 3) i := fun i => by
    unfold emW; rw [wr_other _ _ _ _ (by omega), wr_at, if_pos rfl, wr_other _ _ _ _ (by omega)]
  refine ⟨?_, ?_⟩
  · unfold emW; rw [wr_eq, List.length_append]; rfl
  · refine KC.ap c (KC.kept c (fun i hi => ⟨?_, ?_⟩) h.2) ⟨?_, fun z => ?_, True.intro⟩
    · rw [e2, if_neg (by omega)]
    · rw [e3, if_neg (by omega)]
    · rw [e2, if_pos rfl]; exact hk
    · rw [e3, if_pos rfl]; exact hv z
theorem RS.e {b : Nat → Nat} {n t o x : Nat} (ho : o = 1 ∨ o = 16) {I : Nat → Nat → Int32} {G : Nat → Nat → Int64} {k v : Int32} (h : RS b n t I G) : RS b n t (emW o I x k v) G := by
  have f : ∀ q, q ≠ o + 1 → q ≠ o + 2 → q ≠ o + 3 → emW o I x k v q = I q := fun q h2 h3 h4 => by
    unfold emW; rw [wr_other _ _ _ _ h2, wr_other _ _ _ _ (by omega), wr_other _ _ _ _ (by omega)]
  obtain ⟨h1, h2, h3, h4, h5, h6⟩ := h
  exact ⟨RK.kept h1 (f 34 (by omega) (by omega) (by omega)) (f 36 (by omega) (by omega) (by omega)) (f 37 (by omega) (by omega) (by omega)) rfl, h2, h3, by rw [f 33 (by omega) (by omega) (by omega)]; exact h4, by rw [f 33 (by omega) (by omega) (by omega)]; exact h5, by rw [f 33 (by omega) (by omega) (by omega)]; exact h6⟩
def rqY (b : Nat → Nat) (n o a0 : Nat) (r : res) (I : Nat → Nat → Int32) (G : Nat → Nat → Int64) (F : (Nat → Nat → Int32) → Nat → Prop) : Prop := (r.1 = 0 → ∀ I2, fre o a0 I I2 → RS b n r.2.1 I2 G → lsK o a0 r.2.2 I2 → F I2 1) ∧ (¬ r.1 = 0 → ∀ I2, fre o a0 I I2 → I2 33 3 = nI r.2.1 → I2 33 5 = nI r.1 → F I2 0)
def rqU (b : Nat → Nat) (n o a0 f : Nat) : Prop := ∀ (e d t Lx tt u : Nat) (c : rpn) (I : Nat → Nat → Int32) (G : Nat → Nat → Int64) (Q : ab_Q), 2 * (6 - d) ≤ e → d ≤ 6 → 402 ≤ f + t → RS b n t I G → lsK o a0 c I → a0 + c.length ≤ 16 + t → rqY b n o a0 (ex b n f 0 0 d t c) I G (fun I2 v => Q (some (.int (nI v))) (hp Lx tt o u I2 G)) → ab_call ab_MT (e + 4) 72 [.ref 33, .int (nI d)] (hp Lx tt o u I G) 0 0 Q
def wv (w : Nat) : Int32 := if w = 0 then -1 else nI w
def rqA (b : Nat → Nat) (n o a0 f : Nat) : Prop := ∀ (e d w t p q Lx tt u : Nat) (c : rpn) (I : Nat → Nat → Int32) (G : Nat → Nat → Int64) (Q : ab_Q) (x5 : Option Value), 2 * (6 - d) ≤ e → d ≤ 6 → 402 ≤ f + t → RS b n t I G → lsK o a0 c I → a0 + c.length + (if w = 0 then 0 else 1) ≤ 16 + t → p + 1 ≤ t → q ≤ t → (w = 0 ∨ w = 43 ∨ w = 45) → rqY b n o a0 (ex b n f 1 w d t c) I G (fun I2 v => Q (some (.int (nI v))) (hp Lx tt o u I2 G)) → WP (e + 4) mX4_readSum Q 24 [some (.ref 33), some (.int (nI d)), some (.int (wv w)), some (.int (nI p)), some (.int (nI q)), x5] [] (hp Lx tt o u I G) 0 0
def rqS (b : Nat → Nat) (n o a0 f : Nat) : Prop := ∀ (e d t Lx tt u : Nat) (c : rpn) (I : Nat → Nat → Int32) (G : Nat → Nat → Int64) (Q : ab_Q), 2 * (6 - d) ≤ e → d ≤ 6 → 402 ≤ f + t → RS b n t I G → lsK o a0 c I → a0 + c.length ≤ 16 + t → rqY b n o a0 (bnd (ex b n f 0 0 d t c) (fun t1 c1 => ex b n f 1 0 d t1 c1)) I G (fun I2 v => Q (some (.int (nI v))) (hp Lx tt o u I2 G)) → ab_call ab_MT (e + 5) 71 [.ref 33, .int (nI d)] (hp Lx tt o u I G) 0 0 Q
theorem rqY.ok {b : Nat → Nat} {n o a0 : Nat} {r : res} {I : Nat → Nat → Int32} {G : Nat → Nat → Int64} {F : (Nat → Nat → Int32) → Nat → Prop} (h : rqY b n o a0 r I G F) (h0 : r.1 = 0) {I2 : Nat → Nat → Int32} (f : fre o a0 I I2) (hR : RS b n r.2.1 I2 G) (hL : lsK o a0 r.2.2 I2) : F I2 1 := h.1 h0 I2 f hR hL
theorem rqY.no {b : Nat → Nat} {n o a0 : Nat} {r : res} {I : Nat → Nat → Int32} {G : Nat → Nat → Int64} {F : (Nat → Nat → Int32) → Nat → Prop} (h : rqY b n o a0 r I G F) (k t : Nat) (hk : ¬ k = 0) (hr : r.1 = k) (hr2 : r.2.1 = t) {I2 : Nat → Nat → Int32} (f : fre o a0 I I2) (h3 : I2 33 3 = nI t) (h5 : I2 33 5 = nI k) : F I2 0 := h.2 (by rw [hr]; exact hk) I2 f (by rw [hr2]; exact h3) (by rw [hr]; exact h5)
theorem rqS_of {b : Nat → Nat} {n o a0 f : Nat} (ho : o = 1 ∨ o = 16) (hU : rqU b n o a0 f) (hA : rqA b n o a0 f) : rqS b n o a0 f := by
  intro e d t Lx tt u c I G Q he hd hf hR hLs hx hq
  refine wx_in (M := mX4_readSum) rfl rfl rfl (Nat.le_of_ble_eq_true rfl) ?_
  refine wx_iconst (v := (-1)) rfl (e := 1) rfl (by decide) ?_
  refine wx_istore_n (L2 := [_, _, _, _, _, _]) rfl (e := 2) rfl (by decide) rfl ?_
  refine wx_iconst (v := (nI 0)) rfl (e := 3) rfl (by decide) ?_
  refine wx_istore_n (L2 := [_, _, _, _, _, _]) rfl (e := 4) rfl (by decide) rfl ?_
  refine wx_iload_n rfl (e := 5) rfl rfl ?_
  refine wx_sipush (v := (nI 400)) rfl (e := 8) rfl (by decide) ?_
  refine wn_ic_gt rfl (e := 11) rfl (by omega) (by omega) (fun c_8 => absurd c_8 (by omega)) (fun c_8 => ?_)
  refine wx_aload_n rfl (e := 12) rfl rfl ?_
  refine wx_iload_n rfl (e := 13) rfl rfl ?_
  refine wx_cv1 (mc := 0) (ms := 0) rfl (e := 16) rfl rfl (Nat.le_of_ble_eq_true rfl) ⟨by decide, by decide⟩ ?_
  refine hU e d t Lx tt u c I G _ he hd hf hR hLs hx ⟨fun z0 I1 f1 R1 L1 => ?_, fun z0 I1 f1 g3 g5 => ?_⟩
  · refine wn_if_ne rfl (e := 19) rfl (by omega) (fun c_16 => ?_) (fun c_16 => absurd c_16 (by omega))
    refine wx_iconst (v := (nI 0)) rfl (e := 22) rfl (by decide) ?_
    refine wx_istore (L2 := [_, _, _, _, _, _]) rfl (e := 24) rfl (by decide) rfl ?_
    obtain ⟨a1, a2, a3, a4, a5, a6⟩ := ex_far b n f 0 0 d t c hR.2.1 hR.2.2.1 hf
    have a5 := a5 z0
    have a4 := a4 z0 rfl
    rw [if_pos (Or.inl rfl)] at a5
    rw [bnd_0 z0] at hq
    refine hA e d 0 _ 0 0 Lx tt u _ I1 G _ _ he hd (by omega) R1 L1 (by rw [if_pos rfl]; omega) (by omega) (by omega) (Or.inl rfl) ⟨fun y I2 f2 R2 L2 => hq.1 y I2 (f1.tr f2) R2 L2, fun y I2 f2 h3 h5 => hq.2 y I2 (f1.tr f2) h3 h5⟩
  · refine wn_if_ne rfl (e := 19) rfl (by omega) (fun c_16 => absurd c_16 (by omega)) (fun c_16 => ?_)
    refine wx_iconst (v := (nI 0)) rfl (e := 20) rfl (by decide) ?_
    refine wx_iret rfl rfl rfl ⟨by decide, by decide⟩ ?_
    rw [bnd_1 z0] at hq
    exact hq.2 z0 I1 f1 g3 g5
theorem bnd_as (r : res) (k1 k2 : Nat → rpn → res) : bnd (bnd r k1) k2 = bnd r (fun t c => bnd (k1 t c) k2) := by
  by_cases h : r.1 = 0
  · rw [bnd_0 h, bnd_0 h]
  · rw [bnd_1 h, bnd_1 h, bnd_1 h]
set_option maxHeartbeats 2000000 in
theorem rqU_s {b : Nat → Nat} {n o a0 f : Nat} (ho : o = 1 ∨ o = 16) (hS : rqS b n o a0 f) : rqU b n o a0 (f + 1) := by
  intro e d t Lx tt u c I G Q he hd hf hR hLs hx hq
  obtain ⟨⟨m, hK, hm⟩, ht, hgd, r3, r4, r5⟩ := id hR
  have hkl := kd62 b n t
  rw [ex, if_pos rfl] at hq
  refine wx_in (M := mX4_readUnit) rfl rfl rfl (Nat.le_of_ble_eq_true rfl) ?_
  refine wx_aload_n rfl (e := 1) rfl rfl ?_
  refine wx_geti rfl (e := 4) rfl rfl ?_
  rw [r4]
  refine wx_bipush (v := (nI 40)) rfl (e := 6) rfl (by decide) ?_
  refine wn_ic_ne rfl (e := 9) rfl (by omega) (by omega) (fun c_6 => ?_) (fun c_6 => ?_)
  · refine wx_aload_n rfl (e := 56) rfl rfl ?_
    refine wx_geti rfl (e := 59) rfl rfl ?_
    rw [r4]
    refine wx_bipush (v := (nI 25)) rfl (e := 61) rfl (by decide) ?_
    refine wn_ic_ne rfl (e := 64) rfl (by omega) (by omega) (fun c_61 => ?_) (fun c_61 => ?_)
    · refine wx_aload_n rfl (e := 93) rfl rfl ?_
      refine wx_geti rfl (e := 96) rfl rfl ?_
      rw [r4]
      refine wx_bipush (v := (nI 15)) rfl (e := 98) rfl (by decide) ?_
      refine wn_ic_lt rfl (e := 101) rfl (by omega) (by omega) (fun c_98 => ?_) (fun c_98 => ?_)
      · refine wx_aload_n rfl (e := 136) rfl rfl ?_
        refine wx_iconst (v := (nI 1)) rfl (e := 137) rfl (by decide) ?_
        refine wx_cv1 (mc := 0) (ms := 0) rfl (e := 140) rfl rfl (Nat.le_of_ble_eq_true rfl) ⟨by decide, by decide⟩ ?_
        refine c_X4_refuse ?_
        refine wx_iret rfl rfl rfl ⟨by decide, by decide⟩ ?_
        rw [if_neg (by omega), if_neg (by omega), if_neg (by omega)] at hq
        exact hq.no 1 t (by decide) rfl rfl (frt.e ho ⟨fun q h => wr_other _ _ _ _ h, fun k _ _ h => wr_ne _ _ _ _ h⟩) ((wr_ne _ _ _ _ (by decide)).trans r3) (wr_eq _ _ _ _)
      · refine wx_aload_n rfl (e := 102) rfl rfl ?_
        refine wx_geti rfl (e := 105) rfl rfl ?_
        rw [r4]
        refine wx_bipush (v := (nI 24)) rfl (e := 107) rfl (by decide) ?_
        refine wn_ic_ge rfl (e := 110) rfl (by omega) (by omega) (fun c_107 => ?_) (fun c_107 => ?_)
        · refine wx_aload_n rfl (e := 136) rfl rfl ?_
          refine wx_iconst (v := (nI 1)) rfl (e := 137) rfl (by decide) ?_
          refine wx_cv1 (mc := 0) (ms := 0) rfl (e := 140) rfl rfl (Nat.le_of_ble_eq_true rfl) ⟨by decide, by decide⟩ ?_
          refine c_X4_refuse ?_
          refine wx_iret rfl rfl rfl ⟨by decide, by decide⟩ ?_
          rw [if_neg (by omega), if_neg (by omega), if_neg (by omega)] at hq
          exact hq.no 1 t (by decide) rfl rfl (frt.e ho ⟨fun q h => wr_other _ _ _ _ h, fun k _ _ h => wr_ne _ _ _ _ h⟩) ((wr_ne _ _ _ _ (by decide)).trans r3) (wr_eq _ _ _ _)
        · refine wx_aload_n rfl (e := 111) rfl rfl ?_
          refine wx_getr rfl (e := 114) rfl rfl rfl ?_
          refine wx_iconst (v := (nI 1)) rfl (e := 115) rfl (by decide) ?_
          refine wx_aload_n rfl (e := 116) rfl rfl ?_
          refine wx_geti rfl (e := 119) rfl rfl ?_
          rw [r4]
          refine wx_bipush (v := (nI 15)) rfl (e := 121) rfl (by decide) ?_
          refine wn_isub rfl (e := 122) rfl (by omega) ?_
          refine wx_cv2 (mc := 0) (ms := 0) rfl (e := 125) rfl (sh_l ho) (Nat.le_of_ble_eq_true rfl) ⟨by decide, by decide⟩ ?_
          refine c_X2_emit (w := o + 1) (by omega) hLs.1 (by omega) ?_
          refine wx_pop rfl (e := 126) rfl rfl ?_
          refine wx_aload_n rfl (e := 127) rfl rfl ?_
          refine wx_aload_n rfl (e := 128) rfl rfl ?_
          refine wx_geti rfl (e := 131) rfl rfl ?_
          rw [wr_other _ _ _ _ (show 33 ≠ o + 1 by omega), wr_other _ _ _ _ (show 33 ≠ o + 1 + 2 by omega), wr_other _ _ _ _ (show 33 ≠ o + 1 + 1 by omega), r4]
          refine wx_cv1 (mc := 0) (ms := 0) rfl (e := 134) rfl rfl (Nat.le_of_ble_eq_true rfl) ⟨by decide, by decide⟩ ?_
          refine c_X4_take (hR.e (x := a0 + c.length) ho) (k := (kd b n t)) (by omega) (by omega) (fun hk1 h41 I1 f1 R1 => ?_) (fun e1 he1 I1 f1 g3 g5 => ?_)
          · refine wx_iret rfl rfl rfl ⟨by decide, by decide⟩ ?_
            rw [if_neg (by omega), if_neg (by omega), if_pos (by omega), if_neg (by omega)] at hq
            exact hq.ok rfl ((emW.f ho (by omega)).tr (frt.e ho f1)) R1 ((emW.s ho hLs rfl (fun _ => rfl)).t ho f1)
          · refine wx_iret rfl rfl rfl ⟨by decide, by decide⟩ ?_
            rcases he1 with ⟨_, w⟩ | ⟨w1, _, w2⟩
            · exact absurd rfl w
            · subst w1; rw [if_neg (by omega), if_neg (by omega), if_pos (by omega), if_pos w2] at hq; exact hq.no 2 t (by decide) rfl rfl ((emW.f ho (by omega)).tr (frt.e ho f1)) g3 g5
    · refine wx_aload_n rfl (e := 65) rfl rfl ?_
      refine wx_getr rfl (e := 68) rfl rfl rfl ?_
      refine wx_iconst (v := (nI 0)) rfl (e := 69) rfl (by decide) ?_
      refine wx_aload_n rfl (e := 70) rfl rfl ?_
      refine wx_getr rfl (e := 73) rfl rfl rfl ?_
      refine wx_aload_n rfl (e := 74) rfl rfl ?_
      refine wx_geti rfl (e := 77) rfl rfl ?_
      rw [r3]
      refine wx_cv1 (mc := 0) (ms := 0) rfl (e := 80) rfl rfl (Nat.le_of_ble_eq_true rfl) ⟨by decide, by decide⟩ ?_
      refine c_X8_valueAt hK (hm t ht hgd) ?_
      refine wx_l2i rfl (e := 81) rfl ?_
      rw [(hK.2.2 t (hm t ht hgd)).2.2.2 (by omega), lN_i]
      refine wx_cv2 (mc := 0) (ms := 0) rfl (e := 84) rfl (sh_l ho) (Nat.le_of_ble_eq_true rfl) ⟨by decide, by decide⟩ ?_
      refine c_X2_emit (w := o + 1) (by omega) hLs.1 (by omega) ?_
      refine wx_pop rfl (e := 85) rfl rfl ?_
      refine wx_aload_n rfl (e := 86) rfl rfl ?_
      refine wx_bipush (v := (nI 25)) rfl (e := 88) rfl (by decide) ?_
      refine wx_cv1 (mc := 0) (ms := 0) rfl (e := 91) rfl rfl (Nat.le_of_ble_eq_true rfl) ⟨by decide, by decide⟩ ?_
      refine c_X4_take (hR.e (x := a0 + c.length) ho) (k := 25) (by omega) (by omega) (fun hk1 h41 I1 f1 R1 => ?_) (fun e1 he1 I1 f1 g3 g5 => ?_)
      · refine wx_iret rfl rfl rfl ⟨by decide, by decide⟩ ?_
        rw [if_neg (by omega), if_pos (by omega), if_neg (by omega)] at hq
        exact hq.ok rfl ((emW.f ho (by omega)).tr (frt.e ho f1)) R1 ((emW.s ho hLs rfl (fun _ => rfl)).t ho f1)
      · refine wx_iret rfl rfl rfl ⟨by decide, by decide⟩ ?_
        rcases he1 with ⟨_, w⟩ | ⟨w1, _, w2⟩
        · exact absurd (show kd b n t = 25 by omega) w
        · subst w1; rw [if_neg (by omega), if_pos (by omega), if_pos w2] at hq; exact hq.no 2 t (by decide) rfl rfl ((emW.f ho (by omega)).tr (frt.e ho f1)) g3 g5
  · have hk0 : kd b n t = 40 := by omega
    refine wx_iload_n rfl (e := 10) rfl rfl ?_
    refine wx_bipush (v := (nI 6)) rfl (e := 12) rfl (by decide) ?_
    refine wn_ic_lt rfl (e := 15) rfl (by omega) (by omega) (fun c_12 => ?_) (fun c_12 => ?_)
    · refine wx_aload_n rfl (e := 22) rfl rfl ?_
      refine wx_bipush (v := (nI 40)) rfl (e := 24) rfl (by decide) ?_
      refine wx_cv1 (mc := 0) (ms := 0) rfl (e := 27) rfl rfl (Nat.le_of_ble_eq_true rfl) ⟨by decide, by decide⟩ ?_
      refine c_X4_take hR (k := 40) (by omega) (by omega) (fun hk1 h41 I1 f1 R1 => ?_) (fun e1 he1 I1 f1 g3 g5 => ?_)
      · refine wn_if_eq rfl (e := 30) rfl (by omega) (fun c_27 => absurd c_27 (by omega)) (fun c_27 => ?_)
        refine wx_aload_n rfl (e := 31) rfl rfl ?_
        refine wx_iload_n rfl (e := 32) rfl rfl ?_
        refine wx_iconst (v := (nI 1)) rfl (e := 33) rfl (by decide) ?_
        refine wn_iadd rfl (e := 34) rfl ?_
        refine wx_cv1 (mc := 0) (ms := 0) rfl (e := 37) rfl rfl (Nat.le_of_ble_eq_true rfl) ⟨by decide, by decide⟩ ?_
        obtain ⟨e2, rfl⟩ : ∃ e2, e = e2 + 2 := ⟨e - 2, by omega⟩
        have hsp : ∀ k, bnd (bnd (ex b n f 0 0 (d + 1) (t + 1) c) (fun t1 c1 => ex b n f 1 0 (d + 1) t1 c1)) k = bnd (ex b n f 0 0 (d + 1) (t + 1) c) (fun t1 c1 => bnd (ex b n f 1 0 (d + 1) t1 c1) k) := fun k => bnd_as _ _ _
        rw [if_pos hk0, if_neg (by omega)] at hq
        rw [← hsp] at hq
        refine hS e2 (d + 1) (t + 1) Lx tt u c I1 G _ (by omega) (by omega) (by omega) R1 (hLs.t ho f1) (by omega) ⟨fun hs0 I2 f2 R2 L2 => ?_, fun hs0 I2 f2 g3 g5 => ?_⟩
        · have hsp1 := bnd_0 (k := fun t2 c2 => tkR b n 41 t2 c2) hs0
          refine wn_if_eq rfl (e := 40) rfl (by omega) (fun c_37 => absurd c_37 (by omega)) (fun c_37 => ?_)
          refine wx_aload_n rfl (e := 41) rfl rfl ?_
          refine wx_bipush (v := (nI 41)) rfl (e := 43) rfl (by decide) ?_
          refine wx_cv1 (mc := 0) (ms := 0) rfl (e := 46) rfl rfl (Nat.le_of_ble_eq_true rfl) ⟨by decide, by decide⟩ ?_
          refine c_X4_take R2 (k := 41) (by omega) (by omega) (fun hk3 h43 I3 f3 R3 => ?_) (fun e3 he3 I3 f3 g3 g5 => ?_)
          · refine wn_if_eq rfl (e := 49) rfl (by omega) (fun c_46 => absurd c_46 (by omega)) (fun c_46 => ?_)
            refine wx_iconst (v := (nI 1)) rfl (e := 50) rfl (by decide) ?_
            refine wx_goto rfl ?_
            refine wx_iret rfl rfl rfl ⟨by decide, by decide⟩ ?_
            rw [hsp1] at hq
            unfold tkR at hq
            rw [if_pos hk3, if_neg (by omega)] at hq
            exact hq.ok rfl ((frt.e ho f1).tr (f2.tr (frt.e ho f3))) R3 (L2.t ho f3)
          · refine wn_if_eq rfl (e := 49) rfl (by omega) (fun c_46 => ?_) (fun c_46 => absurd c_46 (by omega))
            refine wx_iconst (v := (nI 0)) rfl (e := 54) rfl (by decide) ?_
            refine wx_iret rfl rfl rfl ⟨by decide, by decide⟩ ?_
            rw [hsp1] at hq
            rcases he3 with ⟨w1, w⟩ | ⟨w1, w, w2⟩
            · subst w1; unfold tkR at hq; rw [if_neg w] at hq; exact hq.no 1 _ (by decide) rfl rfl ((frt.e ho f1).tr (f2.tr (frt.e ho f3))) g3 g5
            · subst w1; unfold tkR at hq; rw [if_pos w, if_pos w2] at hq; exact hq.no 2 _ (by decide) rfl rfl ((frt.e ho f1).tr (f2.tr (frt.e ho f3))) g3 g5
        · have hsp0 := bnd_1 (k := fun t2 c2 => tkR b n 41 t2 c2) hs0
          refine wn_if_eq rfl (e := 40) rfl (by omega) (fun c_37 => ?_) (fun c_37 => absurd c_37 (by omega))
          refine wx_iconst (v := (nI 0)) rfl (e := 54) rfl (by decide) ?_
          refine wx_iret rfl rfl rfl ⟨by decide, by decide⟩ ?_
          rw [hsp0] at hq
          exact hq.2 hs0 I2 ((frt.e ho f1).tr f2) g3 g5
      · refine wn_if_eq rfl (e := 30) rfl (by omega) (fun c_27 => ?_) (fun c_27 => absurd c_27 (by omega))
        refine wx_iconst (v := (nI 0)) rfl (e := 54) rfl (by decide) ?_
        refine wx_iret rfl rfl rfl ⟨by decide, by decide⟩ ?_
        rcases he1 with ⟨_, w⟩ | ⟨w1, _, w2⟩
        · exact absurd hk0 w
        · subst w1
          rw [if_pos hk0, if_pos (Or.inr w2)] at hq
          exact hq.no 2 t (by decide) rfl rfl (frt.e ho f1) g3 g5
    · refine wx_aload_n rfl (e := 16) rfl rfl ?_
      refine wx_iconst (v := (nI 2)) rfl (e := 17) rfl (by decide) ?_
      refine wx_cv1 (mc := 0) (ms := 0) rfl (e := 20) rfl rfl (Nat.le_of_ble_eq_true rfl) ⟨by decide, by decide⟩ ?_
      refine c_X4_refuse ?_
      refine wx_iret rfl rfl rfl ⟨by decide, by decide⟩ ?_
      rw [if_pos hk0, if_pos (Or.inl (by omega))] at hq
      exact hq.no 2 t (by decide) rfl rfl (frt.e ho ⟨fun q h => wr_other _ _ _ _ h, fun k _ _ h => wr_ne _ _ _ _ h⟩) ((wr_ne _ _ _ _ (by decide)).trans r3) (wr_eq _ _ _ _)
set_option maxHeartbeats 4000000 in
theorem rqA_s {b : Nat → Nat} {n o a0 f : Nat} (ho : o = 1 ∨ o = 16) (hU : rqU b n o a0 f) (hA : rqA b n o a0 f) : rqA b n o a0 (f + 1) := by
  intro e d w t p q Lx tt u c I G Q x5 he hd hf hR hLs hx hp1 hq1 hw hq
  obtain ⟨⟨m, hK, hm⟩, ht, hgd, r3, r4, r5⟩ := id hR
  have hkl := kd62 b n t
  rw [ex, if_neg (by decide)] at hq
  refine wx_aload_n rfl (e := 25) rfl rfl ?_
  refine wx_geti rfl (e := 28) rfl rfl ?_
  rw [r4]
  refine wx_bipush (v := (nI 42)) rfl (e := 30) rfl (by decide) ?_
  refine wn_ic_eq rfl (e := 33) rfl (by omega) (by omega) (fun c_30 => ?_) (fun c_30 => ?_)
  · refine wx_iload rfl (e := 44) rfl rfl ?_
    refine wx_sipush (v := (nI 400)) rfl (e := 47) rfl (by decide) ?_
    refine wn_ic_gt rfl (e := 50) rfl (by omega) (by omega) (fun c_47 => absurd c_47 (by omega)) (fun c_47 => ?_)
    refine wx_aload_n rfl (e := 51) rfl rfl ?_
    refine wx_geti rfl (e := 54) rfl rfl ?_
    rw [r4]
    refine wx_istore (L2 := [_, _, _, _, _, _]) rfl (e := 56) rfl (by decide) rfl ?_
    refine wx_aload_n rfl (e := 57) rfl rfl ?_
    refine wx_iload rfl (e := 59) rfl rfl ?_
    refine wx_cv1 (mc := 0) (ms := 0) rfl (e := 62) rfl rfl (Nat.le_of_ble_eq_true rfl) ⟨by decide, by decide⟩ ?_
    refine c_X4_take hR (k := kd b n t) (by omega) (by omega) (fun hk1 h41 I1 f1 R1 => ?_) (fun e1 he1 I1 f1 g3 g5 => ?_)
    · refine wn_if_eq rfl (e := 65) rfl (by omega) (fun c_62 => absurd c_62 (by omega)) (fun c_62 => ?_)
      refine wx_aload_n rfl (e := 66) rfl rfl ?_
      refine wx_iload_n rfl (e := 67) rfl rfl ?_
      refine wx_cv1 (mc := 0) (ms := 0) rfl (e := 70) rfl rfl (Nat.le_of_ble_eq_true rfl) ⟨by decide, by decide⟩ ?_
      refine hU e d (t + 1) Lx tt u c I1 G _ he hd (by omega) R1 (hLs.t ho f1) (by omega) ⟨fun z0 I2 f2 R2 L2 => ?_, fun z0 I2 f2 g3 g5 => ?_⟩
      · obtain ⟨a1, a2, a3, a4, a5, a6⟩ := ex_far b n f 0 0 d (t + 1) c R1.2.1 R1.2.2.1 (by omega)
        have a5 := a5 z0
        have a4 := a4 z0 rfl
        rw [if_pos (Or.inl rfl)] at a5
        refine wn_if_ne rfl (e := 73) rfl (by omega) (fun c_70 => ?_) (fun c_70 => absurd c_70 (by omega))
        refine wx_aload_n rfl (e := 76) rfl rfl ?_
        refine wx_getr rfl (e := 79) rfl rfl rfl ?_
        refine wx_iload rfl (e := 81) rfl rfl ?_
        refine wx_iconst (v := (nI 0)) rfl (e := 82) rfl (by decide) ?_
        refine wx_cv2 (mc := 0) (ms := 0) rfl (e := 85) rfl (sh_l ho) (Nat.le_of_ble_eq_true rfl) ⟨by decide, by decide⟩ ?_
        refine c_X2_emit (w := o + 1) (by omega) L2.1 (by omega) ?_
        refine wx_pop rfl (e := 86) rfl rfl ?_
        refine wn_iinc (m := 1) (L2 := [_, _, _, _, _, _]) rfl (e := 89) rfl rfl (by decide) rfl ?_
        refine wx_goto rfl ?_
        rw [if_pos (by omega), if_neg (by omega), bnd_0 z0] at hq
        have FE : fre o a0 I2 (emW o I2 (a0 + (ex b n f 0 0 d (t + 1) c).2.2.length) (nI (kd b n t)) (nI 0)) := emW.f ho (Nat.le_add_right _ _)
        exact hA e d w _ p (q + 1) Lx tt u _ _ G _ _ he hd (by omega) (R2.e ho) (emW.s ho L2 (by rcases (show kd b n t = 42 ∨ kd b n t = 47 by omega) with h | h <;> rw [h] <;> rfl) (fun y => absurd y (opK_ge _).1)) (by rw [List.length_append]; show _ + (_ + 1) + _ ≤ _; omega) (by omega) (by omega) hw ⟨fun y I9 f9 R9 L9 => hq.1 y I9 (((frt.e ho f1).tr (f2.tr FE)).tr f9) R9 L9, fun y I9 f9 h3 h5 => hq.2 y I9 (((frt.e ho f1).tr (f2.tr FE)).tr f9) h3 h5⟩
      · refine wn_if_ne rfl (e := 73) rfl (by omega) (fun c_70 => absurd c_70 (by omega)) (fun c_70 => ?_)
        refine wx_iconst (v := (nI 0)) rfl (e := 74) rfl (by decide) ?_
        refine wx_iret rfl rfl rfl ⟨by decide, by decide⟩ ?_
        rw [if_pos (by omega), if_neg (by omega), bnd_1 z0] at hq
        exact hq.2 z0 I2 ((frt.e ho f1).tr f2) g3 g5
    · refine wn_if_eq rfl (e := 65) rfl (by omega) (fun c_62 => ?_) (fun c_62 => absurd c_62 (by omega))
      refine wx_iconst (v := (nI 0)) rfl (e := 74) rfl (by decide) ?_
      refine wx_iret rfl rfl rfl ⟨by decide, by decide⟩ ?_
      rcases he1 with ⟨_, w2⟩ | ⟨w1, _, w2⟩
      · exact absurd rfl w2
      · subst w1; rw [if_pos (by omega), if_pos w2] at hq; exact hq.no 2 t (by decide) rfl rfl (frt.e ho f1) g3 g5
  · refine wx_aload_n rfl (e := 34) rfl rfl ?_
    refine wx_geti rfl (e := 37) rfl rfl ?_
    rw [r4]
    refine wx_bipush (v := (nI 47)) rfl (e := 39) rfl (by decide) ?_
    refine wn_ic_ne rfl (e := 42) rfl (by omega) (by omega) (fun c_39 => ?_) (fun c_39 => ?_)
    · refine wx_iload_n rfl (e := 93) rfl rfl ?_
      refine wx_iconst (v := (-1)) rfl (e := 94) rfl (by decide) ?_
      refine wx_ic_eq rfl (e := 97) rfl (fun c_94 => ?_) (fun c_94 => ?_)
      · have hw0 : w = 0 := by
          rcases hw with h | h | h
          · exact h
          · subst h; exact absurd c_94 (by decide)
          · subst h; exact absurd c_94 (by decide)
        have hwc : wtC w c = c := if_pos hw0
        have FW : fre o a0 I I := fre.rf
        have RW := hR
        have LW_ : lsK o a0 (wtC w c) I := by rw [hwc]; exact hLs
        refine wx_aload_n rfl (e := 108) rfl rfl ?_
        refine wx_geti rfl (e := 111) rfl rfl ?_
        rw [RW.2.2.2.2.1]
        refine wx_bipush (v := (nI 43)) rfl (e := 113) rfl (by decide) ?_
        refine wn_ic_eq rfl (e := 116) rfl (by omega) (by omega) (fun c_113 => ?_) (fun c_113 => ?_)
        · refine wx_aload_n rfl (e := 128) rfl rfl ?_
          refine wx_geti rfl (e := 131) rfl rfl ?_
          rw [RW.2.2.2.2.1]
          refine wx_istore_n (L2 := [_, _, _, _, _, _]) rfl (e := 132) rfl (by decide) rfl ?_
          refine wx_aload_n rfl (e := 133) rfl rfl ?_
          refine wx_iload_n rfl (e := 134) rfl rfl ?_
          refine wx_cv1 (mc := 0) (ms := 0) rfl (e := 137) rfl rfl (Nat.le_of_ble_eq_true rfl) ⟨by decide, by decide⟩ ?_
          refine c_X4_take RW (k := kd b n t) (by omega) (by omega) (fun hk1 h41 I1 f1 R1 => ?_) (fun e1 he1 I1 f1 g3 g5 => ?_)
          · refine wn_if_ne rfl (e := 140) rfl (by omega) (fun c_137 => ?_) (fun c_137 => absurd c_137 (by omega))
            refine wn_iinc (m := 1) (L2 := [_, _, _, _, _, _]) rfl (e := 145) rfl rfl (by decide) rfl ?_
            refine wx_goto rfl ?_
            refine wx_iload_n rfl (e := 5) rfl rfl ?_
            refine wx_sipush (v := (nI 400)) rfl (e := 8) rfl (by decide) ?_
            refine wn_ic_gt rfl (e := 11) rfl (by omega) (by omega) (fun c_8 => absurd c_8 (by omega)) (fun c_8 => ?_)
            refine wx_aload_n rfl (e := 12) rfl rfl ?_
            refine wx_iload_n rfl (e := 13) rfl rfl ?_
            refine wx_cv1 (mc := 0) (ms := 0) rfl (e := 16) rfl rfl (Nat.le_of_ble_eq_true rfl) ⟨by decide, by decide⟩ ?_
            have hwl : (wtC w c).length ≤ c.length + (if w = 0 then 0 else 1) := wtC_len w c
            refine hU e d (t + 1) Lx tt u (wtC w c) I1 G _ he hd (by omega) R1 (LW_.t ho f1) (by omega) ⟨fun z0 I2 f2 R2 L2 => ?_, fun z0 I2 f2 g3 g5 => ?_⟩
            · obtain ⟨a1, a2, a3, a4, a5, a6⟩ := ex_far b n f 0 0 d (t + 1) (wtC w c) R1.2.1 R1.2.2.1 (by omega)
              have a5 := a5 z0
              have a4 := a4 z0 rfl
              rw [if_pos (Or.inl rfl)] at a5
              refine wn_if_ne rfl (e := 19) rfl (by omega) (fun c_16 => ?_) (fun c_16 => absurd c_16 (by omega))
              refine wx_iconst (v := (nI 0)) rfl (e := 22) rfl (by decide) ?_
              refine wx_istore (L2 := [_, _, _, _, _, _]) rfl (e := 24) rfl (by decide) rfl ?_
              rw [if_neg (by omega), if_pos (by omega), if_neg (by omega), bnd_0 z0] at hq
              have hh := hA e d (kd b n t) _ (p + 1) 0 Lx tt u _ _ G _ x5 he hd (by omega) R2 L2 (by rw [if_neg (by omega)]; omega) (by omega) (by omega) (by omega) ⟨fun y I9 f9 R9 L9 => hq.1 y I9 ((FW.tr ((frt.e ho f1).tr f2)).tr f9) R9 L9, fun y I9 f9 h3 h5 => hq.2 y I9 ((FW.tr ((frt.e ho f1).tr f2)).tr f9) h3 h5⟩
              rw [show wv (kd b n t) = nI (kd b n t) from if_neg (by omega)] at hh
              exact hh
            · refine wn_if_ne rfl (e := 19) rfl (by omega) (fun c_16 => absurd c_16 (by omega)) (fun c_16 => ?_)
              refine wx_iconst (v := (nI 0)) rfl (e := 20) rfl (by decide) ?_
              refine wx_iret rfl rfl rfl ⟨by decide, by decide⟩ ?_
              rw [if_neg (by omega), if_pos (by omega), if_neg (by omega), bnd_1 z0] at hq
              exact hq.2 z0 I2 (FW.tr ((frt.e ho f1).tr f2)) g3 g5
          · refine wn_if_ne rfl (e := 140) rfl (by omega) (fun c_137 => absurd c_137 (by omega)) (fun c_137 => ?_)
            refine wx_iconst (v := (nI 0)) rfl (e := 141) rfl (by decide) ?_
            refine wx_iret rfl rfl rfl ⟨by decide, by decide⟩ ?_
            rcases he1 with ⟨_, w2⟩ | ⟨w1, _, w2⟩
            · exact absurd rfl w2
            · subst w1; rw [if_neg (by omega), if_pos (by omega), if_pos w2] at hq; exact hq.no 2 t (by decide) rfl rfl (FW.tr (frt.e ho f1)) g3 g5
        · refine wx_aload_n rfl (e := 117) rfl rfl ?_
          refine wx_geti rfl (e := 120) rfl rfl ?_
          rw [RW.2.2.2.2.1]
          refine wx_bipush (v := (nI 45)) rfl (e := 122) rfl (by decide) ?_
          refine wn_ic_eq rfl (e := 125) rfl (by omega) (by omega) (fun c_122 => ?_) (fun c_122 => ?_)
          · refine wx_aload_n rfl (e := 128) rfl rfl ?_
            refine wx_geti rfl (e := 131) rfl rfl ?_
            rw [RW.2.2.2.2.1]
            refine wx_istore_n (L2 := [_, _, _, _, _, _]) rfl (e := 132) rfl (by decide) rfl ?_
            refine wx_aload_n rfl (e := 133) rfl rfl ?_
            refine wx_iload_n rfl (e := 134) rfl rfl ?_
            refine wx_cv1 (mc := 0) (ms := 0) rfl (e := 137) rfl rfl (Nat.le_of_ble_eq_true rfl) ⟨by decide, by decide⟩ ?_
            refine c_X4_take RW (k := kd b n t) (by omega) (by omega) (fun hk1 h41 I1 f1 R1 => ?_) (fun e1 he1 I1 f1 g3 g5 => ?_)
            · refine wn_if_ne rfl (e := 140) rfl (by omega) (fun c_137 => ?_) (fun c_137 => absurd c_137 (by omega))
              refine wn_iinc (m := 1) (L2 := [_, _, _, _, _, _]) rfl (e := 145) rfl rfl (by decide) rfl ?_
              refine wx_goto rfl ?_
              refine wx_iload_n rfl (e := 5) rfl rfl ?_
              refine wx_sipush (v := (nI 400)) rfl (e := 8) rfl (by decide) ?_
              refine wn_ic_gt rfl (e := 11) rfl (by omega) (by omega) (fun c_8 => absurd c_8 (by omega)) (fun c_8 => ?_)
              refine wx_aload_n rfl (e := 12) rfl rfl ?_
              refine wx_iload_n rfl (e := 13) rfl rfl ?_
              refine wx_cv1 (mc := 0) (ms := 0) rfl (e := 16) rfl rfl (Nat.le_of_ble_eq_true rfl) ⟨by decide, by decide⟩ ?_
              have hwl : (wtC w c).length ≤ c.length + (if w = 0 then 0 else 1) := wtC_len w c
              refine hU e d (t + 1) Lx tt u (wtC w c) I1 G _ he hd (by omega) R1 (LW_.t ho f1) (by omega) ⟨fun z0 I2 f2 R2 L2 => ?_, fun z0 I2 f2 g3 g5 => ?_⟩
              · obtain ⟨a1, a2, a3, a4, a5, a6⟩ := ex_far b n f 0 0 d (t + 1) (wtC w c) R1.2.1 R1.2.2.1 (by omega)
                have a5 := a5 z0
                have a4 := a4 z0 rfl
                rw [if_pos (Or.inl rfl)] at a5
                refine wn_if_ne rfl (e := 19) rfl (by omega) (fun c_16 => ?_) (fun c_16 => absurd c_16 (by omega))
                refine wx_iconst (v := (nI 0)) rfl (e := 22) rfl (by decide) ?_
                refine wx_istore (L2 := [_, _, _, _, _, _]) rfl (e := 24) rfl (by decide) rfl ?_
                rw [if_neg (by omega), if_pos (by omega), if_neg (by omega), bnd_0 z0] at hq
                have hh := hA e d (kd b n t) _ (p + 1) 0 Lx tt u _ _ G _ x5 he hd (by omega) R2 L2 (by rw [if_neg (by omega)]; omega) (by omega) (by omega) (by omega) ⟨fun y I9 f9 R9 L9 => hq.1 y I9 ((FW.tr ((frt.e ho f1).tr f2)).tr f9) R9 L9, fun y I9 f9 h3 h5 => hq.2 y I9 ((FW.tr ((frt.e ho f1).tr f2)).tr f9) h3 h5⟩
                rw [show wv (kd b n t) = nI (kd b n t) from if_neg (by omega)] at hh
                exact hh
              · refine wn_if_ne rfl (e := 19) rfl (by omega) (fun c_16 => absurd c_16 (by omega)) (fun c_16 => ?_)
                refine wx_iconst (v := (nI 0)) rfl (e := 20) rfl (by decide) ?_
                refine wx_iret rfl rfl rfl ⟨by decide, by decide⟩ ?_
                rw [if_neg (by omega), if_pos (by omega), if_neg (by omega), bnd_1 z0] at hq
                exact hq.2 z0 I2 (FW.tr ((frt.e ho f1).tr f2)) g3 g5
            · refine wn_if_ne rfl (e := 140) rfl (by omega) (fun c_137 => absurd c_137 (by omega)) (fun c_137 => ?_)
              refine wx_iconst (v := (nI 0)) rfl (e := 141) rfl (by decide) ?_
              refine wx_iret rfl rfl rfl ⟨by decide, by decide⟩ ?_
              rcases he1 with ⟨_, w2⟩ | ⟨w1, _, w2⟩
              · exact absurd rfl w2
              · subst w1; rw [if_neg (by omega), if_pos (by omega), if_pos w2] at hq; exact hq.no 2 t (by decide) rfl rfl (FW.tr (frt.e ho f1)) g3 g5
          · refine wx_iconst (v := (nI 1)) rfl (e := 126) rfl (by decide) ?_
            refine wx_iret rfl rfl rfl ⟨by decide, by decide⟩ ?_
            rw [if_neg (by omega), if_neg (by omega)] at hq
            exact hq.ok rfl FW RW LW_
      · have hw0 : ¬ w = 0 := fun h => c_94 (by rw [h]; rfl)
        have hwc : wtC w c = c ++ [(opK w, nI 0)] := if_neg hw0
        have hx1 : a0 + c.length + 1 ≤ 16 + t := by rw [if_neg hw0] at hx; exact hx
        refine wx_aload_n rfl (e := 98) rfl rfl ?_
        refine wx_getr rfl (e := 101) rfl rfl rfl ?_
        refine wx_iload_n rfl (e := 102) rfl rfl ?_
        refine wx_iconst (v := (nI 0)) rfl (e := 103) rfl (by decide) ?_
        refine wx_cv2 (mc := 0) (ms := 0) rfl (e := 106) rfl (sh_l ho) (Nat.le_of_ble_eq_true rfl) ⟨by decide, by decide⟩ ?_
        rw [show wv w = nI w from if_neg hw0]
        refine c_X2_emit (w := o + 1) (by omega) hLs.1 (by omega) ?_
        show WP _ _ _ _ _ _ (hp Lx tt o u (emW o I (a0 + c.length) (nI w) (nI 0)) G) _ _
        have FW : fre o a0 I (emW o I (a0 + c.length) (nI w) (nI 0)) := emW.f ho (by omega)
        have RW : RS b n t (emW o I (a0 + c.length) (nI w) (nI 0)) G := hR.e ho
        have LW_ : lsK o a0 (wtC w c) (emW o I (a0 + c.length) (nI w) (nI 0)) := by rw [hwc]; exact emW.s ho hLs (by rcases hw with h | h | h; exact absurd h hw0; rw [h]; rfl; rw [h]; rfl) (fun y => absurd y (opK_ge w).1)
        refine wx_pop rfl (e := 107) rfl rfl ?_
        refine wx_aload_n rfl (e := 108) rfl rfl ?_
        refine wx_geti rfl (e := 111) rfl rfl ?_
        rw [RW.2.2.2.2.1]
        refine wx_bipush (v := (nI 43)) rfl (e := 113) rfl (by decide) ?_
        refine wn_ic_eq rfl (e := 116) rfl (by omega) (by omega) (fun c_113 => ?_) (fun c_113 => ?_)
        · refine wx_aload_n rfl (e := 128) rfl rfl ?_
          refine wx_geti rfl (e := 131) rfl rfl ?_
          rw [RW.2.2.2.2.1]
          refine wx_istore_n (L2 := [_, _, _, _, _, _]) rfl (e := 132) rfl (by decide) rfl ?_
          refine wx_aload_n rfl (e := 133) rfl rfl ?_
          refine wx_iload_n rfl (e := 134) rfl rfl ?_
          refine wx_cv1 (mc := 0) (ms := 0) rfl (e := 137) rfl rfl (Nat.le_of_ble_eq_true rfl) ⟨by decide, by decide⟩ ?_
          refine c_X4_take RW (k := kd b n t) (by omega) (by omega) (fun hk1 h41 I1 f1 R1 => ?_) (fun e1 he1 I1 f1 g3 g5 => ?_)
          · refine wn_if_ne rfl (e := 140) rfl (by omega) (fun c_137 => ?_) (fun c_137 => absurd c_137 (by omega))
            refine wn_iinc (m := 1) (L2 := [_, _, _, _, _, _]) rfl (e := 145) rfl rfl (by decide) rfl ?_
            refine wx_goto rfl ?_
            refine wx_iload_n rfl (e := 5) rfl rfl ?_
            refine wx_sipush (v := (nI 400)) rfl (e := 8) rfl (by decide) ?_
            refine wn_ic_gt rfl (e := 11) rfl (by omega) (by omega) (fun c_8 => absurd c_8 (by omega)) (fun c_8 => ?_)
            refine wx_aload_n rfl (e := 12) rfl rfl ?_
            refine wx_iload_n rfl (e := 13) rfl rfl ?_
            refine wx_cv1 (mc := 0) (ms := 0) rfl (e := 16) rfl rfl (Nat.le_of_ble_eq_true rfl) ⟨by decide, by decide⟩ ?_
            have hwl : (wtC w c).length ≤ c.length + (if w = 0 then 0 else 1) := wtC_len w c
            refine hU e d (t + 1) Lx tt u (wtC w c) I1 G _ he hd (by omega) R1 (LW_.t ho f1) (by omega) ⟨fun z0 I2 f2 R2 L2 => ?_, fun z0 I2 f2 g3 g5 => ?_⟩
            · obtain ⟨a1, a2, a3, a4, a5, a6⟩ := ex_far b n f 0 0 d (t + 1) (wtC w c) R1.2.1 R1.2.2.1 (by omega)
              have a5 := a5 z0
              have a4 := a4 z0 rfl
              rw [if_pos (Or.inl rfl)] at a5
              refine wn_if_ne rfl (e := 19) rfl (by omega) (fun c_16 => ?_) (fun c_16 => absurd c_16 (by omega))
              refine wx_iconst (v := (nI 0)) rfl (e := 22) rfl (by decide) ?_
              refine wx_istore (L2 := [_, _, _, _, _, _]) rfl (e := 24) rfl (by decide) rfl ?_
              rw [if_neg (by omega), if_pos (by omega), if_neg (by omega), bnd_0 z0] at hq
              have hh := hA e d (kd b n t) _ (p + 1) 0 Lx tt u _ _ G _ x5 he hd (by omega) R2 L2 (by rw [if_neg (by omega)]; omega) (by omega) (by omega) (by omega) ⟨fun y I9 f9 R9 L9 => hq.1 y I9 ((FW.tr ((frt.e ho f1).tr f2)).tr f9) R9 L9, fun y I9 f9 h3 h5 => hq.2 y I9 ((FW.tr ((frt.e ho f1).tr f2)).tr f9) h3 h5⟩
              rw [show wv (kd b n t) = nI (kd b n t) from if_neg (by omega)] at hh
              exact hh
            · refine wn_if_ne rfl (e := 19) rfl (by omega) (fun c_16 => absurd c_16 (by omega)) (fun c_16 => ?_)
              refine wx_iconst (v := (nI 0)) rfl (e := 20) rfl (by decide) ?_
              refine wx_iret rfl rfl rfl ⟨by decide, by decide⟩ ?_
              rw [if_neg (by omega), if_pos (by omega), if_neg (by omega), bnd_1 z0] at hq
              exact hq.2 z0 I2 (FW.tr ((frt.e ho f1).tr f2)) g3 g5
          · refine wn_if_ne rfl (e := 140) rfl (by omega) (fun c_137 => absurd c_137 (by omega)) (fun c_137 => ?_)
            refine wx_iconst (v := (nI 0)) rfl (e := 141) rfl (by decide) ?_
            refine wx_iret rfl rfl rfl ⟨by decide, by decide⟩ ?_
            rcases he1 with ⟨_, w2⟩ | ⟨w1, _, w2⟩
            · exact absurd rfl w2
            · subst w1; rw [if_neg (by omega), if_pos (by omega), if_pos w2] at hq; exact hq.no 2 t (by decide) rfl rfl (FW.tr (frt.e ho f1)) g3 g5
        · refine wx_aload_n rfl (e := 117) rfl rfl ?_
          refine wx_geti rfl (e := 120) rfl rfl ?_
          rw [RW.2.2.2.2.1]
          refine wx_bipush (v := (nI 45)) rfl (e := 122) rfl (by decide) ?_
          refine wn_ic_eq rfl (e := 125) rfl (by omega) (by omega) (fun c_122 => ?_) (fun c_122 => ?_)
          · refine wx_aload_n rfl (e := 128) rfl rfl ?_
            refine wx_geti rfl (e := 131) rfl rfl ?_
            rw [RW.2.2.2.2.1]
            refine wx_istore_n (L2 := [_, _, _, _, _, _]) rfl (e := 132) rfl (by decide) rfl ?_
            refine wx_aload_n rfl (e := 133) rfl rfl ?_
            refine wx_iload_n rfl (e := 134) rfl rfl ?_
            refine wx_cv1 (mc := 0) (ms := 0) rfl (e := 137) rfl rfl (Nat.le_of_ble_eq_true rfl) ⟨by decide, by decide⟩ ?_
            refine c_X4_take RW (k := kd b n t) (by omega) (by omega) (fun hk1 h41 I1 f1 R1 => ?_) (fun e1 he1 I1 f1 g3 g5 => ?_)
            · refine wn_if_ne rfl (e := 140) rfl (by omega) (fun c_137 => ?_) (fun c_137 => absurd c_137 (by omega))
              refine wn_iinc (m := 1) (L2 := [_, _, _, _, _, _]) rfl (e := 145) rfl rfl (by decide) rfl ?_
              refine wx_goto rfl ?_
              refine wx_iload_n rfl (e := 5) rfl rfl ?_
              refine wx_sipush (v := (nI 400)) rfl (e := 8) rfl (by decide) ?_
              refine wn_ic_gt rfl (e := 11) rfl (by omega) (by omega) (fun c_8 => absurd c_8 (by omega)) (fun c_8 => ?_)
              refine wx_aload_n rfl (e := 12) rfl rfl ?_
              refine wx_iload_n rfl (e := 13) rfl rfl ?_
              refine wx_cv1 (mc := 0) (ms := 0) rfl (e := 16) rfl rfl (Nat.le_of_ble_eq_true rfl) ⟨by decide, by decide⟩ ?_
              have hwl : (wtC w c).length ≤ c.length + (if w = 0 then 0 else 1) := wtC_len w c
              refine hU e d (t + 1) Lx tt u (wtC w c) I1 G _ he hd (by omega) R1 (LW_.t ho f1) (by omega) ⟨fun z0 I2 f2 R2 L2 => ?_, fun z0 I2 f2 g3 g5 => ?_⟩
              · obtain ⟨a1, a2, a3, a4, a5, a6⟩ := ex_far b n f 0 0 d (t + 1) (wtC w c) R1.2.1 R1.2.2.1 (by omega)
                have a5 := a5 z0
                have a4 := a4 z0 rfl
                rw [if_pos (Or.inl rfl)] at a5
                refine wn_if_ne rfl (e := 19) rfl (by omega) (fun c_16 => ?_) (fun c_16 => absurd c_16 (by omega))
                refine wx_iconst (v := (nI 0)) rfl (e := 22) rfl (by decide) ?_
                refine wx_istore (L2 := [_, _, _, _, _, _]) rfl (e := 24) rfl (by decide) rfl ?_
                rw [if_neg (by omega), if_pos (by omega), if_neg (by omega), bnd_0 z0] at hq
                have hh := hA e d (kd b n t) _ (p + 1) 0 Lx tt u _ _ G _ x5 he hd (by omega) R2 L2 (by rw [if_neg (by omega)]; omega) (by omega) (by omega) (by omega) ⟨fun y I9 f9 R9 L9 => hq.1 y I9 ((FW.tr ((frt.e ho f1).tr f2)).tr f9) R9 L9, fun y I9 f9 h3 h5 => hq.2 y I9 ((FW.tr ((frt.e ho f1).tr f2)).tr f9) h3 h5⟩
                rw [show wv (kd b n t) = nI (kd b n t) from if_neg (by omega)] at hh
                exact hh
              · refine wn_if_ne rfl (e := 19) rfl (by omega) (fun c_16 => absurd c_16 (by omega)) (fun c_16 => ?_)
                refine wx_iconst (v := (nI 0)) rfl (e := 20) rfl (by decide) ?_
                refine wx_iret rfl rfl rfl ⟨by decide, by decide⟩ ?_
                rw [if_neg (by omega), if_pos (by omega), if_neg (by omega), bnd_1 z0] at hq
                exact hq.2 z0 I2 (FW.tr ((frt.e ho f1).tr f2)) g3 g5
            · refine wn_if_ne rfl (e := 140) rfl (by omega) (fun c_137 => absurd c_137 (by omega)) (fun c_137 => ?_)
              refine wx_iconst (v := (nI 0)) rfl (e := 141) rfl (by decide) ?_
              refine wx_iret rfl rfl rfl ⟨by decide, by decide⟩ ?_
              rcases he1 with ⟨_, w2⟩ | ⟨w1, _, w2⟩
              · exact absurd rfl w2
              · subst w1; rw [if_neg (by omega), if_pos (by omega), if_pos w2] at hq; exact hq.no 2 t (by decide) rfl rfl (FW.tr (frt.e ho f1)) g3 g5
          · refine wx_iconst (v := (nI 1)) rfl (e := 126) rfl (by decide) ?_
            refine wx_iret rfl rfl rfl ⟨by decide, by decide⟩ ?_
            rw [if_neg (by omega), if_neg (by omega)] at hq
            exact hq.ok rfl FW RW LW_
    · refine wx_iload rfl (e := 44) rfl rfl ?_
      refine wx_sipush (v := (nI 400)) rfl (e := 47) rfl (by decide) ?_
      refine wn_ic_gt rfl (e := 50) rfl (by omega) (by omega) (fun c_47 => absurd c_47 (by omega)) (fun c_47 => ?_)
      refine wx_aload_n rfl (e := 51) rfl rfl ?_
      refine wx_geti rfl (e := 54) rfl rfl ?_
      rw [r4]
      refine wx_istore (L2 := [_, _, _, _, _, _]) rfl (e := 56) rfl (by decide) rfl ?_
      refine wx_aload_n rfl (e := 57) rfl rfl ?_
      refine wx_iload rfl (e := 59) rfl rfl ?_
      refine wx_cv1 (mc := 0) (ms := 0) rfl (e := 62) rfl rfl (Nat.le_of_ble_eq_true rfl) ⟨by decide, by decide⟩ ?_
      refine c_X4_take hR (k := kd b n t) (by omega) (by omega) (fun hk1 h41 I1 f1 R1 => ?_) (fun e1 he1 I1 f1 g3 g5 => ?_)
      · refine wn_if_eq rfl (e := 65) rfl (by omega) (fun c_62 => absurd c_62 (by omega)) (fun c_62 => ?_)
        refine wx_aload_n rfl (e := 66) rfl rfl ?_
        refine wx_iload_n rfl (e := 67) rfl rfl ?_
        refine wx_cv1 (mc := 0) (ms := 0) rfl (e := 70) rfl rfl (Nat.le_of_ble_eq_true rfl) ⟨by decide, by decide⟩ ?_
        refine hU e d (t + 1) Lx tt u c I1 G _ he hd (by omega) R1 (hLs.t ho f1) (by omega) ⟨fun z0 I2 f2 R2 L2 => ?_, fun z0 I2 f2 g3 g5 => ?_⟩
        · obtain ⟨a1, a2, a3, a4, a5, a6⟩ := ex_far b n f 0 0 d (t + 1) c R1.2.1 R1.2.2.1 (by omega)
          have a5 := a5 z0
          have a4 := a4 z0 rfl
          rw [if_pos (Or.inl rfl)] at a5
          refine wn_if_ne rfl (e := 73) rfl (by omega) (fun c_70 => ?_) (fun c_70 => absurd c_70 (by omega))
          refine wx_aload_n rfl (e := 76) rfl rfl ?_
          refine wx_getr rfl (e := 79) rfl rfl rfl ?_
          refine wx_iload rfl (e := 81) rfl rfl ?_
          refine wx_iconst (v := (nI 0)) rfl (e := 82) rfl (by decide) ?_
          refine wx_cv2 (mc := 0) (ms := 0) rfl (e := 85) rfl (sh_l ho) (Nat.le_of_ble_eq_true rfl) ⟨by decide, by decide⟩ ?_
          refine c_X2_emit (w := o + 1) (by omega) L2.1 (by omega) ?_
          refine wx_pop rfl (e := 86) rfl rfl ?_
          refine wn_iinc (m := 1) (L2 := [_, _, _, _, _, _]) rfl (e := 89) rfl rfl (by decide) rfl ?_
          refine wx_goto rfl ?_
          rw [if_pos (by omega), if_neg (by omega), bnd_0 z0] at hq
          have FE : fre o a0 I2 (emW o I2 (a0 + (ex b n f 0 0 d (t + 1) c).2.2.length) (nI (kd b n t)) (nI 0)) := emW.f ho (Nat.le_add_right _ _)
          exact hA e d w _ p (q + 1) Lx tt u _ _ G _ _ he hd (by omega) (R2.e ho) (emW.s ho L2 (by rcases (show kd b n t = 42 ∨ kd b n t = 47 by omega) with h | h <;> rw [h] <;> rfl) (fun y => absurd y (opK_ge _).1)) (by rw [List.length_append]; show _ + (_ + 1) + _ ≤ _; omega) (by omega) (by omega) hw ⟨fun y I9 f9 R9 L9 => hq.1 y I9 (((frt.e ho f1).tr (f2.tr FE)).tr f9) R9 L9, fun y I9 f9 h3 h5 => hq.2 y I9 (((frt.e ho f1).tr (f2.tr FE)).tr f9) h3 h5⟩
        · refine wn_if_ne rfl (e := 73) rfl (by omega) (fun c_70 => absurd c_70 (by omega)) (fun c_70 => ?_)
          refine wx_iconst (v := (nI 0)) rfl (e := 74) rfl (by decide) ?_
          refine wx_iret rfl rfl rfl ⟨by decide, by decide⟩ ?_
          rw [if_pos (by omega), if_neg (by omega), bnd_1 z0] at hq
          exact hq.2 z0 I2 ((frt.e ho f1).tr f2) g3 g5
      · refine wn_if_eq rfl (e := 65) rfl (by omega) (fun c_62 => ?_) (fun c_62 => absurd c_62 (by omega))
        refine wx_iconst (v := (nI 0)) rfl (e := 74) rfl (by decide) ?_
        refine wx_iret rfl rfl rfl ⟨by decide, by decide⟩ ?_
        rcases he1 with ⟨_, w2⟩ | ⟨w1, _, w2⟩
        · exact absurd rfl w2
        · subst w1; rw [if_pos (by omega), if_pos w2] at hq; exact hq.no 2 t (by decide) rfl rfl (frt.e ho f1) g3 g5
theorem rq_all {b : Nat → Nat} {n o a0 : Nat} (ho : o = 1 ∨ o = 16) : ∀ f, rqU b n o a0 f ∧ rqA b n o a0 f
  | 0 => ⟨fun e d t Lx tt u c I G Q _ _ h hR => absurd hR.2.1 (by omega), fun e d w t p q Lx tt u c I G Q x5 _ _ h hR => absurd hR.2.1 (by omega)⟩
  | f + 1 => ⟨rqU_s ho (rqS_of ho (rq_all ho f).1 (rq_all ho f).2), rqA_s ho (rq_all ho f).1 (rq_all ho f).2⟩
theorem c_X4_readSum {e t Lx tt u : Nat} {I : Nat → Nat → Int32} {G : Nat → Nat → Int64} {Q : ab_Q} {b : Nat → Nat} {n o a0 : Nat} (ho : o = 1 ∨ o = 16) (hR : RS b n t I G) (hL : lsK o a0 [] I) (hx : a0 ≤ 16 + t) (hq : rqY b n o a0 (sumS b n t) I G (fun I2 v => Q (some (.int (nI v))) (hp Lx tt o u I2 G))) : ab_call ab_MT (e + 17) 71 [.ref 33, .int (nI 0)] (hp Lx tt o u I G) 0 0 Q :=
  rqS_of ho (rq_all ho 402).1 (rq_all ho 402).2 (e + 12) 0 t Lx tt u [] I G Q (by omega) (by omega) (by omega) hR hL hx hq

/-! while the two constructors work: part of the cells -/
def PU : List (Nat × Nat × Nat) → Nat → Nat → Option Nat
  | [], c, k => ab_spP c k
  | e :: l, c, k => match Nat.beq c e.1 && Nat.beq k e.2.1 with
    | true => some e.2.2
    | false => PU l c k
theorem PU_at (e : Nat × Nat × Nat) (l : List (Nat × Nat × Nat)) (c k : Nat) : PU (e :: l) c k = if c = e.1 ∧ k = e.2.1 then some e.2.2 else PU l c k := by
  have h : (Nat.beq c e.1 && Nat.beq k e.2.1) = decide (c = e.1 ∧ k = e.2.1) := by
    rw [Bool.eq_iff_iff]
    simp only [Bool.and_eq_true, Nat.beq_eq, decide_eq_true_eq]
  rw [PU, h]
  by_cases w : c = e.1 ∧ k = e.2.1
  · rw [if_pos w, decide_eq_true w]
  · rw [if_neg w, decide_eq_false w]
theorem wq_PU {l : List (Nat × Nat × Nat)} {c k v : Nat} : wq (PU l) c k (some v) = PU ((c, k, v) :: l) := by
  funext c2 k2
  rw [PU_at]
  unfold wq va_up
  by_cases h : c2 = c
  · subst h
    by_cases h2 : k2 = k
    · subst h2; simp
    · simp [h2]
  · simp [h]
theorem va_id {α : Type} {f : Nat → α} {k : Nat} {x : α} (h : f k = x) : va_up f k x = f := by
  funext a
  unfold va_up
  by_cases e : a = k
  · subst e; simp [h]
  · simp [e]
def SK (Lx k a : Nat) : ab_Sh := match Nat.blt a k with
  | true => SHl.getD a (.inl 999)
  | false => if a < 1000000 then .inl 999 else ab_spS Lx a
theorem SK_y {Lx k a : Nat} (h : a < k) : SK Lx k a = SHl.getD a (.inl 999) := by
  unfold SK; rw [show Nat.blt a k = true from Nat.ble_eq_true_of_le h]
theorem SK_n {Lx k a : Nat} (h : ¬ a < k) : SK Lx k a = if a < 1000000 then .inl 999 else ab_spS Lx a := by
  unfold SK
  cases hb : Nat.blt a k with
  | true => exact absurd (Nat.le_of_ble_eq_true hb) h
  | false => rfl
abbrev hcc (Lx k : Nat) (l : List (Nat × Nat × Nat)) (I : Nat → Nat → Int32) (G : Nat → Nat → Int64) : ab_H := (k, SK Lx k, I, G, PU l)
def EM (k : Nat) (l : List (Nat × Nat × Nat)) (I : Nat → Nat → Int32) (G : Nat → Nat → Int64) : Prop := (∀ q, k ≤ q → q < 1000000 → I q = fun _ => 0) ∧ (∀ q, k ≤ q → G q = fun _ => 0) ∧ (∀ q, k ≤ q → q < 1000000 → PU l q = fun _ => none) ∧ ∀ q, 1000000 ≤ q → PU l q = ab_spP q
theorem EM.s {k k2 : Nat} {l : List (Nat × Nat × Nat)} {I : Nat → Nat → Int32} {G : Nat → Nat → Int64} (h : EM k l I G) (hk : k + 1 = k2) : EM k2 l I G := ⟨fun q y => h.1 q (by omega), fun q y => h.2.1 q (by omega), fun q y => h.2.2.1 q (by omega), h.2.2.2⟩
theorem EM.p {k c y v : Nat} {l : List (Nat × Nat × Nat)} {I : Nat → Nat → Int32} {G : Nat → Nat → Int64} (h : EM k l I G) (hc : c < k) (hk : k ≤ 1000000) : EM k ((c, y, v) :: l) I G := by
  have key : ∀ q, k ≤ q → PU ((c, y, v) :: l) q = PU l q := fun q hq => by
    funext j
    rw [PU_at]
    exact if_neg (fun w => by have w1 : q = c := w.1; omega)
  exact ⟨h.1, h.2.1, fun q y1 y2 => (key q y1).trans (h.2.2.1 q y1 y2), fun q y1 => (key q (by omega)).trans (h.2.2.2 q y1)⟩
theorem EM.i {k : Nat} {l : List (Nat × Nat × Nat)} {I I2 : Nat → Nat → Int32} {G : Nat → Nat → Int64} (h : EM k l I G) (f : ∀ q, k ≤ q → q < 1000000 → I2 q = I q) : EM k l I2 G := ⟨fun q y1 y2 => (f q y1 y2).trans (h.1 q y1 y2), h.2⟩
theorem EM.g {k : Nat} {l : List (Nat × Nat × Nat)} {I : Nat → Nat → Int32} {G G2 : Nat → Nat → Int64} (h : EM k l I G) (f : ∀ q, k ≤ q → G2 q = G q) : EM k l I G2 := ⟨h.1, fun q y1 => (f q y1).trans (h.2.1 q y1), h.2.2⟩
theorem hc_nw {Lx k : Nat} {l : List (Nat × Nat × Nat)} {I : Nat → Nat → Int32} {G : Nat → Nat → Int64} {q : ab_Sh} (h : EM k l I G) (hs : SHl[k]? = some q) (hk : k < 1000000) : ab_nw (k, SK Lx k, I, G, PU l) q = (k + 1, SK Lx (k + 1), I, G, PU l) := by
  have e1 : va_up (SK Lx k) k q = SK Lx (k + 1) := by
    funext a
    unfold va_up
    by_cases e : a = k
    · subst e
      rw [if_pos rfl, SK_y (by omega)]
      rw [List.getD_eq_getElem?_getD, hs]; rfl
    · rw [if_neg e]
      by_cases e2 : a < k
      · rw [SK_y e2, SK_y (by omega)]
      · rw [SK_n e2, SK_n (by omega)]
  show (k + 1, va_up (SK Lx k) k q, va_up I k (fun _ => 0), va_up G k (fun _ => 0), va_up (PU l) k (fun _ => none)) = _
  rw [e1, va_id (h.1 k (Nat.le_refl _) hk), va_id (h.2.1 k (Nat.le_refl _)), va_id (h.2.2.1 k (Nat.le_refl _) hk)]
theorem wk_new {d Lx k k2 pc e x y m z cs sl : Nat} {M : ab_M} {Q : ab_Q} {L : ab_Lo} {st : List Value} {l : List (Nat × Nat × Nat)} {I : Nat → Nat → Int32} {G : Nat → Nat → Int64} (hf : ab_find pc (ab_mo M) = some (.new m, 3, x, y, [z])) (he : pc + 3 = e) (E : EM k l I G) (hs : SHl[k]? = some (.inl x)) (hk : k + 1 = k2) (hg : k < 600000 ∧ cs + 1 ≤ ab_mc M ∧ sl + y ≤ ab_ms M) (K : EM k2 l I G → WP d M Q e L (.ref k :: st) (hcc Lx k2 l I G) (cs + 1) (sl + y)) : WP d M Q pc L st (hcc Lx k l I G) cs sl := wx_new hf he hg (by
  rw [hc_nw E hs (by have := hg.1; omega), hk]; exact K (E.s hk))
theorem wk_newa {d Lx k k2 pc e x y v cs sl : Nat} {a : ArrayType} {ts : List Nat} {M : ab_M} {Q : ab_Q} {L : ab_Lo} {r : List Value} {l : List (Nat × Nat × Nat)} {I : Nat → Nat → Int32} {G : Nat → Nat → Int64} (hf : ab_find pc (ab_mo M) = some (.newarray a, 2, x, y, ts)) (he : pc + 2 = e) (E : EM k l I G) (hs : SHl[k]? = some (.inr (ab_aty a, v))) (hk : k + 1 = k2) (hg : k < 600000 ∧ v ≤ 100000 ∧ cs + 1 ≤ ab_mc M ∧ sl + v ≤ ab_ms M) (K : EM k2 l I G → WP d M Q e L (.ref k :: r) (hcc Lx k2 l I G) (cs + 1) (sl + v)) : WP d M Q pc L (.int (nI v) :: r) (hcc Lx k l I G) cs sl := by
  have hvv : (nI v).toNatClampNeg = v := nI_clamp (by have := hg.2.1; omega)
  refine wx_newa hf he ⟨hg.1, nI_pos (by have := hg.2.1; omega), by rw [hvv]; exact hg.2.1, hg.2.2.1, by rw [hvv]; exact hg.2.2.2⟩ ?_
  rw [hvv, hc_nw E hs (by have := hg.1; omega), hk]; exact K (E.s hk)
theorem wk_putr {d Lx k pc e x y m z z2 z3 c v cs sl : Nat} {M : ab_M} {Q : ab_Q} {L : ab_Lo} {r : List Value} {l : List (Nat × Nat × Nat)} {I : Nat → Nat → Int32} {G : Nat → Nat → Int64} (hf : ab_find pc (ab_mo M) = some (.putfield m, 3, x, y, [z, z2, z3])) (he : pc + 3 = e) (hS : SK Lx k c = .inl x) (E : EM k l I G) (hc : c < k ∧ k ≤ 1000000 ∧ v < 1000000) (K : EM k ((c, y, v) :: l) I G → WP d M Q e L r (hcc Lx k ((c, y, v) :: l) I G) cs sl) : WP d M Q pc L (.ref v :: .ref c :: r) (hcc Lx k l I G) cs sl := wx_putr hf he hS (by omega) hc.2.2 (by
  rw [wq_PU]; exact K (E.p hc.1 hc.2.1))
theorem wk_puti {d Lx k pc e x y m z c cs sl : Nat} {v : Int32} {M : ab_M} {Q : ab_Q} {L : ab_Lo} {r : List Value} {l : List (Nat × Nat × Nat)} {I : Nat → Nat → Int32} {G : Nat → Nat → Int64} (hf : ab_find pc (ab_mo M) = some (.putfield m, 3, x, y, [z])) (he : pc + 3 = e) (hS : SK Lx k c = .inl x) (E : EM k l I G) (hc : c < k ∧ k ≤ 1000000) (K : EM k l (wr I c y v) G → WP d M Q e L r (hcc Lx k l (wr I c y v) G) cs sl) : WP d M Q pc L (.int v :: .ref c :: r) (hcc Lx k l I G) cs sl := wx_puti hf he hS (by omega) (K (E.i (fun q y1 y2 => wr_other _ _ _ _ (by omega))))
theorem PU_out {c k C N : Nat} : ∀ (l : List (Nat × Nat × Nat)), (l.all fun e => Nat.blt e.1 C && Nat.blt e.2.1 N) = true → (C ≤ c ∨ N ≤ k) → PU l c k = ab_spP c k
  | [], _, _ => rfl
  | e :: l, h, ho => by
    rw [List.all_cons, Bool.and_eq_true, Bool.and_eq_true] at h
    have h1 : e.1 < C := Nat.le_of_ble_eq_true h.1.1
    have h2 : e.2.1 < N := Nat.le_of_ble_eq_true h.1.2
    rw [PU_at, if_neg (by omega)]
    exact PU_out l h.2 ho
def PF5 (t rt u c k : Nat) : Option Nat := match Nat.blt c 55 with
  | true => PF t rt u c k
  | false => ab_spP c k
abbrev h55 (Lx t rt u : Nat) (I : Nat → Nat → Int32) (G : Nat → Nat → Int64) : ab_H := (55, SK Lx 55, I, G, PF5 t rt u)
theorem pf5_cr {t rt u o : Nat} : wq (wq (PF5 t rt u) 41 2 (some o)) 41 3 (some (o + 1)) = PF5 t rt o := by
  funext c k
  have h := congrFun (congrFun (pf_cr (t := t) (rt := rt) (u := u) (o := o)) c) k
  unfold wq va_up at h ⊢
  by_cases e : c = 41
  · subst e
    simp only [if_true] at h ⊢
    exact h
  · simp only [if_neg e] at h ⊢
    unfold PF5
    cases Nat.blt c 55 with
    | true => exact h
    | false => rfl
def W0 (S : Nat → ab_Sh) (I : Nat → Nat → Int32) (P : Nat → Nat → Option Nat) : Prop := S 1000001 = .inl 90 ∧ S 1000011 = .inr (.byte, 139) ∧ P 1000001 0 = some 1000011 ∧ I 1000001 1 = 0 ∧ ∀ j, I 1000011 j = ab_w0.getD j 0
theorem nar_c : ∀ k, k < 256 → vp_nar .char (nI k) = nI k := by decide +kernel
theorem nar_ch {k : Nat} (h : k < 256) : narrow .char (.int (nI k)) = .int (nI k) := by
  show Value.int (vp_nar .char (nI k)) = _
  rw [nar_c k h]
def w0l : List Nat := [99, 104, 117, 114, 99, 104, 32, 114, 111, 97, 100, 32, 114, 101, 108, 105, 99, 32, 112, 105, 108, 103, 114, 105, 109, 32, 100, 114, 97, 119, 115, 32, 104, 101, 97, 108, 115, 32, 103, 105, 118, 101, 115, 32, 108, 101, 97, 118, 101, 32, 99, 97, 117, 103, 104, 116, 32, 115, 101, 101, 100, 32, 116, 114, 117, 101, 32, 99, 111, 112, 121, 32, 105, 102, 32, 116, 104, 101, 110, 32, 101, 108, 115, 101, 32, 114, 101, 108, 105, 99, 115, 32, 119, 111, 110, 100, 101, 114, 115, 32, 102, 97, 114, 32, 110, 101, 101, 100, 32, 103, 105, 102, 116, 32, 110, 105, 103, 104, 116, 115, 32, 119, 97, 116, 99, 104, 32, 121, 101, 97, 114, 115, 32, 116, 114, 117, 116, 104, 32]
def w0n (i : Nat) : Nat := w0l.getD i 0
def wTl : List (Nat × Nat) := [(0, 0), (3, 0), (104, 0), (3349, 0), (107186, 0), (3429955, 0), (109758568, 0), (0, 1), (18, 1), (591, 1), (18913, 1), (605220, 1), (0, 2), (18, 2), (581, 2), (18604, 2), (595337, 2), (19050787, 2), (0, 3), (16, 3), (521, 3), (16684, 3), (533895, 3), (17084658, 3), (546709065, 3), (17494690093, 3), (0, 4), (4, 4), (146, 4), (4673, 4), (149559, 4), (4785907, 4), (0, 5), (8, 5), (261, 5), (8353, 5), (267308, 5), (8553875, 5), (0, 6), (7, 6), (233, 6), (7478, 6), (239301, 6), (7657651, 6), (0, 7), (12, 7), (389, 7), (12449, 7), (398390, 7), (12748485, 7), (0, 8), (3, 8), (97, 8), (3125, 8), (100007, 8), (3200232, 8), (102407444, 8), (0, 9), (19, 9), (613, 9), (19621, 9), (627876, 9), (0, 10), (20, 10), (658, 10), (21077, 10), (674469, 10), (0, 11), (3, 11), (111, 11), (3568, 11), (114201, 11), (0, 12), (9, 12), (294, 12), (0, 13), (20, 13), (648, 13), (20741, 13), (663726, 13), (0, 14), (5, 14), (172, 14), (5523, 14), (176741, 14), (0, 15), (18, 15), (581, 15), (18604, 15), (595337, 15), (19050787, 15), (609625203, 15), (0, 16), (23, 16), (751, 16), (24046, 16), (769476, 16), (24623237, 16), (787943602, 16), (25214195283, 16), (0, 17), (6, 17), (193, 17), (6194, 17), (0, 18), (14, 18), (453, 18), (14501, 18), (464036, 18), (0, 19), (7, 19), (233, 19), (7462, 19), (238804, 19), (0, 20), (14, 20), (457, 20), (14631, 20), (468200, 20), (14982420, 20), (479437459, 20), (0, 21), (23, 21), (737, 21), (23604, 21), (755331, 21), (24170600, 21), (0, 22), (25, 22), (805, 22), (25761, 22), (824370, 22), (26379859, 22), (0, 23), (20, 23), (658, 23), (21077, 23), (674484, 23), (21583496, 23), (0, 24)]
def wW (i : Nat) : Nat := (wTl.getD i (0, 0)).1
def wN (i : Nat) : Nat := (wTl.getD i (0, 0)).2
theorem w0_b : ∀ i, i < 139 → ab_w0.getD i 0 &&& nI 255 = nI (w0n i) ∧ w0n i < 256 := by decide +kernel
theorem wt_s : ∀ i, i < 139 → wN i < 24 ∧ (w0n i = 32 → wW (i + 1) = 0 ∧ wN (i + 1) = wN i + 1 ∧ wW i = vl_ 32 (kwd (wN i))) ∧ (¬ w0n i = 32 → 97 ≤ w0n i ∧ wW (i + 1) = w0n i - 96 + 32 * wW i ∧ wN (i + 1) = wN i) := by decide +kernel
theorem wt_e : wN 139 = 24 := by decide
theorem c_j_isLatin1 {d n : Nat} {S : Nat → ab_Sh} {I : Nat → Nat → Int32} {G : Nat → Nat → Int64} {P : Nat → Nat → Option Nat} {Q : ab_Q} (h0 : W0 S I P) (hq : Q (some (.int (nI 1))) (n, S, I, G, P)) : ab_call ab_MT (d + 1) 307 [.ref 1000001] (n, S, I, G, P) 0 0 Q := by
  refine wx_in (M := mJ0_isLatin1_aae02) rfl rfl rfl (Nat.le_of_ble_eq_true rfl) ?_
  refine wx_gets rfl (e := 3) rfl ?_
  refine wx_if_eq rfl (e := 6) rfl (fun c_3 => absurd c_3 (by decide)) (fun c_3 => ?_)
  refine wx_aload_n rfl (e := 7) rfl rfl ?_
  refine wx_geti rfl (e := 10) rfl h0.1 ?_
  rw [h0.2.2.2.1]
  refine wx_if_ne rfl (e := 13) rfl (fun c_10 => absurd rfl c_10) (fun c_10 => ?_)
  refine wx_iconst (v := (nI 1)) rfl (e := 14) rfl (by decide) ?_
  refine wx_goto rfl ?_
  refine wx_iret rfl rfl rfl ⟨by decide, by decide⟩ ?_
  exact hq
theorem c_j_coder {d n : Nat} {S : Nat → ab_Sh} {I : Nat → Nat → Int32} {G : Nat → Nat → Int64} {P : Nat → Nat → Option Nat} {Q : ab_Q} (h0 : W0 S I P) (hq : Q (some (.int 0)) (n, S, I, G, P)) : ab_call ab_MT (d + 1) 306 [.ref 1000001] (n, S, I, G, P) 0 0 Q := by
  refine wx_in (M := mJ0_coder_7d493) rfl rfl rfl (Nat.le_of_ble_eq_true rfl) ?_
  refine wx_gets rfl (e := 3) rfl ?_
  refine wx_if_eq rfl (e := 6) rfl (fun c_3 => absurd c_3 (by decide)) (fun c_3 => ?_)
  refine wx_aload_n rfl (e := 7) rfl rfl ?_
  refine wx_geti rfl (e := 10) rfl h0.1 ?_
  rw [h0.2.2.2.1]
  refine wx_goto rfl ?_
  refine wx_iret rfl rfl rfl ⟨by decide, by decide⟩ ?_
  exact hq
theorem c_j_length {d n : Nat} {S : Nat → ab_Sh} {I : Nat → Nat → Int32} {G : Nat → Nat → Int64} {P : Nat → Nat → Option Nat} {Q : ab_Q} (h0 : W0 S I P) (hq : Q (some (.int (nI 139))) (n, S, I, G, P)) : ab_call ab_MT (d + 2) 302 [.ref 1000001] (n, S, I, G, P) 0 0 Q := by
  refine wx_in (M := mJ0_length_8abf5) rfl rfl rfl (Nat.le_of_ble_eq_true rfl) ?_
  refine wx_aload_n rfl (e := 1) rfl rfl ?_
  refine wx_getr rfl (e := 4) rfl h0.1 h0.2.2.1 ?_
  refine wx_alen (v := nI 139) rfl (e := 5) rfl h0.2.1 (by decide) rfl ?_
  refine wx_aload_n rfl (e := 6) rfl rfl ?_
  refine wx_cv0 (mc := 0) (ms := 0) rfl (e := 9) rfl h0.1 (Nat.le_of_ble_eq_true rfl) ⟨by decide, by decide⟩ ?_
  refine c_j_coder h0 ?_
  refine wx_ishr rfl (e := 10) rfl ?_
  refine wx_iret rfl rfl rfl ⟨by decide, by decide⟩ ?_
  exact hq
theorem c_j_chk3 {d : Nat} {h : ab_H} {Q : ab_Q} {i : Nat} (hi : i < 139) (hq : Q (some (.int (nI i))) h) : ab_call ab_MT (d + 1) 313 [.int (nI i), .int (nI 139), .ref 1000020] h 0 0 Q := by
  refine wx_in (M := mJ3_checkIndex_8e157) rfl rfl rfl (Nat.le_of_ble_eq_true rfl) ?_
  refine wx_iload_n rfl (e := 1) rfl rfl ?_
  refine wn_if_lt rfl (e := 4) rfl (by omega) ?_
  refine wx_iload_n rfl (e := 5) rfl rfl ?_
  refine wx_iload_n rfl (e := 6) rfl rfl ?_
  refine wn_ic_lt rfl (e := 9) rfl (by omega) (by omega) (fun c_6 => ?_) (fun c_6 => absurd c_6 (by omega))
  refine wx_iload_n rfl (e := 17) rfl rfl ?_
  refine wx_iret rfl rfl rfl ⟨by decide, by decide⟩ ?_
  exact hq
theorem c_j_chk {d : Nat} {h : ab_H} {Q : ab_Q} {i : Nat} (hi : i < 139) (hq : Q none h) : ab_call ab_MT (d + 2) 308 [.int (nI i), .int (nI 139)] h 0 0 Q := by
  refine wx_in (M := mJ0_checkIndex_df160) rfl rfl rfl (Nat.le_of_ble_eq_true rfl) ?_
  refine wx_iload_n rfl (e := 1) rfl rfl ?_
  refine wx_iload_n rfl (e := 2) rfl rfl ?_
  refine wx_gets2 rfl (e := 5) rfl ?_
  refine wx_cs3 (mc := 0) (ms := 0) rfl (e := 8) rfl (Nat.le_of_ble_eq_true rfl) ⟨by decide, by decide⟩ ?_
  refine c_j_chk3 hi ?_
  refine wx_pop rfl (e := 9) rfl rfl ?_
  refine wx_ret rfl rfl ⟨by decide, by decide⟩ ?_
  exact hq
theorem c_j_charAt1 {d n : Nat} {S : Nat → ab_Sh} {I : Nat → Nat → Int32} {G : Nat → Nat → Int64} {P : Nat → Nat → Option Nat} {Q : ab_Q} (h0 : W0 S I P) {i : Nat} (hi : i < 139) (hq : Q (some (.int (nI (w0n i)))) (n, S, I, G, P)) : ab_call ab_MT (d + 3) 309 [.ref 1000011, .int (nI i)] (n, S, I, G, P) 0 0 Q := by
  refine wx_in (M := mJ1_charAt_3b067) rfl rfl rfl (Nat.le_of_ble_eq_true rfl) ?_
  refine wx_iload_n rfl (e := 1) rfl rfl ?_
  refine wx_aload_n rfl (e := 2) rfl rfl ?_
  refine wx_alen (v := nI 139) rfl (e := 3) rfl h0.2.1 (by decide) rfl ?_
  refine wx_cs2 (mc := 0) (ms := 0) rfl (e := 6) rfl (Nat.le_of_ble_eq_true rfl) ⟨by decide, by decide⟩ ?_
  refine c_j_chk hi ?_
  refine wx_aload_n rfl (e := 7) rfl rfl ?_
  refine wx_iload_n rfl (e := 8) rfl rfl ?_
  refine wn_bald rfl (e := 9) rfl h0.2.1 (by omega) (by decide) ?_
  rw [h0.2.2.2.2 i]
  refine wx_sipush (v := (nI 255)) rfl (e := 12) rfl (by decide) ?_
  refine wx_iand rfl (e := 13) rfl ?_
  rw [(w0_b i hi).1]
  refine wx_i2c rfl (e := 14) rfl ?_
  rw [i2c_k _ (w0_b i hi).2]
  refine wx_iret rfl rfl (nar_ch (w0_b i hi).2) ⟨by decide, by decide⟩ ?_
  exact hq
theorem c_j_charAt {d n : Nat} {S : Nat → ab_Sh} {I : Nat → Nat → Int32} {G : Nat → Nat → Int64} {P : Nat → Nat → Option Nat} {Q : ab_Q} (h0 : W0 S I P) {i : Nat} (hi : i < 139) (hq : Q (some (.int (nI (w0n i)))) (n, S, I, G, P)) : ab_call ab_MT (d + 4) 303 [.ref 1000001, .int (nI i)] (n, S, I, G, P) 0 0 Q := by
  refine wx_in (M := mJ0_charAt_5068e) rfl rfl rfl (Nat.le_of_ble_eq_true rfl) ?_
  refine wx_aload_n rfl (e := 1) rfl rfl ?_
  refine wx_cv0 (mc := 0) (ms := 0) rfl (e := 4) rfl h0.1 (Nat.le_of_ble_eq_true rfl) ⟨by decide, by decide⟩ ?_
  refine c_j_isLatin1 h0 ?_
  refine wn_if_eq rfl (e := 7) rfl (by omega) (fun c_4 => absurd c_4 (by omega)) (fun c_4 => ?_)
  refine wx_aload_n rfl (e := 8) rfl rfl ?_
  refine wx_getr rfl (e := 11) rfl h0.1 h0.2.2.1 ?_
  refine wx_iload_n rfl (e := 12) rfl rfl ?_
  refine wx_cs2 (mc := 0) (ms := 0) rfl (e := 15) rfl (Nat.le_of_ble_eq_true rfl) ⟨by decide, by decide⟩ ?_
  refine c_j_charAt1 h0 hi ?_
  refine wx_iret rfl rfl (nar_ch (w0_b i hi).2) ⟨by decide, by decide⟩ ?_
  exact hq

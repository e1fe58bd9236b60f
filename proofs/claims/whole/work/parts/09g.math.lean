/-! a run, taken apart; the methods of Math, which the machine has rows of its own for -/
theorem ab_un {MT : List ab_M} {d : Nat} {M : ab_M} {Q : ab_Q} {pc : Nat} {L : ab_Lo} {st : List Value} {h : ab_H} {cs sl : Nat} (hw : ab_wp MT d M Q pc L st h cs sl) : ab_all (ab_call MT d) M Q h cs sl (ab_lfp (ab_call MT d) M Q) (ab_step M pc L st h cs sl) :=
  hw (fun t => ab_all (ab_call MT d) M Q t.2.2.2.1 t.2.2.2.2.1 t.2.2.2.2.2 (ab_lfp (ab_call MT d) M Q) (ab_step M t.1 t.2.1 t.2.2.1 t.2.2.2.1 t.2.2.2.2.1 t.2.2.2.2.2)) (fun _ _ _ _ _ _ hr => ab_all_mono (ab_call_mono MT d) (fun _ ht => ab_mk_ ht) hr)
theorem ab_inv_max {d : Nat} {Q : ab_Q} {L : ab_Lo} {h : ab_H} (hw : ab_wp ab_MT d mJ9_max_7cf53 Q 0 L [] h 0 0) : ∃ a b : Int32, L[0]? = some (some (.int a)) ∧ L[1]? = some (some (.int b)) ∧ Q (some (.int (if a < b then b else a))) h := by
  obtain ⟨a, ha, h1⟩ := abv_li (ab_un hw)
  obtain ⟨b, hb, h2⟩ := abv_li (ab_un (abv_go h1))
  obtain ⟨k1, k2⟩ := abv_br (g := a < b) (t1 := (9, L, [], h, 0, 0)) (t2 := (5, L, [], h, 0, 0)) (ab_un (abv_go h2))
  refine ⟨a, b, ha, hb, ?_⟩
  by_cases hab : a < b
  · rw [if_pos hab]
    obtain ⟨w, hw2, h5⟩ := abv_li (ab_un (k1 hab))
    cases hb.symm.trans hw2
    exact (ab_un (abv_go h5)).2
  · rw [if_neg hab]
    obtain ⟨w, hw2, h5⟩ := abv_li (ab_un (k2 hab))
    cases ha.symm.trans hw2
    exact (ab_un (abv_go (ab_un (abv_go h5)))).2
theorem ab_inv_min {d : Nat} {Q : ab_Q} {L : ab_Lo} {h : ab_H} (hw : ab_wp ab_MT d mJ9_min_7cf53 Q 0 L [] h 0 0) : ∃ a b : Int32, L[0]? = some (some (.int a)) ∧ L[1]? = some (some (.int b)) ∧ Q (some (.int (if b < a then b else a))) h := by
  obtain ⟨a, ha, h1⟩ := abv_li (ab_un hw)
  obtain ⟨b, hb, h2⟩ := abv_li (ab_un (abv_go h1))
  obtain ⟨k1, k2⟩ := abv_br (g := b < a) (t1 := (9, L, [], h, 0, 0)) (t2 := (5, L, [], h, 0, 0)) (ab_un (abv_go h2))
  refine ⟨a, b, ha, hb, ?_⟩
  by_cases hab : b < a
  · rw [if_pos hab]
    obtain ⟨w, hw2, h5⟩ := abv_li (ab_un (k1 hab))
    cases hb.symm.trans hw2
    exact (ab_un (abv_go h5)).2
  · rw [if_neg hab]
    obtain ⟨w, hw2, h5⟩ := abv_li (ab_un (k2 hab))
    cases ha.symm.trans hw2
    exact (ab_un (abv_go (ab_un (abv_go h5)))).2
theorem ab_inv_maxl {d : Nat} {Q : ab_Q} {L : ab_Lo} {h : ab_H} (hw : ab_wp ab_MT d mJ9_max_f86c9 Q 0 L [] h 0 0) : ∃ a b : Int64, L[0]? = some (some (.long a)) ∧ L[2]? = some (some (.long b)) ∧ Q (some (.long (if b < a then a else b))) h := by
  obtain ⟨a, ha, h1⟩ := abv_ll (ab_un hw)
  obtain ⟨b, hb, h2⟩ := abv_ll (ab_un (abv_go h1))
  obtain ⟨k1, k2⟩ := abv_br (g := lg_cmp a b < 0) (t1 := (10, L, [], h, 0, 0)) (t2 := (6, L, [], h, 0, 0)) (ab_un (abv_go (t := (3, L, [.int (lg_cmp a b)], h, 0, 0)) (ab_un (abv_go h2))))
  refine ⟨a, b, ha, hb, ?_⟩
  by_cases hab : lg_cmp a b < 0
  · obtain ⟨w, hw2, h6⟩ := abv_ll (ab_un (k1 hab))
    cases hb.symm.trans hw2
    have hq : Q (some (.long b)) h := (ab_un (abv_go h6)).2
    have hn : ¬ b < a := by
      intro z
      unfold lg_cmp at hab
      rw [if_pos z] at hab
      exact absurd hab (by decide)
    rw [if_neg hn]
    exact hq
  · obtain ⟨w, hw2, h6⟩ := abv_ll (ab_un (k2 hab))
    cases ha.symm.trans hw2
    have hq : Q (some (.long a)) h := (ab_un (abv_go (ab_un (abv_go h6)))).2
    by_cases hba : b < a
    · rw [if_pos hba]
      exact hq
    · rw [if_neg hba]
      have : a = b := by
        unfold lg_cmp at hab
        rw [if_neg hba] at hab
        by_cases he : a = b
        · exact he
        · rw [if_neg he] at hab
          exact absurd (by decide) hab
      rw [← this]
      exact hq
theorem ab_mw0 : ab_at 603 (.static Lib.Math.max.name) = true ∧ ab_at 604 (.code Lib.Math.max.name Lib.Math.max.code 2 (some .int)) = true ∧ ab_at 606 (.static Lib.Math.min.name) = true ∧ ab_at 607 (.code Lib.Math.min.name Lib.Math.min.code 2 (some .int)) = true ∧ ab_at 1165 (.static Lib.MathLoose.max_long.x) = true ∧ ab_at 1166 (.code Lib.MathLoose.max_long.x Lib.MathLoose.max_long.code 4 (some .long)) = true ∧ ab_at 114 (.initialized "java/lang/Math") = true := by decide +kernel
def ab_nomath (w : Cond) : Bool := match w with
  | .methodLinkNest _ _ y _ => decide (y.cls ≠ "java/lang/Math")
  | _ => true
theorem ab_mw1 : lw_tbl.all ab_nomath = true := by decide +kernel
theorem ab_mth_cls {M : ab_M} (h : ab_mth M) : (ab_my M).cls = "java/lang/Math" ∧ ab_mk M = 0 ∧ ab_mc M = 0 ∧ ab_ms M = 0 := by
  rcases h with rfl | rfl | rfl <;> exact ⟨rfl, rfl, rfl, rfl⟩
theorem ab_mth_nest {M : ab_M} (h : ab_mth M) {a : String} {i : Nat} {ho : String} (hn : Cond.methodLinkNest a i (ab_my M) ho ∈ lw_tbl) : False := by
  have := List.all_eq_true.mp ab_mw1 _ hn
  unfold ab_nomath at this
  simp only [decide_eq_true_eq] at this
  exact this (ab_mth_cls h).1
section ABM
variable {p : Program} {l : Launch} {e : Env} {R : Room} {s : State} {m : MethodId} {args : Array Value} {below : List Frame} {meth : Method} {c : Code} {H : Heap} {locs : List Loc} {cs sl pc d n k : Nat} {Qw : State → Prop} {ls : Array Slot} {st : List Value} {g : ab_W} {Q : ab_Q} {M M2 : ab_M} {h : ab_H}
theorem ab_two {As : List Value} (h1 : As.length = 2) (h2 : (ab_en As).length ≤ 2) : ∃ a b, As = [a, b] ∧ ab_ent As 2 = [some a, some b] := by
  match As, h1 with
  | [a, b], _ =>
    refine ⟨a, b, rfl, ?_⟩
    rcases lv_cat a with ha | ha <;> rcases lv_cat b with hb | hb <;> simp [ab_ent, ab_en, ha, hb] at h2 ⊢
theorem ab_callM (hX : ab_X g M (d + 1) p R s m args meth c) (hS : va_S (ab_A g) s.heap H locs) (hR : ab_Rel g h H) (hls : ls.size = ab_ml M) (hm : ab_mth M2) (hlink : (Cond.methodLink (ab_my M).cls k (ab_my M2) ∈ ab_TB) ∨ (Cond.methodLinkNest (ab_my M).cls k (ab_my M2) "SaintTheft" ∈ lw_tbl)) (hn : ab_pn (ab_my M2) n = true) (hd : decode (ab_mb M) pc = .ok (.invokestatic k, 3))
    (hl : n ≤ st.length) (hw : ((st.drop n).map fun v => v.category).sum ≤ 8) (hlen : (ab_en (st.take n).reverse).length ≤ ab_ml M2) (hc : cs + ab_mc M2 ≤ ab_mc M) (hs : sl + ab_ms M2 ≤ ab_ms M) (hwp : ab_lfp (ab_call ab_MT d) M2 Q (0, ab_ent (st.take n).reverse (ab_ml M2), [], h, 0, 0))
    (kk : ∀ (r : Option Value) (h2 : ab_H) (H1 : Heap) (locs1 : List Loc), Q r h2 → ab_Rel g h2 H1 → va_S (ab_A g) s.heap H1 locs1 → W p l e R s m args below meth c H1 locs1 (cs + ab_mc M2) (sl + ab_ms M2) Qw (F0 m (pc + 3) ls ((r.toList ++ st.drop n).map (ab_cv g)))) :
    W p l e R s m args below meth c H locs cs sl Qw (F0 m pc ls (st.map (ab_cv g))) := by
  obtain ⟨hx, hb, hml, hown, hts, hF, ⟨r1, r2, r3, r4⟩, -⟩ := hX
  have hvf := hF.2.2.2.2.2.2.2.2.2.1
  have hcats : (((st.drop n).map (ab_cv g)).map fun v => v.category).sum ≤ 8 := by rw [ab_cats hvf]; exact hw
  have hst : st = (st.take n).reverse.reverse ++ st.drop n := by rw [List.reverse_reverse, List.take_append_drop]
  obtain ⟨w1, w2, w3, w4, w5, w6, w7⟩ := ab_mw0
  rcases hlink with hlk | hlk
  · rcases hm with rfl | rfl | rfl
    · have hn2 : n = 2 := by
        have h1 : some 2 = some n := ab_pn_ok hn
        cases h1; rfl
      subst hn2
      obtain ⟨a, b, e1, e2⟩ := ab_two (As := (st.take 2).reverse) (by simp; omega) hlen
      have hwp : ab_lfp (ab_call ab_MT d) mJ9_max_7cf53 Q (0, ab_ent (st.take 2).reverse 2, [], h, 0, 0) := hwp
      rw [e2] at hwp
      obtain ⟨x1, x2, q1, q2, q3⟩ := ab_inv_max hwp
      cases q1
      cases q2
      have hst2 : st.map (ab_cv g) = .int x2 :: .int x1 :: (st.drop 2).map (ab_cv g) := by rw [hst, e1]; rfl
      rw [hst2]
      exact va_mmax hx hb (hml.trans hls.symm) hown (hts _ hlk) (hts _ (ab_at_in w1)) (hts _ (ab_at_in w7)) (hts _ (ab_at_in w2)) (by omega) (by omega) (by omega) (by omega) hd (kk _ h H locs q3 hR hS)
    · have hn2 : n = 2 := by
        have h1 : some 2 = some n := ab_pn_ok hn
        cases h1; rfl
      subst hn2
      have hwp : ab_lfp (ab_call ab_MT d) mJ9_max_f86c9 Q (0, ab_ent (st.take 2).reverse 4, [], h, 0, 0) := hwp
      obtain ⟨x1, x2, q1, q2, q3⟩ := ab_inv_maxl hwp
      have hl2 : ((st.take 2).reverse).length = 2 := by simp; omega
      match hAs : (st.take 2).reverse, hl2 with
      | [a, b], _ =>
        rw [hAs] at q1 q2 hst
        have ha : a = .long x1 := by
          rcases lv_cat a with ha | ha <;> simp [ab_ent, ab_en, ha] at q1 <;> exact q1
        subst ha
        have hb2 : b = .long x2 := by
          have q4 : (ab_ent [.long x1, b] 4)[2]? = some (some b) := by cases b <;> rfl
          cases q4.symm.trans q2
          rfl
        subst hb2
        have hst2 : st.map (ab_cv g) = .long x2 :: .long x1 :: (st.drop 2).map (ab_cv g) := by rw [hst]; simp [ab_cv]
        rw [hst2]
        exact va_mmax_long hx hb (hml.trans hls.symm) hown (hts _ hlk) (hts _ (ab_at_in w5)) (hts _ (ab_at_in w7)) (hts _ (ab_at_in w6)) (by omega) (by omega) (by omega) (by omega) hd (kk _ h H locs q3 hR hS)
    · have hn2 : n = 2 := by
        have h1 : some 2 = some n := ab_pn_ok hn
        cases h1; rfl
      subst hn2
      obtain ⟨a, b, e1, e2⟩ := ab_two (As := (st.take 2).reverse) (by simp; omega) hlen
      have hwp : ab_lfp (ab_call ab_MT d) mJ9_min_7cf53 Q (0, ab_ent (st.take 2).reverse 2, [], h, 0, 0) := hwp
      rw [e2] at hwp
      obtain ⟨x1, x2, q1, q2, q3⟩ := ab_inv_min hwp
      cases q1
      cases q2
      have hst2 : st.map (ab_cv g) = .int x2 :: .int x1 :: (st.drop 2).map (ab_cv g) := by rw [hst, e1]; rfl
      rw [hst2]
      exact va_mmin hx hb (hml.trans hls.symm) hown (hts _ hlk) (hts _ (ab_at_in w3)) (hts _ (ab_at_in w7)) (hts _ (ab_at_in w4)) (by omega) (by omega) (by omega) (by omega) hd (kk _ h H locs q3 hR hS)
  · exact (ab_mth_nest hm hlk).elim
end ABM

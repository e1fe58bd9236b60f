/-! the machine does what the abstract machine does: an instruction -/
theorem ab_ret_fits (ty : FieldType) (i : Nat) (h : ab_isR ty = true) : narrow ty (.ref i) = .ref i ∧ fits ty (.ref i) = true := by
  cases ty <;> first | exact ⟨rfl, rfl⟩ | cases h
set_option maxHeartbeats 4000000 in
theorem ab_step_snd {g : ab_W} {l : Launch} {d : Nat} {M : ab_M} {Q : ab_Q} (hce : (ab_mo M).all (ab_ce M) = true) {C : ab_C} (hC : ∀ k As h mc ms (Q2 : ab_Q), C k As h mc ms Q2 → ∃ (d2 : Nat) (M2 : ab_M), d = d2 + 1 ∧ ab_MT[k]? = some M2 ∧ ab_mc M2 = mc ∧ ab_ms M2 = ms ∧ (ab_en As).length ≤ ab_ml M2 ∧ ((ab_okM M2 ∧ ab_Snd g l d2 M2 Q2 (0, ab_ent As (ab_ml M2), [], h, 0, 0)) ∨ (ab_mth M2 ∧ ab_lfp (ab_call ab_MT d2) M2 Q2 (0, ab_ent As (ab_ml M2), [], h, 0, 0)))) :
    ∀ pc L st h cs sl, ab_all C M Q h cs sl (ab_Snd g l d M Q) (ab_step M pc L st h cs sl) → ab_Snd g l d M Q (pc, L, st, h, cs, sl) := by
  intro pc L st h cs sl hs p e R s m args below meth c H locs ls Qw hX hS hR hL hQ
  have hR : ab_Rel g h H := hR
  have hL : ab_LR g ls (ab_ml M) L := hL
  show W p l e R s m args below meth c H locs cs sl Qw (F0 m pc ls (st.map (ab_cv g)))
  obtain ⟨hx, hb, hml, hown, hts, hF, ⟨r1, r2, r3, r4⟩, hnm⟩ := id hX
  have hvf := hF.2.2.2.2.2.2.2.2.2.1
  obtain ⟨hP, hz, hsp⟩ := id hR
  have hK := hF.1
  have h6 := hsp.2.1
  have go : ∀ {pc2 : Nat} {st2 : List Value}, ab_Snd g l d M Q (pc2, L, st2, h, cs, sl) → W p l e R s m args below meth c H locs cs sl Qw (F0 m pc2 ls (st2.map (ab_cv g))) := fun k => k p e R s m args below meth c H locs ls Qw hX hS hR hL hQ
  have goL : ∀ {pc2 : Nat} {L2 : ab_Lo} {st2 : List Value} (ls2 : Array Slot), ab_LR g ls2 (ab_ml M) L2 → ab_Snd g l d M Q (pc2, L2, st2, h, cs, sl) → W p l e R s m args below meth c H locs cs sl Qw (F0 m pc2 ls2 (st2.map (ab_cv g))) := fun ls2 hL2 k => k p e R s m args below meth c H locs ls2 Qw hX hS hR hL2 hQ
  have goH : ∀ {pc2 : Nat} {st2 : List Value} {h2 : ab_H} {cs2 sl2 : Nat} (H2 : Heap) (locs2 : List Loc), va_S (ab_A g) s.heap H2 locs2 → ab_Rel g h2 H2 → ab_Snd g l d M Q (pc2, L, st2, h2, cs2, sl2) → W p l e R s m args below meth c H2 locs2 cs2 sl2 Qw (F0 m pc2 ls (st2.map (ab_cv g))) := fun H2 locs2 hS2 hR2 k => k p e R s m args below meth c H2 locs2 ls Qw hX hS2 hR2 hL hQ
  unfold ab_step at hs
  cases hf : ab_find pc (ab_mo M) with
  | none =>
    rw [hf] at hs
    exact (abv_no hs).elim
  | some q =>
    obtain ⟨ins, len, x, y, ts⟩ := q
    rw [hf] at hs
    have hm := ab_find_mem _ _ _ hf
    have hc := List.all_eq_true.mp hce _ hm
    unfold ab_ce at hc
    simp only [Bool.and_eq_true, decide_eq_true_eq] at hc
    obtain ⟨⟨hd, hlen⟩, hw⟩ := hc
    cases ins with
    | iload i =>
      obtain rfl : len = 2 := Nat.eq_of_beq_eq_true hlen
      obtain ⟨v, hv, hs1⟩ := abv_li hs
      exact lv_iload hx hb hd (hL.2.2 _ _ hv) (go (abv_go hs1))
    | iload_n i =>
      obtain rfl : len = 1 := Nat.eq_of_beq_eq_true hlen
      obtain ⟨v, hv, hs1⟩ := abv_li hs
      exact lv_iload_n hx hb hd rfl (hL.2.2 _ _ hv) (go (abv_go hs1))
    | lload i =>
      obtain rfl : len = 2 := Nat.eq_of_beq_eq_true hlen
      obtain ⟨v, hv, hs1⟩ := abv_ll hs
      exact lv_lload hx hb hd (hL.2.2 _ _ hv) (go (abv_go hs1))
    | lload_n i =>
      obtain rfl : len = 1 := Nat.eq_of_beq_eq_true hlen
      obtain ⟨v, hv, hs1⟩ := abv_ll hs
      exact lv_lload_n hx hb hd rfl (hL.2.2 _ _ hv) (go (abv_go hs1))
    | aload i =>
      obtain rfl : len = 2 := Nat.eq_of_beq_eq_true hlen
      obtain ⟨v, hv, hs1⟩ := abv_lr hs
      have q := hL.2.2 _ _ hv
      have k := go (abv_go hs1)
      rw [List.map_cons] at k
      rcases ab_rv_ref hvf v with hr | ⟨a, hr⟩
      · have e1 : ab_cv g (.ref v) = .null := hr
        rw [e1] at q k
        exact lv_aloadN hx hb hd q k
      · have e1 : ab_cv g (.ref v) = .ref a := hr
        rw [e1] at q k
        exact lv_aload hx hb hd q k
    | aload_n i =>
      obtain rfl : len = 1 := Nat.eq_of_beq_eq_true hlen
      obtain ⟨v, hv, hs1⟩ := abv_lr hs
      have q := hL.2.2 _ _ hv
      have k := go (abv_go hs1)
      rw [List.map_cons] at k
      rcases ab_rv_ref hvf v with hr | ⟨a, hr⟩
      · have e1 : ab_cv g (.ref v) = .null := hr
        rw [e1] at q k
        exact lv_aload_nN hx hb hd rfl q k
      · have e1 : ab_cv g (.ref v) = .ref a := hr
        rw [e1] at q k
        exact lv_aload_n hx hb hd rfl q k
    | istore i =>
      obtain rfl : len = 2 := Nat.eq_of_beq_eq_true hlen
      obtain ⟨v, r, rfl, hs1⟩ := abv_pi hs
      obtain ⟨hi, k⟩ := abv_gc hs1
      exact lv_istore hx hb hd (ab_as_has hL) hi rfl (fun ls2 h2 => goL ls2 (ab_LR.s1 hvf rfl h2) k)
    | istore_n i =>
      obtain rfl : len = 1 := Nat.eq_of_beq_eq_true hlen
      obtain ⟨v, r, rfl, hs1⟩ := abv_pi hs
      obtain ⟨hi, k⟩ := abv_gc hs1
      exact lv_istore_n hx hb hd rfl (ab_as_has hL) hi rfl (fun ls2 h2 => goL ls2 (ab_LR.s1 hvf rfl h2) k)
    | lstore i =>
      obtain rfl : len = 2 := Nat.eq_of_beq_eq_true hlen
      obtain ⟨v, r, rfl, hs1⟩ := abv_pl hs
      obtain ⟨hi, k⟩ := abv_gc hs1
      exact lv_lstore hx hb hd (ab_as_has hL) hi rfl (fun ls2 h2 => goL ls2 (ab_LR.s2 hvf rfl h2) k)
    | lstore_n i =>
      obtain rfl : len = 1 := Nat.eq_of_beq_eq_true hlen
      obtain ⟨v, r, rfl, hs1⟩ := abv_pl hs
      obtain ⟨hi, k⟩ := abv_gc hs1
      exact lv_lstore_n hx hb hd rfl (ab_as_has hL) hi rfl (fun ls2 h2 => goL ls2 (ab_LR.s2 hvf rfl h2) k)
    | astore i =>
      obtain rfl : len = 2 := Nat.eq_of_beq_eq_true hlen
      obtain ⟨v, r, rfl, hs1⟩ := abv_pr hs
      obtain ⟨⟨hv, hi⟩, k⟩ := abv_gc hs1
      have e1 : ab_cv g (.ref v) = .ref (ab_B g + v) := ab_rv_lt hv
      rw [List.map_cons, e1]
      exact lv_astore hx hb hd (ab_as_has hL) hi rfl (fun ls2 h2 => goL ls2 (ab_LR.s1 hvf e1 h2) k)
    | astore_n i =>
      obtain rfl : len = 1 := Nat.eq_of_beq_eq_true hlen
      obtain ⟨v, r, rfl, hs1⟩ := abv_pr hs
      obtain ⟨⟨hv, hi⟩, k⟩ := abv_gc hs1
      have e1 : ab_cv g (.ref v) = .ref (ab_B g + v) := ab_rv_lt hv
      rw [List.map_cons, e1]
      exact lv_astore_n hx hb hd rfl (ab_as_has hL) hi rfl (fun ls2 h2 => goL ls2 (ab_LR.s1 hvf e1 h2) k)
    | iinc i n =>
      obtain rfl : len = 3 := Nat.eq_of_beq_eq_true hlen
      obtain ⟨v, hv, hs1⟩ := abv_li hs
      obtain ⟨hi, k⟩ := abv_gc hs1
      obtain ⟨j, hj⟩ := List.getElem?_of_mem (ab_as_mem (g := g) hv)
      exact lv_iinc hx hb hd (ab_as_has hL) (k := j) hj rfl hi rfl (fun ls2 h2 => goL ls2 (ab_LR.s1 hvf rfl h2) k)
    | iconst n =>
      obtain rfl : len = 1 := Nat.eq_of_beq_eq_true hlen
      exact lv_iconst hx hb hd rfl (go (abv_go hs))
    | bipush n =>
      obtain rfl : len = 2 := Nat.eq_of_beq_eq_true hlen
      exact lv_bipush hx hb hd rfl (go (abv_go hs))
    | sipush n =>
      obtain rfl : len = 3 := Nat.eq_of_beq_eq_true hlen
      exact lv_sipush hx hb hd rfl (go (abv_go hs))
    | lconst n =>
      obtain rfl : len = 1 := Nat.eq_of_beq_eq_true hlen
      exact lv_lconst hx hb hd rfl (go (abv_go hs))
    | ldc k =>
      obtain rfl : len = 2 := Nat.eq_of_beq_eq_true hlen
      match ts, hs, hw with
      | [], hs, hw => cases hw
      | [z], hs, hw => exact lv_ldc hx hb hown (hts _ (ab_at_in hw)) hd (go (abv_go hs))
      | [z, z2], hs, hw =>
        have k2 := go (abv_go hs)
        have hw : ((decide (x = 1000001) && decide (k = 25) && decide ((ab_my M).cls = RX8)) || (decide (x = 1000002) && decide (k = 88) && decide ((ab_my M).cls = RX8))) = true := hw
        simp only [Bool.or_eq_true, Bool.and_eq_true, decide_eq_true_eq] at hw
        rw [List.map_cons] at k2
        rcases hw with ⟨⟨rfl, rfl⟩, h8⟩ | ⟨⟨rfl, rfl⟩, h8⟩
        · rw [h8] at hown
          exact va_ldcS hx hb hown hF.2.2.1 hd k2
        · rw [h8] at hown
          exact va_ldcS hx hb hown hF.2.2.2.1 hd k2
      | z :: z2 :: z3 :: t, hs, hw => cases hw
    | ldc_w k =>
      obtain rfl : len = 3 := Nat.eq_of_beq_eq_true hlen
      match ts, hs, hw with
      | [], hs, hw => cases hw
      | z :: t, hs, hw => exact lv_ldcw hx hb hown (hts _ (ab_at_in hw)) hd (go (abv_go hs))
    | ldc2_w k =>
      obtain rfl : len = 3 := Nat.eq_of_beq_eq_true hlen
      match ts, hs, hw with
      | [], hs, hw => cases hw
      | z :: t, hs, hw => exact lv_ldc2 hx hb hown (hts _ (ab_at_in hw)) hd (go (abv_go hs))
    | getstatic k =>
      obtain rfl : len = 3 := Nat.eq_of_beq_eq_true hlen
      match ts, hs, hw with
      | [], hs, hw => cases hw
      | [z], hs, hw => exact va_gets hx hb hF.2.2.2.2.2.2.2.1 hS hown (hts _ (ab_at_in hw)) (fun _ h => h) hd (go (abv_go hs))
      | z :: z2 :: t, hs, hw =>
        have k2 := go (abv_go hs)
        exact va_gets hx hb hF.2.2.2.2.2.2.2.2.1 hS hown (hts _ (ab_at_in hw)) (fun _ h => h) hd k2
    | getfield k =>
      obtain rfl : len = 3 := Nat.eq_of_beq_eq_true hlen
      obtain ⟨c0, r, rfl, hs1⟩ := abv_pr hs
      obtain ⟨hcs, k2⟩ := abv_gc hs1
      have hwf : Cond.fieldLink (ab_my M).cls k (ab_fd x y).1 (ab_fd x y).2.1 (ab_fd x y).2.2.1 ∈ ab_TB ∧ (x < 12 ∨ x = 90) ∧ y < ab_nf x ∧ ab_gv ts (.int (ab_i h c0 y)) (ab_rf (ab_p h c0 y)) = ab_fv h x c0 y := by
        clear hs1 k2 hm hf hlen
        match ts, hw with
        | [], hw => cases hw
        | [z], hw =>
          have hw : (ab_at z (.fieldLink (ab_my M).cls k (ab_fd x y).1 (ab_fd x y).2.1 (ab_fd x y).2.2.1) && (decide (x < 12) || decide (x = 90)) && decide (y < ab_nf x) && !ab_isR (ab_ty x y)) = true := hw
          simp only [Bool.and_eq_true, Bool.or_eq_true, decide_eq_true_eq, Bool.not_eq_true'] at hw
          exact ⟨ab_at_in hw.1.1.1, hw.1.1.2, hw.1.2, by unfold ab_fv; rw [hw.2]; rfl⟩
        | z :: z2 :: t, hw =>
          have hw : (ab_at z (.fieldLink (ab_my M).cls k (ab_fd x y).1 (ab_fd x y).2.1 (ab_fd x y).2.2.1) && (decide (x < 12) || decide (x = 90)) && decide (y < ab_nf x) && ab_isR (ab_ty x y)) = true := hw
          simp only [Bool.and_eq_true, Bool.or_eq_true, decide_eq_true_eq] at hw
          exact ⟨ab_at_in hw.1.1.1, hw.1.1.2, hw.1.2, by unfold ab_fv; rw [hw.2]; rfl⟩
      obtain ⟨w1, w2, w3, w4⟩ := hwf
      rw [w4] at k2
      have k3 := go k2
      rw [List.map_cons] at k3 ⊢
      rcases ab_inl hsp hcs (by omega) with hlt | ⟨rfl, hstr⟩
      · have h12 := ab_own hP hlt hcs
        have e1 : ab_cv g (.ref c0) = .ref (ab_B g + c0) := ab_rv_lt (by omega)
        rw [e1]
        exact va_get hx hb hts (ab_lyE h12) hown hK hP c0 (by rw [ab_ws_at hlt, ab_E_obj hcs]) (ab_clsE h12) y w3 (hts _ w1) (fun _ h => h) (ab_fs_at w3) hd k3
      · obtain ⟨hV, -⟩ := hF.2.2.2.2.1
        have hy : y = 0 ∨ y = 1 := by have : y < 2 := w3; omega
        rcases hstr with rfl | rfl <;> rcases hy with rfl | rfl
        · have e3 : ab_cv g (ab_fv h 90 1000001 0) = .ref (ab_aV g 0) := by
            show ab_cv g (ab_rf (ab_p h 1000001 0)) = _
            rw [(hsp.2.2 1000001 (by decide)).2.2]
            rfl
          rw [e3] at k3
          exact vk_getf hx hb (hV 0 (by decide)).2.2.1 hS hown (hts _ w1) (fun _ h => h) hd k3
        · have e3 : ab_cv g (ab_fv h 90 1000001 1) = .int 0 := by
            show Value.int (ab_i h 1000001 1) = _
            rw [(hsp.2.2 1000001 (by decide)).2.1]
            rfl
          rw [e3] at k3
          exact vk_getf hx hb (hV 0 (by decide)).2.1 hS hown (hts _ w1) (fun _ h => h) hd k3
        · have e3 : ab_cv g (ab_fv h 90 1000002 0) = .ref (ab_aV g 1) := by
            show ab_cv g (ab_rf (ab_p h 1000002 0)) = _
            rw [(hsp.2.2 1000002 (by decide)).2.2]
            rfl
          rw [e3] at k3
          exact vk_getf hx hb (hV 1 (by decide)).2.2.1 hS hown (hts _ w1) (fun _ h => h) hd k3
        · have e3 : ab_cv g (ab_fv h 90 1000002 1) = .int 0 := by
            show Value.int (ab_i h 1000002 1) = _
            rw [(hsp.2.2 1000002 (by decide)).2.1]
            rfl
          rw [e3] at k3
          exact vk_getf hx hb (hV 1 (by decide)).2.1 hS hown (hts _ w1) (fun _ h => h) hd k3
    | putfield k =>
      obtain rfl : len = 3 := Nat.eq_of_beq_eq_true hlen
      match ts, hs, hw with
      | [], hs, hw => cases hw
      | [z], hs, hw =>
        have hw : (ab_at z (.fieldLink (ab_my M).cls k (ab_fd x y).1 (ab_fd x y).2.1 (ab_fd x y).2.2.1) && decide (x < 12) && decide (y < ab_nf x) && decide (ab_ty x y = .int) && (!(ab_fd x y).2.2.2 || (decide ((ab_my M).name = "<init>") && decide ((ab_fd x y).1 = (ab_my M).cls)))) = true := hw
        simp only [Bool.and_eq_true, Bool.or_eq_true, decide_eq_true_eq, Bool.not_eq_true'] at hw
        obtain ⟨⟨⟨⟨w1, w2⟩, w3⟩, w4⟩, w5⟩ := hw
        obtain ⟨v, r, rfl, hs1⟩ := abv_pi hs
        obtain ⟨c0, r, rfl, hs2⟩ := abv_pr hs1
        obtain ⟨⟨g1, g2, g3⟩, k2⟩ := abv_gc hs2
        have e1 : ab_cv g (.ref c0) = .ref (ab_B g + c0) := ab_rv_lt g2
        have hnr : ab_isR (ab_ty x y) = false := by rw [w4]; rfl
        have hE : ab_E g (ab_ui h c0 y v) c0 = .inr (x, ((List.range (ab_nf x)).map (fun j => ab_cv g (ab_fv h x c0 j))).set y (.int v)) := by
          rw [ab_E_obj (h := ab_ui h c0 y v) (show ab_S (ab_ui h c0 y v) c0 = .inl x from g1)]
          congr 2
          apply List.ext_getElem?
          intro i
          rw [List.getElem?_set]
          by_cases hi : y = i
          · subst hi
            rw [if_pos rfl, if_pos (by simpa using w3), ab_fs_at w3]
            unfold ab_fv
            rw [hnr]
            simp [ab_ui, ab_i, va_up, upd, ab_cv]
          · rw [if_neg hi]
            by_cases hi2 : i < ab_nf x
            · rw [ab_fs_at hi2, ab_fs_at hi2]
              congr 2
              unfold ab_fv
              split <;> simp [ab_ui, ab_i, ab_p, va_up, upd, Ne.symm hi]
            · rw [List.getElem?_eq_none (by simp; omega), List.getElem?_eq_none (by simp; omega)]
        rw [List.map_cons, List.map_cons, e1]
        exact ab_putf hx hb hown hts hF hnm hS hR w2 w3 (ab_at_in w1) w5 g1 (by rw [w4]; rfl) (by rw [w4]; rfl) hd (h2 := ab_ui h c0 y v) rfl (hsp.ui g2) hE (fun q hq => ab_E_ui hq) (fun H1 locs1 a1 a2 => goH H1 locs1 a1 a2 k2)
      | [z, z2], hs, hw =>
        have hw : (ab_at z (.fieldLink (ab_my M).cls k (ab_fd x y).1 (ab_fd x y).2.1 (ab_fd x y).2.2.1) && decide (x < 12) && decide (y < ab_nf x) && decide (ab_ty x y = .boolean) && (!(ab_fd x y).2.2.2 || (decide ((ab_my M).name = "<init>") && decide ((ab_fd x y).1 = (ab_my M).cls)))) = true := hw
        simp only [Bool.and_eq_true, Bool.or_eq_true, decide_eq_true_eq, Bool.not_eq_true'] at hw
        obtain ⟨⟨⟨⟨w1, w2⟩, w3⟩, w4⟩, w5⟩ := hw
        obtain ⟨v, r, rfl, hs3⟩ := abv_pi hs
        obtain ⟨c0, r, rfl, hs4⟩ := abv_pr hs3
        obtain ⟨⟨g1, g2, g3⟩, k2⟩ := abv_gc hs4
        have e1 : ab_cv g (.ref c0) = .ref (ab_B g + c0) := ab_rv_lt g2
        have hnr : ab_isR (ab_ty x y) = false := by rw [w4]; rfl
        have hE : ab_E g (ab_ui h c0 y v) c0 = .inr (x, ((List.range (ab_nf x)).map (fun j => ab_cv g (ab_fv h x c0 j))).set y (.int v)) := by
          rw [ab_E_obj (h := ab_ui h c0 y v) (show ab_S (ab_ui h c0 y v) c0 = .inl x from g1)]
          congr 2
          apply List.ext_getElem?
          intro i
          rw [List.getElem?_set]
          by_cases hi : y = i
          · subst hi
            rw [if_pos rfl, if_pos (by simpa using w3), ab_fs_at w3]
            unfold ab_fv
            rw [hnr]
            simp [ab_ui, ab_i, va_up, upd, ab_cv]
          · rw [if_neg hi]
            by_cases hi2 : i < ab_nf x
            · rw [ab_fs_at hi2, ab_fs_at hi2]
              congr 2
              unfold ab_fv
              split <;> simp [ab_ui, ab_i, ab_p, va_up, upd, Ne.symm hi]
            · rw [List.getElem?_eq_none (by simp; omega), List.getElem?_eq_none (by simp; omega)]
        rw [List.map_cons, List.map_cons, e1]
        exact ab_putf hx hb hown hts hF hnm hS hR w2 w3 (ab_at_in w1) w5 g1 (by rw [w4]; rcases g3 with rfl | rfl <;> rfl) (by rw [w4]; rcases g3 with rfl | rfl <;> rfl) hd (h2 := ab_ui h c0 y v) rfl (hsp.ui g2) hE (fun q hq => ab_E_ui hq) (fun H1 locs1 a1 a2 => goH H1 locs1 a1 a2 k2)
      | z :: z2 :: z3 :: t, hs, hw =>
        have hw : (ab_at z (.fieldLink (ab_my M).cls k (ab_fd x y).1 (ab_fd x y).2.1 (ab_fd x y).2.2.1) && decide (x < 12) && decide (y < ab_nf x) && ab_isR (ab_ty x y) && (!(ab_fd x y).2.2.2 || (decide ((ab_my M).name = "<init>") && decide ((ab_fd x y).1 = (ab_my M).cls)))) = true := hw
        simp only [Bool.and_eq_true, Bool.or_eq_true, decide_eq_true_eq, Bool.not_eq_true'] at hw
        obtain ⟨⟨⟨⟨w1, w2⟩, w3⟩, w4⟩, w5⟩ := hw
        obtain ⟨v, r, rfl, hs5⟩ := abv_pr hs
        obtain ⟨c0, r, rfl, hs6⟩ := abv_pr hs5
        obtain ⟨⟨g1, g2, g3⟩, k2⟩ := abv_gc hs6
        have e1 : ab_cv g (.ref c0) = .ref (ab_B g + c0) := ab_rv_lt g2
        have e2 : ab_cv g (.ref v) = .ref (ab_B g + v) := ab_rv_lt g3
        have hnr : ab_isR (ab_ty x y) = true := w4
        have hE : ab_E g (ab_up h c0 y (some v)) c0 = .inr (x, ((List.range (ab_nf x)).map (fun j => ab_cv g (ab_fv h x c0 j))).set y (.ref (ab_B g + v))) := by
          rw [ab_E_obj (h := ab_up h c0 y (some v)) (show ab_S (ab_up h c0 y (some v)) c0 = .inl x from g1)]
          congr 2
          apply List.ext_getElem?
          intro i
          rw [List.getElem?_set]
          by_cases hi : y = i
          · subst hi
            rw [if_pos rfl, if_pos (by simpa using w3), ab_fs_at w3]
            unfold ab_fv
            rw [hnr]
            simp [ab_up, ab_p, va_up, ab_rf, ab_cv, ab_rv_lt g3]
          · rw [if_neg hi]
            by_cases hi2 : i < ab_nf x
            · rw [ab_fs_at hi2, ab_fs_at hi2]
              congr 2
              unfold ab_fv
              split <;> simp [ab_up, ab_i, ab_p, va_up, Ne.symm hi]
            · rw [List.getElem?_eq_none (by simp; omega), List.getElem?_eq_none (by simp; omega)]
        rw [List.map_cons, List.map_cons, e1, e2]
        exact ab_putf hx hb hown hts hF hnm hS hR w2 w3 (ab_at_in w1) w5 g1 (ab_ret_fits _ _ w4).1 (ab_ret_fits _ _ w4).2 hd (h2 := ab_up h c0 y (some v)) rfl (hsp.up g2) hE (fun q hq => ab_E_up hq) (fun H1 locs1 a1 a2 => goH H1 locs1 a1 a2 k2)
    | new k =>
      obtain rfl : len = 3 := Nat.eq_of_beq_eq_true hlen
      match ts, hs, hw with
      | [], hs, hw => cases hw
      | z :: t, hs, hw =>
        have hw : (ab_at z (.classLink (ab_my M).cls k (ab_cnm x)) && decide (x < 12) && decide (y = ab_nf x)) = true := hw
        simp only [Bool.and_eq_true, decide_eq_true_eq] at hw
        obtain ⟨⟨w1, w2⟩, w3⟩ := hw
        subst w3
        obtain ⟨⟨g1, g2, g3⟩, k2⟩ := abv_gc hs
        obtain ⟨w4, w5⟩ := ab_insE w2
        have hKn := hK.1 x _ (ab_clsE w2)
        refine W.newcK hx hb hown (hts _ (ab_at_in w1)) (hts _ w4) (hts _ w5) rfl hd (by omega) (by omega) hKn.2.1 rfl fun H1 kC hkC e1 z1 o1 => ?_
        have hR2 : ab_Rel g (ab_nw h (.inl x)) H1 := ab_new hR g1 (ab_E_obj (h := ab_nw h (.inl x)) (c := h.1) (ci := x) (by simp [ab_nw, ab_S, va_up])) (by
          refine ⟨_, ab_clsE w2, ?_⟩
          have hb2 := (u_born (ab_ty x) hts (ab_lyE w2) hKn hkC e1 (ab_tyE w2))
          rw [hz] at hb2
          refine hb2.to (fun j hj => ?_)
          show _ = vp_V _ j
          unfold vp_V
          rw [List.getD_eq_getElem?_getD, ab_fs_at hj]
          show defaultValue (ab_ty x j) = ab_cv g (ab_fv (ab_nw h (.inl x)) x h.1 j)
          unfold ab_fv
          have hi := ab_init_ok w2 j hj
          cases ht : ab_isR (ab_ty x j) with
          | true => rw [hi.1 ht]; simp [ab_nw, ab_p, va_up, ab_rf, ab_cv]
          | false => rw [hi.2 ht]; simp [ab_nw, ab_i, va_up, ab_cv]) z1 o1
        have k3 := goH H1 locs (ab_S_put hS hz z1 o1) hR2 k2
        rw [List.map_cons, show ab_cv g (.ref h.1) = .ref (ab_B g + h.1) from ab_rv_lt (by omega), ← hz] at k3
        exact k3
    | newarray a =>
      obtain rfl : len = 2 := Nat.eq_of_beq_eq_true hlen
      obtain ⟨v, r, rfl, hs1⟩ := abv_pi hs
      obtain ⟨⟨g1, g2, g3, g4, g5⟩, k2⟩ := abv_gc hs1
      have hty : (Cond.arrayClass (newarray.typeOf a)).before args s = true ∧ ab_cA g (newarray.typeOf a) = ab_cA g (newarray.typeOf a) ∧ s.vm.findClass ("[" ++ (newarray.typeOf a).toString) = some (ab_cA g (newarray.typeOf a)) ∧ (∀ (hq : ab_H) (c0 n : Nat), ab_S hq c0 = .inr (newarray.typeOf a, n) → vp_cell (ab_cA g (newarray.typeOf a)) (n, match newarray.typeOf a with
        | .long => .inr (.inl (fun _ => 0))
        | _ => .inl (fun _ => 0)) = arrV (ab_cA g (newarray.typeOf a)) n (fun _ => defaultValue (newarray.typeOf a))) ∧ componentBytes (newarray.typeOf a) ≤ 8 := by
        cases a <;> first | (cases hw; done) | skip
        · exact ⟨hts _ (ab_at_in ab_arr_boolean), rfl, (hK.2 2 _ rfl).2, fun _ _ _ _ => rfl, by decide⟩
        · exact ⟨hts _ (ab_at_in ab_arr_byte), rfl, (hK.2 1 _ rfl).2, fun _ _ _ _ => rfl, by decide⟩
        · exact ⟨hts _ (ab_at_in ab_arr_int), rfl, (hK.2 0 _ rfl).2, fun _ _ _ _ => rfl, by decide⟩
        · exact ⟨hts _ (ab_at_in ab_arr_long), rfl, (hK.2 3 _ rfl).2, fun _ _ _ _ => rfl, by decide⟩
      obtain ⟨w1, -, w2, w3, w4⟩ := hty
      refine va_newaK hx hb w1 rfl hd rfl g2 rfl (Nat.le_trans (Nat.mul_le_mul g3 w4) (by decide)) (by omega) (by omega) rfl fun H1 cA2 e1 z1 o1 hAr hNm => ?_
      have hcA : cA2 = ab_cA g (newarray.typeOf a) := Option.some.inj (hNm.symm.trans w2)
      subst hcA
      have hSn : ab_S (ab_nw h (.inr (newarray.typeOf a, v.toNatClampNeg))) h.1 = .inr (newarray.typeOf a, v.toNatClampNeg) := by simp [ab_nw, ab_S, va_up]
      have hE : ab_E g (ab_nw h (.inr (newarray.typeOf a, v.toNatClampNeg))) h.1 = .inl (ab_cA g (newarray.typeOf a), v.toNatClampNeg, match newarray.typeOf a with
        | .long => .inr (.inl (fun _ => 0))
        | _ => .inl (fun _ => 0)) := by
        unfold ab_E
        rw [hSn]
        cases a <;> simp [newarray.typeOf, ab_nw, ab_l, ab_i, va_up]
      have hR2 : ab_Rel g (ab_nw h (.inr (newarray.typeOf a, v.toNatClampNeg))) H1 := ab_new hR g1 hE (by
        show H1[ab_B g + h.1]? = some (vp_cell _ _)
        rw [w3 _ h.1 _ hSn, ← hz]
        exact e1) z1 o1
      have k3 := goH H1 locs (ab_S_put hS hz z1 o1) hR2 k2
      rw [List.map_cons, show ab_cv g (.ref h.1) = .ref (ab_B g + h.1) from ab_rv_lt (by omega), ← hz] at k3
      exact k3
    | arraylength =>
      obtain rfl : len = 1 := Nat.eq_of_beq_eq_true hlen
      obtain ⟨c0, r, rfl, hs1⟩ := abv_pr hs
      cases hsc : ab_S h c0 with
      | inl q =>
        rw [hsc] at hs1
        exact (abv_no hs1).elim
      | inr q =>
        obtain ⟨ty, n⟩ := q
        rw [hsc] at hs1
        obtain ⟨hty, k2⟩ := abv_gc hs1
        have k3 := go k2
        rw [List.map_cons] at k3 ⊢
        rcases ab_inr hsp hsc with hlt | ⟨rfl, rfl, rfl⟩ | ⟨rfl, rfl, rfl⟩ | ⟨rfl, rfl, rfl⟩
        · have e1 : ab_cv g (.ref c0) = .ref (ab_B g + c0) := ab_rv_lt (by omega)
          rw [e1]
          exact ab_alen_row hx hb hK hP hlt hsc hty hd k3
        · exact va_slen hx hb hF.2.2.2.2.2.1 (Nat.lt_of_lt_of_le hF.2.2.2.2.2.2.1 hF.2.2.2.2.2.2.2.2.2.2) (Nat.not_le.mpr hF.2.2.2.2.2.2.1) hS hd k3
        · exact va_tlen hx hb (hF.2.2.2.2.1.1 0 (by decide)).2.2.2 hS rfl hd k3
        · exact va_tlen hx hb (hF.2.2.2.2.1.1 1 (by decide)).2.2.2 hS rfl hd k3
    | iaload =>
      obtain rfl : len = 1 := Nat.eq_of_beq_eq_true hlen
      obtain ⟨j, r, rfl, hs1⟩ := abv_pi hs
      obtain ⟨c0, r, rfl, hs2⟩ := abv_pr hs1
      cases hsc : ab_S h c0 with
      | inl q =>
        rw [hsc] at hs2
        exact (abv_no hs2).elim
      | inr q =>
        obtain ⟨ty, n⟩ := q
        rw [hsc] at hs2
        cases ty with
        | int =>
          obtain ⟨hin, k2⟩ := abv_gc hs2
          have k3 := go k2
          rw [List.map_cons] at k3
          rw [List.map_cons, List.map_cons]
          rcases ab_inr hsp hsc with hlt | ⟨rfl, hty, rfl⟩ | ⟨rfl, hty, rfl⟩ | ⟨rfl, hty, rfl⟩
          · have e1 : ab_cv g (.ref c0) = .ref (ab_B g + c0) := ab_rv_lt (by omega)
            rw [e1]
            exact va_iald hx hb hK hP c0 0 (by rw [ab_ws_at hlt, ab_E_i hsc (by decide)]) rfl hin hd k3
          · rw [(hsp.2.2 1000000 (by decide)).2.1] at k3
            exact va_sld hx hb hF.2.2.2.2.2.1 (Nat.lt_of_lt_of_le hF.2.2.2.2.2.2.1 hF.2.2.2.2.2.2.2.2.2.2) (Nat.not_le.mpr hF.2.2.2.2.2.2.1) hS hin hd k3
          · cases hty
          · cases hty
        | _ => exact (abv_no hs2).elim
    | baload =>
      obtain rfl : len = 1 := Nat.eq_of_beq_eq_true hlen
      obtain ⟨j, r, rfl, hs1⟩ := abv_pi hs
      obtain ⟨c0, r, rfl, hs2⟩ := abv_pr hs1
      cases hsc : ab_S h c0 with
      | inl q =>
        rw [hsc] at hs2
        exact (abv_no hs2).elim
      | inr q =>
        obtain ⟨ty, n⟩ := q
        rw [hsc] at hs2
        cases ty with
        | byte =>
          obtain ⟨hin, k2⟩ := abv_gc hs2
          have k3 := go k2
          rw [List.map_cons] at k3
          rw [List.map_cons, List.map_cons]
          rcases ab_inr hsp hsc with hlt | ⟨rfl, hty, rfl⟩ | ⟨rfl, hty, rfl⟩ | ⟨rfl, hty, rfl⟩
          · have e1 : ab_cv g (.ref c0) = .ref (ab_B g + c0) := ab_rv_lt (by omega)
            rw [e1]
            exact va_bald hx hb hK hP c0 1 (by rw [ab_ws_at hlt, ab_E_i hsc (by decide)]) rfl hin hd k3
          · cases hty
          · rw [(hsp.2.2 1000011 (by decide)).2.1] at k3
            exact va_tb hx hb (hF.2.2.2.2.1.1 0 (by decide)).2.2.2 hS hin rfl hd k3
          · rw [(hsp.2.2 1000012 (by decide)).2.1] at k3
            exact va_tb hx hb (hF.2.2.2.2.1.1 1 (by decide)).2.2.2 hS hin rfl hd k3
        | boolean =>
          obtain ⟨hin, k2⟩ := abv_gc hs2
          have k3 := go k2
          rw [List.map_cons] at k3
          rw [List.map_cons, List.map_cons]
          rcases ab_inr hsp hsc with hlt | ⟨rfl, hty, rfl⟩ | ⟨rfl, hty, rfl⟩ | ⟨rfl, hty, rfl⟩
          · have e1 : ab_cv g (.ref c0) = .ref (ab_B g + c0) := ab_rv_lt (by omega)
            rw [e1]
            exact va_zald hx hb hK hP c0 2 (by rw [ab_ws_at hlt, ab_E_i hsc (by decide)]) rfl hin hd k3
          · cases hty
          · cases hty
          · cases hty
        | _ => exact (abv_no hs2).elim
    | laload =>
      obtain rfl : len = 1 := Nat.eq_of_beq_eq_true hlen
      obtain ⟨j, r, rfl, hs1⟩ := abv_pi hs
      obtain ⟨c0, r, rfl, hs2⟩ := abv_pr hs1
      cases hsc : ab_S h c0 with
      | inl q =>
        rw [hsc] at hs2
        exact (abv_no hs2).elim
      | inr q =>
        obtain ⟨ty, n⟩ := q
        rw [hsc] at hs2
        cases ty with
        | long =>
          obtain ⟨hin, k2⟩ := abv_gc hs2
          have k3 := go k2
          rw [List.map_cons] at k3
          rw [List.map_cons, List.map_cons]
          rcases ab_inr hsp hsc with hlt | ⟨rfl, hty, rfl⟩ | ⟨rfl, hty, rfl⟩ | ⟨rfl, hty, rfl⟩
          · have e1 : ab_cv g (.ref c0) = .ref (ab_B g + c0) := ab_rv_lt (by omega)
            rw [e1]
            exact va_lald hx hb hK hP c0 3 (by rw [ab_ws_at hlt, ab_E_l hsc]) rfl hin hd k3
          · cases hty
          · cases hty
          · cases hty
        | _ => exact (abv_no hs2).elim
    | iastore =>
      obtain rfl : len = 1 := Nat.eq_of_beq_eq_true hlen
      obtain ⟨v, r, rfl, hs1⟩ := abv_pi hs
      obtain ⟨j, r, rfl, hs2⟩ := abv_pi hs1
      obtain ⟨c0, r, rfl, hs3⟩ := abv_pr hs2
      cases hsc : ab_S h c0 with
      | inl q =>
        rw [hsc] at hs3
        exact (abv_no hs3).elim
      | inr q =>
        obtain ⟨ty, n⟩ := q
        rw [hsc] at hs3
        cases ty with
        | int =>
          obtain ⟨⟨g2, hin⟩, k2⟩ := abv_gc hs3
          have hlt : c0 < h.1 := by
            rcases ab_inr hsp hsc with q | ⟨rfl, -⟩ | ⟨rfl, -⟩ | ⟨rfl, -⟩
            · exact q
            all_goals omega
          have e1 : ab_cv g (.ref c0) = .ref (ab_B g + c0) := ab_rv_lt g2
          rw [List.map_cons, List.map_cons, List.map_cons, e1]
          exact W.iast hx hb (show H[ab_B g + c0]? = some (vp_cell _ _) from hP c0 (ab_B g + c0, .inl (ab_cA g .int, n, .inl (ab_i h c0))) (by rw [ab_ws_at hlt, ab_E_i hsc (by decide)])) ((hK.2 0 _ rfl).1 n (fun j => .int (ab_i h c0 j))) (fun q => by cases q) (by show ¬ (j < 0 ∨ (arrV _ _ _).slots.size ≤ _); rw [arrV_size]; exact hin) rfl rfl hd fun H1 a1 a2 a3 => goH H1 _ (hS.put a2 a3 (Nat.le_add_right _ _)) (ab_ast hR hlt hsc (by decide) a1 a2 a3) k2
        | _ => exact (abv_no hs3).elim
    | bastore =>
      obtain rfl : len = 1 := Nat.eq_of_beq_eq_true hlen
      obtain ⟨v, r, rfl, hs1⟩ := abv_pi hs
      obtain ⟨j, r, rfl, hs2⟩ := abv_pi hs1
      obtain ⟨c0, r, rfl, hs3⟩ := abv_pr hs2
      cases hsc : ab_S h c0 with
      | inl q =>
        rw [hsc] at hs3
        exact (abv_no hs3).elim
      | inr q =>
        obtain ⟨ty, n⟩ := q
        rw [hsc] at hs3
        cases ty with
        | byte =>
          obtain ⟨⟨g2, hin⟩, k2⟩ := abv_gc hs3
          have hlt : c0 < h.1 := by
            rcases ab_inr hsp hsc with q | ⟨rfl, -⟩ | ⟨rfl, -⟩ | ⟨rfl, -⟩
            · exact q
            all_goals omega
          have e1 : ab_cv g (.ref c0) = .ref (ab_B g + c0) := ab_rv_lt g2
          rw [List.map_cons, List.map_cons, List.map_cons, e1]
          exact W.bast hx hb (show H[ab_B g + c0]? = some (vp_cell _ _) from hP c0 (ab_B g + c0, .inl (ab_cA g .byte, n, .inl (ab_i h c0))) (by rw [ab_ws_at hlt, ab_E_i hsc (by decide)])) ((hK.2 1 _ rfl).1 n (fun j => .int (ab_i h c0 j))) (fun q => by cases q) (by show ¬ (j < 0 ∨ (arrV _ _ _).slots.size ≤ _); rw [arrV_size]; exact hin) rfl rfl hd fun H1 a1 a2 a3 => goH H1 _ (hS.put a2 a3 (Nat.le_add_right _ _)) (ab_ast hR hlt hsc (by decide) a1 a2 a3) k2
        | boolean =>
          obtain ⟨⟨g2, hin⟩, k2⟩ := abv_gc hs3
          have hlt : c0 < h.1 := by
            rcases ab_inr hsp hsc with q | ⟨rfl, -⟩ | ⟨rfl, -⟩ | ⟨rfl, -⟩
            · exact q
            all_goals omega
          have e1 : ab_cv g (.ref c0) = .ref (ab_B g + c0) := ab_rv_lt g2
          rw [List.map_cons, List.map_cons, List.map_cons, e1]
          exact W.zast hx hb (show H[ab_B g + c0]? = some (vp_cell _ _) from hP c0 (ab_B g + c0, .inl (ab_cA g .boolean, n, .inl (ab_i h c0))) (by rw [ab_ws_at hlt, ab_E_i hsc (by decide)])) ((hK.2 2 _ rfl).1 n (fun j => .int (ab_i h c0 j))) (fun q => by cases q) (by show ¬ (j < 0 ∨ (arrV _ _ _).slots.size ≤ _); rw [arrV_size]; exact hin) rfl rfl hd fun H1 a1 a2 a3 => goH H1 _ (hS.put a2 a3 (Nat.le_add_right _ _)) (ab_ast hR hlt hsc (by decide) a1 a2 a3) k2
        | _ => exact (abv_no hs3).elim
    | lastore =>
      obtain rfl : len = 1 := Nat.eq_of_beq_eq_true hlen
      obtain ⟨v, r, rfl, hs1⟩ := abv_pl hs
      obtain ⟨j, r, rfl, hs2⟩ := abv_pi hs1
      obtain ⟨c0, r, rfl, hs3⟩ := abv_pr hs2
      cases hsc : ab_S h c0 with
      | inl q =>
        rw [hsc] at hs3
        exact (abv_no hs3).elim
      | inr q =>
        obtain ⟨ty, n⟩ := q
        rw [hsc] at hs3
        cases ty with
        | long =>
          obtain ⟨⟨g2, hin⟩, k2⟩ := abv_gc hs3
          have hlt : c0 < h.1 := by
            rcases ab_inr hsp hsc with q | ⟨rfl, -⟩ | ⟨rfl, -⟩ | ⟨rfl, -⟩
            · exact q
            all_goals omega
          have e1 : ab_cv g (.ref c0) = .ref (ab_B g + c0) := ab_rv_lt g2
          rw [List.map_cons, List.map_cons, List.map_cons, e1]
          exact W.last hx hb (show H[ab_B g + c0]? = some (vp_cell _ _) from hP c0 (ab_B g + c0, .inl (ab_cA g .long, n, .inr (.inl (ab_l h c0)))) (by rw [ab_ws_at hlt, ab_E_l hsc])) ((hK.2 3 _ rfl).1 n (fun j => .long (ab_l h c0 j))) (fun q => by cases q) (by show ¬ (j < 0 ∨ (arrV _ _ _).slots.size ≤ _); rw [arrV_size]; exact hin) rfl rfl hd fun H1 a1 a2 a3 => goH H1 _ (hS.put a2 a3 (Nat.le_add_right _ _)) (ab_astl hR hlt hsc a1 a2 a3) k2
        | _ => exact (abv_no hs3).elim
    | iadd =>
      obtain rfl : len = 1 := Nat.eq_of_beq_eq_true hlen
      obtain ⟨b, r, rfl, hs1⟩ := abv_pi hs
      obtain ⟨a, r, rfl, hs2⟩ := abv_pi hs1
      exact lv_iadd hx hb hd (go (abv_go hs2))
    | isub =>
      obtain rfl : len = 1 := Nat.eq_of_beq_eq_true hlen
      obtain ⟨b, r, rfl, hs1⟩ := abv_pi hs
      obtain ⟨a, r, rfl, hs2⟩ := abv_pi hs1
      exact lv_isub hx hb hd (go (abv_go hs2))
    | imul =>
      obtain rfl : len = 1 := Nat.eq_of_beq_eq_true hlen
      obtain ⟨b, r, rfl, hs1⟩ := abv_pi hs
      obtain ⟨a, r, rfl, hs2⟩ := abv_pi hs1
      exact lv_imul hx hb hd (go (abv_go hs2))
    | iand =>
      obtain rfl : len = 1 := Nat.eq_of_beq_eq_true hlen
      obtain ⟨b, r, rfl, hs1⟩ := abv_pi hs
      obtain ⟨a, r, rfl, hs2⟩ := abv_pi hs1
      exact lv_iand hx hb hd (go (abv_go hs2))
    | ior =>
      obtain rfl : len = 1 := Nat.eq_of_beq_eq_true hlen
      obtain ⟨b, r, rfl, hs1⟩ := abv_pi hs
      obtain ⟨a, r, rfl, hs2⟩ := abv_pi hs1
      exact lv_ior hx hb hd (go (abv_go hs2))
    | ixor =>
      obtain rfl : len = 1 := Nat.eq_of_beq_eq_true hlen
      obtain ⟨b, r, rfl, hs1⟩ := abv_pi hs
      obtain ⟨a, r, rfl, hs2⟩ := abv_pi hs1
      exact lv_ixor hx hb hd (go (abv_go hs2))
    | ishl =>
      obtain rfl : len = 1 := Nat.eq_of_beq_eq_true hlen
      obtain ⟨b, r, rfl, hs1⟩ := abv_pi hs
      obtain ⟨a, r, rfl, hs2⟩ := abv_pi hs1
      exact lv_ishl hx hb hd (go (abv_go hs2))
    | ishr =>
      obtain rfl : len = 1 := Nat.eq_of_beq_eq_true hlen
      obtain ⟨b, r, rfl, hs1⟩ := abv_pi hs
      obtain ⟨a, r, rfl, hs2⟩ := abv_pi hs1
      exact lv_ishr hx hb hd (go (abv_go hs2))
    | iushr =>
      obtain rfl : len = 1 := Nat.eq_of_beq_eq_true hlen
      obtain ⟨b, r, rfl, hs1⟩ := abv_pi hs
      obtain ⟨a, r, rfl, hs2⟩ := abv_pi hs1
      exact lv_iushr hx hb hd rfl (go (abv_go hs2))
    | idiv =>
      obtain rfl : len = 1 := Nat.eq_of_beq_eq_true hlen
      obtain ⟨b, r, rfl, hs1⟩ := abv_pi hs
      obtain ⟨a, r, rfl, hs2⟩ := abv_pi hs1
      obtain ⟨hne, k⟩ := abv_gc hs2
      exact lv_idiv hx hb hd hne (go k)
    | irem =>
      obtain rfl : len = 1 := Nat.eq_of_beq_eq_true hlen
      obtain ⟨b, r, rfl, hs1⟩ := abv_pi hs
      obtain ⟨a, r, rfl, hs2⟩ := abv_pi hs1
      obtain ⟨hne, k⟩ := abv_gc hs2
      exact lv_irem hx hb hd hne (go k)
    | ladd =>
      obtain rfl : len = 1 := Nat.eq_of_beq_eq_true hlen
      obtain ⟨b, r, rfl, hs1⟩ := abv_pl hs
      obtain ⟨a, r, rfl, hs2⟩ := abv_pl hs1
      exact lv_ladd hx hb hd (go (abv_go hs2))
    | lmul =>
      obtain rfl : len = 1 := Nat.eq_of_beq_eq_true hlen
      obtain ⟨b, r, rfl, hs1⟩ := abv_pl hs
      obtain ⟨a, r, rfl, hs2⟩ := abv_pl hs1
      exact lv_lmul hx hb hd (go (abv_go hs2))
    | ldiv =>
      obtain rfl : len = 1 := Nat.eq_of_beq_eq_true hlen
      obtain ⟨b, r, rfl, hs1⟩ := abv_pl hs
      obtain ⟨a, r, rfl, hs2⟩ := abv_pl hs1
      obtain ⟨hne, k⟩ := abv_gc hs2
      exact lv_ldiv hx hb hd hne (go k)
    | lrem =>
      obtain rfl : len = 1 := Nat.eq_of_beq_eq_true hlen
      obtain ⟨b, r, rfl, hs1⟩ := abv_pl hs
      obtain ⟨a, r, rfl, hs2⟩ := abv_pl hs1
      obtain ⟨hne, k⟩ := abv_gc hs2
      exact lv_lrem hx hb hd hne (go k)
    | lcmp =>
      obtain rfl : len = 1 := Nat.eq_of_beq_eq_true hlen
      obtain ⟨b, r, rfl, hs1⟩ := abv_pl hs
      obtain ⟨a, r, rfl, hs2⟩ := abv_pl hs1
      exact W.lcmp hx hb hd (go (abv_go hs2))
    | i2l =>
      obtain rfl : len = 1 := Nat.eq_of_beq_eq_true hlen
      obtain ⟨a, r, rfl, hs1⟩ := abv_pi hs
      exact lv_i2l hx hb hd rfl (go (abv_go hs1))
    | l2i =>
      obtain rfl : len = 1 := Nat.eq_of_beq_eq_true hlen
      obtain ⟨a, r, rfl, hs1⟩ := abv_pl hs
      exact lv_l2i hx hb hd rfl (go (abv_go hs1))
    | i2b =>
      obtain rfl : len = 1 := Nat.eq_of_beq_eq_true hlen
      obtain ⟨a, r, rfl, hs1⟩ := abv_pi hs
      exact lv_i2b hx hb hd rfl (go (abv_go hs1))
    | i2c =>
      obtain rfl : len = 1 := Nat.eq_of_beq_eq_true hlen
      obtain ⟨a, r, rfl, hs1⟩ := abv_pi hs
      exact lv_i2c hx hb hd rfl (go (abv_go hs1))
    | ifCond cnd off =>
      obtain rfl : len = 3 := Nat.eq_of_beq_eq_true hlen
      obtain ⟨a, r, rfl, hs1⟩ := abv_pi hs
      obtain ⟨k1, k2⟩ := abv_br hs1
      have ht : (pc : Int) + off = (x : Int) := by simpa using hw
      cases cnd with
      | eq => exact lv_if_eq hx hb hd ht (fun q => go (k1 q)) (fun q => go (k2 q))
      | ne => exact lv_if_ne hx hb hd ht (fun q => go (k1 q)) (fun q => go (k2 (fun z => z q)))
      | lt => exact lv_if_lt hx hb hd ht (fun q => go (k1 q)) (fun q => go (k2 q))
      | ge => exact lv_if_ge hx hb hd ht (fun q => go (k1 q)) (fun q => go (k2 q))
      | gt => exact lv_if_gt hx hb hd ht (fun q => go (k1 q)) (fun q => go (k2 q))
      | le => exact lv_if_le hx hb hd ht (fun q => go (k1 q)) (fun q => go (k2 q))
    | if_icmp cnd off =>
      obtain rfl : len = 3 := Nat.eq_of_beq_eq_true hlen
      obtain ⟨b, r, rfl, hs1⟩ := abv_pi hs
      obtain ⟨a, r, rfl, hs2⟩ := abv_pi hs1
      obtain ⟨k1, k2⟩ := abv_br hs2
      have ht : (pc : Int) + off = (x : Int) := by simpa using hw
      cases cnd with
      | eq => exact lv_icmp_eq hx hb hd ht (fun q => go (k1 q)) (fun q => go (k2 q))
      | ne => exact lv_icmp_ne hx hb hd ht (fun q => go (k1 q)) (fun q => go (k2 (fun z => z q)))
      | lt => exact lv_icmp_lt hx hb hd ht (fun q => go (k1 q)) (fun q => go (k2 q))
      | ge => exact lv_icmp_ge hx hb hd ht (fun q => go (k1 q)) (fun q => go (k2 q))
      | gt => exact lv_icmp_gt hx hb hd ht (fun q => go (k1 q)) (fun q => go (k2 q))
      | le => exact lv_icmp_le hx hb hd ht (fun q => go (k1 q)) (fun q => go (k2 q))
    | goto off =>
      obtain rfl : len = 3 := Nat.eq_of_beq_eq_true hlen
      have ht : (pc : Int) + off = (x : Int) := by simpa using hw
      exact lv_goto hx hb hd ht (go (abv_go hs))
    | tableswitch dflt lo hi offs =>
      obtain ⟨a, r, rfl, hs1⟩ := abv_pi hs
      have hlen : (decide ((pc : Int) + dflt = (x : Int)) && decide (offs.toList.map (fun o => (pc : Int) + o) = ts.map Int.ofNat) && decide (hi + 1 = lo + (ts.length : Int))) = true := hlen
      simp only [Bool.and_eq_true, decide_eq_true_eq] at hlen
      obtain ⟨⟨t1, t2⟩, t3⟩ := hlen
      by_cases hout : a.toInt < lo ∨ hi < a.toInt
      · exact lv_tableOut hx hb hd hout t1 (go (hs1.2 _ List.mem_cons_self hout))
      · have hj : (a.toInt - lo).toNat < ts.length := by omega
        have ho : offs.toList.length = ts.length := by have := congrArg List.length t2; simpa using this
        have hol : (a.toInt - lo).toNat < offs.toList.length := by omega
        have e1 := congrArg (fun q => q[(a.toInt - lo).toNat]?) t2
        simp only [List.getElem?_map, List.getElem?_eq_getElem hol, List.getElem?_eq_getElem hj, Option.map_some, Option.some.injEq] at e1
        refine lv_tableIn hx hb hd (fun q => hout (Or.inl q)) (fun q => hout (Or.inr q)) (off := offs.toList[(a.toInt - lo).toNat]) (by rw [← Array.getElem?_toList, List.getElem?_eq_getElem hol]) (tgt := ts[(a.toInt - lo).toNat]) e1 (go ?_)
        refine hs1.2 _ (List.mem_cons_of_mem _ (ab_sw_mem a lo L r h cs sl ts 0 (a.toInt - lo).toNat hj)) ?_
        show a.toInt = lo + _
        omega
    | dup =>
      obtain rfl : len = 1 := Nat.eq_of_beq_eq_true hlen
      match st, hs with
      | [], hs => exact (abv_no hs).elim
      | v :: r, hs =>
        obtain ⟨g1, k⟩ := abv_gc hs
        exact lv_dup hx hb hd (by rw [ab_cv_cat hvf]; exact g1) (go k)
    | dup2 =>
      obtain rfl : len = 1 := Nat.eq_of_beq_eq_true hlen
      match st, hs with
      | [], hs => exact (abv_no hs).elim
      | [_], hs => exact (abv_no hs).elim
      | v :: w :: r, hs =>
        obtain ⟨⟨g1, g2⟩, k⟩ := abv_gc hs
        exact lv_dup2_11 hx hb hd (by rw [ab_cv_cat hvf]; exact g1) (by rw [ab_cv_cat hvf]; exact g2) (go k)
    | pop =>
      obtain rfl : len = 1 := Nat.eq_of_beq_eq_true hlen
      match st, hs with
      | [], hs => exact (abv_no hs).elim
      | v :: r, hs =>
        obtain ⟨g1, k⟩ := abv_gc hs
        exact lv_pop hx hb hd (by rw [ab_cv_cat hvf]; exact g1) (go k)
    | invokestatic k =>
      obtain rfl : len = 3 := Nat.eq_of_beq_eq_true hlen
      match ts, hs, hw with
      | [], hs, hw => exact (abv_no hs).elim
      | [z], hs, hw => exact (abv_no hs).elim
      | z :: n :: t, hs, hw =>
        obtain ⟨⟨g1, g2⟩, mc, ms, g3, g4, g5⟩ := hs
        obtain ⟨d2, M2, rfl, m1, rfl, rfl, m5, m6⟩ := hC _ _ _ _ _ _ g5
        have m1 : ab_MT[x]? = some M2 := m1
        rw [m1] at hw
        have hl : (Cond.methodLink (ab_my M).cls k (ab_my M2) ∈ ab_TB ∨ Cond.methodLinkNest (ab_my M).cls k (ab_my M2) "SaintTheft" ∈ lw_tbl) ∧ ab_pn (ab_my M2) n = true ∧ ab_mk M2 = 0 := by
          match t, hw with
          | [], hw =>
            have hw : (ab_at z (.methodLink (ab_my M).cls k (ab_my M2)) && ab_pn (ab_my M2) n && Nat.beq (ab_mk M2) 0) = true := hw
            simp only [Bool.and_eq_true] at hw
            exact ⟨Or.inl (ab_at_in hw.1.1), hw.1.2, Nat.eq_of_beq_eq_true hw.2⟩
          | _ :: _, hw =>
            have hw : (ab_atN z (.methodLinkNest (ab_my M).cls k (ab_my M2) "SaintTheft") && ab_pn (ab_my M2) n && Nat.beq (ab_mk M2) 0) = true := hw
            simp only [Bool.and_eq_true] at hw
            exact ⟨Or.inr (ab_atN_in hw.1.1), hw.1.2, Nat.eq_of_beq_eq_true hw.2⟩
        rcases m6 with ⟨m2, m6⟩ | ⟨m2, m6⟩
        · exact ab_callS hX hS hR hL.1 m2 hl.2.2 hl.1 hl.2.1 hd g1 g2 m5 g3 g4 m6 (fun r h2 H1 locs1 a1 a2 a3 => a1 p e R s m args below meth c H1 locs1 ls Qw hX a3 a2 hL hQ)
        · exact ab_callM hX hS hR hL.1 m2 hl.1 hl.2.1 hd g1 g2 m5 g3 g4 m6 (fun r h2 H1 locs1 a1 a2 a3 => a1 p e R s m args below meth c H1 locs1 ls Qw hX a3 a2 hL hQ)
    | invokevirtual k =>
      obtain rfl : len = 3 := Nat.eq_of_beq_eq_true hlen
      match ts, hs, hw with
      | [], hs, hw => exact (abv_no hs).elim
      | [z], hs, hw => exact (abv_no hs).elim
      | z :: n :: t, hs, hw =>
        have hs2 : ab_all C M Q h cs sl (ab_Snd g l d M Q) (match st.drop n with
          | .ref c :: r => .inr (.inl ((n ≤ st.length ∧ ab_S h c = .inl y ∧ (r.map fun v => v.category).sum ≤ 8), x, .ref c :: (st.take n).reverse, fun mc ms v h => (pc + 3, L, v.toList ++ r, h, cs + mc, sl + ms)))
          | _ => ab_no) := hs
        match hdr : st.drop n, hs2 with
        | .ref b :: rest, hs2 =>
          obtain ⟨⟨g1, g0, g2⟩, mc, ms, g3, g4, g5⟩ := hs2
          obtain ⟨d2, M2, rfl, m1, rfl, rfl, m5, m6⟩ := hC _ _ _ _ _ _ g5
          have m1 : ab_MT[x]? = some M2 := m1
          rw [m1] at hw
          match t, hw with
          | [], hw =>
            have hw : (ab_at z (.methodLink (ab_my M).cls k (ab_my M2)) && ab_pn (ab_my M2) n && Nat.beq (ab_mk M2) 1 && decide (ab_cnm y = (ab_my M2).cls) && (decide (y < 12) || decide (y = 90))) = true := hw
            simp only [Bool.and_eq_true, Bool.or_eq_true, decide_eq_true_eq] at hw
            rcases m6 with ⟨m2, m6⟩ | ⟨m2, m6⟩
            case inr => exact absurd ((ab_mth_cls m2).2.1.symm.trans (Nat.eq_of_beq_eq_true hw.1.1.2)) (by decide)
            exact ab_callV hX hS hR hL.1 m2 (Nat.eq_of_beq_eq_true hw.1.1.2) (ab_at_in hw.1.1.1.1) hw.1.1.1.2 hd hw.2 hw.1.2 g0 (by simp; omega) (by rw [List.reverse_reverse, ← hdr, List.take_append_drop]) g2 m5 g3 g4 m6 (fun r h2 H1 locs1 a1 a2 a3 => a1 p e R s m args below meth c H1 locs1 ls Qw hX a3 a2 hL hQ)
        | [], hs2 => exact (abv_no hs2).elim
        | .int _ :: _, hs2 => exact (abv_no hs2).elim
        | .long _ :: _, hs2 => exact (abv_no hs2).elim
        | .float _ :: _, hs2 => exact (abv_no hs2).elim
        | .double _ :: _, hs2 => exact (abv_no hs2).elim
        | .null :: _, hs2 => exact (abv_no hs2).elim
        | .retAddr _ :: _, hs2 => exact (abv_no hs2).elim
    | invokespecial k =>
      obtain rfl : len = 3 := Nat.eq_of_beq_eq_true hlen
      match ts, hs, hw with
      | [], hs, hw => cases hw
      | [z], hs, hw =>
        obtain ⟨b, r, rfl, hs1⟩ := abv_pr hs
        obtain ⟨⟨g1, g2⟩, k2⟩ := abv_gc hs1
        have e1 : ab_cv g (.ref b) = .ref (ab_B g + b) := ab_rv_lt g1
        rw [List.map_cons, e1]
        have hsum := g2
        rw [← ab_cats hvf] at hsum
        exact W.objInit hx hb hown (hts _ (ab_at_in hw)) (hts _ (ab_at_in ab_obj0.1)) (hts _ (ab_at_in ab_obj0.2)) rfl (hL.1.trans hml.symm) rfl hd (by omega) (by show 2 * 0 + _ + 12 ≤ _; omega) (go k2)
      | z :: n :: t, hs, hw =>
        have hs2 : ab_all C M Q h cs sl (ab_Snd g l d M Q) (match st.drop n with
          | .ref c :: r => .inr (.inl ((n ≤ st.length ∧ c < 1000000 ∧ (r.map fun v => v.category).sum ≤ 8), x, .ref c :: (st.take n).reverse, fun mc ms v h => (pc + 3, L, v.toList ++ r, h, cs + mc, sl + ms)))
          | _ => ab_no) := hs
        match hdr : st.drop n, hs2 with
        | .ref b :: rest, hs2 =>
          obtain ⟨⟨g1, g0, g2⟩, mc, ms, g3, g4, g5⟩ := hs2
          obtain ⟨d2, M2, rfl, m1, rfl, rfl, m5, m6⟩ := hC _ _ _ _ _ _ g5
          have m1 : ab_MT[x]? = some M2 := m1
          rw [m1] at hw
          have hl : (Cond.methodLink (ab_my M).cls k (ab_my M2) ∈ ab_TB ∨ Cond.methodLinkNest (ab_my M).cls k (ab_my M2) "SaintTheft" ∈ lw_tbl) ∧ ab_pn (ab_my M2) n = true ∧ ab_mk M2 = 2 := by
            match t, hw with
            | [], hw =>
              have hw : (ab_at z (.methodLink (ab_my M).cls k (ab_my M2)) && ab_pn (ab_my M2) n && Nat.beq (ab_mk M2) 2) = true := hw
              simp only [Bool.and_eq_true] at hw
              exact ⟨Or.inl (ab_at_in hw.1.1), hw.1.2, Nat.eq_of_beq_eq_true hw.2⟩
            | _ :: _, hw =>
              have hw : (ab_atN z (.methodLinkNest (ab_my M).cls k (ab_my M2) "SaintTheft") && ab_pn (ab_my M2) n && Nat.beq (ab_mk M2) 2) = true := hw
              simp only [Bool.and_eq_true] at hw
              exact ⟨Or.inr (ab_atN_in hw.1.1), hw.1.2, Nat.eq_of_beq_eq_true hw.2⟩
          rcases m6 with ⟨m2, m6⟩ | ⟨m2, m6⟩
          case inr => exact absurd ((ab_mth_cls m2).2.1.symm.trans hl.2.2) (by decide)
          exact ab_callI hX hS hR hL.1 m2 hl.2.2 hl.1 hl.2.1 hd (by simp; omega) (by rw [List.reverse_reverse, ← hdr, List.take_append_drop]) g0 g2 m5 g3 g4 m6 (fun r h2 H1 locs1 a1 a2 a3 => a1 p e R s m args below meth c H1 locs1 ls Qw hX a3 a2 hL hQ)
        | [], hs2 => exact (abv_no hs2).elim
        | .int _ :: _, hs2 => exact (abv_no hs2).elim
        | .long _ :: _, hs2 => exact (abv_no hs2).elim
        | .float _ :: _, hs2 => exact (abv_no hs2).elim
        | .double _ :: _, hs2 => exact (abv_no hs2).elim
        | .null :: _, hs2 => exact (abv_no hs2).elim
        | .retAddr _ :: _, hs2 => exact (abv_no hs2).elim
    | ireturn =>
      obtain rfl : len = 1 := Nat.eq_of_beq_eq_true hlen
      dsimp only at hs
      split at hs
      · split at hs
        · rename_i v q ty hmr
          exact hQ pc ls H locs (some (.int v)) h cs sl ⟨hd, ty, hmr, hs.1.1⟩ hs.1.2.1 hs.1.2.2 hS hR hs.2
        · exact (abv_no hs).elim
      · exact (abv_no hs).elim
    | lreturn =>
      obtain rfl : len = 1 := Nat.eq_of_beq_eq_true hlen
      dsimp only at hs
      split at hs
      · split at hs
        · rename_i v q hmr
          exact hQ pc ls H locs (some (.long v)) h cs sl ⟨hd, hmr⟩ hs.1.1 hs.1.2 hS hR hs.2
        · exact (abv_no hs).elim
      · exact (abv_no hs).elim
    | areturn =>
      obtain rfl : len = 1 := Nat.eq_of_beq_eq_true hlen
      dsimp only at hs
      split at hs
      · split at hs
        · rename_i v q nn hmr
          exact hQ pc ls H locs (some (.ref v)) h cs sl ⟨hd, hs.1.1, nn, hmr⟩ hs.1.2.1 hs.1.2.2 hS hR hs.2
        · exact (abv_no hs).elim
      · exact (abv_no hs).elim
    | return_ =>
      obtain rfl : len = 1 := Nat.eq_of_beq_eq_true hlen
      dsimp only at hs
      split at hs
      · split at hs
        · rename_i hmr
          exact hQ pc ls H locs none h cs sl ⟨hd, hmr⟩ hs.1.1 hs.1.2 hS hR hs.2
        · exact (abv_no hs).elim
      · exact (abv_no hs).elim
    | _ => exact (abv_no hs).elim
set_option maxHeartbeats 4000000 in
/-- the machine does what the abstract machine does -/
theorem ab_sound {g : ab_W} {l : Launch} : ∀ (d : Nat) (M : ab_M) (Q : ab_Q) (t : ab_T), (ab_mo M).all (ab_ce M) = true → ab_lfp (ab_call ab_MT d) M Q t → ab_Snd g l d M Q t := by
  intro d
  induction d with
  | zero =>
    intro M Q t hce hl
    exact hl (ab_Snd g l 0 M Q) (ab_step_snd hce (fun _ _ _ _ _ _ h => h.elim))
  | succ d ih =>
    intro M Q t hce hl
    refine hl (ab_Snd g l (d + 1) M Q) (ab_step_snd hce (fun k As h mc ms Q2 hc => ?_))
    obtain ⟨M2, h1, h2, h3, h4, h5⟩ := hc
    refine ⟨d, M2, rfl, h1, h2, h3, h4, ?_⟩
    rcases ab_okT M2 (List.mem_of_getElem? h1) with hm | hm
    · exact Or.inl ⟨hm, ih M2 Q2 _ (ab_words hm).2.2.2.2.2.2.2.2 h5⟩
    · exact Or.inr ⟨hm, h5⟩

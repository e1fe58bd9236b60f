/-! the law: its loop, its start -/
theorem LI.skip {xs : Nat → Int32} {t lv n : Nat} {s : gs} {I : Nat → Nat → Int32} {G : Nat → Nat → Int64} (H : LI xs t lv n s I G) : LI xs t lv (n + 1) s I G := ⟨H.1, H.2.1, H.2.2.1, H.2.2.2.1.up, H.2.2.2.2⟩
set_option maxRecDepth 100000 in
set_option maxHeartbeats 8000000 in
theorem law_lp {Lx : Nat} {xs : Nat → Int32} (hLx : Lx ≤ 3072) : ∀ (m n t rt lv : Nat) (s : gs) (I : Nat → Nat → Int32) (G : Nat → Nat → Int64), 6 * n ≤ Lx → Lx - 6 * n < m → LI xs t lv n s I G → WP 100 mL_law (fun r _ => r = some (.int 1)) 18 [some (.ref 1000000), some (.ref 0), some (.ref 55), some (.int (nI (6 * n)))] [] (hp Lx t rt t I G) 99 19447 := by
  intro m
  induction m with
  | zero => intro n t rt lv s I G h1 h2; omega
  | succ m ih =>
    intro n t rt lv s I G h1 h2 H
    have hs := H.2.2.2.2.2.2
    have hx : ∀ k, I 1000000 k = xs k := fun k => by rw [hs 1000000 (by decide)]; rfl
    by_cases h6 : 6 * n + 6 ≤ Lx
    · have nxt : ∀ t2 rt2 lv2 s2 I2 G2, LI xs t2 lv2 (n + 1) s2 I2 G2 → WP 100 mL_law (fun r _ => r = some (.int 1)) 1470 [some (.ref 1000000), some (.ref 0), some (.ref 55), some (.int (nI (6 * n)))] [] (hp Lx t2 rt2 t2 I2 G2) 99 19447 := by
        intro t2 rt2 lv2 s2 I2 G2 H2
        refine wn_iinc (m := 6) (L2 := [_, _, _, _]) rfl (e := 1473) rfl rfl (by decide) rfl ?_
        refine wx_goto rfl ?_
        rw [show 6 * n + 6 = 6 * (n + 1) by omega]
        exact ih (n + 1) t2 rt2 lv2 s2 I2 G2 (by omega) (by omega) H2
      refine wx_iload_n rfl (e := 19) rfl rfl ?_
      refine wx_aload_n rfl (e := 20) rfl rfl ?_
      refine wx_alen (v := nI Lx) rfl (e := 21) rfl rfl (by decide) rfl ?_
      refine wx_bipush (v := (nI 6)) rfl (e := 23) rfl (by decide) ?_
      refine wn_isub rfl (e := 24) rfl (by omega) ?_
      refine wn_ic_gt rfl (e := 27) rfl (by omega) (by omega) (fun c_24 => absurd c_24 (by omega)) (fun c_24 => ?_)
      refine wx_aload_n rfl (e := 28) rfl rfl ?_
      refine wx_iload_n rfl (e := 29) rfl rfl ?_
      refine wn_iald rfl (e := 30) rfl rfl (by omega) (by omega) ?_
      rw [hx]
      refine wx_bipush (v := (nI 63)) rfl (e := 32) rfl (by decide) ?_
      refine wx_iand rfl (e := 33) rfl ?_
      refine wx_sw rfl (fun c_33 => ?_) (List.forall_mem_cons.mpr ⟨fun c_33 => ?_, (List.forall_mem_cons.mpr ⟨fun c_33 => ?_, (List.forall_mem_cons.mpr ⟨fun c_33 => ?_, (List.forall_mem_cons.mpr ⟨fun c_33 => ?_, (List.forall_mem_cons.mpr ⟨fun c_33 => ?_, (List.forall_mem_cons.mpr ⟨fun c_33 => ?_, (List.forall_mem_cons.mpr ⟨fun c_33 => ?_, (List.forall_mem_cons.mpr ⟨fun c_33 => ?_, (List.forall_mem_cons.mpr ⟨fun c_33 => ?_, (List.forall_mem_cons.mpr ⟨fun c_33 => ?_, (List.forall_mem_cons.mpr ⟨fun c_33 => ?_, (List.forall_mem_cons.mpr ⟨fun c_33 => ?_, (List.forall_mem_cons.mpr ⟨fun c_33 => ?_, (List.forall_mem_cons.mpr ⟨fun c_33 => ?_, (List.forall_mem_cons.mpr ⟨fun c_33 => ?_, (List.forall_mem_cons.mpr ⟨fun c_33 => ?_, (List.forall_mem_cons.mpr ⟨fun c_33 => ?_, (List.forall_mem_cons.mpr ⟨fun c_33 => ?_, (List.forall_mem_cons.mpr ⟨fun c_33 => ?_, (List.forall_mem_cons.mpr ⟨fun c_33 => ?_, (List.forall_mem_cons.mpr ⟨fun c_33 => ?_, (List.forall_mem_cons.mpr ⟨fun c_33 => ?_, (List.forall_mem_cons.mpr ⟨fun c_33 => ?_, (List.forall_mem_cons.mpr ⟨fun c_33 => ?_, (List.forall_mem_cons.mpr ⟨fun c_33 => ?_, (List.forall_mem_cons.mpr ⟨fun c_33 => ?_, (List.forall_mem_cons.mpr ⟨fun c_33 => ?_, (List.forall_mem_cons.mpr ⟨fun c_33 => ?_, (List.forall_mem_cons.mpr ⟨fun c_33 => ?_, (List.forall_mem_cons.mpr ⟨fun c_33 => ?_, (List.forall_mem_cons.mpr ⟨fun c_33 => ?_, (List.forall_mem_cons.mpr ⟨fun c_33 => ?_, (List.forall_mem_cons.mpr ⟨fun c_33 => ?_, (List.forall_mem_cons.mpr ⟨fun c_33 => ?_, (List.forall_mem_cons.mpr ⟨fun c_33 => ?_, (List.forall_mem_cons.mpr ⟨fun c_33 => ?_, (List.forall_mem_cons.mpr ⟨fun c_33 => ?_, (List.forall_mem_cons.mpr ⟨fun c_33 => ?_, (List.forall_mem_cons.mpr ⟨fun c_33 => ?_, (List.forall_mem_cons.mpr ⟨fun c_33 => ?_, (fun _ h => absurd h List.not_mem_nil)⟩)⟩)⟩)⟩)⟩)⟩)⟩)⟩)⟩)⟩)⟩)⟩)⟩)⟩)⟩)⟩)⟩)⟩)⟩)⟩)⟩)⟩)⟩)⟩)⟩)⟩)⟩)⟩)⟩)⟩)⟩)⟩)⟩)⟩)⟩)⟩)⟩)⟩)⟩)⟩)
      · exact nxt t rt lv s I G H.skip
      · have c_33 : Int32.toInt _ = 0 := c_33
        show WP _ _ _ _ _ _ _ _ _
        exact lwc_0 hLx (by omega) (by omega) H nxt
      · have c_33 : Int32.toInt _ = 1 := c_33
        show WP _ _ _ _ _ _ _ _ _
        exact lwc_1 hLx (by omega) (by omega) H nxt
      · have c_33 : Int32.toInt _ = 2 := c_33
        show WP _ _ _ _ _ _ _ _ _
        exact lwc_2 hLx (by omega) (by omega) H nxt
      · have c_33 : Int32.toInt _ = 3 := c_33
        show WP _ _ _ _ _ _ _ _ _
        exact lwc_3 hLx (by omega) (by omega) H nxt
      · have c_33 : Int32.toInt _ = 4 := c_33
        show WP _ _ _ _ _ _ _ _ _
        exact lwc_4 hLx (by omega) (by omega) H nxt
      · have c_33 : Int32.toInt _ = 5 := c_33
        show WP _ _ _ _ _ _ _ _ _
        exact lwc_5 hLx (by omega) (by omega) H nxt
      · have c_33 : Int32.toInt _ = 6 := c_33
        show WP _ _ _ _ _ _ _ _ _
        exact lwc_6 hLx (by omega) (by omega) H nxt
      · have c_33 : Int32.toInt _ = 7 := c_33
        show WP _ _ _ _ _ _ _ _ _
        exact lwc_7 hLx (by omega) (by omega) H nxt
      · have c_33 : Int32.toInt _ = 8 := c_33
        show WP _ _ _ _ _ _ _ _ _
        exact lwc_8 hLx (by omega) (by omega) H nxt
      · have c_33 : Int32.toInt _ = 9 := c_33
        show WP _ _ _ _ _ _ _ _ _
        exact lwc_9 hLx (by omega) (by omega) H nxt
      · have c_33 : Int32.toInt _ = 10 := c_33
        show WP _ _ _ _ _ _ _ _ _
        exact lwc_10 hLx (by omega) (by omega) H nxt
      · have c_33 : Int32.toInt _ = 11 := c_33
        show WP _ _ _ _ _ _ _ _ _
        exact lwc_11 hLx (by omega) (by omega) H nxt
      · have c_33 : Int32.toInt _ = 12 := c_33
        show WP _ _ _ _ _ _ _ _ _
        exact lwc_12 hLx (by omega) (by omega) H nxt
      · have c_33 : Int32.toInt _ = 13 := c_33
        show WP _ _ _ _ _ _ _ _ _
        exact lwc_13 hLx (by omega) (by omega) H nxt
      · have c_33 : Int32.toInt _ = 14 := c_33
        show WP _ _ _ _ _ _ _ _ _
        exact lwc_14 hLx (by omega) (by omega) H nxt
      · have c_33 : Int32.toInt _ = 15 := c_33
        show WP _ _ _ _ _ _ _ _ _
        exact lwc_15 hLx (by omega) (by omega) H nxt
      · have c_33 : Int32.toInt _ = 16 := c_33
        show WP _ _ _ _ _ _ _ _ _
        exact lwc_16 hLx (by omega) (by omega) H nxt
      · have c_33 : Int32.toInt _ = 17 := c_33
        show WP _ _ _ _ _ _ _ _ _
        exact lwc_17 hLx (by omega) (by omega) H nxt
      · have c_33 : Int32.toInt _ = 18 := c_33
        show WP _ _ _ _ _ _ _ _ _
        exact lwc_18 hLx (by omega) (by omega) H nxt
      · have c_33 : Int32.toInt _ = 19 := c_33
        show WP _ _ _ _ _ _ _ _ _
        exact lwc_19 hLx (by omega) (by omega) H nxt
      · have c_33 : Int32.toInt _ = 20 := c_33
        show WP _ _ _ _ _ _ _ _ _
        exact lwc_20 hLx (by omega) (by omega) H nxt
      · have c_33 : Int32.toInt _ = 21 := c_33
        show WP _ _ _ _ _ _ _ _ _
        exact lwc_21 hLx (by omega) (by omega) H nxt
      · have c_33 : Int32.toInt _ = 22 := c_33
        show WP _ _ _ _ _ _ _ _ _
        exact lwc_22 hLx (by omega) (by omega) H nxt
      · have c_33 : Int32.toInt _ = 23 := c_33
        show WP _ _ _ _ _ _ _ _ _
        exact lwc_23 hLx (by omega) (by omega) H nxt
      · have c_33 : Int32.toInt _ = 24 := c_33
        show WP _ _ _ _ _ _ _ _ _
        exact lwc_24 hLx (by omega) (by omega) H nxt
      · have c_33 : Int32.toInt _ = 25 := c_33
        show WP _ _ _ _ _ _ _ _ _
        exact lwc_25 hLx (by omega) (by omega) H nxt
      · have c_33 : Int32.toInt _ = 26 := c_33
        show WP _ _ _ _ _ _ _ _ _
        exact lwc_26 hLx (by omega) (by omega) H nxt
      · have c_33 : Int32.toInt _ = 27 := c_33
        show WP _ _ _ _ _ _ _ _ _
        exact lwc_27 hLx (by omega) (by omega) H nxt
      · have c_33 : Int32.toInt _ = 28 := c_33
        show WP _ _ _ _ _ _ _ _ _
        exact lwc_28 hLx (by omega) (by omega) H nxt
      · have c_33 : Int32.toInt _ = 29 := c_33
        show WP _ _ _ _ _ _ _ _ _
        exact lwc_29 hLx (by omega) (by omega) H nxt
      · have c_33 : Int32.toInt _ = 30 := c_33
        show WP _ _ _ _ _ _ _ _ _
        exact lwc_30 hLx (by omega) (by omega) H nxt
      · have c_33 : Int32.toInt _ = 31 := c_33
        show WP _ _ _ _ _ _ _ _ _
        exact lwc_31 hLx (by omega) (by omega) H nxt
      · have c_33 : Int32.toInt _ = 32 := c_33
        show WP _ _ _ _ _ _ _ _ _
        exact lwc_32 hLx (by omega) (by omega) H nxt
      · have c_33 : Int32.toInt _ = 33 := c_33
        show WP _ _ _ _ _ _ _ _ _
        exact lwc_33 hLx (by omega) (by omega) H nxt
      · have c_33 : Int32.toInt _ = 34 := c_33
        show WP _ _ _ _ _ _ _ _ _
        exact lwc_34 hLx (by omega) (by omega) H nxt
      · have c_33 : Int32.toInt _ = 35 := c_33
        show WP _ _ _ _ _ _ _ _ _
        exact lwc_35 hLx (by omega) (by omega) H nxt
      · have c_33 : Int32.toInt _ = 36 := c_33
        show WP _ _ _ _ _ _ _ _ _
        exact lwc_36 hLx (by omega) (by omega) H nxt
      · have c_33 : Int32.toInt _ = 37 := c_33
        show WP _ _ _ _ _ _ _ _ _
        exact lwc_37 hLx (by omega) (by omega) H nxt
      · have c_33 : Int32.toInt _ = 38 := c_33
        show WP _ _ _ _ _ _ _ _ _
        exact lwc_38 hLx (by omega) (by omega) H nxt
      · have c_33 : Int32.toInt _ = 39 := c_33
        show WP _ _ _ _ _ _ _ _ _
        exact lwc_39 hLx (by omega) (by omega) H nxt
    · by_cases h7 : 6 ≤ Lx
      · refine wx_iload_n rfl (e := 19) rfl rfl ?_
        refine wx_aload_n rfl (e := 20) rfl rfl ?_
        refine wx_alen (v := nI Lx) rfl (e := 21) rfl rfl (by decide) rfl ?_
        refine wx_bipush (v := (nI 6)) rfl (e := 23) rfl (by decide) ?_
        refine wn_isub rfl (e := 24) rfl (by omega) ?_
        refine wn_ic_gt rfl (e := 27) rfl (by omega) (by omega) (fun c_24 => ?_) (fun c_24 => absurd c_24 (by omega))
        refine wx_iconst (v := (nI 1)) rfl (e := 1477) rfl (by decide) ?_
        refine wx_iret rfl rfl rfl ⟨by decide, by decide⟩ ?_
        exact rfl
      · have hn0 : 6 * n = 0 := by omega
        refine wx_iload_n rfl (e := 19) rfl rfl ?_
        refine wx_aload_n rfl (e := 20) rfl rfl ?_
        refine wx_alen (v := nI Lx) rfl (e := 21) rfl rfl (by decide) rfl ?_
        refine wx_bipush (v := (nI 6)) rfl (e := 23) rfl (by decide) ?_
        refine wx_isub rfl (e := 24) rfl ?_
        refine wx_ic_gt rfl (e := 27) rfl (fun c_24 => ?_) (fun c_24 => absurd (by rw [hn0]; exact Int32.not_le.mp (l6_lt Lx (by omega))) c_24)
        refine wx_iconst (v := (nI 1)) rfl (e := 1477) rfl (by decide) ?_
        refine wx_iret rfl rfl rfl ⟨by decide, by decide⟩ ?_
        exact rfl
set_option maxRecDepth 100000 in
set_option maxHeartbeats 8000000 in
theorem law_wp (L : Nat) (xs : Nat → Int32) (hL : L ≤ 3072) : WP 100 mL_law (fun r _ => r = some (.int 1)) 0 [some (.ref 1000000), none, none, none] [] (ab_h0 L xs) 0 0 := by
  have h0 : ab_h0 L xs = hcc L 0 [] (ab_spI xs) (fun _ _ => 0) := by
    have e1 : (ab_h0 L xs).2.1 = SK L 0 := sk0
    have e2 : (ab_h0 L xs).2.2.2.2 = PU [] := by funext c k; rfl
    show (0, (ab_h0 L xs).2.1, ab_spI xs, (fun _ _ => 0), (ab_h0 L xs).2.2.2.2) = _
    rw [e1, e2]
  rw [h0]
  have E_ : EM 0 [] (ab_spI xs) (fun _ _ => 0) := by
    refine ⟨fun q _ h => ?_, fun q _ => rfl, fun q _ h => ?_, fun q h => rfl⟩
    · unfold ab_spI; rw [if_neg (by omega), if_neg (by omega), if_neg (by omega)]
    · funext k; exact spP_n h
  refine wk_new (k2 := 1) rfl (e := 3) rfl E_ rfl rfl ⟨by decide, by decide, by decide⟩ (fun E_ => ?_)
  refine wx_dup rfl (e := 4) rfl rfl ?_
  refine wx_ci0 (mc := 54) (ms := 7762) rfl (e := 7) rfl (by decide) (Nat.le_of_ble_eq_true rfl) ⟨by decide, by decide⟩ ?_
  refine i_X10 (xs := xs) (fun a ha => rfl) E_ (fun I4 G3 hs4 hW hC E_ => ?_)
  refine wx_astore_n (L2 := [_, _, _, _]) rfl (e := 8) rfl ⟨by decide, by decide⟩ rfl ?_
  show WP _ _ _ _ _ _ (55, SK L 55, I4, G3, PF5 1 16 1) _ _
  rw [← pu55]
  have z55 := E_.1 55 (by decide) (by decide)
  refine wk_new (k2 := 56) rfl (e := 11) rfl E_ rfl rfl ⟨by decide, by decide, by decide⟩ (fun E_ => ?_)
  refine wx_dup rfl (e := 12) rfl rfl ?_
  refine wx_ci0 (mc := 43) (ms := 11610) rfl (e := 15) rfl (by decide) (Nat.le_of_ble_eq_true rfl) ⟨by decide, by decide⟩ ?_
  refine i_X11 E_ z55 (fun I5 G5 e5 g5 hWm hM hLs => ?_)
  refine wx_astore_n (L2 := [_, _, _, _]) rfl (e := 16) rfl ⟨by decide, by decide⟩ rfl ?_
  refine wx_iconst (v := (nI 0)) rfl (e := 17) rfl (by decide) ?_
  refine wx_istore_n (L2 := [_, _, _, _]) rfl (e := 18) rfl (by decide) rfl ?_
  exact law_lp hL (L + 1) 0 1 16 0 gs0 I5 G5 (by omega) (by omega) ⟨hC.dn (fun q h => e5 q (Or.inl h)), hM, hLs, ok_0, fun k hk => by rw [g5 35 (by decide)]; exact hW k hk, hWm, fun a ha => by rw [e5 a (by omega)]; exact hs4 a ha⟩

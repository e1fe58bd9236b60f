/-! the model: laws told -/
/-- a law laid, whatever is laid behind it -/
def STB (I : Nat → Nat → Int32) (A X l : Nat) (w : rpn) (r0 : Nat) (ts : List (rpn × rpn × rpn)) : Prop := ∀ I2 : Nat → Nat → Int32, (∀ i, r0 ≤ i → i < l → ∀ q, 79 ≤ q → q ≤ 83 → I2 q i = I q i) → (∀ i, A ≤ i → i < X → I2 84 i = I 84 i ∧ I2 85 i = I 85 i) → MB I2 w r0 l ts
set_option maxHeartbeats 8000000 in
theorem c_tellLaw {d Lx tt rt u : Nat} {I : Nat → Nat → Int32} {G : Nat → Nat → Int64} {Q : ab_Q} {b : Nat → Nat} {n t a0 B r0 rh sd k : Nat} (hB840 : B + 420 ≤ 840) (hM : MS b n t I G) (h12 : I 55 12 = nI 0) (h43 : I 55 43 = nI a0) (hx : a0 ≤ B + t) (hbr : I 55 37 = nI r0) (hsd : I 55 19 = nI sd) (hsd1 : sd ≤ 1) (hk : k < 5) (hrh : r0 + 8 ≤ rh) (hr2 : rh ≤ 260) (hy : ∀ t2 ts w, (ltk b n 61 t (lwP b n 4 (t + 1) [])) = (0, t2, ts, w) → ∀ I2 x2, frq a0 (B + 420) r0 rh I I2 → MS b n t2 (wr (wr I2 77 (5 * sd + k) (nI r0)) 78 (5 * sd + k) (nI (r0 + ts.length + 1))) G → I2 55 12 = nI 0 → I2 55 43 = nI x2 → x2 ≤ B + t2 ∧ a0 ≤ x2 → I2 55 37 = nI (r0 + ts.length + 1) → STB I2 a0 x2 (r0 + ts.length + 1) w r0 ts → t + 3 + 4 * ts.length ≤ t2 → Q none (hp Lx tt rt u (wr (wr I2 77 (5 * sd + k) (nI r0)) 78 (5 * sd + k) (nI (r0 + ts.length + 1))) G)) (hn : ∀ e tok, ¬ e = 0 → (ltk b n 61 t (lwP b n 4 (t + 1) [])) = (e, tok, [], []) → ∀ I2, frq a0 (B + 420) r0 rh I I2 → FM b n e tok I2 → Q none (hp Lx tt rt u I2 G)) : ab_call ab_MT (d + 7) 211 [.ref 55, .int (nI k)] (hp Lx tt rt u I G) 0 0 Q := by
  refine wx_in (M := mX11_tellLaw) rfl rfl rfl (Nat.le_of_ble_eq_true rfl) ?_
  refine wx_aload_n rfl (e := 1) rfl rfl ?_
  refine wx_iconst (v := (nI 5)) rfl (e := 2) rfl (by decide) ?_
  refine wx_cv1 (mc := 0) (ms := 0) rfl (e := 5) rfl rfl (Nat.le_of_ble_eq_true rfl) ⟨by decide, by decide⟩ ?_
  refine c_must hM (κ := 61) (by decide) (by decide) (by decide) (by decide) (fun hk0 h40 M1 => ?_) (fun e0 hc0 F0 => ?_)
  · have hQ : (ltk b n 61 t (lwP b n 4 (t + 1) [])) = lwP b n 4 (t + 1) [] := by rw [ltk, if_pos hk0, if_neg (by omega)]
    have hn2 : ∀ e tok, ¬ e = 0 → lwP b n 4 (t + 1) [] = (e, tok, [], []) → ∀ I4, frq a0 (B + 420) r0 rh I I4 → FM b n e tok I4 → Q none (hp Lx tt rt u I4 G) := fun e tok y1 y2 I4 f4 F4 => hn e tok y1 (by rw [hQ, y2]) I4 f4 F4
    have loop : ∀ (m i t3 x : Nat) (acc : List (rpn × rpn × rpn)) (I3 : Nat → Nat → Int32), i ≤ 4 → 4 - i < m → frq a0 (B + 420) r0 rh I I3 → MS b n t3 I3 G → I3 55 12 = nI 0 → I3 55 43 = nI x → a0 ≤ x → x ≤ B + t3 → I3 55 37 = nI (r0 + i) → MBp I3 a0 x r0 (r0 + i) acc → acc.length = i → t + 1 + 4 * i ≤ t3 → lwP b n (4 - i) t3 acc = lwP b n 4 (t + 1) [] → WP (d + 6) mX11_tellLaw Q 12 [some (.ref 55), some (.int (nI k)), some (.int (nI r0)), some (.int (nI i))] [] (hp Lx tt rt u I3 G) 0 0 := by
      intro m
      induction m with
      | zero => intro i t3 x acc I3 h1 h2; omega
      | succ m ih =>
        intro i t3 x acc I3 h1 h2 F3 M3 o3 x3 hax hx3 b3 P3 hacc ht3 hlw
        have ht3b := M3.2.1
        refine wx_aload_n rfl (e := 13) rfl rfl ?_
        refine wx_geti rfl (e := 16) rfl rfl ?_
        rw [M3.2.2.2.2]
        refine wn_if_ne rfl (e := 19) rfl (by omega) (fun c_16 => absurd c_16 (by omega)) (fun c_16 => ?_)
        refine wx_aload_n rfl (e := 20) rfl rfl ?_
        refine wx_bipush (v := (nI 32)) rfl (e := 22) rfl (by decide) ?_
        refine wx_cv1 (mc := 0) (ms := 0) rfl (e := 25) rfl rfl (Nat.le_of_ble_eq_true rfl) ⟨by decide, by decide⟩ ?_
        refine c_is M3 (κ := 12) (by decide) (by decide) (by decide) (fun hz => ?_) (fun hz => ?_)
        · refine wn_if_eq rfl (e := 28) rfl (by omega) (fun c_25 => absurd c_25 (by omega)) (fun c_25 => ?_)
          refine wx_iload_n rfl (e := 29) rfl rfl ?_
          refine wx_iconst (v := (nI 4)) rfl (e := 30) rfl (by decide) ?_
          refine wn_ic_ne rfl (e := 33) rfl (by omega) (by omega) (fun c_30 => ?_) (fun c_30 => ?_)
          · have hi4 : i < 4 := by omega
            refine wx_aload_n rfl (e := 39) rfl rfl ?_
            refine wx_geti rfl (e := 42) rfl rfl ?_
            first | rw [M3.2.2.2.2] | rw [show ft 2 (stA b n t3) I3 55 13 = nI 2 from by unfold ft; rw [wr_ne _ _ _ _ (by decide), wr_eq]]
            refine wn_if_le rfl (e := 45) rfl (by omega) (fun c_42 => ?_) (fun c_42 => absurd c_42 (by omega))
            refine wn_iinc (m := 1) (L2 := [_, _, _, _]) rfl (e := 49) rfl rfl (by decide) rfl ?_
            refine wx_aload_n rfl (e := 50) rfl rfl ?_
            refine wx_cv0 (mc := 0) (ms := 0) rfl (e := 53) rfl rfl (Nat.le_of_ble_eq_true rfl) ⟨by decide, by decide⟩ ?_
            refine c_goes M3 (fun h4 => ?_) (fun h4 => ?_)
            · refine wx_aload_n rfl (e := 54) rfl rfl ?_
              refine wx_getr rfl (e := 57) rfl rfl rfl ?_
              refine wx_aload_n rfl (e := 58) rfl rfl ?_
              refine wx_geti rfl (e := 61) rfl rfl ?_
              first | rw [nx.f (by decide), b3] | rw [show ft 2 (stA b n t3) I3 55 37 = nI (r0 + i) from by unfold ft; rw [wr_ne _ _ _ _ (by decide), wr_ne _ _ _ _ (by decide)]; exact b3]
              refine wx_iconst (v := (nI 1)) rfl (e := 62) rfl (by decide) ?_
              refine wn_zast rfl (e := 63) rfl rfl (by decide) (by omega) (by decide) ?_
              refine wx_aload_n rfl (e := 64) rfl rfl ?_
              refine wx_getr rfl (e := 67) rfl rfl rfl ?_
              refine wx_aload_n rfl (e := 68) rfl rfl ?_
              refine wx_geti rfl (e := 71) rfl rfl ?_
              first | rw [wr_other _ _ _ _ (by decide), nx.f (by decide), b3] | rw [wr_other _ _ _ _ (by decide), show ft 2 (stA b n t3) I3 55 37 = nI (r0 + i) from by unfold ft; rw [wr_ne _ _ _ _ (by decide), wr_ne _ _ _ _ (by decide)]; exact b3]
              refine wx_aload_n rfl (e := 72) rfl rfl ?_
              refine wx_geti rfl (e := 75) rfl rfl ?_
              first | rw [wr_other _ _ _ _ (by decide), nx.f (by decide), x3] | rw [wr_other _ _ _ _ (by decide), show ft 2 (stA b n t3) I3 55 43 = nI x from by unfold ft; rw [wr_ne _ _ _ _ (by decide), wr_ne _ _ _ _ (by decide)]; exact x3]
              refine wn_iast rfl (e := 76) rfl rfl (by decide) (by omega) (by decide) ?_
              refine wx_aload_n rfl (e := 77) rfl rfl ?_
              refine wx_cv0 (mc := 0) (ms := 0) rfl (e := 80) rfl rfl (Nat.le_of_ble_eq_true rfl) ⟨by decide, by decide⟩ ?_
              have MH : MS b n (t3 + 1) (wr (wr (nx t3 I3) 79 (r0 + i) (vp_nar .boolean (nI 1))) 80 (r0 + i) (nI x)) G := (M3.nx h4 (by omega)).q (fun q h => by rw [wr_other _ _ _ _ (by omega), wr_other _ _ _ _ (by omega)]) (fun k h => by rw [wr_other _ _ _ _ (by omega), wr_other _ _ _ _ (by omega)])
              refine c_expr hB840 MH (by rw [wr_other _ _ _ _ (by decide), wr_other _ _ _ _ (by decide), nx.f (by decide)]; exact o3) (a0 := x) (by rw [wr_other _ _ _ _ (by decide), wr_other _ _ _ _ (by decide), nx.f (by decide)]; exact x3) (by omega) (fun z1 I4 f4 M4 L4 o4 => ?_) (fun z1 I4 f4 F4 => ?_)
              · obtain ⟨q11, q12, q13, q14, q15⟩ := sum_far (b := b) (n := n) (t := t3 + 1) (by omega) MH.2.2.1
                have q14 := q14 z1
                have w1_ := sum_wf z1 0 (by omega)
                have b4 : I4 55 37 = nI (r0 + i) := by rw [f4.2.1 37 (by omega), wr_other _ _ _ _ (by decide), wr_other _ _ _ _ (by decide), nx.f (by decide)]; exact b3
                have F4 : frq a0 (B + 420) r0 rh I I4 := (F3.tr ((frx.n.q (Nat.le_refl _)).tr ((frq.b (by decide) (by omega)).tr (frq.b (by decide) (by omega))))).tr (f4.q (by omega))
                refine wx_aload_n rfl (e := 81) rfl rfl ?_
                refine wx_bipush (v := (nI 13)) rfl (e := 83) rfl (by decide) ?_
                refine wx_cv1 (mc := 0) (ms := 0) rfl (e := 86) rfl rfl (Nat.le_of_ble_eq_true rfl) ⟨by decide, by decide⟩ ?_
                refine c_must M4 (κ := 60) (by decide) (by decide) (by decide) (by decide) (fun hk2 h42 M5 => ?_) (fun e2 hc2 F5 => ?_)
                · refine wx_aload_n rfl (e := 87) rfl rfl ?_
                  refine wx_getr rfl (e := 90) rfl rfl rfl ?_
                  refine wx_aload_n rfl (e := 91) rfl rfl ?_
                  refine wx_geti rfl (e := 94) rfl rfl ?_
                  rw [nx.f (by decide), b4]
                  refine wx_aload_n rfl (e := 95) rfl rfl ?_
                  refine wx_geti rfl (e := 98) rfl rfl ?_
                  rw [nx.f (by decide), L4.1]
                  refine wn_iast rfl (e := 99) rfl rfl (by decide) (by omega) (by decide) ?_
                  refine wx_aload_n rfl (e := 100) rfl rfl ?_
                  refine wx_geti rfl (e := 103) rfl rfl ?_
                  rw [wr_other _ _ _ _ (by decide), nx.f (by decide), M4.2.2.2.2]
                  refine wn_if_ne rfl (e := 106) rfl (by omega) (fun c_103 => absurd c_103 (by omega)) (fun c_103 => ?_)
                  refine wx_aload_n rfl (e := 107) rfl rfl ?_
                  refine wx_cv0 (mc := 0) (ms := 0) rfl (e := 110) rfl rfl (Nat.le_of_ble_eq_true rfl) ⟨by decide, by decide⟩ ?_
                  have M5b : MS b n ((sumS b n (t3 + 1)).2.1 + 1) (wr (nx (sumS b n (t3 + 1)).2.1 I4) 81 (r0 + i) (nI (x + (sumS b n (t3 + 1)).2.2.length))) G := M5.q (fun q h => by rw [wr_other _ _ _ _ (by omega)]) (fun k h => by rw [wr_other _ _ _ _ (by omega)])
                  refine c_expr hB840 M5b (by rw [wr_other _ _ _ _ (by decide), nx.f (by decide)]; exact o4) (a0 := (x + (sumS b n (t3 + 1)).2.2.length)) (by rw [wr_other _ _ _ _ (by decide), nx.f (by decide)]; exact L4.1) (by omega) (fun z2 I6 f6 M6 L6 o6 => ?_) (fun z2 I6 f6 F6 => ?_)
                  · obtain ⟨q21, q22, q23, q24, q25⟩ := sum_far (b := b) (n := n) (t := (sumS b n (t3 + 1)).2.1 + 1) (by omega) M5b.2.2.1
                    have q24 := q24 z2
                    have w2_ := sum_wf z2 0 (by omega)
                    have b6 : I6 55 37 = nI (r0 + i) := by rw [f6.2.1 37 (by omega), wr_other _ _ _ _ (by decide), nx.f (by decide)]; exact b4
                    have F6 : frq a0 (B + 420) r0 rh I I6 := F4.tr ((frx.n.q (Nat.le_refl _)).tr ((frq.b (by decide) (by omega)).tr (f6.q (by omega))))
                    refine wx_aload_n rfl (e := 111) rfl rfl ?_
                    refine wx_bipush (v := (nI 33)) rfl (e := 113) rfl (by decide) ?_
                    refine wx_cv1 (mc := 0) (ms := 0) rfl (e := 116) rfl rfl (Nat.le_of_ble_eq_true rfl) ⟨by decide, by decide⟩ ?_
                    refine c_must M6 (κ := 13) (by decide) (by decide) (by decide) (by decide) (fun hk3 h43 M7 => ?_) (fun e3 hc3 F7 => ?_)
                    · refine wx_aload_n rfl (e := 117) rfl rfl ?_
                      refine wx_cv0 (mc := 0) (ms := 0) rfl (e := 120) rfl rfl (Nat.le_of_ble_eq_true rfl) ⟨by decide, by decide⟩ ?_
                      refine c_term hB840 M7 (by rw [nx.f (by decide)]; exact o6) (a0 := ((x + (sumS b n (t3 + 1)).2.2.length) + (sumS b n ((sumS b n (t3 + 1)).2.1 + 1)).2.2.length)) (by rw [nx.f (by decide)]; exact L6.1) (by omega) (br := r0 + i) (r0 := r0 + i) (rh := rh) (by rw [nx.f (by decide)]; exact b6) (by omega) (by omega) hr2 (fun z3_ I8 f8 M8 L8 g82 g83 b8 x8 o8 g7 => ?_) (fun z3_ I8 f8 F8 b8 => ?_)
                      · obtain ⟨q31, q32, q33, q34, q35⟩ := sum_far (b := b) (n := n) (t := (sumS b n ((sumS b n (t3 + 1)).2.1 + 1)).2.1 + 1) (by omega) M7.2.2.1
                        have q34 := q34 z3_
                        have w3_ := sum_wf z3_ 0 (by omega)
                        have F8 : frq a0 (B + 420) r0 rh I I8 := F6.tr ((frx.n.q (Nat.le_refl _)).tr ⟨f8.1, f8.2.1, fun j hj => f8.2.2.1 j (by omega), fun j hj => f8.2.2.2 j (by omega)⟩)
                        refine wx_aload_n rfl (e := 121) rfl rfl ?_
                        refine wx_bipush (v := (nI 34)) rfl (e := 123) rfl (by decide) ?_
                        refine wx_cv1 (mc := 0) (ms := 0) rfl (e := 126) rfl rfl (Nat.le_of_ble_eq_true rfl) ⟨by decide, by decide⟩ ?_
                        refine c_must M8 (κ := 14) (by decide) (by decide) (by decide) (by decide) (fun hk4 h44 M9 => ?_) (fun e4 hc4 F9 => ?_)
                        · refine wx_goto rfl ?_
                          have g79 : I4 79 (r0 + i) = nI 1 := by rw [f4.1 79 (by decide) (by decide) (by decide) (by decide), wr_other _ _ _ _ (by decide), wr_eq]; rfl
                          have g80 : I4 80 (r0 + i) = nI x := by rw [f4.1 80 (by decide) (by decide) (by decide) (by decide), wr_eq]
                          have h79 : I6 79 (r0 + i) = nI 1 := by rw [f6.1 79 (by decide) (by decide) (by decide) (by decide), wr_other _ _ _ _ (by decide), nx.q (by decide)]; exact g79
                          have h80 : I6 80 (r0 + i) = nI x := by rw [f6.1 80 (by decide) (by decide) (by decide) (by decide), wr_other _ _ _ _ (by decide), nx.q (by decide)]; exact g80
                          have h81 : I6 81 (r0 + i) = nI (x + (sumS b n (t3 + 1)).2.2.length) := by rw [f6.1 81 (by decide) (by decide) (by decide) (by decide), wr_eq]
                          have c6 : ∀ j, j < ((x + (sumS b n (t3 + 1)).2.2.length) + (sumS b n ((sumS b n (t3 + 1)).2.1 + 1)).2.2.length) → I8 84 j = I6 84 j ∧ I8 85 j = I6 85 j := fun j hj => by have y := f8.2.2.1 j (Or.inl hj); rw [nx.q (by decide), nx.q (by decide)] at y; exact y
                          have c4 : ∀ j, j < (x + (sumS b n (t3 + 1)).2.2.length) → I6 84 j = I4 84 j ∧ I6 85 j = I4 85 j := fun j hj => by have y := f6.2.2 j (Or.inl hj); rw [wr_other _ _ _ _ (by decide), wr_other _ _ _ _ (by decide), nx.q (by decide), nx.q (by decide)] at y; exact y
                          have c3 : ∀ j, j < x → I4 84 j = I3 84 j ∧ I4 85 j = I3 85 j := fun j hj => by have y := f4.2.2 j (Or.inl hj); rw [wr_other _ _ _ _ (by decide), wr_other _ _ _ _ (by decide), wr_other _ _ _ _ (by decide), wr_other _ _ _ _ (by decide), nx.q (by decide), nx.q (by decide)] at y; exact y
                          have r8 : ∀ j, j < r0 + i → ∀ q, 79 ≤ q → q ≤ 83 → I8 q j = I3 q j := fun j hj q y1 y2 => by rw [f8.2.2.2 j (Or.inl hj) q y1 y2, nx.q (by omega), f6.1 q (by omega) (by omega) (by omega) (by omega), wr_j (by omega), nx.q (by omega), f4.1 q (by omega) (by omega) (by omega) (by omega), wr_j (by omega), wr_j (by omega), nx.q (by omega)]
                          have f8x : ∀ q, 79 ≤ q → q ≤ 81 → I8 q = I6 q := fun q y1 y2 => by rw [g7 q y1 y2, nx.q (by omega)]
                          have hP : MBp I8 a0 (((x + (sumS b n (t3 + 1)).2.2.length) + (sumS b n ((sumS b n (t3 + 1)).2.1 + 1)).2.2.length) + (sumS b n ((sumS b n ((sumS b n (t3 + 1)).2.1 + 1)).2.1 + 1)).2.2.length) r0 (r0 + i + 1) (acc ++ [((sumS b n (t3 + 1)).2.2, (sumS b n ((sumS b n (t3 + 1)).2.1 + 1)).2.2, (sumS b n ((sumS b n ((sumS b n (t3 + 1)).2.1 + 1)).2.1 + 1)).2.2)]) := (P3.kept (by omega) (fun j _ hj => r8 j hj) (fun j _ hj => ⟨(c6 j (by omega)).1.trans ((c4 j (by omega)).1.trans (c3 j hj).1), (c6 j (by omega)).2.trans ((c4 j (by omega)).2.trans (c3 j hj).2)⟩)).ap ⟨by omega, by rw [f8x 79 (by decide) (by decide)]; exact h79, ⟨x, (x + (sumS b n (t3 + 1)).2.2.length), ((x + (sumS b n (t3 + 1)).2.2.length) + (sumS b n ((sumS b n (t3 + 1)).2.1 + 1)).2.2.length), (((x + (sumS b n (t3 + 1)).2.2.length) + (sumS b n ((sumS b n (t3 + 1)).2.1 + 1)).2.2.length) + (sumS b n ((sumS b n ((sumS b n (t3 + 1)).2.1 + 1)).2.1 + 1)).2.2.length), by rw [f8x 80 (by decide) (by decide)]; exact h80, by rw [f8x 81 (by decide) (by decide)]; exact h81, g82, g83, by omega, by omega, by omega, ⟨hax, Nat.le_refl _⟩, MC.kept2 (sumS b n (t3 + 1)).2.2 _ _ (fun j y1 y2 => ⟨(c6 j (by omega)).1.trans (c4 j y2).1, (c6 j (by omega)).2.trans (c4 j y2).2⟩) L4.2, MC.kept2 (sumS b n ((sumS b n (t3 + 1)).2.1 + 1)).2.2 _ _ (fun j y1 y2 => c6 j y2) L6.2, L8, w1_.wf, w2_.wf, w3_.wf⟩, rfl⟩
                          exact ih (i + 1) ((sumS b n ((sumS b n ((sumS b n (t3 + 1)).2.1 + 1)).2.1 + 1)).2.1 + 1) (((x + (sumS b n (t3 + 1)).2.2.length) + (sumS b n ((sumS b n (t3 + 1)).2.1 + 1)).2.2.length) + (sumS b n ((sumS b n ((sumS b n (t3 + 1)).2.1 + 1)).2.1 + 1)).2.2.length) (acc ++ [((sumS b n (t3 + 1)).2.2, (sumS b n ((sumS b n (t3 + 1)).2.1 + 1)).2.2, (sumS b n ((sumS b n ((sumS b n (t3 + 1)).2.1 + 1)).2.1 + 1)).2.2)]) (nx (sumS b n ((sumS b n ((sumS b n (t3 + 1)).2.1 + 1)).2.1 + 1)).2.1 I8) (by omega) (by omega) (F8.tr (frx.n.q (Nat.le_refl _))) M9 (by rw [nx.f (by decide)]; exact o8) (by rw [nx.f (by decide)]; exact x8) (by omega) (by omega) (by rw [nx.f (by decide)]; exact b8) (hP.kept (Nat.le_refl _) (fun j _ _ q y1 y2 => by rw [nx.q (by omega)]) (fun j _ _ => ⟨by rw [nx.q (by decide)], by rw [nx.q (by decide)]⟩)) (by rw [List.length_append, hacc]; rfl) (by omega) (by rw [← hlw, show 4 - i = 4 - (i + 1) + 1 by omega, lwP, if_pos hz, lwI]; rw [ltk, if_pos hz, if_neg (by omega), lbd_0 z1, ltk, if_pos hk2, if_neg (by omega), lbd_0 z2, ltk, if_pos hk3, if_neg (by omega), lbd_0 z3_, ltk, if_pos hk4, if_neg (by omega)])
                        · refine wx_goto rfl ?_
                          refine fl12 (i := i + 1) (a0 := a0) (h := B + 420) (rh := rh) F9.1 (by have := F9.2.1; omega) F9.2.2.1 (br := r0 + i + 1) (by unfold ft; rw [wr_ne _ _ _ _ (by decide), wr_ne _ _ _ _ (by decide)]; exact b8) (by omega) hr2 (by omega) (fun I9 f9 y13 y14 => ?_)
                          rcases hc4 with ⟨w1, w2⟩ | ⟨w1, w2, w3⟩
                          · subst w1
                            refine hn2 1 (sumS b n ((sumS b n ((sumS b n (t3 + 1)).2.1 + 1)).2.1 + 1)).2.1 (by decide) ?_ _ ((F8.tr (frx.t.q (Nat.le_refl _))).tr f9) (F9.co y13 y14)
                            rw [← hlw, show 4 - i = 4 - (i + 1) + 1 by omega, lwP, if_pos hz, lwI]; rw [ltk, if_pos hz, if_neg (by omega), lbd_0 z1, ltk, if_pos hk2, if_neg (by omega), lbd_0 z2, ltk, if_pos hk3, if_neg (by omega), lbd_0 z3_]; rw [ltk, if_neg w2]
                          · subst w1
                            refine hn2 2 (sumS b n ((sumS b n ((sumS b n (t3 + 1)).2.1 + 1)).2.1 + 1)).2.1 (by decide) ?_ _ ((F8.tr (frx.t.q (Nat.le_refl _))).tr f9) (F9.co y13 y14)
                            rw [← hlw, show 4 - i = 4 - (i + 1) + 1 by omega, lwP, if_pos hz, lwI]; rw [ltk, if_pos hz, if_neg (by omega), lbd_0 z1, ltk, if_pos hk2, if_neg (by omega), lbd_0 z2, ltk, if_pos hk3, if_neg (by omega), lbd_0 z3_]; rw [ltk, if_pos w2, if_pos w3]
                      · refine fl120 (i := i + 1) (a0 := a0) (h := B + 420) (rh := rh) F8.1 (by have := F8.2.1; omega) F8.2.2.1 (br := r0 + i + 1) b8 (by omega) hr2 (by omega) (fun I9 f9 y13 y14 => ?_)
                        refine hn2 _ _ z3_ ?_ _ ((F6.tr ((frx.n.q (Nat.le_refl _)).tr ⟨f8.1, f8.2.1, fun j hj => f8.2.2.1 j (by omega), fun j hj => f8.2.2.2 j (by omega)⟩)).tr f9) (F8.co y13 y14)
                        rw [← hlw, show 4 - i = 4 - (i + 1) + 1 by omega, lwP, if_pos hz, lwI]; rw [ltk, if_pos hz, if_neg (by omega), lbd_0 z1, ltk, if_pos hk2, if_neg (by omega), lbd_0 z2, ltk, if_pos hk3, if_neg (by omega), lbd_1 z3_]
                    · refine fl116 (i := i + 1) (a0 := a0) (h := B + 420) (rh := rh) F7.1 (by have := F7.2.1; omega) F7.2.2.1 (br := r0 + i) (by unfold ft; rw [wr_ne _ _ _ _ (by decide), wr_ne _ _ _ _ (by decide)]; exact b6) (by omega) hr2 (by omega) (fun I9 f9 y13 y14 => ?_)
                      rcases hc3 with ⟨w1, w2⟩ | ⟨w1, w2, w3⟩
                      · subst w1
                        refine hn2 1 (sumS b n ((sumS b n (t3 + 1)).2.1 + 1)).2.1 (by decide) ?_ _ ((F6.tr (frx.t.q (Nat.le_refl _))).tr f9) (F7.co y13 y14)
                        rw [← hlw, show 4 - i = 4 - (i + 1) + 1 by omega, lwP, if_pos hz, lwI]; rw [ltk, if_pos hz, if_neg (by omega), lbd_0 z1, ltk, if_pos hk2, if_neg (by omega), lbd_0 z2]; rw [ltk, if_neg w2]
                      · subst w1
                        refine hn2 2 (sumS b n ((sumS b n (t3 + 1)).2.1 + 1)).2.1 (by decide) ?_ _ ((F6.tr (frx.t.q (Nat.le_refl _))).tr f9) (F7.co y13 y14)
                        rw [← hlw, show 4 - i = 4 - (i + 1) + 1 by omega, lwP, if_pos hz, lwI]; rw [ltk, if_pos hz, if_neg (by omega), lbd_0 z1, ltk, if_pos hk2, if_neg (by omega), lbd_0 z2]; rw [ltk, if_pos w2, if_pos w3]
                  · have b6 : I6 55 37 = nI (r0 + i) := by rw [f6.2.1 37 (by omega), wr_other _ _ _ _ (by decide), nx.f (by decide)]; exact b4
                    refine fl110 (i := i + 1) (a0 := a0) (h := B + 420) (rh := rh) F6.1 (by have := F6.2.1; omega) F6.2.2.1 (br := r0 + i) b6 (by omega) hr2 (by omega) (fun I9 f9 y13 y14 => ?_)
                    refine hn2 _ _ z2 ?_ _ ((F4.tr ((frx.n.q (Nat.le_refl _)).tr ((frq.b (by decide) (by omega)).tr (f6.q (by omega))))).tr f9) (F6.co y13 y14)
                    rw [← hlw, show 4 - i = 4 - (i + 1) + 1 by omega, lwP, if_pos hz, lwI]; rw [ltk, if_pos hz, if_neg (by omega), lbd_0 z1, ltk, if_pos hk2, if_neg (by omega), lbd_1 z2]
                · refine fl86 (i := i + 1) (a0 := a0) (h := B + 420) (rh := rh) F5.1 (by have := F5.2.1; omega) F5.2.2.1 (br := r0 + i) (by unfold ft; rw [wr_ne _ _ _ _ (by decide), wr_ne _ _ _ _ (by decide)]; exact b4) (by omega) hr2 (by omega) (fun I9 f9 y13 y14 => ?_)
                  rcases hc2 with ⟨w1, w2⟩ | ⟨w1, w2, w3⟩
                  · subst w1
                    refine hn2 1 (sumS b n (t3 + 1)).2.1 (by decide) ?_ _ ((F4.tr (frx.t.q (Nat.le_refl _))).tr f9) (F5.co y13 y14)
                    rw [← hlw, show 4 - i = 4 - (i + 1) + 1 by omega, lwP, if_pos hz, lwI]; rw [ltk, if_pos hz, if_neg (by omega), lbd_0 z1]; rw [ltk, if_neg w2]
                  · subst w1
                    refine hn2 2 (sumS b n (t3 + 1)).2.1 (by decide) ?_ _ ((F4.tr (frx.t.q (Nat.le_refl _))).tr f9) (F5.co y13 y14)
                    rw [← hlw, show 4 - i = 4 - (i + 1) + 1 by omega, lwP, if_pos hz, lwI]; rw [ltk, if_pos hz, if_neg (by omega), lbd_0 z1]; rw [ltk, if_pos w2, if_pos w3]
              · have b4 : I4 55 37 = nI (r0 + i) := by rw [f4.2.1 37 (by omega), wr_other _ _ _ _ (by decide), wr_other _ _ _ _ (by decide), nx.f (by decide)]; exact b3
                refine fl80 (i := i + 1) (a0 := a0) (h := B + 420) (rh := rh) F4.1 (by have := F4.2.1; omega) F4.2.2.1 (br := r0 + i) b4 (by omega) hr2 (by omega) (fun I9 f9 y13 y14 => ?_)
                refine hn2 _ _ z1 ?_ _ (((F3.tr ((frx.n.q (Nat.le_refl _)).tr ((frq.b (by decide) (by omega)).tr (frq.b (by decide) (by omega))))).tr (f4.q (by omega))).tr f9) (F4.co y13 y14)
                rw [← hlw, show 4 - i = 4 - (i + 1) + 1 by omega, lwP, if_pos hz, lwI]; rw [ltk, if_pos hz, if_neg (by omega), lbd_1 z1]
            · refine wx_aload_n rfl (e := 54) rfl rfl ?_
              refine wx_getr rfl (e := 57) rfl rfl rfl ?_
              refine wx_aload_n rfl (e := 58) rfl rfl ?_
              refine wx_geti rfl (e := 61) rfl rfl ?_
              first | rw [nx.f (by decide), b3] | rw [show ft 2 (stA b n t3) I3 55 37 = nI (r0 + i) from by unfold ft; rw [wr_ne _ _ _ _ (by decide), wr_ne _ _ _ _ (by decide)]; exact b3]
              refine wx_iconst (v := (nI 1)) rfl (e := 62) rfl (by decide) ?_
              refine wn_zast rfl (e := 63) rfl rfl (by decide) (by omega) (by decide) ?_
              refine wx_aload_n rfl (e := 64) rfl rfl ?_
              refine wx_getr rfl (e := 67) rfl rfl rfl ?_
              refine wx_aload_n rfl (e := 68) rfl rfl ?_
              refine wx_geti rfl (e := 71) rfl rfl ?_
              first | rw [wr_other _ _ _ _ (by decide), nx.f (by decide), b3] | rw [wr_other _ _ _ _ (by decide), show ft 2 (stA b n t3) I3 55 37 = nI (r0 + i) from by unfold ft; rw [wr_ne _ _ _ _ (by decide), wr_ne _ _ _ _ (by decide)]; exact b3]
              refine wx_aload_n rfl (e := 72) rfl rfl ?_
              refine wx_geti rfl (e := 75) rfl rfl ?_
              first | rw [wr_other _ _ _ _ (by decide), nx.f (by decide), x3] | rw [wr_other _ _ _ _ (by decide), show ft 2 (stA b n t3) I3 55 43 = nI x from by unfold ft; rw [wr_ne _ _ _ _ (by decide), wr_ne _ _ _ _ (by decide)]; exact x3]
              refine wn_iast rfl (e := 76) rfl rfl (by decide) (by omega) (by decide) ?_
              refine wx_aload_n rfl (e := 77) rfl rfl ?_
              refine wx_cv0 (mc := 0) (ms := 0) rfl (e := 80) rfl rfl (Nat.le_of_ble_eq_true rfl) ⟨by decide, by decide⟩ ?_
              refine c_expr0 (e := 2) (by decide) (by decide) (by rw [wr_other _ _ _ _ (by decide), wr_other _ _ _ _ (by decide)]; unfold ft; rw [wr_ne _ _ _ _ (by decide), wr_eq]) ?_
              · have FZ : FM b n 2 t3 (wr (wr (wr (ft 2 (stA b n t3) I3) 79 (r0 + i) (vp_nar .boolean (nI 1))) 80 (r0 + i) (nI x)) 55 47 (nI 0)) := (ft.m (I := I3) (k := 2) (tok := t3) (by decide) (by decide)).co (by rw [wr_ne _ _ _ _ (by decide), wr_other _ _ _ _ (by decide), wr_other _ _ _ _ (by decide)]) (by rw [wr_ne _ _ _ _ (by decide), wr_other _ _ _ _ (by decide), wr_other _ _ _ _ (by decide)])
                refine fl80 (i := i + 1) (a0 := a0) (h := B + 420) (rh := rh) FZ.1 (by have := FZ.2.1; omega) FZ.2.2.1 (br := r0 + i) (by rw [wr_ne _ _ _ _ (by decide), wr_other _ _ _ _ (by decide), wr_other _ _ _ _ (by decide)]; unfold ft; rw [wr_ne _ _ _ _ (by decide), wr_ne _ _ _ _ (by decide)]; exact b3) (by omega) hr2 (by omega) (fun I9 f9 y13 y14 => ?_)
                refine hn2 2 t3 (by decide) ?_ _ ((F3.tr ((frx.t.q (Nat.le_refl _)).tr ((frq.b (by decide) (by omega)).tr ((frq.b (by decide) (by omega)).tr (frq.w (by omega)))))).tr f9) (FZ.co y13 y14)
                rw [← hlw, show 4 - i = 4 - (i + 1) + 1 by omega, lwP, if_pos hz, lwI]; rw [ltk, if_pos hz, if_pos h4]
          · have hi4 : i = 4 := by omega
            refine wx_aload_n rfl (e := 34) rfl rfl ?_
            refine wx_iconst (v := (nI 2)) rfl (e := 35) rfl (by decide) ?_
            refine wx_cv1 (mc := 0) (ms := 0) rfl (e := 38) rfl rfl (Nat.le_of_ble_eq_true rfl) ⟨by decide, by decide⟩ ?_
            refine c_fail M3 (k := 2) ?_
            refine wx_aload_n rfl (e := 39) rfl rfl ?_
            refine wx_geti rfl (e := 42) rfl rfl ?_
            first | rw [M3.2.2.2.2] | rw [show ft 2 (stA b n t3) I3 55 13 = nI 2 from by unfold ft; rw [wr_ne _ _ _ _ (by decide), wr_eq]]
            refine wn_if_le rfl (e := 45) rfl (by omega) (fun c_42 => absurd c_42 (by omega)) (fun c_42 => ?_)
            refine wx_ret rfl rfl ⟨by decide, by decide⟩ ?_
            refine hn2 2 t3 (by decide) ?_ _ (F3.tr (frx.t.q (Nat.le_refl _))) (ft.m (by decide) (by decide))
            rw [← hlw, show 4 - i = 0 by omega, lwP, if_pos hz]
        · have hlf : lwP b n (4 - i) t3 acc = lwF b n t3 acc := by cases (4 - i) with
            | zero => rw [lwP, if_neg hz]
            | succ y => rw [lwP, if_neg hz]
          refine wn_if_eq rfl (e := 28) rfl (by omega) (fun c_25 => ?_) (fun c_25 => absurd c_25 (by omega))
          refine wx_aload_n rfl (e := 130) rfl rfl ?_
          refine wx_getr rfl (e := 133) rfl rfl rfl ?_
          refine wx_aload_n rfl (e := 134) rfl rfl ?_
          refine wx_geti rfl (e := 137) rfl rfl ?_
          rw [b3]
          refine wx_iconst (v := (nI 0)) rfl (e := 138) rfl (by decide) ?_
          refine wn_zast rfl (e := 139) rfl rfl (by decide) (by omega) (by decide) ?_
          refine wx_aload_n rfl (e := 140) rfl rfl ?_
          refine wx_cv0 (mc := 0) (ms := 0) rfl (e := 143) rfl rfl (Nat.le_of_ble_eq_true rfl) ⟨by decide, by decide⟩ ?_
          have MF : MS b n t3 (wr I3 79 (r0 + i) (vp_nar .boolean (nI 0))) G := M3.q (fun q h => wr_other _ _ _ _ (by omega)) (fun k h => by rw [wr_other _ _ _ _ (by omega)])
          refine c_term hB840 MF (by rw [wr_other _ _ _ _ (by decide)]; exact o3) (a0 := x) (by rw [wr_other _ _ _ _ (by decide)]; exact x3) hx3 (br := r0 + i) (r0 := r0 + i) (rh := rh) (by rw [wr_other _ _ _ _ (by decide)]; exact b3) (by omega) (by omega) hr2 (fun z5 I5 f5 M5 L5 g82 g83 b5 x5 o5 g7 => ?_) (fun z5 I5 f5 F5 b5 => ?_)
          · obtain ⟨q1, q2, q3, q4, q5⟩ := sum_far (b := b) (n := n) (t := t3) (by omega) M3.2.2.1
            have q4 := q4 z5
            have w5_ := sum_wf z5 0 (by omega)
            have F5q := (F3.tr ((frq.b (by decide) (by omega)).tr ⟨f5.1, f5.2.1, fun j hj => f5.2.2.1 j (by omega), fun j hj => f5.2.2.2 j (by omega)⟩))
            have h5 : I5 79 (r0 + i) = nI 0 := by rw [g7 79 (by decide) (by decide), wr_eq]; rfl
            have f5b : ∀ j, j < r0 + i → ∀ q, 79 ≤ q → q ≤ 83 → I5 q j = I3 q j := fun j hj q y1 y2 => by rw [f5.2.2.2 j (Or.inl hj) q y1 y2, wr_j (by omega)]
            refine wx_aload_n rfl (e := 144) rfl rfl ?_
            refine wx_iconst (v := (nI 4)) rfl (e := 145) rfl (by decide) ?_
            refine wx_cv1 (mc := 0) (ms := 0) rfl (e := 148) rfl rfl (Nat.le_of_ble_eq_true rfl) ⟨by decide, by decide⟩ ?_
            refine c_must M5 (κ := 59) (by decide) (by decide) (by decide) (by decide) (fun hk6 h46 M6 => ?_) (fun e6 hc6 F6 => ?_)
            · have r149 := M6.2.2.2.2
              have SD : nx (sumS b n t3).2.1 I5 55 19 = nI sd := by rw [nx.f (by decide)]; exact (F5q.2.1 19 (by omega)).trans hsd
              refine wx_aload_n rfl (e := 149) rfl rfl ?_
              refine wx_geti rfl (e := 152) rfl rfl ?_
              rw [r149]
              refine wn_if_le rfl (e := 155) rfl (by omega) (fun c_152 => ?_) (fun c_152 => absurd c_152 (by omega))
              refine wx_aload_n rfl (e := 157) rfl rfl ?_
              refine wx_getr rfl (e := 160) rfl rfl rfl ?_
              refine wx_iconst (v := (nI 5)) rfl (e := 161) rfl (by decide) ?_
              refine wx_aload_n rfl (e := 162) rfl rfl ?_
              refine wx_geti rfl (e := 165) rfl rfl ?_
              rw [SD]
              refine wn_imul rfl (e := 166) rfl ?_
              refine wx_iload_n rfl (e := 167) rfl rfl ?_
              refine wn_iadd rfl (e := 168) rfl ?_
              refine wx_iload_n rfl (e := 169) rfl rfl ?_
              refine wn_iast rfl (e := 170) rfl rfl (by decide) (by omega) (by decide) ?_
              refine wx_aload_n rfl (e := 171) rfl rfl ?_
              refine wx_getr rfl (e := 174) rfl rfl rfl ?_
              refine wx_iconst (v := (nI 5)) rfl (e := 175) rfl (by decide) ?_
              refine wx_aload_n rfl (e := 176) rfl rfl ?_
              refine wx_geti rfl (e := 179) rfl rfl ?_
              rw [wr_other _ _ _ _ (by decide), SD]
              refine wn_imul rfl (e := 180) rfl ?_
              refine wx_iload_n rfl (e := 181) rfl rfl ?_
              refine wn_iadd rfl (e := 182) rfl ?_
              refine wx_aload_n rfl (e := 183) rfl rfl ?_
              refine wx_geti rfl (e := 186) rfl rfl ?_
              rw [wr_other _ _ _ _ (by decide), nx.f (by decide), b5]
              refine wn_iast rfl (e := 187) rfl rfl (by decide) (by omega) (by decide) ?_
              refine wx_ret rfl rfl ⟨by decide, by decide⟩ ?_
              have hll : lwP b n 4 (t + 1) [] = (0, (sumS b n t3).2.1 + 1, acc, (sumS b n t3).2.2) := by rw [← hlw, hlf, lwF, lbd_0 z5, ltk, if_pos hk6, if_neg (by omega)]
              have r5 : ∀ j, j < r0 + i → ∀ q, 79 ≤ q → q ≤ 83 → nx (sumS b n t3).2.1 I5 q j = I3 q j := fun j hj q y1 y2 => by rw [nx.q (by omega)]; exact f5b j hj q y1 y2
              have c5 : ∀ j, j < x → nx (sumS b n t3).2.1 I5 84 j = I3 84 j ∧ nx (sumS b n t3).2.1 I5 85 j = I3 85 j := fun j hj => by have y := f5.2.2.1 j (Or.inl hj); rw [wr_other _ _ _ _ (by decide), wr_other _ _ _ _ (by decide)] at y; rw [nx.q (by decide), nx.q (by decide)]; exact y
              have P5 : MBp (nx (sumS b n t3).2.1 I5) a0 (x + (sumS b n t3).2.2.length) r0 (r0 + i) acc := P3.kept (by omega) (fun j _ hj => r5 j hj) (fun j _ hj => c5 j hj)
              have ei : r0 + i + 1 = r0 + acc.length + 1 := by rw [hacc]
              rw [ei]
              refine hy _ acc _ (by rw [hQ, hll]) (nx (sumS b n t3).2.1 I5) (x + (sumS b n t3).2.2.length) (F5q.tr (frx.n.q (Nat.le_refl _))) (M6.q (fun q h => by rw [wr_other _ _ _ _ (by omega), wr_other _ _ _ _ (by omega)]) (fun j h => by rw [wr_other _ _ _ _ (by omega), wr_other _ _ _ _ (by omega)])) (by rw [nx.f (by decide)]; exact o5) (by rw [nx.f (by decide)]; exact x5) (by omega) (by rw [nx.f (by decide), b5, ei]) (fun I9 y1 y2 => ?_) (by omega)
              rw [← ei] at y1 ⊢
              exact (P5.kept (Nat.le_refl _) (fun j h0 hj q z1 z2 => y1 j h0 (by omega) q z1 z2) (fun j h0 hj => y2 j h0 hj)).end (by omega) (by rw [y1 _ (by omega) (by omega) 79 (by decide) (by decide), nx.q (by decide)]; exact h5) ⟨x, x + (sumS b n t3).2.2.length, by rw [y1 _ (by omega) (by omega) 82 (by decide) (by decide), nx.q (by decide)]; exact g82, by rw [y1 _ (by omega) (by omega) 83 (by decide) (by decide), nx.q (by decide)]; exact g83, by omega, L5.kept2 _ _ _ (fun j z1 z2 => ⟨(y2 j (by omega) z2).1.trans (by rw [nx.q (by decide)]), (y2 j (by omega) z2).2.trans (by rw [nx.q (by decide)])⟩), w5_.wf⟩
            · have r149 := F6.2.2.1
              have k1_ := F6.1
              have k2_ := F6.2.1
              refine wx_aload_n rfl (e := 149) rfl rfl ?_
              refine wx_geti rfl (e := 152) rfl rfl ?_
              rw [r149]
              refine wn_if_le rfl (e := 155) rfl (by omega) (fun c_152 => absurd c_152 (by omega)) (fun c_152 => ?_)
              refine wx_ret rfl rfl ⟨by decide, by decide⟩ ?_
              rcases hc6 with ⟨w1, w2⟩ | ⟨w1, w2, w3⟩
              · subst w1
                refine hn2 1 _ (by decide) ?_ _ (F5q.tr (frx.t.q (Nat.le_refl _))) F6
                rw [← hlw, hlf, lwF, lbd_0 z5, ltk, if_neg w2]
              · subst w1
                refine hn2 2 _ (by decide) ?_ _ (F5q.tr (frx.t.q (Nat.le_refl _))) F6
                rw [← hlw, hlf, lwF, lbd_0 z5, ltk, if_pos w2, if_pos w3]
          · have F5q := (F3.tr ((frq.b (by decide) (by omega)).tr ⟨f5.1, f5.2.1, fun j hj => f5.2.2.1 j (by omega), fun j hj => f5.2.2.2 j (by omega)⟩))
            have r149 := F5.2.2.1
            have k1_ := F5.1
            have k2_ := F5.2.1
            refine wx_aload_n rfl (e := 144) rfl rfl ?_
            refine wx_iconst (v := (nI 4)) rfl (e := 145) rfl (by decide) ?_
            refine wx_cv1 (mc := 0) (ms := 0) rfl (e := 148) rfl rfl (Nat.le_of_ble_eq_true rfl) ⟨by decide, by decide⟩ ?_
            refine c_must0 F5.1 (by omega) F5.2.2.1 ?_
            refine wx_aload_n rfl (e := 149) rfl rfl ?_
            refine wx_geti rfl (e := 152) rfl rfl ?_
            rw [r149]
            refine wn_if_le rfl (e := 155) rfl (by omega) (fun c_152 => absurd c_152 (by omega)) (fun c_152 => ?_)
            refine wx_ret rfl rfl ⟨by decide, by decide⟩ ?_
            refine hn2 _ _ z5 ?_ _ F5q F5
            rw [← hlw, hlf, lwF, lbd_1 z5]
    refine wx_aload_n rfl (e := 6) rfl rfl ?_
    refine wx_geti rfl (e := 9) rfl rfl ?_
    rw [nx.f (by decide), hbr]
    refine wx_istore_n (L2 := [_, _, _, _]) rfl (e := 10) rfl (by decide) rfl ?_
    refine wx_iconst (v := (nI 0)) rfl (e := 11) rfl (by decide) ?_
    refine wx_istore_n (L2 := [_, _, _, _]) rfl (e := 12) rfl (by decide) rfl ?_
    exact loop 5 0 (t + 1) a0 [] (nx t I) (by omega) (by omega) (frx.n.q (Nat.le_refl _)) M1 (by rw [nx.f (by decide)]; exact h12) (by rw [nx.f (by decide)]; exact h43) (Nat.le_refl _) (by omega) (by rw [nx.f (by decide)]; exact hbr) rfl rfl (by omega) rfl
  · have hbr0 : ft e0 (stA b n t) I 55 37 = nI r0 := by unfold ft; rw [wr_ne _ _ _ _ (by decide), wr_ne _ _ _ _ (by decide)]; exact hbr
    refine wx_aload_n rfl (e := 6) rfl rfl ?_
    refine wx_geti rfl (e := 9) rfl rfl ?_
    rw [hbr0]
    refine wx_istore_n (L2 := [_, _, _, _]) rfl (e := 10) rfl (by decide) rfl ?_
    refine wx_iconst (v := (nI 0)) rfl (e := 11) rfl (by decide) ?_
    refine wx_istore_n (L2 := [_, _, _, _]) rfl (e := 12) rfl (by decide) rfl ?_
    refine fl12 (a0 := a0) (h := B + 420) (rh := rh) (i := 0) F0.1 (by have := F0.2.1; omega) F0.2.2.1 (br := r0) hbr0 (Nat.le_refl _) hr2 (by omega) (fun I9 f9 y13 y14 => ?_)
    rcases hc0 with ⟨w1, w2⟩ | ⟨w1, w2, w3⟩
    · subst w1; exact hn 1 t (by decide) (by rw [ltk, if_neg w2]) I9 ((frx.t.q (Nat.le_refl _)).tr f9) (F0.co y13 y14)
    · subst w1; exact hn 2 t (by decide) (by rw [ltk, if_pos w2, if_pos w3]) I9 ((frx.t.q (Nat.le_refl _)).tr f9) (F0.co y13 y14)

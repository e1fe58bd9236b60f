/-! the class is made -/
theorem c_laws {d n o v : Nat} {S : Nat → ab_Sh} {I : Nat → Nat → Int32} {G : Nat → Nat → Int64} {P : Nat → Nat → Option Nat} {Q : ab_Q} (hS : S o = .inl 7) (hP : P o 0 = some v) (hv : v < 1000000) (hq : Q (some (.ref v)) (n, S, I, G, P)) : ab_call ab_MT (d + 1) 91 [.ref o] (n, S, I, G, P) 0 0 Q := by
  refine wx_in (M := mX7_laws) rfl rfl rfl (Nat.le_of_ble_eq_true rfl) ?_
  refine wx_aload_n rfl (e := 1) rfl rfl ?_
  refine wx_getr rfl (e := 4) rfl hS hP ?_
  refine wx_aret rfl rfl hv ⟨by decide, by decide⟩ ?_
  exact hq
set_option maxRecDepth 10000 in
set_option maxHeartbeats 4000000 in
theorem i_X2_2 {d Lx : Nat} {l : List (Nat × Nat × Nat)} {I : Nat → Nat → Int32} {G : Nat → Nat → Int64} {Q : ab_Q} (E_ : EM 3 l I G) (hq : EM 8 ((2, 4, 7) :: (2, 3, 6) :: (2, 2, 5) :: (2, 1, 4) :: (2, 0, 3) :: l) I G → Q none (hcc Lx 8 ((2, 4, 7) :: (2, 3, 6) :: (2, 2, 5) :: (2, 1, 4) :: (2, 0, 3) :: l) I G)) : ab_call ab_MT (d + 1) 34 [.ref 2] (hcc Lx 3 l I G) 5 874 Q := by
  refine wx_in (M := mX2_init) rfl rfl rfl (Nat.le_of_ble_eq_true rfl) ?_
  refine wx_aload_n rfl (e := 1) rfl rfl ?_
  refine wx_obj rfl (e := 4) rfl ⟨by decide, Nat.le_of_ble_eq_true rfl⟩ ?_
  refine wx_aload_n rfl (e := 5) rfl rfl ?_
  refine wx_sipush (v := (nI 420)) rfl (e := 8) rfl (by decide) ?_
  refine wk_newa (k2 := 4) rfl (e := 10) rfl E_ rfl rfl ⟨by decide, by decide, by decide, by decide⟩ (fun E_ => ?_)
  refine wk_putr rfl (e := 13) rfl rfl E_ ⟨by decide, by decide, by decide⟩ (fun E_ => ?_)
  refine wx_aload_n rfl (e := 14) rfl rfl ?_
  refine wx_sipush (v := (nI 420)) rfl (e := 17) rfl (by decide) ?_
  refine wk_newa (k2 := 5) rfl (e := 19) rfl E_ rfl rfl ⟨by decide, by decide, by decide, by decide⟩ (fun E_ => ?_)
  refine wk_putr rfl (e := 22) rfl rfl E_ ⟨by decide, by decide, by decide⟩ (fun E_ => ?_)
  refine wx_aload_n rfl (e := 23) rfl rfl ?_
  refine wx_iconst (v := (nI 5)) rfl (e := 24) rfl (by decide) ?_
  refine wk_newa (k2 := 6) rfl (e := 26) rfl E_ rfl rfl ⟨by decide, by decide, by decide, by decide⟩ (fun E_ => ?_)
  refine wk_putr rfl (e := 29) rfl rfl E_ ⟨by decide, by decide, by decide⟩ (fun E_ => ?_)
  refine wx_aload_n rfl (e := 30) rfl rfl ?_
  refine wx_bipush (v := (nI 9)) rfl (e := 32) rfl (by decide) ?_
  refine wk_newa (k2 := 7) rfl (e := 34) rfl E_ rfl rfl ⟨by decide, by decide, by decide, by decide⟩ (fun E_ => ?_)
  refine wk_putr rfl (e := 37) rfl rfl E_ ⟨by decide, by decide, by decide⟩ (fun E_ => ?_)
  refine wx_aload_n rfl (e := 38) rfl rfl ?_
  refine wx_bipush (v := (nI 20)) rfl (e := 40) rfl (by decide) ?_
  refine wk_newa (k2 := 8) rfl (e := 42) rfl E_ rfl rfl ⟨by decide, by decide, by decide, by decide⟩ (fun E_ => ?_)
  refine wk_putr rfl (e := 45) rfl rfl E_ ⟨by decide, by decide, by decide⟩ (fun E_ => ?_)
  refine wx_ret rfl rfl ⟨by decide, by decide⟩ ?_
  exact hq E_
set_option maxRecDepth 10000 in
set_option maxHeartbeats 4000000 in
theorem i_X2_17 {d Lx : Nat} {l : List (Nat × Nat × Nat)} {I : Nat → Nat → Int32} {G : Nat → Nat → Int64} {Q : ab_Q} (E_ : EM 18 l I G) (hq : EM 23 ((17, 4, 22) :: (17, 3, 21) :: (17, 2, 20) :: (17, 1, 19) :: (17, 0, 18) :: l) I G → Q none (hcc Lx 23 ((17, 4, 22) :: (17, 3, 21) :: (17, 2, 20) :: (17, 1, 19) :: (17, 0, 18) :: l) I G)) : ab_call ab_MT (d + 1) 34 [.ref 17] (hcc Lx 18 l I G) 5 874 Q := by
  refine wx_in (M := mX2_init) rfl rfl rfl (Nat.le_of_ble_eq_true rfl) ?_
  refine wx_aload_n rfl (e := 1) rfl rfl ?_
  refine wx_obj rfl (e := 4) rfl ⟨by decide, Nat.le_of_ble_eq_true rfl⟩ ?_
  refine wx_aload_n rfl (e := 5) rfl rfl ?_
  refine wx_sipush (v := (nI 420)) rfl (e := 8) rfl (by decide) ?_
  refine wk_newa (k2 := 19) rfl (e := 10) rfl E_ rfl rfl ⟨by decide, by decide, by decide, by decide⟩ (fun E_ => ?_)
  refine wk_putr rfl (e := 13) rfl rfl E_ ⟨by decide, by decide, by decide⟩ (fun E_ => ?_)
  refine wx_aload_n rfl (e := 14) rfl rfl ?_
  refine wx_sipush (v := (nI 420)) rfl (e := 17) rfl (by decide) ?_
  refine wk_newa (k2 := 20) rfl (e := 19) rfl E_ rfl rfl ⟨by decide, by decide, by decide, by decide⟩ (fun E_ => ?_)
  refine wk_putr rfl (e := 22) rfl rfl E_ ⟨by decide, by decide, by decide⟩ (fun E_ => ?_)
  refine wx_aload_n rfl (e := 23) rfl rfl ?_
  refine wx_iconst (v := (nI 5)) rfl (e := 24) rfl (by decide) ?_
  refine wk_newa (k2 := 21) rfl (e := 26) rfl E_ rfl rfl ⟨by decide, by decide, by decide, by decide⟩ (fun E_ => ?_)
  refine wk_putr rfl (e := 29) rfl rfl E_ ⟨by decide, by decide, by decide⟩ (fun E_ => ?_)
  refine wx_aload_n rfl (e := 30) rfl rfl ?_
  refine wx_bipush (v := (nI 9)) rfl (e := 32) rfl (by decide) ?_
  refine wk_newa (k2 := 22) rfl (e := 34) rfl E_ rfl rfl ⟨by decide, by decide, by decide, by decide⟩ (fun E_ => ?_)
  refine wk_putr rfl (e := 37) rfl rfl E_ ⟨by decide, by decide, by decide⟩ (fun E_ => ?_)
  refine wx_aload_n rfl (e := 38) rfl rfl ?_
  refine wx_bipush (v := (nI 20)) rfl (e := 40) rfl (by decide) ?_
  refine wk_newa (k2 := 23) rfl (e := 42) rfl E_ rfl rfl ⟨by decide, by decide, by decide, by decide⟩ (fun E_ => ?_)
  refine wk_putr rfl (e := 45) rfl rfl E_ ⟨by decide, by decide, by decide⟩ (fun E_ => ?_)
  refine wx_ret rfl rfl ⟨by decide, by decide⟩ ?_
  exact hq E_
set_option maxRecDepth 10000 in
set_option maxHeartbeats 4000000 in
theorem i_X7_1 {d Lx : Nat} {l : List (Nat × Nat × Nat)} {I : Nat → Nat → Int32} {G : Nat → Nat → Int64} {Q : ab_Q} (E_ : EM 2 l I G) (hq : ∀ I2, (∀ q, ¬ (1 ≤ q ∧ q ≤ 5) → q ≠ 11 → I2 q = I q) → (∀ k, 9 ≤ k → k ≤ 15 → I2 1 k = nI 0) → CLW 1 I2 plS 16 → (∀ k, k < 36 → I2 11 k = if k / 6 = k % 6 then nI 0 else nI 999) → EM 16 ((1, 8, 15) :: (1, 7, 14) :: (1, 6, 13) :: (1, 5, 12) :: (1, 4, 11) :: (1, 3, 10) :: (1, 2, 9) :: (1, 1, 8) :: (1, 0, 2) :: (2, 4, 7) :: (2, 3, 6) :: (2, 2, 5) :: (2, 1, 4) :: (2, 0, 3) :: l) I2 G → Q none (hcc Lx 16 ((1, 8, 15) :: (1, 7, 14) :: (1, 6, 13) :: (1, 5, 12) :: (1, 4, 11) :: (1, 3, 10) :: (1, 2, 9) :: (1, 1, 8) :: (1, 0, 2) :: (2, 4, 7) :: (2, 3, 6) :: (2, 2, 5) :: (2, 1, 4) :: (2, 0, 3) :: l) I2 G)) : ab_call ab_MT (d + 5) 89 [.ref 1] (hcc Lx 2 l I G) 14 966 Q := by
  refine wx_in (M := mX7_init) rfl rfl rfl (Nat.le_of_ble_eq_true rfl) ?_
  refine wx_aload_n rfl (e := 1) rfl rfl ?_
  refine wx_obj rfl (e := 4) rfl ⟨by decide, Nat.le_of_ble_eq_true rfl⟩ ?_
  refine wx_aload_n rfl (e := 5) rfl rfl ?_
  refine wk_new (k2 := 3) rfl (e := 8) rfl E_ rfl rfl ⟨by decide, by decide, by decide⟩ (fun E_ => ?_)
  refine wx_dup rfl (e := 9) rfl rfl ?_
  refine wx_ci0 (mc := 5) (ms := 874) rfl (e := 12) rfl (by decide) (Nat.le_of_ble_eq_true rfl) ⟨by decide, by decide⟩ ?_
  refine i_X2_2 E_ (fun E_ => ?_)
  refine wk_putr rfl (e := 15) rfl rfl E_ ⟨by decide, by decide, by decide⟩ (fun E_ => ?_)
  refine wx_aload_n rfl (e := 16) rfl rfl ?_
  refine wx_bipush (v := (nI 17)) rfl (e := 18) rfl (by decide) ?_
  refine wk_newa (k2 := 9) rfl (e := 20) rfl E_ rfl rfl ⟨by decide, by decide, by decide, by decide⟩ (fun E_ => ?_)
  refine wk_putr rfl (e := 23) rfl rfl E_ ⟨by decide, by decide, by decide⟩ (fun E_ => ?_)
  refine wx_aload_n rfl (e := 24) rfl rfl ?_
  refine wx_bipush (v := (nI 6)) rfl (e := 26) rfl (by decide) ?_
  refine wk_newa (k2 := 10) rfl (e := 28) rfl E_ rfl rfl ⟨by decide, by decide, by decide, by decide⟩ (fun E_ => ?_)
  refine wk_putr rfl (e := 31) rfl rfl E_ ⟨by decide, by decide, by decide⟩ (fun E_ => ?_)
  refine wx_aload_n rfl (e := 32) rfl rfl ?_
  refine wx_bipush (v := (nI 6)) rfl (e := 34) rfl (by decide) ?_
  refine wk_newa (k2 := 11) rfl (e := 36) rfl E_ rfl rfl ⟨by decide, by decide, by decide, by decide⟩ (fun E_ => ?_)
  refine wk_putr rfl (e := 39) rfl rfl E_ ⟨by decide, by decide, by decide⟩ (fun E_ => ?_)
  refine wx_aload_n rfl (e := 40) rfl rfl ?_
  refine wx_bipush (v := (nI 36)) rfl (e := 42) rfl (by decide) ?_
  refine wk_newa (k2 := 12) rfl (e := 44) rfl E_ rfl rfl ⟨by decide, by decide, by decide, by decide⟩ (fun E_ => ?_)
  refine wk_putr rfl (e := 47) rfl rfl E_ ⟨by decide, by decide, by decide⟩ (fun E_ => ?_)
  refine wx_aload_n rfl (e := 48) rfl rfl ?_
  refine wx_bipush (v := (nI 6)) rfl (e := 50) rfl (by decide) ?_
  refine wk_newa (k2 := 13) rfl (e := 52) rfl E_ rfl rfl ⟨by decide, by decide, by decide, by decide⟩ (fun E_ => ?_)
  refine wk_putr rfl (e := 55) rfl rfl E_ ⟨by decide, by decide, by decide⟩ (fun E_ => ?_)
  refine wx_aload_n rfl (e := 56) rfl rfl ?_
  refine wx_iconst (v := (nI 5)) rfl (e := 57) rfl (by decide) ?_
  refine wk_newa (k2 := 14) rfl (e := 59) rfl E_ rfl rfl ⟨by decide, by decide, by decide, by decide⟩ (fun E_ => ?_)
  refine wk_putr rfl (e := 62) rfl rfl E_ ⟨by decide, by decide, by decide⟩ (fun E_ => ?_)
  refine wx_aload_n rfl (e := 63) rfl rfl ?_
  refine wx_iconst (v := (nI 5)) rfl (e := 64) rfl (by decide) ?_
  refine wk_newa (k2 := 15) rfl (e := 66) rfl E_ rfl rfl ⟨by decide, by decide, by decide, by decide⟩ (fun E_ => ?_)
  refine wk_putr rfl (e := 69) rfl rfl E_ ⟨by decide, by decide, by decide⟩ (fun E_ => ?_)
  refine wx_aload_n rfl (e := 70) rfl rfl ?_
  refine wx_iconst (v := (nI 5)) rfl (e := 71) rfl (by decide) ?_
  refine wk_newa (k2 := 16) rfl (e := 73) rfl E_ rfl rfl ⟨by decide, by decide, by decide, by decide⟩ (fun E_ => ?_)
  refine wk_putr rfl (e := 76) rfl rfl E_ ⟨by decide, by decide, by decide⟩ (fun E_ => ?_)
  refine wx_aload_n rfl (e := 77) rfl rfl ?_
  refine wx_cv0 (mc := 0) (ms := 0) rfl (e := 80) rfl rfl (Nat.le_of_ble_eq_true rfl) ⟨by decide, by decide⟩ ?_
  refine c_X7_clear_1_h16 (l := l) (fun I2 f2 z2 c2 g2 => ?_)
  have E_ : EM 16 ((1, 8, 15) :: (1, 7, 14) :: (1, 6, 13) :: (1, 5, 12) :: (1, 4, 11) :: (1, 3, 10) :: (1, 2, 9) :: (1, 1, 8) :: (1, 0, 2) :: (2, 4, 7) :: (2, 3, 6) :: (2, 2, 5) :: (2, 1, 4) :: (2, 0, 3) :: l) I2 G := E_.i (fun q y1 y2 => f2 q (by omega) (by omega))
  refine wx_ret rfl rfl ⟨by decide, by decide⟩ ?_
  exact hq I2 f2 z2 c2 g2 E_
set_option maxRecDepth 10000 in
set_option maxHeartbeats 4000000 in
theorem i_X7_16 {d Lx : Nat} {l : List (Nat × Nat × Nat)} {I : Nat → Nat → Int32} {G : Nat → Nat → Int64} {Q : ab_Q} (E_ : EM 17 l I G) (hq : ∀ I2, (∀ q, ¬ (16 ≤ q ∧ q ≤ 20) → q ≠ 26 → I2 q = I q) → (∀ k, 9 ≤ k → k ≤ 15 → I2 16 k = nI 0) → CLW 16 I2 plS 16 → (∀ k, k < 36 → I2 26 k = if k / 6 = k % 6 then nI 0 else nI 999) → EM 31 ((16, 8, 30) :: (16, 7, 29) :: (16, 6, 28) :: (16, 5, 27) :: (16, 4, 26) :: (16, 3, 25) :: (16, 2, 24) :: (16, 1, 23) :: (16, 0, 17) :: (17, 4, 22) :: (17, 3, 21) :: (17, 2, 20) :: (17, 1, 19) :: (17, 0, 18) :: l) I2 G → Q none (hcc Lx 31 ((16, 8, 30) :: (16, 7, 29) :: (16, 6, 28) :: (16, 5, 27) :: (16, 4, 26) :: (16, 3, 25) :: (16, 2, 24) :: (16, 1, 23) :: (16, 0, 17) :: (17, 4, 22) :: (17, 3, 21) :: (17, 2, 20) :: (17, 1, 19) :: (17, 0, 18) :: l) I2 G)) : ab_call ab_MT (d + 5) 89 [.ref 16] (hcc Lx 17 l I G) 14 966 Q := by
  refine wx_in (M := mX7_init) rfl rfl rfl (Nat.le_of_ble_eq_true rfl) ?_
  refine wx_aload_n rfl (e := 1) rfl rfl ?_
  refine wx_obj rfl (e := 4) rfl ⟨by decide, Nat.le_of_ble_eq_true rfl⟩ ?_
  refine wx_aload_n rfl (e := 5) rfl rfl ?_
  refine wk_new (k2 := 18) rfl (e := 8) rfl E_ rfl rfl ⟨by decide, by decide, by decide⟩ (fun E_ => ?_)
  refine wx_dup rfl (e := 9) rfl rfl ?_
  refine wx_ci0 (mc := 5) (ms := 874) rfl (e := 12) rfl (by decide) (Nat.le_of_ble_eq_true rfl) ⟨by decide, by decide⟩ ?_
  refine i_X2_17 E_ (fun E_ => ?_)
  refine wk_putr rfl (e := 15) rfl rfl E_ ⟨by decide, by decide, by decide⟩ (fun E_ => ?_)
  refine wx_aload_n rfl (e := 16) rfl rfl ?_
  refine wx_bipush (v := (nI 17)) rfl (e := 18) rfl (by decide) ?_
  refine wk_newa (k2 := 24) rfl (e := 20) rfl E_ rfl rfl ⟨by decide, by decide, by decide, by decide⟩ (fun E_ => ?_)
  refine wk_putr rfl (e := 23) rfl rfl E_ ⟨by decide, by decide, by decide⟩ (fun E_ => ?_)
  refine wx_aload_n rfl (e := 24) rfl rfl ?_
  refine wx_bipush (v := (nI 6)) rfl (e := 26) rfl (by decide) ?_
  refine wk_newa (k2 := 25) rfl (e := 28) rfl E_ rfl rfl ⟨by decide, by decide, by decide, by decide⟩ (fun E_ => ?_)
  refine wk_putr rfl (e := 31) rfl rfl E_ ⟨by decide, by decide, by decide⟩ (fun E_ => ?_)
  refine wx_aload_n rfl (e := 32) rfl rfl ?_
  refine wx_bipush (v := (nI 6)) rfl (e := 34) rfl (by decide) ?_
  refine wk_newa (k2 := 26) rfl (e := 36) rfl E_ rfl rfl ⟨by decide, by decide, by decide, by decide⟩ (fun E_ => ?_)
  refine wk_putr rfl (e := 39) rfl rfl E_ ⟨by decide, by decide, by decide⟩ (fun E_ => ?_)
  refine wx_aload_n rfl (e := 40) rfl rfl ?_
  refine wx_bipush (v := (nI 36)) rfl (e := 42) rfl (by decide) ?_
  refine wk_newa (k2 := 27) rfl (e := 44) rfl E_ rfl rfl ⟨by decide, by decide, by decide, by decide⟩ (fun E_ => ?_)
  refine wk_putr rfl (e := 47) rfl rfl E_ ⟨by decide, by decide, by decide⟩ (fun E_ => ?_)
  refine wx_aload_n rfl (e := 48) rfl rfl ?_
  refine wx_bipush (v := (nI 6)) rfl (e := 50) rfl (by decide) ?_
  refine wk_newa (k2 := 28) rfl (e := 52) rfl E_ rfl rfl ⟨by decide, by decide, by decide, by decide⟩ (fun E_ => ?_)
  refine wk_putr rfl (e := 55) rfl rfl E_ ⟨by decide, by decide, by decide⟩ (fun E_ => ?_)
  refine wx_aload_n rfl (e := 56) rfl rfl ?_
  refine wx_iconst (v := (nI 5)) rfl (e := 57) rfl (by decide) ?_
  refine wk_newa (k2 := 29) rfl (e := 59) rfl E_ rfl rfl ⟨by decide, by decide, by decide, by decide⟩ (fun E_ => ?_)
  refine wk_putr rfl (e := 62) rfl rfl E_ ⟨by decide, by decide, by decide⟩ (fun E_ => ?_)
  refine wx_aload_n rfl (e := 63) rfl rfl ?_
  refine wx_iconst (v := (nI 5)) rfl (e := 64) rfl (by decide) ?_
  refine wk_newa (k2 := 30) rfl (e := 66) rfl E_ rfl rfl ⟨by decide, by decide, by decide, by decide⟩ (fun E_ => ?_)
  refine wk_putr rfl (e := 69) rfl rfl E_ ⟨by decide, by decide, by decide⟩ (fun E_ => ?_)
  refine wx_aload_n rfl (e := 70) rfl rfl ?_
  refine wx_iconst (v := (nI 5)) rfl (e := 71) rfl (by decide) ?_
  refine wk_newa (k2 := 31) rfl (e := 73) rfl E_ rfl rfl ⟨by decide, by decide, by decide, by decide⟩ (fun E_ => ?_)
  refine wk_putr rfl (e := 76) rfl rfl E_ ⟨by decide, by decide, by decide⟩ (fun E_ => ?_)
  refine wx_aload_n rfl (e := 77) rfl rfl ?_
  refine wx_cv0 (mc := 0) (ms := 0) rfl (e := 80) rfl rfl (Nat.le_of_ble_eq_true rfl) ⟨by decide, by decide⟩ ?_
  refine c_X7_clear_16_h31 (l := l) (fun I2 f2 z2 c2 g2 => ?_)
  have E_ : EM 31 ((16, 8, 30) :: (16, 7, 29) :: (16, 6, 28) :: (16, 5, 27) :: (16, 4, 26) :: (16, 3, 25) :: (16, 2, 24) :: (16, 1, 23) :: (16, 0, 17) :: (17, 4, 22) :: (17, 3, 21) :: (17, 2, 20) :: (17, 1, 19) :: (17, 0, 18) :: l) I2 G := E_.i (fun q y1 y2 => f2 q (by omega) (by omega))
  refine wx_ret rfl rfl ⟨by decide, by decide⟩ ?_
  exact hq I2 f2 z2 c2 g2 E_
set_option maxRecDepth 10000 in
set_option maxHeartbeats 4000000 in
theorem i_X6 {d Lx : Nat} {l : List (Nat × Nat × Nat)} {I : Nat → Nat → Int32} {G : Nat → Nat → Int64} {Q : ab_Q} (E_ : EM 32 l I G) (hq : EM 33 ((31, 0, 32) :: l) I G → Q none (hcc Lx 33 ((31, 0, 32) :: l) I G)) : ab_call ab_MT (d + 1) 84 [.ref 31] (hcc Lx 32 l I G) 1 2000 Q := by
  refine wx_in (M := mX6_init) rfl rfl rfl (Nat.le_of_ble_eq_true rfl) ?_
  refine wx_aload_n rfl (e := 1) rfl rfl ?_
  refine wx_obj rfl (e := 4) rfl ⟨by decide, Nat.le_of_ble_eq_true rfl⟩ ?_
  refine wx_aload_n rfl (e := 5) rfl rfl ?_
  refine wx_sipush (v := (nI 2000)) rfl (e := 8) rfl (by decide) ?_
  refine wk_newa (k2 := 33) rfl (e := 10) rfl E_ rfl rfl ⟨by decide, by decide, by decide, by decide⟩ (fun E_ => ?_)
  refine wk_putr rfl (e := 13) rfl rfl E_ ⟨by decide, by decide, by decide⟩ (fun E_ => ?_)
  refine wx_ret rfl rfl ⟨by decide, by decide⟩ ?_
  exact hq E_
set_option maxRecDepth 10000 in
set_option maxHeartbeats 4000000 in
theorem i_X5_39 {d Lx : Nat} {l : List (Nat × Nat × Nat)} {I : Nat → Nat → Int32} {G : Nat → Nat → Int64} {Q : ab_Q} (E_ : EM 40 l I G) (hq : EM 41 ((39, 0, 40) :: l) I G → Q none (hcc Lx 41 ((39, 0, 40) :: l) I G)) : ab_call ab_MT (d + 1) 73 [.ref 39] (hcc Lx 40 l I G) 1 55 Q := by
  refine wx_in (M := mX5_init) rfl rfl rfl (Nat.le_of_ble_eq_true rfl) ?_
  refine wx_aload_n rfl (e := 1) rfl rfl ?_
  refine wx_obj rfl (e := 4) rfl ⟨by decide, Nat.le_of_ble_eq_true rfl⟩ ?_
  refine wx_aload_n rfl (e := 5) rfl rfl ?_
  refine wx_bipush (v := (nI 55)) rfl (e := 7) rfl (by decide) ?_
  refine wk_newa (k2 := 41) rfl (e := 9) rfl E_ rfl rfl ⟨by decide, by decide, by decide, by decide⟩ (fun E_ => ?_)
  refine wk_putr rfl (e := 12) rfl rfl E_ ⟨by decide, by decide, by decide⟩ (fun E_ => ?_)
  refine wx_ret rfl rfl ⟨by decide, by decide⟩ ?_
  exact hq E_
set_option maxRecDepth 10000 in
set_option maxHeartbeats 4000000 in
theorem i_X5_45 {d Lx : Nat} {l : List (Nat × Nat × Nat)} {I : Nat → Nat → Int32} {G : Nat → Nat → Int64} {Q : ab_Q} (E_ : EM 46 l I G) (hq : EM 47 ((45, 0, 46) :: l) I G → Q none (hcc Lx 47 ((45, 0, 46) :: l) I G)) : ab_call ab_MT (d + 1) 73 [.ref 45] (hcc Lx 46 l I G) 1 55 Q := by
  refine wx_in (M := mX5_init) rfl rfl rfl (Nat.le_of_ble_eq_true rfl) ?_
  refine wx_aload_n rfl (e := 1) rfl rfl ?_
  refine wx_obj rfl (e := 4) rfl ⟨by decide, Nat.le_of_ble_eq_true rfl⟩ ?_
  refine wx_aload_n rfl (e := 5) rfl rfl ?_
  refine wx_bipush (v := (nI 55)) rfl (e := 7) rfl (by decide) ?_
  refine wk_newa (k2 := 47) rfl (e := 9) rfl E_ rfl rfl ⟨by decide, by decide, by decide, by decide⟩ (fun E_ => ?_)
  refine wk_putr rfl (e := 12) rfl rfl E_ ⟨by decide, by decide, by decide⟩ (fun E_ => ?_)
  refine wx_ret rfl rfl ⟨by decide, by decide⟩ ?_
  exact hq E_
set_option maxRecDepth 10000 in
set_option maxHeartbeats 4000000 in
theorem i_X3 {d Lx : Nat} {l : List (Nat × Nat × Nat)} {I : Nat → Nat → Int32} {G : Nat → Nat → Int64} {Q : ab_Q} (E_ : EM 49 l I G) (hq : EM 52 ((48, 2, 51) :: (48, 1, 50) :: (48, 0, 49) :: l) I G → Q none (hcc Lx 52 ((48, 2, 51) :: (48, 1, 50) :: (48, 0, 49) :: l) I G)) : ab_call ab_MT (d + 1) 45 [.ref 48] (hcc Lx 49 l I G) 3 2368 Q := by
  refine wx_in (M := mX3_init) rfl rfl rfl (Nat.le_of_ble_eq_true rfl) ?_
  refine wx_aload_n rfl (e := 1) rfl rfl ?_
  refine wx_obj rfl (e := 4) rfl ⟨by decide, Nat.le_of_ble_eq_true rfl⟩ ?_
  refine wx_aload_n rfl (e := 5) rfl rfl ?_
  refine wx_sipush (v := (nI 2200)) rfl (e := 8) rfl (by decide) ?_
  refine wk_newa (k2 := 50) rfl (e := 10) rfl E_ rfl rfl ⟨by decide, by decide, by decide, by decide⟩ (fun E_ => ?_)
  refine wk_putr rfl (e := 13) rfl rfl E_ ⟨by decide, by decide, by decide⟩ (fun E_ => ?_)
  refine wx_aload_n rfl (e := 14) rfl rfl ?_
  refine wx_sipush (v := (nI 165)) rfl (e := 17) rfl (by decide) ?_
  refine wk_newa (k2 := 51) rfl (e := 19) rfl E_ rfl rfl ⟨by decide, by decide, by decide, by decide⟩ (fun E_ => ?_)
  refine wk_putr rfl (e := 22) rfl rfl E_ ⟨by decide, by decide, by decide⟩ (fun E_ => ?_)
  refine wx_aload_n rfl (e := 23) rfl rfl ?_
  refine wx_iconst (v := (nI 3)) rfl (e := 24) rfl (by decide) ?_
  refine wk_newa (k2 := 52) rfl (e := 26) rfl E_ rfl rfl ⟨by decide, by decide, by decide, by decide⟩ (fun E_ => ?_)
  refine wk_putr rfl (e := 29) rfl rfl E_ ⟨by decide, by decide, by decide⟩ (fun E_ => ?_)
  refine wx_ret rfl rfl ⟨by decide, by decide⟩ ?_
  exact hq E_
set_option maxRecDepth 10000 in
set_option maxHeartbeats 4000000 in
theorem i_X9 {d Lx : Nat} {l : List (Nat × Nat × Nat)} {I : Nat → Nat → Int32} {G : Nat → Nat → Int64} {Q : ab_Q} (E_ : EM 53 l I G) (hq : EM 55 ((52, 1, 54) :: (52, 0, 53) :: l) I G → Q none (hcc Lx 55 ((52, 1, 54) :: (52, 0, 53) :: l) I G)) : ab_call ab_MT (d + 1) 130 [.ref 52] (hcc Lx 53 l I G) 2 40 Q := by
  refine wx_in (M := mX9_init) rfl rfl rfl (Nat.le_of_ble_eq_true rfl) ?_
  refine wx_aload_n rfl (e := 1) rfl rfl ?_
  refine wx_obj rfl (e := 4) rfl ⟨by decide, Nat.le_of_ble_eq_true rfl⟩ ?_
  refine wx_aload_n rfl (e := 5) rfl rfl ?_
  refine wx_bipush (v := (nI 20)) rfl (e := 7) rfl (by decide) ?_
  refine wk_newa (k2 := 54) rfl (e := 9) rfl E_ rfl rfl ⟨by decide, by decide, by decide, by decide⟩ (fun E_ => ?_)
  refine wk_putr rfl (e := 12) rfl rfl E_ ⟨by decide, by decide, by decide⟩ (fun E_ => ?_)
  refine wx_aload_n rfl (e := 13) rfl rfl ?_
  refine wx_bipush (v := (nI 20)) rfl (e := 15) rfl (by decide) ?_
  refine wk_newa (k2 := 55) rfl (e := 17) rfl E_ rfl rfl ⟨by decide, by decide, by decide, by decide⟩ (fun E_ => ?_)
  refine wk_putr rfl (e := 20) rfl rfl E_ ⟨by decide, by decide, by decide⟩ (fun E_ => ?_)
  refine wx_ret rfl rfl ⟨by decide, by decide⟩ ?_
  exact hq E_
set_option maxRecDepth 10000 in
set_option maxHeartbeats 4000000 in
theorem i_X0 {d Lx : Nat} {l : List (Nat × Nat × Nat)} {I : Nat → Nat → Int32} {G : Nat → Nat → Int64} {Q : ab_Q} (E_ : EM 42 l I G) (hl : PU l 1 0 = some 2) (hq : EM 44 ((41, 3, 2) :: (41, 2, 1) :: (41, 1, 43) :: (41, 0, 42) :: l) I G → Q none (hcc Lx 44 ((41, 3, 2) :: (41, 2, 1) :: (41, 1, 43) :: (41, 0, 42) :: l) I G)) : ab_call ab_MT (d + 2) 0 [.ref 41, .ref 1] (hcc Lx 42 l I G) 2 10 Q := by
  refine wx_in (M := mX0_init) rfl rfl rfl (Nat.le_of_ble_eq_true rfl) ?_
  refine wx_aload_n rfl (e := 1) rfl rfl ?_
  refine wx_obj rfl (e := 4) rfl ⟨by decide, Nat.le_of_ble_eq_true rfl⟩ ?_
  refine wx_aload_n rfl (e := 5) rfl rfl ?_
  refine wx_iconst (v := (nI 5)) rfl (e := 6) rfl (by decide) ?_
  refine wk_newa (k2 := 43) rfl (e := 8) rfl E_ rfl rfl ⟨by decide, by decide, by decide, by decide⟩ (fun E_ => ?_)
  refine wk_putr rfl (e := 11) rfl rfl E_ ⟨by decide, by decide, by decide⟩ (fun E_ => ?_)
  refine wx_aload_n rfl (e := 12) rfl rfl ?_
  refine wx_iconst (v := (nI 5)) rfl (e := 13) rfl (by decide) ?_
  refine wk_newa (k2 := 44) rfl (e := 15) rfl E_ rfl rfl ⟨by decide, by decide, by decide, by decide⟩ (fun E_ => ?_)
  refine wk_putr rfl (e := 18) rfl rfl E_ ⟨by decide, by decide, by decide⟩ (fun E_ => ?_)
  refine wx_aload_n rfl (e := 19) rfl rfl ?_
  refine wx_aload_n rfl (e := 20) rfl rfl ?_
  refine wk_putr rfl (e := 23) rfl rfl E_ ⟨by decide, by decide, by decide⟩ (fun E_ => ?_)
  refine wx_aload_n rfl (e := 24) rfl rfl ?_
  refine wx_aload_n rfl (e := 25) rfl rfl ?_
  refine wx_cv0 (mc := 0) (ms := 0) rfl (e := 28) rfl rfl (Nat.le_of_ble_eq_true rfl) ⟨by decide, by decide⟩ ?_
  refine c_laws (v := 2) rfl hl (by decide) ?_
  refine wk_putr rfl (e := 31) rfl rfl E_ ⟨by decide, by decide, by decide⟩ (fun E_ => ?_)
  refine wx_ret rfl rfl ⟨by decide, by decide⟩ ?_
  exact hq E_
set_option maxRecDepth 10000 in
set_option maxHeartbeats 4000000 in
theorem i_X1 {d Lx : Nat} {l : List (Nat × Nat × Nat)} {I : Nat → Nat → Int32} {G : Nat → Nat → Int64} {Q : ab_Q} (E_ : EM 45 l I G) (hq : EM 48 ((44, 1, 39) :: (44, 0, 41) :: (44, 3, 47) :: (44, 2, 45) :: (45, 0, 46) :: l) I G → Q none (hcc Lx 48 ((44, 1, 39) :: (44, 0, 41) :: (44, 3, 47) :: (44, 2, 45) :: (45, 0, 46) :: l) I G)) : ab_call ab_MT (d + 2) 21 [.ref 44, .ref 41, .ref 39] (hcc Lx 45 l I G) 3 62 Q := by
  refine wx_in (M := mX1_init) rfl rfl rfl (Nat.le_of_ble_eq_true rfl) ?_
  refine wx_aload_n rfl (e := 1) rfl rfl ?_
  refine wx_obj rfl (e := 4) rfl ⟨by decide, Nat.le_of_ble_eq_true rfl⟩ ?_
  refine wx_aload_n rfl (e := 5) rfl rfl ?_
  refine wk_new (k2 := 46) rfl (e := 8) rfl E_ rfl rfl ⟨by decide, by decide, by decide⟩ (fun E_ => ?_)
  refine wx_dup rfl (e := 9) rfl rfl ?_
  refine wx_ci0 (mc := 1) (ms := 55) rfl (e := 12) rfl (by decide) (Nat.le_of_ble_eq_true rfl) ⟨by decide, by decide⟩ ?_
  refine i_X5_45 E_ (fun E_ => ?_)
  refine wk_putr rfl (e := 15) rfl rfl E_ ⟨by decide, by decide, by decide⟩ (fun E_ => ?_)
  refine wx_aload_n rfl (e := 16) rfl rfl ?_
  refine wx_bipush (v := (nI 6)) rfl (e := 18) rfl (by decide) ?_
  refine wk_newa (k2 := 48) rfl (e := 20) rfl E_ rfl rfl ⟨by decide, by decide, by decide, by decide⟩ (fun E_ => ?_)
  refine wk_putr rfl (e := 23) rfl rfl E_ ⟨by decide, by decide, by decide⟩ (fun E_ => ?_)
  refine wx_aload_n rfl (e := 24) rfl rfl ?_
  refine wx_aload_n rfl (e := 25) rfl rfl ?_
  refine wk_putr rfl (e := 28) rfl rfl E_ ⟨by decide, by decide, by decide⟩ (fun E_ => ?_)
  refine wx_aload_n rfl (e := 29) rfl rfl ?_
  refine wx_aload_n rfl (e := 30) rfl rfl ?_
  refine wk_putr rfl (e := 33) rfl rfl E_ ⟨by decide, by decide, by decide⟩ (fun E_ => ?_)
  refine wx_ret rfl rfl ⟨by decide, by decide⟩ ?_
  exact hq E_
set_option maxRecDepth 10000 in
set_option maxHeartbeats 4000000 in
theorem i_X8 {d Lx : Nat} {l : List (Nat × Nat × Nat)} {I : Nat → Nat → Int32} {G : Nat → Nat → Int64} {Q : ab_Q} {xs : Nat → Int32} (hs : SP xs I) (E_ : EM 35 l I G) (hq : ∀ G2, (∀ q, q ≠ 35 → G2 q = G q) → CW G2 → EM 39 ((34, 3, 38) :: (34, 2, 37) :: (34, 1, 36) :: (34, 0, 35) :: l) I G2 → Q none (hcc Lx 39 ((34, 3, 38) :: (34, 2, 37) :: (34, 1, 36) :: (34, 0, 35) :: l) I G2)) : ab_call ab_MT (d + 5) 116 [.ref 34] (hcc Lx 35 l I G) 4 1230 Q := by
  refine wx_in (M := mX8_init) rfl rfl rfl (Nat.le_of_ble_eq_true rfl) ?_
  refine wx_aload_n rfl (e := 1) rfl rfl ?_
  refine wx_obj rfl (e := 4) rfl ⟨by decide, Nat.le_of_ble_eq_true rfl⟩ ?_
  refine wx_aload_n rfl (e := 5) rfl rfl ?_
  refine wx_bipush (v := (nI 24)) rfl (e := 7) rfl (by decide) ?_
  refine wk_newa (k2 := 36) rfl (e := 9) rfl E_ rfl rfl ⟨by decide, by decide, by decide, by decide⟩ (fun E_ => ?_)
  refine wk_putr rfl (e := 12) rfl rfl E_ ⟨by decide, by decide, by decide⟩ (fun E_ => ?_)
  refine wx_aload_n rfl (e := 13) rfl rfl ?_
  refine wx_sipush (v := (nI 402)) rfl (e := 16) rfl (by decide) ?_
  refine wk_newa (k2 := 37) rfl (e := 18) rfl E_ rfl rfl ⟨by decide, by decide, by decide, by decide⟩ (fun E_ => ?_)
  refine wk_putr rfl (e := 21) rfl rfl E_ ⟨by decide, by decide, by decide⟩ (fun E_ => ?_)
  refine wx_aload_n rfl (e := 22) rfl rfl ?_
  refine wx_sipush (v := (nI 402)) rfl (e := 25) rfl (by decide) ?_
  refine wk_newa (k2 := 38) rfl (e := 27) rfl E_ rfl rfl ⟨by decide, by decide, by decide, by decide⟩ (fun E_ => ?_)
  refine wk_putr rfl (e := 30) rfl rfl E_ ⟨by decide, by decide, by decide⟩ (fun E_ => ?_)
  refine wx_aload_n rfl (e := 31) rfl rfl ?_
  refine wx_sipush (v := (nI 402)) rfl (e := 34) rfl (by decide) ?_
  refine wk_newa (k2 := 39) rfl (e := 36) rfl E_ rfl rfl ⟨by decide, by decide, by decide, by decide⟩ (fun E_ => ?_)
  refine wk_putr rfl (e := 39) rfl rfl E_ ⟨by decide, by decide, by decide⟩ (fun E_ => ?_)
  refine wx_lconst (v := 0) rfl (e := 40) rfl (by decide) ?_
  refine wx_lstore_n (L2 := [_, _, _, _, _]) rfl (e := 41) rfl (by decide) rfl ?_
  refine wx_iconst (v := (nI 0)) rfl (e := 42) rfl (by decide) ?_
  refine wx_istore_n (L2 := [_, _, _, _, _]) rfl (e := 43) rfl (by decide) rfl ?_
  refine wx_iconst (v := (nI 0)) rfl (e := 44) rfl (by decide) ?_
  refine wx_istore (L2 := [_, _, _, _, _]) rfl (e := 46) rfl (by decide) rfl ?_
  have h0 : W0 (SK Lx 39) I (PU ((34, 3, 38) :: (34, 2, 37) :: (34, 1, 36) :: (34, 0, 35) :: l)) := ⟨rfl, rfl, by rw [E_.2.2.2 1000001 (by decide)]; rfl, by rw [hs 1000001 (by decide)]; rfl, fun j => by rw [hs 1000011 (by decide)]; rfl⟩
  have loop : ∀ (m i : Nat) (G2 : Nat → Nat → Int64), i ≤ 139 → 139 - i < m → (∀ q, q ≠ 35 → G2 q = G q) → (∀ j, j < wN i → G2 35 j = lN (vl_ 32 (kwd j))) → WP (d + 4) mX8_init Q 46 [some (.ref 34), some (.long (lN (wW i))), none, some (.int (nI (wN i))), some (.int (nI i))] [] (hcc Lx 39 ((34, 3, 38) :: (34, 2, 37) :: (34, 1, 36) :: (34, 0, 35) :: l) I G2) (0 + 1 + 1 + 1 + 1) (0 + 24 + 402 + 402 + 402) := by
    intro m
    induction m with
    | zero => intro i G2 h1 h2; omega
    | succ m ih =>
      intro i G2 h1 h2 g2 j2
      refine wx_iload rfl (e := 48) rfl rfl ?_
      refine wx_ldcs rfl (e := 50) rfl ?_
      refine wx_cv0 (mc := 0) (ms := 0) rfl (e := 53) rfl rfl (Nat.le_of_ble_eq_true rfl) ⟨by decide, by decide⟩ ?_
      refine c_j_length h0 ?_
      refine wn_ic_ge rfl (e := 56) rfl (by omega) (by omega) (fun c_53 => ?_) (fun c_53 => ?_)
      · refine wx_ret rfl rfl ⟨by decide, by decide⟩ ?_
        have ei : i = 139 := by omega
        subst ei
        exact hq G2 g2 (fun k hk => j2 k (by rw [wt_e]; exact hk)) (E_.g (fun q y => g2 q (by omega)))
      · obtain ⟨s1, s2, s3⟩ := wt_s i (by omega)
        have hb := (w0_b i (by omega)).2
        refine wx_iload_n rfl (e := 57) rfl rfl ?_
        refine wx_bipush (v := (nI 24)) rfl (e := 59) rfl (by decide) ?_
        refine wn_ic_ge rfl (e := 62) rfl (by omega) (by omega) (fun c_59 => absurd c_59 (by omega)) (fun c_59 => ?_)
        refine wx_ldcs rfl (e := 64) rfl ?_
        refine wx_iload rfl (e := 66) rfl rfl ?_
        refine wx_cv1 (mc := 0) (ms := 0) rfl (e := 69) rfl rfl (Nat.le_of_ble_eq_true rfl) ⟨by decide, by decide⟩ ?_
        refine c_j_charAt h0 (i := i) (by omega) ?_
        refine wx_bipush (v := (nI 32)) rfl (e := 71) rfl (by decide) ?_
        refine wn_ic_ne rfl (e := 74) rfl (by omega) (by omega) (fun c_71 => ?_) (fun c_71 => ?_)
        · refine wx_lload_n rfl (e := 90) rfl rfl ?_
          refine wx_ldcs rfl (e := 92) rfl ?_
          refine wx_iload rfl (e := 94) rfl rfl ?_
          refine wx_cv1 (mc := 0) (ms := 0) rfl (e := 97) rfl rfl (Nat.le_of_ble_eq_true rfl) ⟨by decide, by decide⟩ ?_
          refine c_j_charAt h0 (i := i) (by omega) ?_
          refine wx_cs2 (mc := 0) (ms := 0) rfl (e := 100) rfl (Nat.le_of_ble_eq_true rfl) ⟨by decide, by decide⟩ ?_
          refine c_X8_withLetter (w0_b i (by omega)).2 (s3 c_71).1 ?_
          refine wx_lstore_n (L2 := [_, _, _, _, _]) rfl (e := 101) rfl (by decide) rfl ?_
          refine wn_iinc (m := 1) (L2 := [_, _, _, _, _]) rfl (e := 104) rfl rfl (by decide) rfl ?_
          refine wx_goto rfl ?_
          obtain ⟨s4, s5, s6⟩ := s3 c_71
          rw [← s5]
          have h6 : wN (i + 1) = wN i := s6
          rw [← h6]
          exact ih (i + 1) G2 (by omega) (by omega) g2 (fun j hj => j2 j (by omega))
        · refine wx_aload_n rfl (e := 75) rfl rfl ?_
          refine wx_getr rfl (e := 78) rfl rfl rfl ?_
          refine wx_iload_n rfl (e := 79) rfl rfl ?_
          refine wx_lload_n rfl (e := 80) rfl rfl ?_
          refine wn_last rfl (e := 81) rfl rfl (by decide) (by omega) (by decide) ?_
          refine wn_iinc (m := 1) (L2 := [_, _, _, _, _]) rfl (e := 84) rfl rfl (by decide) rfl ?_
          refine wx_lconst (v := 0) rfl (e := 85) rfl (by decide) ?_
          refine wx_lstore_n (L2 := [_, _, _, _, _]) rfl (e := 86) rfl (by decide) rfl ?_
          refine wx_goto rfl ?_
          refine wn_iinc (m := 1) (L2 := [_, _, _, _, _]) rfl (e := 104) rfl rfl (by decide) rfl ?_
          refine wx_goto rfl ?_
          obtain ⟨s4, s5, s6⟩ := s2 (by omega)
          rw [show (0 : Int64) = lN (wW (i + 1)) from by rw [s4]; rfl, ← s5]
          refine ih (i + 1) _ (by omega) (by omega) (fun q h => by rw [wl_other _ _ _ _ h]; exact g2 q h) (fun j hj => ?_)
          by_cases zz : j = wN i
          · rw [zz, wl_eq, s6]
          · rw [wl_ne _ _ _ _ zz]; exact j2 j (by omega)
  exact loop 140 0 G (by omega) (by omega) (fun _ _ => rfl) (fun j hj => absurd hj (Nat.not_lt_zero _))
set_option maxRecDepth 10000 in
set_option maxHeartbeats 4000000 in
theorem i_X4 {d Lx : Nat} {l : List (Nat × Nat × Nat)} {I : Nat → Nat → Int32} {G : Nat → Nat → Int64} {Q : ab_Q} {xs : Nat → Int32} (hs : SP xs I) (E_ : EM 34 l I G) (hl : PU l 16 0 = some 17) (hq : ∀ G2, (∀ q, q ≠ 35 → G2 q = G q) → CW G2 → EM 39 ((33, 2, 17) :: (33, 1, 16) :: (33, 0, 34) :: (34, 3, 38) :: (34, 2, 37) :: (34, 1, 36) :: (34, 0, 35) :: l) (wr I 33 6 (-1)) G2 → Q none (hcc Lx 39 ((33, 2, 17) :: (33, 1, 16) :: (33, 0, 34) :: (34, 3, 38) :: (34, 2, 37) :: (34, 1, 36) :: (34, 0, 35) :: l) (wr I 33 6 (-1)) G2)) : ab_call ab_MT (d + 6) 53 [.ref 33, .ref 16] (hcc Lx 34 l I G) 5 1235 Q := by
  refine wx_in (M := mX4_init) rfl rfl rfl (Nat.le_of_ble_eq_true rfl) ?_
  refine wx_aload_n rfl (e := 1) rfl rfl ?_
  refine wx_obj rfl (e := 4) rfl ⟨by decide, Nat.le_of_ble_eq_true rfl⟩ ?_
  refine wx_aload_n rfl (e := 5) rfl rfl ?_
  refine wk_new (k2 := 35) rfl (e := 8) rfl E_ rfl rfl ⟨by decide, by decide, by decide⟩ (fun E_ => ?_)
  refine wx_dup rfl (e := 9) rfl rfl ?_
  refine wx_ci0 (mc := 4) (ms := 1230) rfl (e := 12) rfl (by decide) (Nat.le_of_ble_eq_true rfl) ⟨by decide, by decide⟩ ?_
  refine i_X8 hs E_ (fun G2 g2 hW E_ => ?_)
  refine wk_putr rfl (e := 15) rfl rfl E_ ⟨by decide, by decide, by decide⟩ (fun E_ => ?_)
  refine wx_aload_n rfl (e := 16) rfl rfl ?_
  refine wx_iconst (v := (-1)) rfl (e := 17) rfl (by decide) ?_
  refine wk_puti rfl (e := 20) rfl rfl E_ ⟨by decide, by decide⟩ (fun E_ => ?_)
  refine wx_aload_n rfl (e := 21) rfl rfl ?_
  refine wx_aload_n rfl (e := 22) rfl rfl ?_
  refine wk_putr rfl (e := 25) rfl rfl E_ ⟨by decide, by decide, by decide⟩ (fun E_ => ?_)
  refine wx_aload_n rfl (e := 26) rfl rfl ?_
  refine wx_aload_n rfl (e := 27) rfl rfl ?_
  refine wx_cv0 (mc := 0) (ms := 0) rfl (e := 30) rfl rfl (Nat.le_of_ble_eq_true rfl) ⟨by decide, by decide⟩ ?_
  refine c_laws (v := 17) rfl hl (by decide) ?_
  refine wk_putr rfl (e := 33) rfl rfl E_ ⟨by decide, by decide, by decide⟩ (fun E_ => ?_)
  refine wx_ret rfl rfl ⟨by decide, by decide⟩ ?_
  exact hq G2 g2 hW E_

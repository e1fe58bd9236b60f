/-! the model is made -/
def apN (w c : Nat) : Nat := if c = 0 then w else c - 96 + 27 * w
theorem c_X11_app {d : Nat} {h : ab_H} {Q : ab_Q} {c w : Nat} (hc : c = 0 ∨ (97 ≤ c ∧ c < 256)) (hq : Q (some (.long (lN (apN w c)))) h) : ab_call ab_MT (d + 1) 189 [.long (lN w), .int (nI c)] h 0 0 Q := by
  rcases hc with rfl | ⟨h1, h2⟩
  · refine wx_in (M := mX11_appends) rfl rfl rfl (Nat.le_of_ble_eq_true rfl) ?_
    refine wx_iload_n rfl (e := 1) rfl rfl ?_
    refine wn_if_ne rfl (e := 4) rfl (by omega) (fun c_1 => absurd c_1 (by omega)) (fun c_1 => ?_)
    refine wx_lload_n rfl (e := 5) rfl rfl ?_
    refine wx_goto rfl ?_
    refine wx_lret rfl rfl ⟨by decide, by decide⟩ ?_
    exact hq
  · refine c_X11_appends h2 h1 ?_
    unfold apN at hq
    rw [if_neg (by omega)] at hq
    exact hq
theorem c_X11_word {d : Nat} {h : ab_H} {Q : ab_Q} {a b c d2 e f g : Nat} (ha : (a = 0 ∨ (97 ≤ a ∧ a < 256))) (hb : (b = 0 ∨ (97 ≤ b ∧ b < 256))) (hc : (c = 0 ∨ (97 ≤ c ∧ c < 256))) (hd : (d2 = 0 ∨ (97 ≤ d2 ∧ d2 < 256))) (he : (e = 0 ∨ (97 ≤ e ∧ e < 256))) (hf : (f = 0 ∨ (97 ≤ f ∧ f < 256))) (hg : (g = 0 ∨ (97 ≤ g ∧ g < 256))) (hq : Q (some (.long (lN (apN (apN (apN (apN (apN (apN (apN 0 a) b) c) d2) e) f) g)))) h) : ab_call ab_MT (d + 2) 190 [.int (nI a), .int (nI b), .int (nI c), .int (nI d2), .int (nI e), .int (nI f), .int (nI g)] h 0 0 Q := by
  refine wx_in (M := mX11_word) rfl rfl rfl (Nat.le_of_ble_eq_true rfl) ?_
  refine wx_lconst (v := 0) rfl (e := 1) rfl (by decide) ?_
  show WP _ _ _ _ _ (.long (lN 0) :: _) _ _ _
  refine wx_iload_n rfl (e := 2) rfl rfl ?_
  refine wx_cs2 (mc := 0) (ms := 0) rfl (e := 5) rfl (Nat.le_of_ble_eq_true rfl) ⟨by decide, by decide⟩ ?_
  refine c_X11_app ha ?_
  refine wx_iload_n rfl (e := 6) rfl rfl ?_
  refine wx_cs2 (mc := 0) (ms := 0) rfl (e := 9) rfl (Nat.le_of_ble_eq_true rfl) ⟨by decide, by decide⟩ ?_
  refine c_X11_app hb ?_
  refine wx_iload_n rfl (e := 10) rfl rfl ?_
  refine wx_cs2 (mc := 0) (ms := 0) rfl (e := 13) rfl (Nat.le_of_ble_eq_true rfl) ⟨by decide, by decide⟩ ?_
  refine c_X11_app hc ?_
  refine wx_iload_n rfl (e := 14) rfl rfl ?_
  refine wx_cs2 (mc := 0) (ms := 0) rfl (e := 17) rfl (Nat.le_of_ble_eq_true rfl) ⟨by decide, by decide⟩ ?_
  refine c_X11_app hd ?_
  refine wx_iload rfl (e := 19) rfl rfl ?_
  refine wx_cs2 (mc := 0) (ms := 0) rfl (e := 22) rfl (Nat.le_of_ble_eq_true rfl) ⟨by decide, by decide⟩ ?_
  refine c_X11_app he ?_
  refine wx_iload rfl (e := 24) rfl rfl ?_
  refine wx_cs2 (mc := 0) (ms := 0) rfl (e := 27) rfl (Nat.le_of_ble_eq_true rfl) ⟨by decide, by decide⟩ ?_
  refine c_X11_app hf ?_
  refine wx_iload rfl (e := 29) rfl rfl ?_
  refine wx_cs2 (mc := 0) (ms := 0) rfl (e := 32) rfl (Nat.le_of_ble_eq_true rfl) ⟨by decide, by decide⟩ ?_
  refine c_X11_app hg ?_
  refine wx_lret rfl rfl ⟨by decide, by decide⟩ ?_
  exact hq
theorem kw_s {G : Nat → Nat → Int64} {j w : Nat} (h : ∀ k, k < j → G 62 k = lN (vl_ 27 (kwd (pm k)))) (hw : w = vl_ 27 (kwd (pm j))) : ∀ k, k < j + 1 → wl G 62 j (lN w) 62 k = lN (vl_ 27 (kwd (pm k))) := fun k hk => by
  by_cases z : k = j
  · rw [z, wl_eq, hw]
  · rw [wl_ne _ _ _ _ z]; exact h k (by omega)
set_option maxRecDepth 10000 in
set_option maxHeartbeats 4000000 in
theorem i_X11 {d Lx : Nat} {I : Nat → Nat → Int32} {G : Nat → Nat → Int64} {Q : ab_Q} (E_ : EM 56 ((0, 8, 52) :: (52, 1, 54) :: (52, 0, 53) :: (0, 7, 48) :: (48, 2, 51) :: (48, 1, 50) :: (48, 0, 49) :: (0, 6, 44) :: (44, 1, 39) :: (44, 0, 41) :: (44, 3, 47) :: (44, 2, 45) :: (45, 0, 46) :: (0, 5, 41) :: (41, 3, 2) :: (41, 2, 1) :: (41, 1, 43) :: (41, 0, 42) :: (0, 4, 39) :: (39, 0, 40) :: (0, 3, 33) :: (33, 2, 17) :: (33, 1, 16) :: (33, 0, 34) :: (34, 3, 38) :: (34, 2, 37) :: (34, 1, 36) :: (34, 0, 35) :: (0, 2, 31) :: (31, 0, 32) :: (0, 1, 16) :: (16, 8, 30) :: (16, 7, 29) :: (16, 6, 28) :: (16, 5, 27) :: (16, 4, 26) :: (16, 3, 25) :: (16, 2, 24) :: (16, 1, 23) :: (16, 0, 17) :: (17, 4, 22) :: (17, 3, 21) :: (17, 2, 20) :: (17, 1, 19) :: (17, 0, 18) :: (0, 0, 1) :: (1, 8, 15) :: (1, 7, 14) :: (1, 6, 13) :: (1, 5, 12) :: (1, 4, 11) :: (1, 3, 10) :: (1, 2, 9) :: (1, 1, 8) :: (1, 0, 2) :: (2, 4, 7) :: (2, 3, 6) :: (2, 2, 5) :: (2, 1, 4) :: (2, 0, 3) :: []) I G) (h55 : I 55 = fun _ => 0) (hq : ∀ I4 G4, (∀ q, q < 55 ∨ 98 < q → I4 q = I q) → (∀ q, q ≠ 62 → G4 q = G q) → CWm G4 → MI 0 I4 gs0 → MLS 0 I4 plS → Q none (hp Lx 1 16 1 I4 G4)) : ab_call ab_MT (d + 3) 182 [.ref 55] (hcc Lx 56 ((0, 8, 52) :: (52, 1, 54) :: (52, 0, 53) :: (0, 7, 48) :: (48, 2, 51) :: (48, 1, 50) :: (48, 0, 49) :: (0, 6, 44) :: (44, 1, 39) :: (44, 0, 41) :: (44, 3, 47) :: (44, 2, 45) :: (45, 0, 46) :: (0, 5, 41) :: (41, 3, 2) :: (41, 2, 1) :: (41, 1, 43) :: (41, 0, 42) :: (0, 4, 39) :: (39, 0, 40) :: (0, 3, 33) :: (33, 2, 17) :: (33, 1, 16) :: (33, 0, 34) :: (34, 3, 38) :: (34, 2, 37) :: (34, 1, 36) :: (34, 0, 35) :: (0, 2, 31) :: (31, 0, 32) :: (0, 1, 16) :: (16, 8, 30) :: (16, 7, 29) :: (16, 6, 28) :: (16, 5, 27) :: (16, 4, 26) :: (16, 3, 25) :: (16, 2, 24) :: (16, 1, 23) :: (16, 0, 17) :: (17, 4, 22) :: (17, 3, 21) :: (17, 2, 20) :: (17, 1, 19) :: (17, 0, 18) :: (0, 0, 1) :: (1, 8, 15) :: (1, 7, 14) :: (1, 6, 13) :: (1, 5, 12) :: (1, 4, 11) :: (1, 3, 10) :: (1, 2, 9) :: (1, 1, 8) :: (1, 0, 2) :: (2, 4, 7) :: (2, 3, 6) :: (2, 2, 5) :: (2, 1, 4) :: (2, 0, 3) :: []) I G) 43 11610 Q := by
  have E0 := E_
  refine wx_in (M := mX11_init) rfl rfl rfl (Nat.le_of_ble_eq_true rfl) ?_
  refine wx_aload_n rfl (e := 1) rfl rfl ?_
  refine wx_obj rfl (e := 4) rfl ⟨by decide, Nat.le_of_ble_eq_true rfl⟩ ?_
  refine wx_aload_n rfl (e := 5) rfl rfl ?_
  refine wx_sipush (v := (nI 2000)) rfl (e := 8) rfl (by decide) ?_
  refine wk_newa (k2 := 57) rfl (e := 10) rfl E_ rfl rfl ⟨by decide, by decide, by decide, by decide⟩ (fun E_ => ?_)
  refine wk_putr rfl (e := 13) rfl rfl E_ ⟨by decide, by decide, by decide⟩ (fun E_ => ?_)
  refine wx_aload_n rfl (e := 14) rfl rfl ?_
  refine wx_sipush (v := (nI 2000)) rfl (e := 17) rfl (by decide) ?_
  refine wk_newa (k2 := 58) rfl (e := 19) rfl E_ rfl rfl ⟨by decide, by decide, by decide, by decide⟩ (fun E_ => ?_)
  refine wk_putr rfl (e := 22) rfl rfl E_ ⟨by decide, by decide, by decide⟩ (fun E_ => ?_)
  refine wx_aload_n rfl (e := 23) rfl rfl ?_
  refine wx_sipush (v := (nI 403)) rfl (e := 26) rfl (by decide) ?_
  refine wk_newa (k2 := 59) rfl (e := 28) rfl E_ rfl rfl ⟨by decide, by decide, by decide, by decide⟩ (fun E_ => ?_)
  refine wk_putr rfl (e := 31) rfl rfl E_ ⟨by decide, by decide, by decide⟩ (fun E_ => ?_)
  refine wx_aload_n rfl (e := 32) rfl rfl ?_
  refine wx_sipush (v := (nI 403)) rfl (e := 35) rfl (by decide) ?_
  refine wk_newa (k2 := 60) rfl (e := 37) rfl E_ rfl rfl ⟨by decide, by decide, by decide, by decide⟩ (fun E_ => ?_)
  refine wk_putr rfl (e := 40) rfl rfl E_ ⟨by decide, by decide, by decide⟩ (fun E_ => ?_)
  refine wx_aload_n rfl (e := 41) rfl rfl ?_
  refine wx_sipush (v := (nI 403)) rfl (e := 44) rfl (by decide) ?_
  refine wk_newa (k2 := 61) rfl (e := 46) rfl E_ rfl rfl ⟨by decide, by decide, by decide, by decide⟩ (fun E_ => ?_)
  refine wk_putr rfl (e := 49) rfl rfl E_ ⟨by decide, by decide, by decide⟩ (fun E_ => ?_)
  refine wx_aload_n rfl (e := 50) rfl rfl ?_
  refine wx_sipush (v := (nI 403)) rfl (e := 53) rfl (by decide) ?_
  refine wk_newa (k2 := 62) rfl (e := 55) rfl E_ rfl rfl ⟨by decide, by decide, by decide, by decide⟩ (fun E_ => ?_)
  refine wk_putr rfl (e := 58) rfl rfl E_ ⟨by decide, by decide, by decide⟩ (fun E_ => ?_)
  refine wx_aload_n rfl (e := 59) rfl rfl ?_
  refine wx_bipush (v := (nI 24)) rfl (e := 61) rfl (by decide) ?_
  refine wk_newa (k2 := 63) rfl (e := 63) rfl E_ rfl rfl ⟨by decide, by decide, by decide, by decide⟩ (fun E_ => ?_)
  refine wk_putr rfl (e := 66) rfl rfl E_ ⟨by decide, by decide, by decide⟩ (fun E_ => ?_)
  refine wx_aload_n rfl (e := 67) rfl rfl ?_
  refine wx_iconst (v := (-1)) rfl (e := 68) rfl (by decide) ?_
  refine wk_puti rfl (e := 71) rfl rfl E_ ⟨by decide, by decide⟩ (fun E_ => ?_)
  refine wx_aload_n rfl (e := 72) rfl rfl ?_
  refine wx_bipush (v := (nI 17)) rfl (e := 74) rfl (by decide) ?_
  refine wk_newa (k2 := 64) rfl (e := 76) rfl E_ rfl rfl ⟨by decide, by decide, by decide, by decide⟩ (fun E_ => ?_)
  refine wk_putr rfl (e := 79) rfl rfl E_ ⟨by decide, by decide, by decide⟩ (fun E_ => ?_)
  refine wx_aload_n rfl (e := 80) rfl rfl ?_
  refine wx_bipush (v := (nI 17)) rfl (e := 82) rfl (by decide) ?_
  refine wk_newa (k2 := 65) rfl (e := 84) rfl E_ rfl rfl ⟨by decide, by decide, by decide, by decide⟩ (fun E_ => ?_)
  refine wk_putr rfl (e := 87) rfl rfl E_ ⟨by decide, by decide, by decide⟩ (fun E_ => ?_)
  refine wx_aload_n rfl (e := 88) rfl rfl ?_
  refine wx_iconst (v := (nI 2)) rfl (e := 89) rfl (by decide) ?_
  refine wk_newa (k2 := 66) rfl (e := 91) rfl E_ rfl rfl ⟨by decide, by decide, by decide, by decide⟩ (fun E_ => ?_)
  refine wk_putr rfl (e := 94) rfl rfl E_ ⟨by decide, by decide, by decide⟩ (fun E_ => ?_)
  refine wx_aload_n rfl (e := 95) rfl rfl ?_
  refine wx_bipush (v := (nI 12)) rfl (e := 97) rfl (by decide) ?_
  refine wk_newa (k2 := 67) rfl (e := 99) rfl E_ rfl rfl ⟨by decide, by decide, by decide, by decide⟩ (fun E_ => ?_)
  refine wk_putr rfl (e := 102) rfl rfl E_ ⟨by decide, by decide, by decide⟩ (fun E_ => ?_)
  refine wx_aload_n rfl (e := 103) rfl rfl ?_
  refine wx_iconst (v := (nI 2)) rfl (e := 104) rfl (by decide) ?_
  refine wk_newa (k2 := 68) rfl (e := 106) rfl E_ rfl rfl ⟨by decide, by decide, by decide, by decide⟩ (fun E_ => ?_)
  refine wk_putr rfl (e := 109) rfl rfl E_ ⟨by decide, by decide, by decide⟩ (fun E_ => ?_)
  refine wx_aload_n rfl (e := 110) rfl rfl ?_
  refine wx_bipush (v := (nI 72)) rfl (e := 112) rfl (by decide) ?_
  refine wk_newa (k2 := 69) rfl (e := 114) rfl E_ rfl rfl ⟨by decide, by decide, by decide, by decide⟩ (fun E_ => ?_)
  refine wk_putr rfl (e := 117) rfl rfl E_ ⟨by decide, by decide, by decide⟩ (fun E_ => ?_)
  refine wx_aload_n rfl (e := 118) rfl rfl ?_
  refine wx_iconst (v := (nI 2)) rfl (e := 119) rfl (by decide) ?_
  refine wk_newa (k2 := 70) rfl (e := 121) rfl E_ rfl rfl ⟨by decide, by decide, by decide, by decide⟩ (fun E_ => ?_)
  refine wk_putr rfl (e := 124) rfl rfl E_ ⟨by decide, by decide, by decide⟩ (fun E_ => ?_)
  refine wx_aload_n rfl (e := 125) rfl rfl ?_
  refine wx_bipush (v := (nI 12)) rfl (e := 127) rfl (by decide) ?_
  refine wk_newa (k2 := 71) rfl (e := 129) rfl E_ rfl rfl ⟨by decide, by decide, by decide, by decide⟩ (fun E_ => ?_)
  refine wk_putr rfl (e := 132) rfl rfl E_ ⟨by decide, by decide, by decide⟩ (fun E_ => ?_)
  refine wx_aload_n rfl (e := 133) rfl rfl ?_
  refine wx_bipush (v := (nI 12)) rfl (e := 135) rfl (by decide) ?_
  refine wk_newa (k2 := 72) rfl (e := 137) rfl E_ rfl rfl ⟨by decide, by decide, by decide, by decide⟩ (fun E_ => ?_)
  refine wk_putr rfl (e := 140) rfl rfl E_ ⟨by decide, by decide, by decide⟩ (fun E_ => ?_)
  refine wx_aload_n rfl (e := 141) rfl rfl ?_
  refine wx_iconst (v := (nI 2)) rfl (e := 142) rfl (by decide) ?_
  refine wk_newa (k2 := 73) rfl (e := 144) rfl E_ rfl rfl ⟨by decide, by decide, by decide, by decide⟩ (fun E_ => ?_)
  refine wk_putr rfl (e := 147) rfl rfl E_ ⟨by decide, by decide, by decide⟩ (fun E_ => ?_)
  refine wx_aload_n rfl (e := 148) rfl rfl ?_
  refine wx_bipush (v := (nI 10)) rfl (e := 150) rfl (by decide) ?_
  refine wk_newa (k2 := 74) rfl (e := 152) rfl E_ rfl rfl ⟨by decide, by decide, by decide, by decide⟩ (fun E_ => ?_)
  refine wk_putr rfl (e := 155) rfl rfl E_ ⟨by decide, by decide, by decide⟩ (fun E_ => ?_)
  refine wx_aload_n rfl (e := 156) rfl rfl ?_
  refine wx_bipush (v := (nI 10)) rfl (e := 158) rfl (by decide) ?_
  refine wk_newa (k2 := 75) rfl (e := 160) rfl E_ rfl rfl ⟨by decide, by decide, by decide, by decide⟩ (fun E_ => ?_)
  refine wk_putr rfl (e := 163) rfl rfl E_ ⟨by decide, by decide, by decide⟩ (fun E_ => ?_)
  refine wx_aload_n rfl (e := 164) rfl rfl ?_
  refine wx_bipush (v := (nI 10)) rfl (e := 166) rfl (by decide) ?_
  refine wk_newa (k2 := 76) rfl (e := 168) rfl E_ rfl rfl ⟨by decide, by decide, by decide, by decide⟩ (fun E_ => ?_)
  refine wk_putr rfl (e := 171) rfl rfl E_ ⟨by decide, by decide, by decide⟩ (fun E_ => ?_)
  refine wx_aload_n rfl (e := 172) rfl rfl ?_
  refine wx_iconst (v := (nI 2)) rfl (e := 173) rfl (by decide) ?_
  refine wk_newa (k2 := 77) rfl (e := 175) rfl E_ rfl rfl ⟨by decide, by decide, by decide, by decide⟩ (fun E_ => ?_)
  refine wk_putr rfl (e := 178) rfl rfl E_ ⟨by decide, by decide, by decide⟩ (fun E_ => ?_)
  refine wx_aload_n rfl (e := 179) rfl rfl ?_
  refine wx_bipush (v := (nI 10)) rfl (e := 181) rfl (by decide) ?_
  refine wk_newa (k2 := 78) rfl (e := 183) rfl E_ rfl rfl ⟨by decide, by decide, by decide, by decide⟩ (fun E_ => ?_)
  refine wk_putr rfl (e := 186) rfl rfl E_ ⟨by decide, by decide, by decide⟩ (fun E_ => ?_)
  refine wx_aload_n rfl (e := 187) rfl rfl ?_
  refine wx_bipush (v := (nI 10)) rfl (e := 189) rfl (by decide) ?_
  refine wk_newa (k2 := 79) rfl (e := 191) rfl E_ rfl rfl ⟨by decide, by decide, by decide, by decide⟩ (fun E_ => ?_)
  refine wk_putr rfl (e := 194) rfl rfl E_ ⟨by decide, by decide, by decide⟩ (fun E_ => ?_)
  refine wx_aload_n rfl (e := 195) rfl rfl ?_
  refine wx_sipush (v := (nI 260)) rfl (e := 198) rfl (by decide) ?_
  refine wk_newa (k2 := 80) rfl (e := 200) rfl E_ rfl rfl ⟨by decide, by decide, by decide, by decide⟩ (fun E_ => ?_)
  refine wk_putr rfl (e := 203) rfl rfl E_ ⟨by decide, by decide, by decide⟩ (fun E_ => ?_)
  refine wx_aload_n rfl (e := 204) rfl rfl ?_
  refine wx_sipush (v := (nI 260)) rfl (e := 207) rfl (by decide) ?_
  refine wk_newa (k2 := 81) rfl (e := 209) rfl E_ rfl rfl ⟨by decide, by decide, by decide, by decide⟩ (fun E_ => ?_)
  refine wk_putr rfl (e := 212) rfl rfl E_ ⟨by decide, by decide, by decide⟩ (fun E_ => ?_)
  refine wx_aload_n rfl (e := 213) rfl rfl ?_
  refine wx_sipush (v := (nI 260)) rfl (e := 216) rfl (by decide) ?_
  refine wk_newa (k2 := 82) rfl (e := 218) rfl E_ rfl rfl ⟨by decide, by decide, by decide, by decide⟩ (fun E_ => ?_)
  refine wk_putr rfl (e := 221) rfl rfl E_ ⟨by decide, by decide, by decide⟩ (fun E_ => ?_)
  refine wx_aload_n rfl (e := 222) rfl rfl ?_
  refine wx_sipush (v := (nI 260)) rfl (e := 225) rfl (by decide) ?_
  refine wk_newa (k2 := 83) rfl (e := 227) rfl E_ rfl rfl ⟨by decide, by decide, by decide, by decide⟩ (fun E_ => ?_)
  refine wk_putr rfl (e := 230) rfl rfl E_ ⟨by decide, by decide, by decide⟩ (fun E_ => ?_)
  refine wx_aload_n rfl (e := 231) rfl rfl ?_
  refine wx_sipush (v := (nI 260)) rfl (e := 234) rfl (by decide) ?_
  refine wk_newa (k2 := 84) rfl (e := 236) rfl E_ rfl rfl ⟨by decide, by decide, by decide, by decide⟩ (fun E_ => ?_)
  refine wk_putr rfl (e := 239) rfl rfl E_ ⟨by decide, by decide, by decide⟩ (fun E_ => ?_)
  refine wx_aload_n rfl (e := 240) rfl rfl ?_
  refine wx_sipush (v := (nI 840)) rfl (e := 243) rfl (by decide) ?_
  refine wk_newa (k2 := 85) rfl (e := 245) rfl E_ rfl rfl ⟨by decide, by decide, by decide, by decide⟩ (fun E_ => ?_)
  refine wk_putr rfl (e := 248) rfl rfl E_ ⟨by decide, by decide, by decide⟩ (fun E_ => ?_)
  refine wx_aload_n rfl (e := 249) rfl rfl ?_
  refine wx_sipush (v := (nI 840)) rfl (e := 252) rfl (by decide) ?_
  refine wk_newa (k2 := 86) rfl (e := 254) rfl E_ rfl rfl ⟨by decide, by decide, by decide, by decide⟩ (fun E_ => ?_)
  refine wk_putr rfl (e := 257) rfl rfl E_ ⟨by decide, by decide, by decide⟩ (fun E_ => ?_)
  refine wx_aload_n rfl (e := 258) rfl rfl ?_
  refine wx_bipush (v := (nI 64)) rfl (e := 260) rfl (by decide) ?_
  refine wk_newa (k2 := 87) rfl (e := 262) rfl E_ rfl rfl ⟨by decide, by decide, by decide, by decide⟩ (fun E_ => ?_)
  refine wk_putr rfl (e := 265) rfl rfl E_ ⟨by decide, by decide, by decide⟩ (fun E_ => ?_)
  refine wx_aload_n rfl (e := 266) rfl rfl ?_
  refine wx_bipush (v := (nI 9)) rfl (e := 268) rfl (by decide) ?_
  refine wk_newa (k2 := 88) rfl (e := 270) rfl E_ rfl rfl ⟨by decide, by decide, by decide, by decide⟩ (fun E_ => ?_)
  refine wk_putr rfl (e := 273) rfl rfl E_ ⟨by decide, by decide, by decide⟩ (fun E_ => ?_)
  refine wx_aload_n rfl (e := 274) rfl rfl ?_
  refine wx_sipush (v := (nI 400)) rfl (e := 277) rfl (by decide) ?_
  refine wk_newa (k2 := 89) rfl (e := 279) rfl E_ rfl rfl ⟨by decide, by decide, by decide, by decide⟩ (fun E_ => ?_)
  refine wk_putr rfl (e := 282) rfl rfl E_ ⟨by decide, by decide, by decide⟩ (fun E_ => ?_)
  refine wx_aload_n rfl (e := 283) rfl rfl ?_
  refine wx_bipush (v := (nI 36)) rfl (e := 285) rfl (by decide) ?_
  refine wk_newa (k2 := 90) rfl (e := 287) rfl E_ rfl rfl ⟨by decide, by decide, by decide, by decide⟩ (fun E_ => ?_)
  refine wk_putr rfl (e := 290) rfl rfl E_ ⟨by decide, by decide, by decide⟩ (fun E_ => ?_)
  refine wx_aload_n rfl (e := 291) rfl rfl ?_
  refine wx_bipush (v := (nI 49)) rfl (e := 293) rfl (by decide) ?_
  refine wk_newa (k2 := 91) rfl (e := 295) rfl E_ rfl rfl ⟨by decide, by decide, by decide, by decide⟩ (fun E_ => ?_)
  refine wk_putr rfl (e := 298) rfl rfl E_ ⟨by decide, by decide, by decide⟩ (fun E_ => ?_)
  refine wx_aload_n rfl (e := 299) rfl rfl ?_
  refine wx_bipush (v := (nI 49)) rfl (e := 301) rfl (by decide) ?_
  refine wk_newa (k2 := 92) rfl (e := 303) rfl E_ rfl rfl ⟨by decide, by decide, by decide, by decide⟩ (fun E_ => ?_)
  refine wk_putr rfl (e := 306) rfl rfl E_ ⟨by decide, by decide, by decide⟩ (fun E_ => ?_)
  refine wx_aload_n rfl (e := 307) rfl rfl ?_
  refine wx_iconst (v := (nI 5)) rfl (e := 308) rfl (by decide) ?_
  refine wk_newa (k2 := 93) rfl (e := 310) rfl E_ rfl rfl ⟨by decide, by decide, by decide, by decide⟩ (fun E_ => ?_)
  refine wk_putr rfl (e := 313) rfl rfl E_ ⟨by decide, by decide, by decide⟩ (fun E_ => ?_)
  refine wx_aload_n rfl (e := 314) rfl rfl ?_
  refine wx_bipush (v := (nI 30)) rfl (e := 316) rfl (by decide) ?_
  refine wk_newa (k2 := 94) rfl (e := 318) rfl E_ rfl rfl ⟨by decide, by decide, by decide, by decide⟩ (fun E_ => ?_)
  refine wk_putr rfl (e := 321) rfl rfl E_ ⟨by decide, by decide, by decide⟩ (fun E_ => ?_)
  refine wx_aload_n rfl (e := 322) rfl rfl ?_
  refine wx_sipush (v := (nI 1960)) rfl (e := 325) rfl (by decide) ?_
  refine wk_newa (k2 := 95) rfl (e := 327) rfl E_ rfl rfl ⟨by decide, by decide, by decide, by decide⟩ (fun E_ => ?_)
  refine wk_putr rfl (e := 330) rfl rfl E_ ⟨by decide, by decide, by decide⟩ (fun E_ => ?_)
  refine wx_aload_n rfl (e := 331) rfl rfl ?_
  refine wx_bipush (v := (nI 20)) rfl (e := 333) rfl (by decide) ?_
  refine wk_newa (k2 := 96) rfl (e := 335) rfl E_ rfl rfl ⟨by decide, by decide, by decide, by decide⟩ (fun E_ => ?_)
  refine wk_putr rfl (e := 338) rfl rfl E_ ⟨by decide, by decide, by decide⟩ (fun E_ => ?_)
  refine wx_aload_n rfl (e := 339) rfl rfl ?_
  refine wx_bipush (v := (nI 20)) rfl (e := 341) rfl (by decide) ?_
  refine wk_newa (k2 := 97) rfl (e := 343) rfl E_ rfl rfl ⟨by decide, by decide, by decide, by decide⟩ (fun E_ => ?_)
  refine wk_putr rfl (e := 346) rfl rfl E_ ⟨by decide, by decide, by decide⟩ (fun E_ => ?_)
  refine wx_aload_n rfl (e := 347) rfl rfl ?_
  refine wx_iconst (v := (nI 3)) rfl (e := 348) rfl (by decide) ?_
  refine wk_newa (k2 := 98) rfl (e := 350) rfl E_ rfl rfl ⟨by decide, by decide, by decide, by decide⟩ (fun E_ => ?_)
  refine wk_putr rfl (e := 353) rfl rfl E_ ⟨by decide, by decide, by decide⟩ (fun E_ => ?_)
  refine wx_aload_n rfl (e := 354) rfl rfl ?_
  refine wx_sipush (v := (nI 147)) rfl (e := 357) rfl (by decide) ?_
  refine wk_newa (k2 := 99) rfl (e := 359) rfl E_ rfl rfl ⟨by decide, by decide, by decide, by decide⟩ (fun E_ => ?_)
  refine wk_putr rfl (e := 362) rfl rfl E_ ⟨by decide, by decide, by decide⟩ (fun E_ => ?_)
  refine wx_aload_n rfl (e := 363) rfl rfl ?_
  refine wx_iconst (v := (nI 0)) rfl (e := 364) rfl (by decide) ?_
  refine wx_cv1 (mc := 0) (ms := 0) rfl (e := 367) rfl rfl (Nat.le_of_ble_eq_true rfl) ⟨by decide, by decide⟩ ?_
  show ab_call ab_MT _ _ _ (99, SK Lx 99, (wr I 55 17 (-1)), G, PU ((55, 65, 98) :: (55, 64, 97) :: (55, 63, 96) :: (55, 62, 95) :: (55, 58, 94) :: (55, 56, 93) :: (55, 55, 92) :: (55, 53, 91) :: (55, 52, 90) :: (55, 51, 89) :: (55, 49, 88) :: (55, 48, 87) :: (55, 46, 86) :: (55, 45, 85) :: (55, 44, 84) :: (55, 42, 83) :: (55, 41, 82) :: (55, 40, 81) :: (55, 39, 80) :: (55, 38, 79) :: (55, 36, 78) :: (55, 35, 77) :: (55, 34, 76) :: (55, 33, 75) :: (55, 32, 74) :: (55, 31, 73) :: (55, 30, 72) :: (55, 29, 71) :: (55, 28, 70) :: (55, 27, 69) :: (55, 26, 68) :: (55, 25, 67) :: (55, 24, 66) :: (55, 23, 65) :: (55, 22, 64) :: (55, 21, 63) :: (55, 9, 62) :: (55, 8, 61) :: (55, 7, 60) :: (55, 6, 59) :: (55, 5, 58) :: (55, 3, 57) :: (55, 1, 56) :: (0, 8, 52) :: (52, 1, 54) :: (52, 0, 53) :: (0, 7, 48) :: (48, 2, 51) :: (48, 1, 50) :: (48, 0, 49) :: (0, 6, 44) :: (44, 1, 39) :: (44, 0, 41) :: (44, 3, 47) :: (44, 2, 45) :: (45, 0, 46) :: (0, 5, 41) :: (41, 3, 2) :: (41, 2, 1) :: (41, 1, 43) :: (41, 0, 42) :: (0, 4, 39) :: (39, 0, 40) :: (0, 3, 33) :: (33, 2, 17) :: (33, 1, 16) :: (33, 0, 34) :: (34, 3, 38) :: (34, 2, 37) :: (34, 1, 36) :: (34, 0, 35) :: (0, 2, 31) :: (31, 0, 32) :: (0, 1, 16) :: (16, 8, 30) :: (16, 7, 29) :: (16, 6, 28) :: (16, 5, 27) :: (16, 4, 26) :: (16, 3, 25) :: (16, 2, 24) :: (16, 1, 23) :: (16, 0, 17) :: (17, 4, 22) :: (17, 3, 21) :: (17, 2, 20) :: (17, 1, 19) :: (17, 0, 18) :: (0, 0, 1) :: (1, 8, 15) :: (1, 7, 14) :: (1, 6, 13) :: (1, 5, 12) :: (1, 4, 11) :: (1, 3, 10) :: (1, 2, 9) :: (1, 1, 8) :: (1, 0, 2) :: (2, 4, 7) :: (2, 3, 6) :: (2, 2, 5) :: (2, 1, 4) :: (2, 0, 3) :: [])) 0 0 _
  rw [sk99, pu99]
  refine c_X11_plain (sd := 0) (by decide) (fun I2 f2 g2 z2 l2 j2 => ?_)
  have K_ : ∀ k, k < 0 → G 62 k = lN (vl_ 27 (kwd (pm k))) := fun k hk => absurd hk (Nat.not_lt_zero _)
  have z55 : ∀ k, k ≠ 17 → I2 55 k = nI 0 := fun k hk => by rw [g2, wr_ne _ _ _ _ hk, h55]; rfl
  refine wx_aload_n rfl (e := 368) rfl rfl ?_
  refine wx_getr rfl (e := 371) rfl rfl rfl ?_
  refine wx_iconst (v := (nI 0)) rfl (e := 372) rfl (by decide) ?_
  refine wx_bipush (v := (nI 99)) rfl (e := 374) rfl (by decide) ?_
  refine wx_bipush (v := (nI 104)) rfl (e := 376) rfl (by decide) ?_
  refine wx_bipush (v := (nI 117)) rfl (e := 378) rfl (by decide) ?_
  refine wx_bipush (v := (nI 114)) rfl (e := 380) rfl (by decide) ?_
  refine wx_bipush (v := (nI 99)) rfl (e := 382) rfl (by decide) ?_
  refine wx_bipush (v := (nI 104)) rfl (e := 384) rfl (by decide) ?_
  refine wx_iconst (v := (nI 0)) rfl (e := 385) rfl (by decide) ?_
  refine wx_cs7 (mc := 0) (ms := 0) rfl (e := 388) rfl (Nat.le_of_ble_eq_true rfl) ⟨by decide, by decide⟩ ?_
  refine c_X11_word (by decide) (by decide) (by decide) (by decide) (by decide) (by decide) (by decide) ?_
  refine wn_last rfl (e := 389) rfl rfl (by decide) (by omega) (by decide) ?_
  have K_ := kw_s (j := 0) (w := (apN (apN (apN (apN (apN (apN (apN 0 99) 104) 117) 114) 99) 104) 0)) K_ (by decide)
  refine wx_aload_n rfl (e := 390) rfl rfl ?_
  refine wx_getr rfl (e := 393) rfl rfl rfl ?_
  refine wx_iconst (v := (nI 1)) rfl (e := 394) rfl (by decide) ?_
  refine wx_bipush (v := (nI 114)) rfl (e := 396) rfl (by decide) ?_
  refine wx_bipush (v := (nI 111)) rfl (e := 398) rfl (by decide) ?_
  refine wx_bipush (v := (nI 97)) rfl (e := 400) rfl (by decide) ?_
  refine wx_bipush (v := (nI 100)) rfl (e := 402) rfl (by decide) ?_
  refine wx_iconst (v := (nI 0)) rfl (e := 403) rfl (by decide) ?_
  refine wx_iconst (v := (nI 0)) rfl (e := 404) rfl (by decide) ?_
  refine wx_iconst (v := (nI 0)) rfl (e := 405) rfl (by decide) ?_
  refine wx_cs7 (mc := 0) (ms := 0) rfl (e := 408) rfl (Nat.le_of_ble_eq_true rfl) ⟨by decide, by decide⟩ ?_
  refine c_X11_word (by decide) (by decide) (by decide) (by decide) (by decide) (by decide) (by decide) ?_
  refine wn_last rfl (e := 409) rfl rfl (by decide) (by omega) (by decide) ?_
  have K_ := kw_s (j := 1) (w := (apN (apN (apN (apN (apN (apN (apN 0 114) 111) 97) 100) 0) 0) 0)) K_ (by decide)
  refine wx_aload_n rfl (e := 410) rfl rfl ?_
  refine wx_getr rfl (e := 413) rfl rfl rfl ?_
  refine wx_iconst (v := (nI 2)) rfl (e := 414) rfl (by decide) ?_
  refine wx_bipush (v := (nI 114)) rfl (e := 416) rfl (by decide) ?_
  refine wx_bipush (v := (nI 101)) rfl (e := 418) rfl (by decide) ?_
  refine wx_bipush (v := (nI 108)) rfl (e := 420) rfl (by decide) ?_
  refine wx_bipush (v := (nI 105)) rfl (e := 422) rfl (by decide) ?_
  refine wx_bipush (v := (nI 99)) rfl (e := 424) rfl (by decide) ?_
  refine wx_iconst (v := (nI 0)) rfl (e := 425) rfl (by decide) ?_
  refine wx_iconst (v := (nI 0)) rfl (e := 426) rfl (by decide) ?_
  refine wx_cs7 (mc := 0) (ms := 0) rfl (e := 429) rfl (Nat.le_of_ble_eq_true rfl) ⟨by decide, by decide⟩ ?_
  refine c_X11_word (by decide) (by decide) (by decide) (by decide) (by decide) (by decide) (by decide) ?_
  refine wn_last rfl (e := 430) rfl rfl (by decide) (by omega) (by decide) ?_
  have K_ := kw_s (j := 2) (w := (apN (apN (apN (apN (apN (apN (apN 0 114) 101) 108) 105) 99) 0) 0)) K_ (by decide)
  refine wx_aload_n rfl (e := 431) rfl rfl ?_
  refine wx_getr rfl (e := 434) rfl rfl rfl ?_
  refine wx_iconst (v := (nI 3)) rfl (e := 435) rfl (by decide) ?_
  refine wx_bipush (v := (nI 112)) rfl (e := 437) rfl (by decide) ?_
  refine wx_bipush (v := (nI 105)) rfl (e := 439) rfl (by decide) ?_
  refine wx_bipush (v := (nI 108)) rfl (e := 441) rfl (by decide) ?_
  refine wx_bipush (v := (nI 103)) rfl (e := 443) rfl (by decide) ?_
  refine wx_bipush (v := (nI 114)) rfl (e := 445) rfl (by decide) ?_
  refine wx_bipush (v := (nI 105)) rfl (e := 447) rfl (by decide) ?_
  refine wx_bipush (v := (nI 109)) rfl (e := 449) rfl (by decide) ?_
  refine wx_cs7 (mc := 0) (ms := 0) rfl (e := 452) rfl (Nat.le_of_ble_eq_true rfl) ⟨by decide, by decide⟩ ?_
  refine c_X11_word (by decide) (by decide) (by decide) (by decide) (by decide) (by decide) (by decide) ?_
  refine wn_last rfl (e := 453) rfl rfl (by decide) (by omega) (by decide) ?_
  have K_ := kw_s (j := 3) (w := (apN (apN (apN (apN (apN (apN (apN 0 112) 105) 108) 103) 114) 105) 109)) K_ (by decide)
  refine wx_aload_n rfl (e := 454) rfl rfl ?_
  refine wx_getr rfl (e := 457) rfl rfl rfl ?_
  refine wx_iconst (v := (nI 4)) rfl (e := 458) rfl (by decide) ?_
  refine wx_bipush (v := (nI 116)) rfl (e := 460) rfl (by decide) ?_
  refine wx_bipush (v := (nI 114)) rfl (e := 462) rfl (by decide) ?_
  refine wx_bipush (v := (nI 117)) rfl (e := 464) rfl (by decide) ?_
  refine wx_bipush (v := (nI 101)) rfl (e := 466) rfl (by decide) ?_
  refine wx_iconst (v := (nI 0)) rfl (e := 467) rfl (by decide) ?_
  refine wx_iconst (v := (nI 0)) rfl (e := 468) rfl (by decide) ?_
  refine wx_iconst (v := (nI 0)) rfl (e := 469) rfl (by decide) ?_
  refine wx_cs7 (mc := 0) (ms := 0) rfl (e := 472) rfl (Nat.le_of_ble_eq_true rfl) ⟨by decide, by decide⟩ ?_
  refine c_X11_word (by decide) (by decide) (by decide) (by decide) (by decide) (by decide) (by decide) ?_
  refine wn_last rfl (e := 473) rfl rfl (by decide) (by omega) (by decide) ?_
  have K_ := kw_s (j := 4) (w := (apN (apN (apN (apN (apN (apN (apN 0 116) 114) 117) 101) 0) 0) 0)) K_ (by decide)
  refine wx_aload_n rfl (e := 474) rfl rfl ?_
  refine wx_getr rfl (e := 477) rfl rfl rfl ?_
  refine wx_iconst (v := (nI 5)) rfl (e := 478) rfl (by decide) ?_
  refine wx_bipush (v := (nI 99)) rfl (e := 480) rfl (by decide) ?_
  refine wx_bipush (v := (nI 111)) rfl (e := 482) rfl (by decide) ?_
  refine wx_bipush (v := (nI 112)) rfl (e := 484) rfl (by decide) ?_
  refine wx_bipush (v := (nI 121)) rfl (e := 486) rfl (by decide) ?_
  refine wx_iconst (v := (nI 0)) rfl (e := 487) rfl (by decide) ?_
  refine wx_iconst (v := (nI 0)) rfl (e := 488) rfl (by decide) ?_
  refine wx_iconst (v := (nI 0)) rfl (e := 489) rfl (by decide) ?_
  refine wx_cs7 (mc := 0) (ms := 0) rfl (e := 492) rfl (Nat.le_of_ble_eq_true rfl) ⟨by decide, by decide⟩ ?_
  refine c_X11_word (by decide) (by decide) (by decide) (by decide) (by decide) (by decide) (by decide) ?_
  refine wn_last rfl (e := 493) rfl rfl (by decide) (by omega) (by decide) ?_
  have K_ := kw_s (j := 5) (w := (apN (apN (apN (apN (apN (apN (apN 0 99) 111) 112) 121) 0) 0) 0)) K_ (by decide)
  refine wx_aload_n rfl (e := 494) rfl rfl ?_
  refine wx_getr rfl (e := 497) rfl rfl rfl ?_
  refine wx_bipush (v := (nI 6)) rfl (e := 499) rfl (by decide) ?_
  refine wx_bipush (v := (nI 100)) rfl (e := 501) rfl (by decide) ?_
  refine wx_bipush (v := (nI 114)) rfl (e := 503) rfl (by decide) ?_
  refine wx_bipush (v := (nI 97)) rfl (e := 505) rfl (by decide) ?_
  refine wx_bipush (v := (nI 119)) rfl (e := 507) rfl (by decide) ?_
  refine wx_bipush (v := (nI 115)) rfl (e := 509) rfl (by decide) ?_
  refine wx_iconst (v := (nI 0)) rfl (e := 510) rfl (by decide) ?_
  refine wx_iconst (v := (nI 0)) rfl (e := 511) rfl (by decide) ?_
  refine wx_cs7 (mc := 0) (ms := 0) rfl (e := 514) rfl (Nat.le_of_ble_eq_true rfl) ⟨by decide, by decide⟩ ?_
  refine c_X11_word (by decide) (by decide) (by decide) (by decide) (by decide) (by decide) (by decide) ?_
  refine wn_last rfl (e := 515) rfl rfl (by decide) (by omega) (by decide) ?_
  have K_ := kw_s (j := 6) (w := (apN (apN (apN (apN (apN (apN (apN 0 100) 114) 97) 119) 115) 0) 0)) K_ (by decide)
  refine wx_aload_n rfl (e := 516) rfl rfl ?_
  refine wx_getr rfl (e := 519) rfl rfl rfl ?_
  refine wx_bipush (v := (nI 7)) rfl (e := 521) rfl (by decide) ?_
  refine wx_bipush (v := (nI 104)) rfl (e := 523) rfl (by decide) ?_
  refine wx_bipush (v := (nI 101)) rfl (e := 525) rfl (by decide) ?_
  refine wx_bipush (v := (nI 97)) rfl (e := 527) rfl (by decide) ?_
  refine wx_bipush (v := (nI 108)) rfl (e := 529) rfl (by decide) ?_
  refine wx_bipush (v := (nI 115)) rfl (e := 531) rfl (by decide) ?_
  refine wx_iconst (v := (nI 0)) rfl (e := 532) rfl (by decide) ?_
  refine wx_iconst (v := (nI 0)) rfl (e := 533) rfl (by decide) ?_
  refine wx_cs7 (mc := 0) (ms := 0) rfl (e := 536) rfl (Nat.le_of_ble_eq_true rfl) ⟨by decide, by decide⟩ ?_
  refine c_X11_word (by decide) (by decide) (by decide) (by decide) (by decide) (by decide) (by decide) ?_
  refine wn_last rfl (e := 537) rfl rfl (by decide) (by omega) (by decide) ?_
  have K_ := kw_s (j := 7) (w := (apN (apN (apN (apN (apN (apN (apN 0 104) 101) 97) 108) 115) 0) 0)) K_ (by decide)
  refine wx_aload_n rfl (e := 538) rfl rfl ?_
  refine wx_getr rfl (e := 541) rfl rfl rfl ?_
  refine wx_bipush (v := (nI 8)) rfl (e := 543) rfl (by decide) ?_
  refine wx_bipush (v := (nI 103)) rfl (e := 545) rfl (by decide) ?_
  refine wx_bipush (v := (nI 105)) rfl (e := 547) rfl (by decide) ?_
  refine wx_bipush (v := (nI 118)) rfl (e := 549) rfl (by decide) ?_
  refine wx_bipush (v := (nI 101)) rfl (e := 551) rfl (by decide) ?_
  refine wx_bipush (v := (nI 115)) rfl (e := 553) rfl (by decide) ?_
  refine wx_iconst (v := (nI 0)) rfl (e := 554) rfl (by decide) ?_
  refine wx_iconst (v := (nI 0)) rfl (e := 555) rfl (by decide) ?_
  refine wx_cs7 (mc := 0) (ms := 0) rfl (e := 558) rfl (Nat.le_of_ble_eq_true rfl) ⟨by decide, by decide⟩ ?_
  refine c_X11_word (by decide) (by decide) (by decide) (by decide) (by decide) (by decide) (by decide) ?_
  refine wn_last rfl (e := 559) rfl rfl (by decide) (by omega) (by decide) ?_
  have K_ := kw_s (j := 8) (w := (apN (apN (apN (apN (apN (apN (apN 0 103) 105) 118) 101) 115) 0) 0)) K_ (by decide)
  refine wx_aload_n rfl (e := 560) rfl rfl ?_
  refine wx_getr rfl (e := 563) rfl rfl rfl ?_
  refine wx_bipush (v := (nI 9)) rfl (e := 565) rfl (by decide) ?_
  refine wx_bipush (v := (nI 108)) rfl (e := 567) rfl (by decide) ?_
  refine wx_bipush (v := (nI 101)) rfl (e := 569) rfl (by decide) ?_
  refine wx_bipush (v := (nI 97)) rfl (e := 571) rfl (by decide) ?_
  refine wx_bipush (v := (nI 118)) rfl (e := 573) rfl (by decide) ?_
  refine wx_bipush (v := (nI 101)) rfl (e := 575) rfl (by decide) ?_
  refine wx_iconst (v := (nI 0)) rfl (e := 576) rfl (by decide) ?_
  refine wx_iconst (v := (nI 0)) rfl (e := 577) rfl (by decide) ?_
  refine wx_cs7 (mc := 0) (ms := 0) rfl (e := 580) rfl (Nat.le_of_ble_eq_true rfl) ⟨by decide, by decide⟩ ?_
  refine c_X11_word (by decide) (by decide) (by decide) (by decide) (by decide) (by decide) (by decide) ?_
  refine wn_last rfl (e := 581) rfl rfl (by decide) (by omega) (by decide) ?_
  have K_ := kw_s (j := 9) (w := (apN (apN (apN (apN (apN (apN (apN 0 108) 101) 97) 118) 101) 0) 0)) K_ (by decide)
  refine wx_aload_n rfl (e := 582) rfl rfl ?_
  refine wx_getr rfl (e := 585) rfl rfl rfl ?_
  refine wx_bipush (v := (nI 10)) rfl (e := 587) rfl (by decide) ?_
  refine wx_bipush (v := (nI 99)) rfl (e := 589) rfl (by decide) ?_
  refine wx_bipush (v := (nI 97)) rfl (e := 591) rfl (by decide) ?_
  refine wx_bipush (v := (nI 117)) rfl (e := 593) rfl (by decide) ?_
  refine wx_bipush (v := (nI 103)) rfl (e := 595) rfl (by decide) ?_
  refine wx_bipush (v := (nI 104)) rfl (e := 597) rfl (by decide) ?_
  refine wx_bipush (v := (nI 116)) rfl (e := 599) rfl (by decide) ?_
  refine wx_iconst (v := (nI 0)) rfl (e := 600) rfl (by decide) ?_
  refine wx_cs7 (mc := 0) (ms := 0) rfl (e := 603) rfl (Nat.le_of_ble_eq_true rfl) ⟨by decide, by decide⟩ ?_
  refine c_X11_word (by decide) (by decide) (by decide) (by decide) (by decide) (by decide) (by decide) ?_
  refine wn_last rfl (e := 604) rfl rfl (by decide) (by omega) (by decide) ?_
  have K_ := kw_s (j := 10) (w := (apN (apN (apN (apN (apN (apN (apN 0 99) 97) 117) 103) 104) 116) 0)) K_ (by decide)
  refine wx_aload_n rfl (e := 605) rfl rfl ?_
  refine wx_getr rfl (e := 608) rfl rfl rfl ?_
  refine wx_bipush (v := (nI 11)) rfl (e := 610) rfl (by decide) ?_
  refine wx_bipush (v := (nI 115)) rfl (e := 612) rfl (by decide) ?_
  refine wx_bipush (v := (nI 101)) rfl (e := 614) rfl (by decide) ?_
  refine wx_bipush (v := (nI 101)) rfl (e := 616) rfl (by decide) ?_
  refine wx_bipush (v := (nI 100)) rfl (e := 618) rfl (by decide) ?_
  refine wx_iconst (v := (nI 0)) rfl (e := 619) rfl (by decide) ?_
  refine wx_iconst (v := (nI 0)) rfl (e := 620) rfl (by decide) ?_
  refine wx_iconst (v := (nI 0)) rfl (e := 621) rfl (by decide) ?_
  refine wx_cs7 (mc := 0) (ms := 0) rfl (e := 624) rfl (Nat.le_of_ble_eq_true rfl) ⟨by decide, by decide⟩ ?_
  refine c_X11_word (by decide) (by decide) (by decide) (by decide) (by decide) (by decide) (by decide) ?_
  refine wn_last rfl (e := 625) rfl rfl (by decide) (by omega) (by decide) ?_
  have K_ := kw_s (j := 11) (w := (apN (apN (apN (apN (apN (apN (apN 0 115) 101) 101) 100) 0) 0) 0)) K_ (by decide)
  refine wx_aload_n rfl (e := 626) rfl rfl ?_
  refine wx_getr rfl (e := 629) rfl rfl rfl ?_
  refine wx_bipush (v := (nI 12)) rfl (e := 631) rfl (by decide) ?_
  refine wx_bipush (v := (nI 105)) rfl (e := 633) rfl (by decide) ?_
  refine wx_bipush (v := (nI 102)) rfl (e := 635) rfl (by decide) ?_
  refine wx_iconst (v := (nI 0)) rfl (e := 636) rfl (by decide) ?_
  refine wx_iconst (v := (nI 0)) rfl (e := 637) rfl (by decide) ?_
  refine wx_iconst (v := (nI 0)) rfl (e := 638) rfl (by decide) ?_
  refine wx_iconst (v := (nI 0)) rfl (e := 639) rfl (by decide) ?_
  refine wx_iconst (v := (nI 0)) rfl (e := 640) rfl (by decide) ?_
  refine wx_cs7 (mc := 0) (ms := 0) rfl (e := 643) rfl (Nat.le_of_ble_eq_true rfl) ⟨by decide, by decide⟩ ?_
  refine c_X11_word (by decide) (by decide) (by decide) (by decide) (by decide) (by decide) (by decide) ?_
  refine wn_last rfl (e := 644) rfl rfl (by decide) (by omega) (by decide) ?_
  have K_ := kw_s (j := 12) (w := (apN (apN (apN (apN (apN (apN (apN 0 105) 102) 0) 0) 0) 0) 0)) K_ (by decide)
  refine wx_aload_n rfl (e := 645) rfl rfl ?_
  refine wx_getr rfl (e := 648) rfl rfl rfl ?_
  refine wx_bipush (v := (nI 13)) rfl (e := 650) rfl (by decide) ?_
  refine wx_bipush (v := (nI 116)) rfl (e := 652) rfl (by decide) ?_
  refine wx_bipush (v := (nI 104)) rfl (e := 654) rfl (by decide) ?_
  refine wx_bipush (v := (nI 101)) rfl (e := 656) rfl (by decide) ?_
  refine wx_bipush (v := (nI 110)) rfl (e := 658) rfl (by decide) ?_
  refine wx_iconst (v := (nI 0)) rfl (e := 659) rfl (by decide) ?_
  refine wx_iconst (v := (nI 0)) rfl (e := 660) rfl (by decide) ?_
  refine wx_iconst (v := (nI 0)) rfl (e := 661) rfl (by decide) ?_
  refine wx_cs7 (mc := 0) (ms := 0) rfl (e := 664) rfl (Nat.le_of_ble_eq_true rfl) ⟨by decide, by decide⟩ ?_
  refine c_X11_word (by decide) (by decide) (by decide) (by decide) (by decide) (by decide) (by decide) ?_
  refine wn_last rfl (e := 665) rfl rfl (by decide) (by omega) (by decide) ?_
  have K_ := kw_s (j := 13) (w := (apN (apN (apN (apN (apN (apN (apN 0 116) 104) 101) 110) 0) 0) 0)) K_ (by decide)
  refine wx_aload_n rfl (e := 666) rfl rfl ?_
  refine wx_getr rfl (e := 669) rfl rfl rfl ?_
  refine wx_bipush (v := (nI 14)) rfl (e := 671) rfl (by decide) ?_
  refine wx_bipush (v := (nI 101)) rfl (e := 673) rfl (by decide) ?_
  refine wx_bipush (v := (nI 108)) rfl (e := 675) rfl (by decide) ?_
  refine wx_bipush (v := (nI 115)) rfl (e := 677) rfl (by decide) ?_
  refine wx_bipush (v := (nI 101)) rfl (e := 679) rfl (by decide) ?_
  refine wx_iconst (v := (nI 0)) rfl (e := 680) rfl (by decide) ?_
  refine wx_iconst (v := (nI 0)) rfl (e := 681) rfl (by decide) ?_
  refine wx_iconst (v := (nI 0)) rfl (e := 682) rfl (by decide) ?_
  refine wx_cs7 (mc := 0) (ms := 0) rfl (e := 685) rfl (Nat.le_of_ble_eq_true rfl) ⟨by decide, by decide⟩ ?_
  refine c_X11_word (by decide) (by decide) (by decide) (by decide) (by decide) (by decide) (by decide) ?_
  refine wn_last rfl (e := 686) rfl rfl (by decide) (by omega) (by decide) ?_
  have K_ := kw_s (j := 14) (w := (apN (apN (apN (apN (apN (apN (apN 0 101) 108) 115) 101) 0) 0) 0)) K_ (by decide)
  refine wx_aload_n rfl (e := 687) rfl rfl ?_
  refine wx_getr rfl (e := 690) rfl rfl rfl ?_
  refine wx_bipush (v := (nI 15)) rfl (e := 692) rfl (by decide) ?_
  refine wx_bipush (v := (nI 114)) rfl (e := 694) rfl (by decide) ?_
  refine wx_bipush (v := (nI 101)) rfl (e := 696) rfl (by decide) ?_
  refine wx_bipush (v := (nI 108)) rfl (e := 698) rfl (by decide) ?_
  refine wx_bipush (v := (nI 105)) rfl (e := 700) rfl (by decide) ?_
  refine wx_bipush (v := (nI 99)) rfl (e := 702) rfl (by decide) ?_
  refine wx_bipush (v := (nI 115)) rfl (e := 704) rfl (by decide) ?_
  refine wx_iconst (v := (nI 0)) rfl (e := 705) rfl (by decide) ?_
  refine wx_cs7 (mc := 0) (ms := 0) rfl (e := 708) rfl (Nat.le_of_ble_eq_true rfl) ⟨by decide, by decide⟩ ?_
  refine c_X11_word (by decide) (by decide) (by decide) (by decide) (by decide) (by decide) (by decide) ?_
  refine wn_last rfl (e := 709) rfl rfl (by decide) (by omega) (by decide) ?_
  have K_ := kw_s (j := 15) (w := (apN (apN (apN (apN (apN (apN (apN 0 114) 101) 108) 105) 99) 115) 0)) K_ (by decide)
  refine wx_aload_n rfl (e := 710) rfl rfl ?_
  refine wx_getr rfl (e := 713) rfl rfl rfl ?_
  refine wx_bipush (v := (nI 16)) rfl (e := 715) rfl (by decide) ?_
  refine wx_bipush (v := (nI 119)) rfl (e := 717) rfl (by decide) ?_
  refine wx_bipush (v := (nI 111)) rfl (e := 719) rfl (by decide) ?_
  refine wx_bipush (v := (nI 110)) rfl (e := 721) rfl (by decide) ?_
  refine wx_bipush (v := (nI 100)) rfl (e := 723) rfl (by decide) ?_
  refine wx_bipush (v := (nI 101)) rfl (e := 725) rfl (by decide) ?_
  refine wx_bipush (v := (nI 114)) rfl (e := 727) rfl (by decide) ?_
  refine wx_bipush (v := (nI 115)) rfl (e := 729) rfl (by decide) ?_
  refine wx_cs7 (mc := 0) (ms := 0) rfl (e := 732) rfl (Nat.le_of_ble_eq_true rfl) ⟨by decide, by decide⟩ ?_
  refine c_X11_word (by decide) (by decide) (by decide) (by decide) (by decide) (by decide) (by decide) ?_
  refine wn_last rfl (e := 733) rfl rfl (by decide) (by omega) (by decide) ?_
  have K_ := kw_s (j := 16) (w := (apN (apN (apN (apN (apN (apN (apN 0 119) 111) 110) 100) 101) 114) 115)) K_ (by decide)
  refine wx_aload_n rfl (e := 734) rfl rfl ?_
  refine wx_getr rfl (e := 737) rfl rfl rfl ?_
  refine wx_bipush (v := (nI 17)) rfl (e := 739) rfl (by decide) ?_
  refine wx_bipush (v := (nI 102)) rfl (e := 741) rfl (by decide) ?_
  refine wx_bipush (v := (nI 97)) rfl (e := 743) rfl (by decide) ?_
  refine wx_bipush (v := (nI 114)) rfl (e := 745) rfl (by decide) ?_
  refine wx_iconst (v := (nI 0)) rfl (e := 746) rfl (by decide) ?_
  refine wx_iconst (v := (nI 0)) rfl (e := 747) rfl (by decide) ?_
  refine wx_iconst (v := (nI 0)) rfl (e := 748) rfl (by decide) ?_
  refine wx_iconst (v := (nI 0)) rfl (e := 749) rfl (by decide) ?_
  refine wx_cs7 (mc := 0) (ms := 0) rfl (e := 752) rfl (Nat.le_of_ble_eq_true rfl) ⟨by decide, by decide⟩ ?_
  refine c_X11_word (by decide) (by decide) (by decide) (by decide) (by decide) (by decide) (by decide) ?_
  refine wn_last rfl (e := 753) rfl rfl (by decide) (by omega) (by decide) ?_
  have K_ := kw_s (j := 17) (w := (apN (apN (apN (apN (apN (apN (apN 0 102) 97) 114) 0) 0) 0) 0)) K_ (by decide)
  refine wx_aload_n rfl (e := 754) rfl rfl ?_
  refine wx_getr rfl (e := 757) rfl rfl rfl ?_
  refine wx_bipush (v := (nI 18)) rfl (e := 759) rfl (by decide) ?_
  refine wx_bipush (v := (nI 110)) rfl (e := 761) rfl (by decide) ?_
  refine wx_bipush (v := (nI 101)) rfl (e := 763) rfl (by decide) ?_
  refine wx_bipush (v := (nI 101)) rfl (e := 765) rfl (by decide) ?_
  refine wx_bipush (v := (nI 100)) rfl (e := 767) rfl (by decide) ?_
  refine wx_iconst (v := (nI 0)) rfl (e := 768) rfl (by decide) ?_
  refine wx_iconst (v := (nI 0)) rfl (e := 769) rfl (by decide) ?_
  refine wx_iconst (v := (nI 0)) rfl (e := 770) rfl (by decide) ?_
  refine wx_cs7 (mc := 0) (ms := 0) rfl (e := 773) rfl (Nat.le_of_ble_eq_true rfl) ⟨by decide, by decide⟩ ?_
  refine c_X11_word (by decide) (by decide) (by decide) (by decide) (by decide) (by decide) (by decide) ?_
  refine wn_last rfl (e := 774) rfl rfl (by decide) (by omega) (by decide) ?_
  have K_ := kw_s (j := 18) (w := (apN (apN (apN (apN (apN (apN (apN 0 110) 101) 101) 100) 0) 0) 0)) K_ (by decide)
  refine wx_aload_n rfl (e := 775) rfl rfl ?_
  refine wx_getr rfl (e := 778) rfl rfl rfl ?_
  refine wx_bipush (v := (nI 19)) rfl (e := 780) rfl (by decide) ?_
  refine wx_bipush (v := (nI 103)) rfl (e := 782) rfl (by decide) ?_
  refine wx_bipush (v := (nI 105)) rfl (e := 784) rfl (by decide) ?_
  refine wx_bipush (v := (nI 102)) rfl (e := 786) rfl (by decide) ?_
  refine wx_bipush (v := (nI 116)) rfl (e := 788) rfl (by decide) ?_
  refine wx_iconst (v := (nI 0)) rfl (e := 789) rfl (by decide) ?_
  refine wx_iconst (v := (nI 0)) rfl (e := 790) rfl (by decide) ?_
  refine wx_iconst (v := (nI 0)) rfl (e := 791) rfl (by decide) ?_
  refine wx_cs7 (mc := 0) (ms := 0) rfl (e := 794) rfl (Nat.le_of_ble_eq_true rfl) ⟨by decide, by decide⟩ ?_
  refine c_X11_word (by decide) (by decide) (by decide) (by decide) (by decide) (by decide) (by decide) ?_
  refine wn_last rfl (e := 795) rfl rfl (by decide) (by omega) (by decide) ?_
  have K_ := kw_s (j := 19) (w := (apN (apN (apN (apN (apN (apN (apN 0 103) 105) 102) 116) 0) 0) 0)) K_ (by decide)
  refine wx_aload_n rfl (e := 796) rfl rfl ?_
  refine wx_getr rfl (e := 799) rfl rfl rfl ?_
  refine wx_bipush (v := (nI 20)) rfl (e := 801) rfl (by decide) ?_
  refine wx_bipush (v := (nI 110)) rfl (e := 803) rfl (by decide) ?_
  refine wx_bipush (v := (nI 105)) rfl (e := 805) rfl (by decide) ?_
  refine wx_bipush (v := (nI 103)) rfl (e := 807) rfl (by decide) ?_
  refine wx_bipush (v := (nI 104)) rfl (e := 809) rfl (by decide) ?_
  refine wx_bipush (v := (nI 116)) rfl (e := 811) rfl (by decide) ?_
  refine wx_bipush (v := (nI 115)) rfl (e := 813) rfl (by decide) ?_
  refine wx_iconst (v := (nI 0)) rfl (e := 814) rfl (by decide) ?_
  refine wx_cs7 (mc := 0) (ms := 0) rfl (e := 817) rfl (Nat.le_of_ble_eq_true rfl) ⟨by decide, by decide⟩ ?_
  refine c_X11_word (by decide) (by decide) (by decide) (by decide) (by decide) (by decide) (by decide) ?_
  refine wn_last rfl (e := 818) rfl rfl (by decide) (by omega) (by decide) ?_
  have K_ := kw_s (j := 20) (w := (apN (apN (apN (apN (apN (apN (apN 0 110) 105) 103) 104) 116) 115) 0)) K_ (by decide)
  refine wx_aload_n rfl (e := 819) rfl rfl ?_
  refine wx_getr rfl (e := 822) rfl rfl rfl ?_
  refine wx_bipush (v := (nI 21)) rfl (e := 824) rfl (by decide) ?_
  refine wx_bipush (v := (nI 119)) rfl (e := 826) rfl (by decide) ?_
  refine wx_bipush (v := (nI 97)) rfl (e := 828) rfl (by decide) ?_
  refine wx_bipush (v := (nI 116)) rfl (e := 830) rfl (by decide) ?_
  refine wx_bipush (v := (nI 99)) rfl (e := 832) rfl (by decide) ?_
  refine wx_bipush (v := (nI 104)) rfl (e := 834) rfl (by decide) ?_
  refine wx_iconst (v := (nI 0)) rfl (e := 835) rfl (by decide) ?_
  refine wx_iconst (v := (nI 0)) rfl (e := 836) rfl (by decide) ?_
  refine wx_cs7 (mc := 0) (ms := 0) rfl (e := 839) rfl (Nat.le_of_ble_eq_true rfl) ⟨by decide, by decide⟩ ?_
  refine c_X11_word (by decide) (by decide) (by decide) (by decide) (by decide) (by decide) (by decide) ?_
  refine wn_last rfl (e := 840) rfl rfl (by decide) (by omega) (by decide) ?_
  have K_ := kw_s (j := 21) (w := (apN (apN (apN (apN (apN (apN (apN 0 119) 97) 116) 99) 104) 0) 0)) K_ (by decide)
  refine wx_aload_n rfl (e := 841) rfl rfl ?_
  refine wx_getr rfl (e := 844) rfl rfl rfl ?_
  refine wx_bipush (v := (nI 22)) rfl (e := 846) rfl (by decide) ?_
  refine wx_bipush (v := (nI 121)) rfl (e := 848) rfl (by decide) ?_
  refine wx_bipush (v := (nI 101)) rfl (e := 850) rfl (by decide) ?_
  refine wx_bipush (v := (nI 97)) rfl (e := 852) rfl (by decide) ?_
  refine wx_bipush (v := (nI 114)) rfl (e := 854) rfl (by decide) ?_
  refine wx_bipush (v := (nI 115)) rfl (e := 856) rfl (by decide) ?_
  refine wx_iconst (v := (nI 0)) rfl (e := 857) rfl (by decide) ?_
  refine wx_iconst (v := (nI 0)) rfl (e := 858) rfl (by decide) ?_
  refine wx_cs7 (mc := 0) (ms := 0) rfl (e := 861) rfl (Nat.le_of_ble_eq_true rfl) ⟨by decide, by decide⟩ ?_
  refine c_X11_word (by decide) (by decide) (by decide) (by decide) (by decide) (by decide) (by decide) ?_
  refine wn_last rfl (e := 862) rfl rfl (by decide) (by omega) (by decide) ?_
  have K_ := kw_s (j := 22) (w := (apN (apN (apN (apN (apN (apN (apN 0 121) 101) 97) 114) 115) 0) 0)) K_ (by decide)
  refine wx_aload_n rfl (e := 863) rfl rfl ?_
  refine wx_getr rfl (e := 866) rfl rfl rfl ?_
  refine wx_bipush (v := (nI 23)) rfl (e := 868) rfl (by decide) ?_
  refine wx_bipush (v := (nI 116)) rfl (e := 870) rfl (by decide) ?_
  refine wx_bipush (v := (nI 114)) rfl (e := 872) rfl (by decide) ?_
  refine wx_bipush (v := (nI 117)) rfl (e := 874) rfl (by decide) ?_
  refine wx_bipush (v := (nI 116)) rfl (e := 876) rfl (by decide) ?_
  refine wx_bipush (v := (nI 104)) rfl (e := 878) rfl (by decide) ?_
  refine wx_iconst (v := (nI 0)) rfl (e := 879) rfl (by decide) ?_
  refine wx_iconst (v := (nI 0)) rfl (e := 880) rfl (by decide) ?_
  refine wx_cs7 (mc := 0) (ms := 0) rfl (e := 883) rfl (Nat.le_of_ble_eq_true rfl) ⟨by decide, by decide⟩ ?_
  refine c_X11_word (by decide) (by decide) (by decide) (by decide) (by decide) (by decide) (by decide) ?_
  refine wn_last rfl (e := 884) rfl rfl (by decide) (by omega) (by decide) ?_
  have K_ := kw_s (j := 23) (w := (apN (apN (apN (apN (apN (apN (apN 0 116) 114) 117) 116) 104) 0) 0)) K_ (by decide)
  refine wx_aload_n rfl (e := 885) rfl rfl ?_
  refine wx_cv0 (mc := 0) (ms := 0) rfl (e := 888) rfl rfl (Nat.le_of_ble_eq_true rfl) ⟨by decide, by decide⟩ ?_
  refine c_X11_begins (lv := 0) (C := 0) (R := 0) (z55 18 (by decide)) (by decide) z2.1 z2.2.2.1 (by decide) (by decide) (fun I3 f3 k3 j3 => ?_)
  refine wx_aload_n rfl (e := 889) rfl rfl ?_
  refine wx_cv0 (mc := 0) (ms := 0) rfl (e := 892) rfl rfl (Nat.le_of_ble_eq_true rfl) ⟨by decide, by decide⟩ ?_
  refine c_X11_keepsRow (fun I4 f4 j4 => ?_)
  refine wx_ret rfl rfl ⟨by decide, by decide⟩ ?_
  have e4 : ∀ q, q ≠ 55 → q ≠ 90 → q ≠ 91 → I4 q = I2 q := fun q y1 y2 y3 => (f4 q y2).trans (f3 q y1 y3)
  have k4 : ∀ k, k ≠ 54 → I4 55 k = I2 55 k := fun k hk => by rw [f4 55 (by decide)]; exact k3 k hk
  obtain ⟨z1_, z2_⟩ := MI.zero (I := I4) (by rw [k4 18 (by decide)]; exact z55 18 (by decide)) (by unfold Z5; rw [e4 65 (by decide) (by decide) (by decide), e4 67 (by decide) (by decide) (by decide), e4 69 (by decide) (by decide) (by decide), e4 72 (by decide) (by decide) (by decide), e4 76 (by decide) (by decide) (by decide)]; exact z2) (by rw [e4 77 (by decide) (by decide) (by decide), e4 78 (by decide) (by decide) (by decide)]; exact j2) (fun k hk => by rw [j4 k hk, j3 k hk, bgS_cg (w := fun _ => nI 0) (q := fun _ => nI 0) (fun c hc => absurd hc (Nat.not_lt_zero _)) (fun c hc => absurd hc (Nat.not_lt_zero _))]) (by rw [k4 57 (by decide)]; exact z55 57 (by decide)) (by rw [k4 61 (by decide)]; exact z55 61 (by decide)) (by rw [k4 2 (by decide)]; exact z55 2 (by decide)) (by rw [k4 17 (by decide), g2, wr_eq]) (fun j hj => by rw [e4 97 (by decide) (by decide) (by decide), f2.q (q := 97) (by decide), wr_other _ _ _ _ (by decide), E0.1 97 (by decide) (by decide)]; rfl)
  refine hq I4 _ (fun q h => by rw [e4 q (by omega) (by omega) (by omega), f2.q (by omega), wr_other _ _ _ _ (by omega)]) (fun q h => ?_) K_ z1_ z2_
  repeat rw [wl_other _ _ _ _ h]

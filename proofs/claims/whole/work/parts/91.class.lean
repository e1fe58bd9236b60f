/-! the class and the model are made -/
theorem PF_k16 : ∀ c j, c < 55 → PF 1 16 1 c (j + 16) = none
  | 0, j, _ => rfl
  | 1, j, _ => rfl
  | 2, j, _ => rfl
  | 3, j, _ => rfl
  | 4, j, _ => rfl
  | 5, j, _ => rfl
  | 6, j, _ => rfl
  | 7, j, _ => rfl
  | 8, j, _ => rfl
  | 9, j, _ => rfl
  | 10, j, _ => rfl
  | 11, j, _ => rfl
  | 12, j, _ => rfl
  | 13, j, _ => rfl
  | 14, j, _ => rfl
  | 15, j, _ => rfl
  | 16, j, _ => rfl
  | 17, j, _ => rfl
  | 18, j, _ => rfl
  | 19, j, _ => rfl
  | 20, j, _ => rfl
  | 21, j, _ => rfl
  | 22, j, _ => rfl
  | 23, j, _ => rfl
  | 24, j, _ => rfl
  | 25, j, _ => rfl
  | 26, j, _ => rfl
  | 27, j, _ => rfl
  | 28, j, _ => rfl
  | 29, j, _ => rfl
  | 30, j, _ => rfl
  | 31, j, _ => rfl
  | 32, j, _ => rfl
  | 33, j, _ => rfl
  | 34, j, _ => rfl
  | 35, j, _ => rfl
  | 36, j, _ => rfl
  | 37, j, _ => rfl
  | 38, j, _ => rfl
  | 39, j, _ => rfl
  | 40, j, _ => rfl
  | 41, j, _ => rfl
  | 42, j, _ => rfl
  | 43, j, _ => rfl
  | 44, j, _ => rfl
  | 45, j, _ => rfl
  | 46, j, _ => rfl
  | 47, j, _ => rfl
  | 48, j, _ => rfl
  | 49, j, _ => rfl
  | 50, j, _ => rfl
  | 51, j, _ => rfl
  | 52, j, _ => rfl
  | 53, j, _ => rfl
  | 54, j, _ => rfl
  | _ + 55, _, h => absurd h (by omega)
theorem PF_k80 : ∀ c j, c < 99 → PF 1 16 1 c (j + 80) = none
  | 0, j, _ => rfl
  | 1, j, _ => rfl
  | 2, j, _ => rfl
  | 3, j, _ => rfl
  | 4, j, _ => rfl
  | 5, j, _ => rfl
  | 6, j, _ => rfl
  | 7, j, _ => rfl
  | 8, j, _ => rfl
  | 9, j, _ => rfl
  | 10, j, _ => rfl
  | 11, j, _ => rfl
  | 12, j, _ => rfl
  | 13, j, _ => rfl
  | 14, j, _ => rfl
  | 15, j, _ => rfl
  | 16, j, _ => rfl
  | 17, j, _ => rfl
  | 18, j, _ => rfl
  | 19, j, _ => rfl
  | 20, j, _ => rfl
  | 21, j, _ => rfl
  | 22, j, _ => rfl
  | 23, j, _ => rfl
  | 24, j, _ => rfl
  | 25, j, _ => rfl
  | 26, j, _ => rfl
  | 27, j, _ => rfl
  | 28, j, _ => rfl
  | 29, j, _ => rfl
  | 30, j, _ => rfl
  | 31, j, _ => rfl
  | 32, j, _ => rfl
  | 33, j, _ => rfl
  | 34, j, _ => rfl
  | 35, j, _ => rfl
  | 36, j, _ => rfl
  | 37, j, _ => rfl
  | 38, j, _ => rfl
  | 39, j, _ => rfl
  | 40, j, _ => rfl
  | 41, j, _ => rfl
  | 42, j, _ => rfl
  | 43, j, _ => rfl
  | 44, j, _ => rfl
  | 45, j, _ => rfl
  | 46, j, _ => rfl
  | 47, j, _ => rfl
  | 48, j, _ => rfl
  | 49, j, _ => rfl
  | 50, j, _ => rfl
  | 51, j, _ => rfl
  | 52, j, _ => rfl
  | 53, j, _ => rfl
  | 54, j, _ => rfl
  | 55, j, _ => rfl
  | 56, j, _ => rfl
  | 57, j, _ => rfl
  | 58, j, _ => rfl
  | 59, j, _ => rfl
  | 60, j, _ => rfl
  | 61, j, _ => rfl
  | 62, j, _ => rfl
  | 63, j, _ => rfl
  | 64, j, _ => rfl
  | 65, j, _ => rfl
  | 66, j, _ => rfl
  | 67, j, _ => rfl
  | 68, j, _ => rfl
  | 69, j, _ => rfl
  | 70, j, _ => rfl
  | 71, j, _ => rfl
  | 72, j, _ => rfl
  | 73, j, _ => rfl
  | 74, j, _ => rfl
  | 75, j, _ => rfl
  | 76, j, _ => rfl
  | 77, j, _ => rfl
  | 78, j, _ => rfl
  | 79, j, _ => rfl
  | 80, j, _ => rfl
  | 81, j, _ => rfl
  | 82, j, _ => rfl
  | 83, j, _ => rfl
  | 84, j, _ => rfl
  | 85, j, _ => rfl
  | 86, j, _ => rfl
  | 87, j, _ => rfl
  | 88, j, _ => rfl
  | 89, j, _ => rfl
  | 90, j, _ => rfl
  | 91, j, _ => rfl
  | 92, j, _ => rfl
  | 93, j, _ => rfl
  | 94, j, _ => rfl
  | 95, j, _ => rfl
  | 96, j, _ => rfl
  | 97, j, _ => rfl
  | 98, j, _ => rfl
  | _ + 99, _, h => absurd h (by omega)
theorem spP_n {c k : Nat} (h : c < 1000000) : ab_spP c k = none := by
  unfold ab_spP; rw [if_neg (by omega), if_neg (by omega)]
def l55 : List (Nat × Nat × Nat) := ((0, 8, 52) :: (52, 1, 54) :: (52, 0, 53) :: (0, 7, 48) :: (48, 2, 51) :: (48, 1, 50) :: (48, 0, 49) :: (0, 6, 44) :: (44, 1, 39) :: (44, 0, 41) :: (44, 3, 47) :: (44, 2, 45) :: (45, 0, 46) :: (0, 5, 41) :: (41, 3, 2) :: (41, 2, 1) :: (41, 1, 43) :: (41, 0, 42) :: (0, 4, 39) :: (39, 0, 40) :: (0, 3, 33) :: (33, 2, 17) :: (33, 1, 16) :: (33, 0, 34) :: (34, 3, 38) :: (34, 2, 37) :: (34, 1, 36) :: (34, 0, 35) :: (0, 2, 31) :: (31, 0, 32) :: (0, 1, 16) :: (16, 8, 30) :: (16, 7, 29) :: (16, 6, 28) :: (16, 5, 27) :: (16, 4, 26) :: (16, 3, 25) :: (16, 2, 24) :: (16, 1, 23) :: (16, 0, 17) :: (17, 4, 22) :: (17, 3, 21) :: (17, 2, 20) :: (17, 1, 19) :: (17, 0, 18) :: (0, 0, 1) :: (1, 8, 15) :: (1, 7, 14) :: (1, 6, 13) :: (1, 5, 12) :: (1, 4, 11) :: (1, 3, 10) :: (1, 2, 9) :: (1, 1, 8) :: (1, 0, 2) :: (2, 4, 7) :: (2, 3, 6) :: (2, 2, 5) :: (2, 1, 4) :: (2, 0, 3) :: [])
theorem pu55a : ∀ c, c < 55 → ∀ k, k < 16 → PU l55 c k = PF5 1 16 1 c k := by decide +kernel
theorem pu55 : PU ((0, 8, 52) :: (52, 1, 54) :: (52, 0, 53) :: (0, 7, 48) :: (48, 2, 51) :: (48, 1, 50) :: (48, 0, 49) :: (0, 6, 44) :: (44, 1, 39) :: (44, 0, 41) :: (44, 3, 47) :: (44, 2, 45) :: (45, 0, 46) :: (0, 5, 41) :: (41, 3, 2) :: (41, 2, 1) :: (41, 1, 43) :: (41, 0, 42) :: (0, 4, 39) :: (39, 0, 40) :: (0, 3, 33) :: (33, 2, 17) :: (33, 1, 16) :: (33, 0, 34) :: (34, 3, 38) :: (34, 2, 37) :: (34, 1, 36) :: (34, 0, 35) :: (0, 2, 31) :: (31, 0, 32) :: (0, 1, 16) :: (16, 8, 30) :: (16, 7, 29) :: (16, 6, 28) :: (16, 5, 27) :: (16, 4, 26) :: (16, 3, 25) :: (16, 2, 24) :: (16, 1, 23) :: (16, 0, 17) :: (17, 4, 22) :: (17, 3, 21) :: (17, 2, 20) :: (17, 1, 19) :: (17, 0, 18) :: (0, 0, 1) :: (1, 8, 15) :: (1, 7, 14) :: (1, 6, 13) :: (1, 5, 12) :: (1, 4, 11) :: (1, 3, 10) :: (1, 2, 9) :: (1, 1, 8) :: (1, 0, 2) :: (2, 4, 7) :: (2, 3, 6) :: (2, 2, 5) :: (2, 1, 4) :: (2, 0, 3) :: []) = PF5 1 16 1 := by
  show PU l55 = _
  funext c k
  by_cases hc : c < 55
  · by_cases hk : k < 16
    · exact pu55a c hc k hk
    · rw [PU_out (C := 55) (N := 16) l55 (by decide) (Or.inr (by omega)), spP_n (by omega)]
      unfold PF5
      rw [show Nat.blt c 55 = true from Nat.ble_eq_true_of_le hc]
      obtain ⟨j, rfl⟩ : ∃ j, k = j + 16 := ⟨k - 16, by omega⟩
      exact (PF_k16 c j hc).symm
  · rw [PU_out (C := 55) (N := 16) l55 (by decide) (Or.inl (by omega))]
    unfold PF5
    cases hb : Nat.blt c 55 with
    | true => exact absurd (Nat.le_of_ble_eq_true hb) hc
    | false => rfl
def l99 : List (Nat × Nat × Nat) := ((55, 65, 98) :: (55, 64, 97) :: (55, 63, 96) :: (55, 62, 95) :: (55, 58, 94) :: (55, 56, 93) :: (55, 55, 92) :: (55, 53, 91) :: (55, 52, 90) :: (55, 51, 89) :: (55, 49, 88) :: (55, 48, 87) :: (55, 46, 86) :: (55, 45, 85) :: (55, 44, 84) :: (55, 42, 83) :: (55, 41, 82) :: (55, 40, 81) :: (55, 39, 80) :: (55, 38, 79) :: (55, 36, 78) :: (55, 35, 77) :: (55, 34, 76) :: (55, 33, 75) :: (55, 32, 74) :: (55, 31, 73) :: (55, 30, 72) :: (55, 29, 71) :: (55, 28, 70) :: (55, 27, 69) :: (55, 26, 68) :: (55, 25, 67) :: (55, 24, 66) :: (55, 23, 65) :: (55, 22, 64) :: (55, 21, 63) :: (55, 9, 62) :: (55, 8, 61) :: (55, 7, 60) :: (55, 6, 59) :: (55, 5, 58) :: (55, 3, 57) :: (55, 1, 56) :: (0, 8, 52) :: (52, 1, 54) :: (52, 0, 53) :: (0, 7, 48) :: (48, 2, 51) :: (48, 1, 50) :: (48, 0, 49) :: (0, 6, 44) :: (44, 1, 39) :: (44, 0, 41) :: (44, 3, 47) :: (44, 2, 45) :: (45, 0, 46) :: (0, 5, 41) :: (41, 3, 2) :: (41, 2, 1) :: (41, 1, 43) :: (41, 0, 42) :: (0, 4, 39) :: (39, 0, 40) :: (0, 3, 33) :: (33, 2, 17) :: (33, 1, 16) :: (33, 0, 34) :: (34, 3, 38) :: (34, 2, 37) :: (34, 1, 36) :: (34, 0, 35) :: (0, 2, 31) :: (31, 0, 32) :: (0, 1, 16) :: (16, 8, 30) :: (16, 7, 29) :: (16, 6, 28) :: (16, 5, 27) :: (16, 4, 26) :: (16, 3, 25) :: (16, 2, 24) :: (16, 1, 23) :: (16, 0, 17) :: (17, 4, 22) :: (17, 3, 21) :: (17, 2, 20) :: (17, 1, 19) :: (17, 0, 18) :: (0, 0, 1) :: (1, 8, 15) :: (1, 7, 14) :: (1, 6, 13) :: (1, 5, 12) :: (1, 4, 11) :: (1, 3, 10) :: (1, 2, 9) :: (1, 1, 8) :: (1, 0, 2) :: (2, 4, 7) :: (2, 3, 6) :: (2, 2, 5) :: (2, 1, 4) :: (2, 0, 3) :: [])
theorem pu99a : ∀ c, c < 99 → ∀ k, k < 80 → PU l99 c k = PF 1 16 1 c k := by decide +kernel
theorem PF_out (j k : Nat) : PF 1 16 1 (j + 99) k = ab_spP (j + 99) k := rfl
theorem pu99 : PU ((55, 65, 98) :: (55, 64, 97) :: (55, 63, 96) :: (55, 62, 95) :: (55, 58, 94) :: (55, 56, 93) :: (55, 55, 92) :: (55, 53, 91) :: (55, 52, 90) :: (55, 51, 89) :: (55, 49, 88) :: (55, 48, 87) :: (55, 46, 86) :: (55, 45, 85) :: (55, 44, 84) :: (55, 42, 83) :: (55, 41, 82) :: (55, 40, 81) :: (55, 39, 80) :: (55, 38, 79) :: (55, 36, 78) :: (55, 35, 77) :: (55, 34, 76) :: (55, 33, 75) :: (55, 32, 74) :: (55, 31, 73) :: (55, 30, 72) :: (55, 29, 71) :: (55, 28, 70) :: (55, 27, 69) :: (55, 26, 68) :: (55, 25, 67) :: (55, 24, 66) :: (55, 23, 65) :: (55, 22, 64) :: (55, 21, 63) :: (55, 9, 62) :: (55, 8, 61) :: (55, 7, 60) :: (55, 6, 59) :: (55, 5, 58) :: (55, 3, 57) :: (55, 1, 56) :: (0, 8, 52) :: (52, 1, 54) :: (52, 0, 53) :: (0, 7, 48) :: (48, 2, 51) :: (48, 1, 50) :: (48, 0, 49) :: (0, 6, 44) :: (44, 1, 39) :: (44, 0, 41) :: (44, 3, 47) :: (44, 2, 45) :: (45, 0, 46) :: (0, 5, 41) :: (41, 3, 2) :: (41, 2, 1) :: (41, 1, 43) :: (41, 0, 42) :: (0, 4, 39) :: (39, 0, 40) :: (0, 3, 33) :: (33, 2, 17) :: (33, 1, 16) :: (33, 0, 34) :: (34, 3, 38) :: (34, 2, 37) :: (34, 1, 36) :: (34, 0, 35) :: (0, 2, 31) :: (31, 0, 32) :: (0, 1, 16) :: (16, 8, 30) :: (16, 7, 29) :: (16, 6, 28) :: (16, 5, 27) :: (16, 4, 26) :: (16, 3, 25) :: (16, 2, 24) :: (16, 1, 23) :: (16, 0, 17) :: (17, 4, 22) :: (17, 3, 21) :: (17, 2, 20) :: (17, 1, 19) :: (17, 0, 18) :: (0, 0, 1) :: (1, 8, 15) :: (1, 7, 14) :: (1, 6, 13) :: (1, 5, 12) :: (1, 4, 11) :: (1, 3, 10) :: (1, 2, 9) :: (1, 1, 8) :: (1, 0, 2) :: (2, 4, 7) :: (2, 3, 6) :: (2, 2, 5) :: (2, 1, 4) :: (2, 0, 3) :: []) = PF 1 16 1 := by
  show PU l99 = _
  funext c k
  by_cases hc : c < 99
  · by_cases hk : k < 80
    · exact pu99a c hc k hk
    · rw [PU_out (C := 99) (N := 80) l99 (by decide) (Or.inr (by omega)), spP_n (by omega)]
      obtain ⟨j, rfl⟩ : ∃ j, k = j + 80 := ⟨k - 80, by omega⟩
      exact (PF_k80 c j hc).symm
  · rw [PU_out (C := 99) (N := 80) l99 (by decide) (Or.inl (by omega))]
    obtain ⟨j, rfl⟩ : ∃ j, c = j + 99 := ⟨c - 99, by omega⟩
    exact (PF_out j k).symm
theorem sk99 {Lx : Nat} : SK Lx 99 = SH Lx := by
  funext a
  unfold SH
  by_cases h : a < 99
  · rw [SK_y h, List.getD_eq_getElem?_getD]
    have hl : a < SHl.length := h
    rw [List.getElem?_eq_getElem hl]; rfl
  · rw [SK_n h]
    have hl : SHl.length ≤ a := Nat.le_of_not_lt h
    rw [List.getElem?_eq_none hl]
theorem sk0 {Lx : Nat} : (fun a => if a < 1000000 then (.inl 999 : ab_Sh) else ab_spS Lx a) = SK Lx 0 := by
  funext a; rw [SK_n (Nat.not_lt_zero a)]
def gsX : gs := (txS ps0, nI 0, fun _ => nI 0, (fun _ _ => nI 0, 0), (fun _ => false, fun _ _ => nI 0), (fun _ => 0, fun _ => false, 0), (fun _ => nI 0, 0), -1)
def gs0 : gs := nwG gsX ps0
theorem CI.zero {I : Nat → Nat → Int32} (z : ∀ k, 9 ≤ k → k ≤ 15 → I 1 k = nI 0) (w : CLW 1 I plS 16) (hS : CS 39 I (bgS (fun _ => nI 0) (fun _ => nI 0) 0 0)) (hA : PA I (fun _ _ => nI 0) 0) (hP : PS I (fun _ => false) (fun _ _ => nI 0)) (hD : TD I (fun _ => 0) (fun _ => false) 0) (h31 : I 31 1 = nI 0) (h33 : I 33 6 = -1) : CI 1 I gs0 := by
  obtain ⟨w0, w1, w2, w3⟩ := w
  refine ⟨⟨Or.inl rfl, tok_S V_0.1 V_0.2 rfl, z 10 (by decide) (by decide), z 12 (by decide) (by decide), z 14 (by decide) (by decide), z 15 (by decide) (by decide), (z 13 (by decide) (by decide)).trans rfl, fun a b ha => absurd ha (Nat.not_lt_zero _), fun a ha => absurd ha (Nat.not_lt_zero _), 16, (fun k => kS (I 5 k)), ⟨w1, w0, fun k hk => ?_, w2⟩, fun k hk vs => ?_⟩, z 11 (by decide) (by decide), hS, hA, hP, hD, ⟨Nat.zero_le _, h31, fun j hj => absurd hj (Nat.not_lt_zero _)⟩, h33⟩
  · obtain ⟨sk, x1, x2, x3⟩ := w3 k hk
    show kS (I 5 k) ≤ 420 ∧ I 5 k = nI (kS (I 5 k))
    have x2 : I 5 k = nI sk := x2
    rw [x2, kS_n (by omega)]; exact ⟨by omega, rfl⟩
  · obtain ⟨sk, x1, x2, x3⟩ := w3 k hk
    have x2 : I 5 k = nI sk := x2
    show cev 16 _ _ vs 421 (kS (I 5 k)) 0 _ = plS k vs
    rw [x2, kS_n (by omega)]
    exact x3 _ _ (fun i _ => ⟨rfl, rfl⟩) 16 (Nat.le_refl _) (by decide) vs
theorem MI.zero {I : Nat → Nat → Int32} (h18 : I 55 18 = nI 0) (h5 : Z5 0 I) (hl : ∀ k, k < 5 → I 77 (5 * 0 + k) = nI 0 ∧ I 78 (5 * 0 + k) = nI 0) (h90 : ∀ k, k < 49 → I 90 k = bgS (fun _ => nI 0) (fun _ => nI 0) 0 0 k) (h57 : I 55 57 = nI 0) (h61 : I 55 61 = nI 0) (h2 : I 55 2 = nI 0) (h17 : I 55 17 = -1) (h97 : ∀ j, j < 3 → I 97 j = nI 0) : MI 0 I gs0 ∧ MLS 0 I plS := by
  have hs : MLS 0 I plS := ⟨0, 0, by decide, by decide, fun k hk => ⟨0, 0, Nat.le_refl _, Nat.le_refl _, (hl k hk).1, (hl k hk).2, Or.inl ⟨rfl, fun vs => rfl⟩⟩⟩
  refine ⟨⟨⟨by decide, tok_S V_0.1 V_0.2 rfl, h18, h5.1, h5.2.2.1, h5.2.2.2.1, h5.2.2.2.2, fun e he => absurd he (Nat.not_lt_zero _), fun a b ha => absurd ha (Nat.not_lt_zero _), fun a ha => absurd ha (Nat.not_lt_zero _), hs.ml (by decide)⟩, h5.2.1, h90, ⟨Nat.zero_le _, h57, fun j hj => absurd hj (Nat.not_lt_zero _)⟩, fun j hj => ⟨h97 j hj, fun w => Bool.noConfusion (show false = true from w)⟩, ⟨Nat.zero_le _, h61, fun j hj => absurd hj (Nat.not_lt_zero _)⟩, ⟨Nat.zero_le _, h2, fun j hj => absurd hj (Nat.not_lt_zero _)⟩, h17⟩, hs⟩
set_option maxRecDepth 10000 in
set_option maxHeartbeats 4000000 in
theorem i_X10 {d Lx : Nat} {I : Nat → Nat → Int32} {G : Nat → Nat → Int64} {Q : ab_Q} {xs : Nat → Int32} (hs : SP xs I) (E_ : EM 1 [] I G) (hq : ∀ I4 G3, SP xs I4 → CW G3 → CI 1 I4 gs0 → EM 55 ((0, 8, 52) :: (52, 1, 54) :: (52, 0, 53) :: (0, 7, 48) :: (48, 2, 51) :: (48, 1, 50) :: (48, 0, 49) :: (0, 6, 44) :: (44, 1, 39) :: (44, 0, 41) :: (44, 3, 47) :: (44, 2, 45) :: (45, 0, 46) :: (0, 5, 41) :: (41, 3, 2) :: (41, 2, 1) :: (41, 1, 43) :: (41, 0, 42) :: (0, 4, 39) :: (39, 0, 40) :: (0, 3, 33) :: (33, 2, 17) :: (33, 1, 16) :: (33, 0, 34) :: (34, 3, 38) :: (34, 2, 37) :: (34, 1, 36) :: (34, 0, 35) :: (0, 2, 31) :: (31, 0, 32) :: (0, 1, 16) :: (16, 8, 30) :: (16, 7, 29) :: (16, 6, 28) :: (16, 5, 27) :: (16, 4, 26) :: (16, 3, 25) :: (16, 2, 24) :: (16, 1, 23) :: (16, 0, 17) :: (17, 4, 22) :: (17, 3, 21) :: (17, 2, 20) :: (17, 1, 19) :: (17, 0, 18) :: (0, 0, 1) :: (1, 8, 15) :: (1, 7, 14) :: (1, 6, 13) :: (1, 5, 12) :: (1, 4, 11) :: (1, 3, 10) :: (1, 2, 9) :: (1, 1, 8) :: (1, 0, 2) :: (2, 4, 7) :: (2, 3, 6) :: (2, 2, 5) :: (2, 1, 4) :: (2, 0, 3) :: []) I4 G3 → Q none (h55 Lx 1 16 1 I4 G3)) : ab_call ab_MT (d + 7) 136 [.ref 0] (hcc Lx 1 [] I G) 54 7762 Q := by
  have E0 := E_
  refine wx_in (M := mX10_init) rfl rfl rfl (Nat.le_of_ble_eq_true rfl) ?_
  refine wx_aload_n rfl (e := 1) rfl rfl ?_
  refine wx_obj rfl (e := 4) rfl ⟨by decide, Nat.le_of_ble_eq_true rfl⟩ ?_
  refine wx_aload_n rfl (e := 5) rfl rfl ?_
  refine wk_new (k2 := 2) rfl (e := 8) rfl E_ rfl rfl ⟨by decide, by decide, by decide⟩ (fun E_ => ?_)
  refine wx_dup rfl (e := 9) rfl rfl ?_
  refine wx_ci0 (mc := 14) (ms := 966) rfl (e := 12) rfl (by decide) (Nat.le_of_ble_eq_true rfl) ⟨by decide, by decide⟩ ?_
  refine i_X7_1 E_ (fun I1 f1 z1 c1 g1 E_ => ?_)
  refine wk_putr rfl (e := 15) rfl rfl E_ ⟨by decide, by decide, by decide⟩ (fun E_ => ?_)
  refine wx_aload_n rfl (e := 16) rfl rfl ?_
  refine wk_new (k2 := 17) rfl (e := 19) rfl E_ rfl rfl ⟨by decide, by decide, by decide⟩ (fun E_ => ?_)
  refine wx_dup rfl (e := 20) rfl rfl ?_
  refine wx_ci0 (mc := 14) (ms := 966) rfl (e := 23) rfl (by decide) (Nat.le_of_ble_eq_true rfl) ⟨by decide, by decide⟩ ?_
  refine i_X7_16 E_ (fun I2 f2 z2 c2 g2 E_ => ?_)
  have hs2 : SP xs I2 := fun a ha => by rw [f2 a (by omega) (by omega), f1 a (by omega) (by omega)]; exact hs a ha
  refine wk_putr rfl (e := 26) rfl rfl E_ ⟨by decide, by decide, by decide⟩ (fun E_ => ?_)
  refine wx_aload_n rfl (e := 27) rfl rfl ?_
  refine wk_new (k2 := 32) rfl (e := 30) rfl E_ rfl rfl ⟨by decide, by decide, by decide⟩ (fun E_ => ?_)
  refine wx_dup rfl (e := 31) rfl rfl ?_
  refine wx_ci0 (mc := 1) (ms := 2000) rfl (e := 34) rfl (by decide) (Nat.le_of_ble_eq_true rfl) ⟨by decide, by decide⟩ ?_
  refine i_X6 E_ (fun E_ => ?_)
  refine wk_putr rfl (e := 37) rfl rfl E_ ⟨by decide, by decide, by decide⟩ (fun E_ => ?_)
  refine wx_aload_n rfl (e := 38) rfl rfl ?_
  refine wk_new (k2 := 34) rfl (e := 41) rfl E_ rfl rfl ⟨by decide, by decide, by decide⟩ (fun E_ => ?_)
  refine wx_dup rfl (e := 42) rfl rfl ?_
  refine wx_aload_n rfl (e := 43) rfl rfl ?_
  refine wx_getr rfl (e := 46) rfl rfl rfl ?_
  refine wx_ci1 (mc := 5) (ms := 1235) rfl (e := 49) rfl (by decide) (Nat.le_of_ble_eq_true rfl) ⟨by decide, by decide⟩ ?_
  refine i_X4 hs2 E_ rfl (fun G3 g3 hW E_ => ?_)
  refine wk_putr rfl (e := 52) rfl rfl E_ ⟨by decide, by decide, by decide⟩ (fun E_ => ?_)
  refine wx_aload_n rfl (e := 53) rfl rfl ?_
  refine wk_new (k2 := 40) rfl (e := 56) rfl E_ rfl rfl ⟨by decide, by decide, by decide⟩ (fun E_ => ?_)
  refine wx_dup rfl (e := 57) rfl rfl ?_
  refine wx_ci0 (mc := 1) (ms := 55) rfl (e := 60) rfl (by decide) (Nat.le_of_ble_eq_true rfl) ⟨by decide, by decide⟩ ?_
  refine i_X5_39 E_ (fun E_ => ?_)
  refine wk_putr rfl (e := 63) rfl rfl E_ ⟨by decide, by decide, by decide⟩ (fun E_ => ?_)
  refine wx_aload_n rfl (e := 64) rfl rfl ?_
  refine wk_new (k2 := 42) rfl (e := 67) rfl E_ rfl rfl ⟨by decide, by decide, by decide⟩ (fun E_ => ?_)
  refine wx_dup rfl (e := 68) rfl rfl ?_
  refine wx_aload_n rfl (e := 69) rfl rfl ?_
  refine wx_getr rfl (e := 72) rfl rfl rfl ?_
  refine wx_ci1 (mc := 2) (ms := 10) rfl (e := 75) rfl (by decide) (Nat.le_of_ble_eq_true rfl) ⟨by decide, by decide⟩ ?_
  refine i_X0 E_ rfl (fun E_ => ?_)
  refine wk_putr rfl (e := 78) rfl rfl E_ ⟨by decide, by decide, by decide⟩ (fun E_ => ?_)
  refine wx_aload_n rfl (e := 79) rfl rfl ?_
  refine wk_new (k2 := 45) rfl (e := 82) rfl E_ rfl rfl ⟨by decide, by decide, by decide⟩ (fun E_ => ?_)
  refine wx_dup rfl (e := 83) rfl rfl ?_
  refine wx_aload_n rfl (e := 84) rfl rfl ?_
  refine wx_getr rfl (e := 87) rfl rfl rfl ?_
  refine wx_aload_n rfl (e := 88) rfl rfl ?_
  refine wx_getr rfl (e := 91) rfl rfl rfl ?_
  refine wx_ci2 (mc := 3) (ms := 62) rfl (e := 94) rfl (by decide) (Nat.le_of_ble_eq_true rfl) ⟨by decide, by decide⟩ ?_
  refine i_X1 E_ (fun E_ => ?_)
  refine wk_putr rfl (e := 97) rfl rfl E_ ⟨by decide, by decide, by decide⟩ (fun E_ => ?_)
  refine wx_aload_n rfl (e := 98) rfl rfl ?_
  refine wk_new (k2 := 49) rfl (e := 101) rfl E_ rfl rfl ⟨by decide, by decide, by decide⟩ (fun E_ => ?_)
  refine wx_dup rfl (e := 102) rfl rfl ?_
  refine wx_ci0 (mc := 3) (ms := 2368) rfl (e := 105) rfl (by decide) (Nat.le_of_ble_eq_true rfl) ⟨by decide, by decide⟩ ?_
  refine i_X3 E_ (fun E_ => ?_)
  refine wk_putr rfl (e := 108) rfl rfl E_ ⟨by decide, by decide, by decide⟩ (fun E_ => ?_)
  refine wx_aload_n rfl (e := 109) rfl rfl ?_
  refine wk_new (k2 := 53) rfl (e := 112) rfl E_ rfl rfl ⟨by decide, by decide, by decide⟩ (fun E_ => ?_)
  refine wx_dup rfl (e := 113) rfl rfl ?_
  refine wx_ci0 (mc := 2) (ms := 40) rfl (e := 116) rfl (by decide) (Nat.le_of_ble_eq_true rfl) ⟨by decide, by decide⟩ ?_
  refine i_X9 E_ (fun E_ => ?_)
  refine wk_putr rfl (e := 119) rfl rfl E_ ⟨by decide, by decide, by decide⟩ (fun E_ => ?_)
  refine wx_aload_n rfl (e := 120) rfl rfl ?_
  refine wx_cv0 (mc := 0) (ms := 0) rfl (e := 123) rfl rfl (Nat.le_of_ble_eq_true rfl) ⟨by decide, by decide⟩ ?_
  show ab_call ab_MT _ _ _ (55, SK Lx 55, (wr I2 33 6 (-1)), G3, PU ((0, 8, 52) :: (52, 1, 54) :: (52, 0, 53) :: (0, 7, 48) :: (48, 2, 51) :: (48, 1, 50) :: (48, 0, 49) :: (0, 6, 44) :: (44, 1, 39) :: (44, 0, 41) :: (44, 3, 47) :: (44, 2, 45) :: (45, 0, 46) :: (0, 5, 41) :: (41, 3, 2) :: (41, 2, 1) :: (41, 1, 43) :: (41, 0, 42) :: (0, 4, 39) :: (39, 0, 40) :: (0, 3, 33) :: (33, 2, 17) :: (33, 1, 16) :: (33, 0, 34) :: (34, 3, 38) :: (34, 2, 37) :: (34, 1, 36) :: (34, 0, 35) :: (0, 2, 31) :: (31, 0, 32) :: (0, 1, 16) :: (16, 8, 30) :: (16, 7, 29) :: (16, 6, 28) :: (16, 5, 27) :: (16, 4, 26) :: (16, 3, 25) :: (16, 2, 24) :: (16, 1, 23) :: (16, 0, 17) :: (17, 4, 22) :: (17, 3, 21) :: (17, 2, 20) :: (17, 1, 19) :: (17, 0, 18) :: (0, 0, 1) :: (1, 8, 15) :: (1, 7, 14) :: (1, 6, 13) :: (1, 5, 12) :: (1, 4, 11) :: (1, 3, 10) :: (1, 2, 9) :: (1, 1, 8) :: (1, 0, 2) :: (2, 4, 7) :: (2, 3, 6) :: (2, 2, 5) :: (2, 1, 4) :: (2, 0, 3) :: [])) 0 0 _
  rw [pu55]
  have e3 : ∀ q, 1 ≤ q → q < 1000000 → ¬ (1 ≤ q ∧ q ≤ 5) → q ≠ 11 → ¬ (16 ≤ q ∧ q ≤ 20) → q ≠ 26 → q ≠ 33 → (wr I2 33 6 (-1)) q = fun _ => 0 := fun q y0 y1 y2 y3 y4 y5 y6 => by rw [wr_other _ _ _ _ y6, f2 q y4 y5, f1 q y2 y3]; exact E0.1 q y0 y1
  have t3 : ∀ q, 1 ≤ q → q ≤ 15 → (wr I2 33 6 (-1)) q = I1 q := fun q y1 y2 => by rw [wr_other _ _ _ _ (by omega), f2 q (by omega) (by omega)]
  refine c_X10_startText_h55 (t := 1) (rt := 16) (u := 1) (Or.inl rfl) (C := 0) (R := 0) (x := 0) (by rw [t3 1 (by decide) (by decide)]; exact z1 10 (by decide) (by decide)) (by rw [t3 1 (by decide) (by decide)]; exact z1 12 (by decide) (by decide)) (by decide) (by decide) (by decide) (by rw [e3 48 (by decide) (by decide) (by decide) (by decide) (by decide) (by decide) (by decide)]; rfl) (fun I4 f4 S4 A4 P4 D4 => ?_)
  refine wx_ret rfl rfl ⟨by decide, by decide⟩ ?_
  have k4 : ∀ q, 1 ≤ q → q ≤ 15 → I4 q = I1 q := fun q y1 y2 => (f4 q (by omega) (by omega) (by omega) (by omega)).trans (t3 q y1 y2)
  refine hq I4 G3 (fun a ha => by rw [f4 a (by omega) (by omega) (by omega) (by omega), wr_other _ _ _ _ (by omega)]; exact hs2 a ha) hW (CI.zero (fun k y1 y2 => by rw [k4 1 (by decide) (by decide)]; exact z1 k y1 y2) ?_ ?_ A4 P4 D4 (by rw [f4 31 (by decide) (by decide) (by decide) (by decide), e3 31 (by decide) (by decide) (by decide) (by decide) (by decide) (by decide) (by decide)]; rfl) (by rw [f4 33 (by decide) (by decide) (by decide) (by decide), wr_eq])) (E_.i (fun q y1 y2 => f4 q (by omega) (by omega) (by omega) (by omega)))
  · exact c1.kept (k4 2 (by decide) (by decide)) (k4 3 (by decide) (by decide)) (k4 4 (by decide) (by decide)) (k4 5 (by decide) (by decide))
  · rw [bgS_cg (w := fun _ => nI 0) (q := fun _ => nI 0) (fun c hc => absurd hc (Nat.not_lt_zero _)) (fun c hc => absurd hc (Nat.not_lt_zero _))] at S4; exact S4

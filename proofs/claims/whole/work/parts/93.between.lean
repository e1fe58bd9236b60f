/-! what holds between two calls -/
theorem MI.up {lv : Nat} {I I2 : Nat → Nat → Int32} {s : gs} (h : MI lv I s) (f : ∀ q, 55 ≤ q → I2 q = I q) : MI lv I2 s := by
  obtain ⟨e1, e2, e3⟩ := h.base (I2 := I2) (fun q hq => f q (by omega)) (by rw [f 55 (by decide)]) (by rw [f 55 (by decide)])
  obtain ⟨-, -, hN, hH, hK, hW, hB, -⟩ := h
  exact ⟨e1, e2, hN.kept (f 90 (by decide)), hH.kept (by rw [f 55 (by decide)]) (f 94 (by decide)), hK.kept (f 97 (by decide)) (f 98 (by decide)), hW.kept (by rw [f 55 (by decide)]) (f 95 (by decide)) (f 96 (by decide)), hB.kept (by rw [f 55 (by decide)]) (f 56 (by decide)), e3⟩
theorem CI.dn {t : Nat} {I I2 : Nat → Nat → Int32} {s : gs} (h : CI t I s) (f : ∀ q, q < 55 → I2 q = I q) : CI t I2 s := by
  have hu := h.1.1
  obtain ⟨e1, e2, e3⟩ := h.base (I2 := I2) (fun q hq => f q (by omega))
  obtain ⟨-, -, h3, h4, h5, h6, h7, -⟩ := h
  exact ⟨e1, e2, h3.kept (f 40 (by decide)), h4.kept (f 48 (by decide)) (f 49 (by decide)), h5.kept (f 50 (by decide)) (f 51 (by decide)), h6.kept (f 52 (by decide)) (f 53 (by decide)) (f 54 (by decide)), h7.kept (f 31 (by decide)) (f 32 (by decide)), e3⟩
theorem frf.up {t : Nat} {I I2 : Nat → Nat → Int32} (ht : t = 1 ∨ t = 16) (f : frf t I I2) : ∀ q, 55 ≤ q → I2 q = I q := fun q h => f q (by omega) (by omega) (by omega) (by omega) (by omega) (by omega)
def LI (xs : Nat → Int32) (t lv n : Nat) (s : gs) (I : Nat → Nat → Int32) (G : Nat → Nat → Int64) : Prop := CI t I s ∧ MI lv I s ∧ MLS lv I (tL (gT s)) ∧ gok n s ∧ CW G ∧ CWm G ∧ SP xs I
theorem LI.ask {xs : Nat → Int32} {t lv n : Nat} {s : gs} {I I2 I3 : Nat → Nat → Int32} {G : Nat → Nat → Int64} (H : LI xs t lv n s I G) (C2 : CI t I2 s) (A2 : ∀ q, 55 ≤ q → I2 q = I q) (f3 : fmq I2 I3) : LI xs t lv (n + 1) s I3 G := by
  obtain ⟨h1, h2, h3, h4, h5, h6, h7⟩ := H
  refine ⟨C2.dn (fun q h => f3.1 q (by omega) (by omega) (by omega) (by omega) (by omega) (by omega)), (h2.up A2).q f3, h3.kept (fun q y1 y2 => (f3.1 q (by omega) (by omega) (by omega) (by omega) (by omega) (by omega)).trans (A2 q (by omega))), h4.up, h5, h6, fun a ha => ?_⟩
  rw [f3.1 a (by omega) (by omega) (by omega) (by omega) (by omega) (by omega), A2 a (by omega)]; exact h7 a ha
theorem LI.act {xs : Nat → Int32} {t lv n : Nat} {s s2 : gs} {I I2 I3 : Nat → Nat → Int32} {G : Nat → Nat → Int64} (H : LI xs t lv n s I G) (C2 : CI t I2 s2) (A2 : ∀ q, 55 ≤ q → I2 q = I q) (B3 : ∀ q, q < 55 ∨ (77 ≤ q ∧ q ≤ 85) ∨ 98 < q → I3 q = I2 q) (M3 : MI lv I3 s2) (hg : gok (n + 1) s2) (hT : gT s2 = gT s) : LI xs t lv (n + 1) s2 I3 G := by
  obtain ⟨h1, h2, h3, h4, h5, h6, h7⟩ := H
  refine ⟨C2.dn (fun q h => B3 q (Or.inl h)), M3, ?_, hg, h5, h6, fun a ha => ?_⟩
  · rw [hT]; exact h3.kept (fun q y1 y2 => (B3 q (by omega)).trans (A2 q (by omega)))
  · rw [B3 a (by omega), A2 a (by omega)]; exact h7 a ha
theorem rd_VW {b : Nat → Nat} {n : Nat} : ∀ (f : Nat) (S : ps), PV S → PW S → 402 ≤ f + sT S → sT S ≤ 400 → gdT b n (sT S) → (rdS b n f S).1 = 0 → PV (rdS b n f S).2.2 ∧ PW (rdS b n f S).2.2
  | 0, S, _, _, h, h2, _ => by omega
  | f + 1, S, hV, hW, h, h2, h3 => by
    obtain ⟨a1, a2, a3⟩ := st_ok2 (b := b) (n := n) hV hW h2 h3
    rw [rdS]
    split
    · exact fun _ => ⟨hV, hW⟩
    · split
      · rename_i z
        obtain ⟨b1, b2, b3⟩ := a3 z
        obtain ⟨y1, y2⟩ := st_far2 hV hW h2 h3 z
        exact rd_VW f _ b1 b2 (by omega) y1 y2
      · rename_i z; exact fun w => absurd w z
theorem bgS_lok {S : ps} (hV : PV S) (hW : PW S) (h0 : (sE S).1 = 0) : lok (txS S) (bgS (sW S) (sQ S) (sC S) (sR S)) := by
  obtain ⟨q1, q2, q3, q4⟩ := hW.2.1 h0
  have v1 := hV.1
  have v3 := hV.2.2.1
  refine ⟨fun e he => ?_, fun e he h6 => ?_, fun c hc => ?_⟩
  · have he : e < sR S := he
    obtain ⟨c, y1, y2⟩ := q3 e he
    refine ⟨c, y1, ?_⟩
    unfold bgS
    rw [if_neg (by omega), if_pos (by omega), if_pos (by omega), show 6 + e - 6 = e by omega]; exact y2
  · have he : sR S ≤ e := he
    unfold bgS
    rw [if_neg (by omega), if_pos (by omega), if_neg (by omega)]
  · unfold bgS
    rw [if_pos hc]
    by_cases y : c < sC S
    · rw [if_pos y]; exact q1 c y
    · rw [if_neg y]; exact ⟨0, by omega, rfl⟩
theorem bgS_0 {w q : Nat → Int32} {C R k : Nat} (h : 12 ≤ k) : bgS w q C R k = nI 0 := by
  unfold bgS; rw [if_neg (by omega), if_neg (by omega)]
theorem ok_new {n : Nat} {s : gs} {S : ps} (hV : PV S) (hW : PW S) (h0 : (sE S).1 = 0) : gok n (nwG s S) := by
  refine ⟨⟨bgS_lok hV hW h0, fun k y1 y2 => ⟨0, Nat.zero_le _, bgS_0 y1⟩, ?_⟩, fun j hj => absurd hj (Nat.not_lt_zero _), fun j _ hd => Bool.noConfusion (show false = true from hd), fun j hj => absurd hj (Nat.not_lt_zero _)⟩
  exact sm_cg 6 (fun i hi => by show bgS _ _ _ _ (12 + i) = bgS _ _ _ _ (24 + i); rw [bgS_0 (by omega), bgS_0 (by omega)])
theorem ok_read {n : Nat} {s : gs} (h : gok n s) : gok (n + 1) (tRead s).2 := by
  unfold tRead
  split
  · rename_i z
    obtain ⟨V, W⟩ := rd_VW (b := bt (gB s).1) (n := (gB s).2) 402 ps0 V_0.1 V_0.2 (by show 402 ≤ 402 + 0; omega) (Nat.zero_le _) (fun j hj => absurd hj (Nat.not_lt_zero _)) z
    split
    · rename_i z2; exact ok_new V W z2
    · exact ⟨h.1.up, fun j hj => (h.2.1 j hj).up, fun j hj hd => (h.2.2.1 j hj hd).up, h.2.2.2⟩
  · exact ⟨h.1.up, fun j hj => (h.2.1 j hj).up, fun j hj hd => (h.2.2.1 j hj hd).up, h.2.2.2⟩
theorem LI.rd {xs : Nat → Int32} {t t2 lv lv3 n : Nat} {s : gs} {I I2 I3 : Nat → Nat → Int32} {G G2 G3 : Nat → Nat → Int64} (H : LI xs t lv n s I G) (C2 : CI t2 I2 (tRead s).2) (A2 : ∀ q, 55 ≤ q → I2 q = I q) (g2 : ∀ q, q = 35 ∨ 55 ≤ q → G2 q = G q) (B3 : ∀ q, q < 55 ∨ 98 < q → I3 q = I2 q) (g3 : ∀ q, q ≠ 61 → q ≠ 63 → G3 q = G2 q) (M3 : MI lv3 I3 (tRead s).2) (L3 : MLS lv3 I3 (tL (gT (tRead s).2))) : LI xs t2 lv3 (n + 1) (tRead s).2 I3 G3 := by
  obtain ⟨h1, h2, h3, h4, h5, h6, h7⟩ := H
  refine ⟨C2.dn (fun q h => B3 q (Or.inl h)), M3, L3, ok_read h4, fun k hk => ?_, fun k hk => ?_, fun a ha => ?_⟩
  · rw [g3 35 (by decide) (by decide), g2 35 (by decide)]; exact h5 k hk
  · rw [g3 62 (by decide) (by decide), g2 62 (by decide)]; exact h6 k hk
  · rw [B3 a (by omega), A2 a (by omega)]; exact h7 a ha
theorem ok_0 : gok 0 gs0 := ok_new V_0.1 V_0.2 rfl
theorem gT_tSteal (s : gs) (e c n : Int32) : gT (tSteal s e c n).2 = gT s := by
  unfold tSteal
  repeat' split
  all_goals rfl
theorem gT_tSwap (s : gs) (e c : Int32) : gT (tSwap s e c).2 = gT s := by
  unfold tSwap
  repeat' split
  all_goals rfl
theorem gT_tWatch (s : gs) (e c : Int32) : gT (tWatch s e c).2 = gT s := by
  unfold tWatch
  repeat' split
  all_goals rfl
theorem gT_tYears (s : gs) (n : Int32) : gT (tYears s n).2 = gT s := by
  unfold tYears
  repeat' split
  all_goals rfl
theorem gT_tUndo (s : gs) : gT (tUndo s ).2 = gT s := by
  unfold tUndo
  repeat' split
  all_goals rfl
theorem gT_tForget (s : gs) : gT (tForget s ).2 = gT s := by
  unfold tForget
  repeat' split
  all_goals rfl
theorem gT_tHold (s : gs) (e : Int32) : gT (tHold s e).2 = gT s := by
  unfold tHold
  repeat' split
  all_goals rfl
theorem gT_tRestore (s : gs) (e : Int32) : gT (tRestore s e).2 = gT s := by
  unfold tRestore
  repeat' split
  all_goals rfl
theorem gT_tFeed (s : gs) (e c n a b : Int32) : gT (tFeed s e c n a b).2 = gT s := by
  unfold tFeed
  repeat' split
  all_goals rfl
theorem gT_tBack (s : gs) (e : Int32) : gT (tBack s e).2 = gT s := by
  unfold tBack
  repeat' split
  all_goals rfl
theorem gT_tTell (s : gs) (a : Int32) (w : Bool) : gT (tTell s a w).2 = gT s := by
  unfold tTell
  repeat' split
  all_goals rfl
theorem l6_lt : ∀ L, L < 6 → ¬ nI 0 ≤ nI L - nI 6 := by decide

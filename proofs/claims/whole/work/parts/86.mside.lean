/-! the model: what reading keeps, what it makes -/
theorem b255 : ∀ i, i < 32 → ¬ i < 8 → (255#32).getLsbD i = false := by decide
theorem nar_bt (x : Int32) : (vp_nar .byte x).toBitVec &&& 255#32 = x.toBitVec &&& 255#32 := by
  show (x.toInt8.toInt32).toBitVec &&& 255#32 = _
  rw [Int8.toBitVec_toInt32, Int32.toBitVec_toInt8]
  apply BitVec.eq_of_getLsbD_eq
  intro i hi
  rw [BitVec.getLsbD_and, BitVec.getLsbD_and]
  by_cases h : i < 8
  · rw [BitVec.getLsbD_signExtend, if_pos h, BitVec.getLsbD_signExtend, if_pos (show i < 32 by omega)]
    simp [h, hi]
  · rw [b255 i hi h, Bool.and_false, Bool.and_false]
theorem nar_fn (B : Nat → Int32) : bt (fun j => vp_nar .byte (B j)) = bt B := by
  funext j; unfold bt; rw [nar_bt]
def rdO (C : Nat) (F : Nat → Nat → Int32) : Prop := ∀ a c, a < 6 → c < 6 → ¬ a = c → (¬ a < C ∨ ¬ c < C) → F a c = nI 999
theorem fw_out {F : Nat → Nat → Int32} {C : Nat} (hF : lnF F) (h : rdO C F) : ∀ k, k ≤ 6 → rdO C (fwS F k)
  | 0, _ => h
  | k + 1, hk => by
    have ih := fw_out hF h k (by omega)
    have il := fw_in hF k (by omega)
    intro a c ha hc hne ho
    obtain ⟨v1, g1, e1, _⟩ := il a k ha (by omega)
    obtain ⟨v2, g2, e2, _⟩ := il k c (by omega) hc
    have e3 := ih a c ha hc hne ho
    have key : 999 ≤ v1 + v2 := by
      by_cases z : a = k
      · have h5 := ih k c (by omega) hc (by omega) (by omega)
        rw [e2] at h5
        have := (nI_eq (by omega) (by omega)).mp h5
        omega
      · by_cases z2 : ¬ a < C ∨ ¬ k < C
        · have h5 := ih a k ha (by omega) z z2
          rw [e1] at h5
          have := (nI_eq (by omega) (by omega)).mp h5
          omega
        · have h5 := ih k c (by omega) hc (by omega) (by omega)
          rw [e2] at h5
          have := (nI_eq (by omega) (by omega)).mp h5
          omega
    rw [fwS, if_neg (by rw [e3, e1, e2, nI_add, nI_ltI (by omega) (by omega)]; omega)]
    exact e3
theorem fw_C {F : Nat → Nat → Int32} {C : Nat} (hF : lnF F) (h : rdO C F) : ∀ m, C + m ≤ 6 → ∀ a c, a < C → c < C → fwS F (C + m) a c = fwS F C a c
  | 0, _, _, _, _, _ => rfl
  | m + 1, hm, a, c, ha, hc => by
    have ih := fw_C hF h m (by omega) a c ha hc
    obtain ⟨v1, g1, e1, _⟩ := fw_in hF (C + m) (by omega) a (C + m) (by omega) (by omega)
    obtain ⟨v2, g2, e2, _⟩ := fw_in hF (C + m) (by omega) (C + m) c (by omega) (by omega)
    obtain ⟨v, g3, e3, _⟩ := fw_in hF (C + m) (by omega) a c (by omega) (by omega)
    have h5 := fw_out hF h (C + m) (by omega) a (C + m) (by omega) (by omega) (by omega) (by omega)
    rw [e1] at h5
    have h6 := (nI_eq (by omega) (by omega)).mp h5
    show fwS F (C + m + 1) a c = _
    rw [fwS, if_neg (by rw [e1, e2, e3, nI_add, nI_ltI (by omega) (by omega)]; omega)]
    exact ih
def MLS (lv : Nat) (I : Nat → Nat → Int32) (L : Nat → (Nat → Int32) → Int32) : Prop := ∃ x br, x ≤ 420 * lv + 420 ∧ br ≤ 130 * lv + 130 ∧ MLw lv I L x br
theorem MLS.ml {lv : Nat} {I : Nat → Nat → Int32} {L : Nat → (Nat → Int32) → Int32} (h : MLS lv I L) (hlv : lv ≤ 1) : ML lv I L := by
  intro k hk
  obtain ⟨x, br, h1, h2, h3⟩ := h
  obtain ⟨f, l, a1, a2, a3, a4, a5⟩ := h3 k hk
  refine ⟨f, l, by omega, by omega, a3, a4, ?_⟩
  rcases a5 with a5 | ⟨w, ts, c1, -, c2⟩
  · exact Or.inl a5
  · exact Or.inr ⟨w, ts, c2 I (fun _ _ _ _ _ _ => rfl) (fun _ _ _ => ⟨rfl, rfl⟩), c1⟩
theorem MLS.kept {lv : Nat} {I I2 : Nat → Nat → Int32} {L : Nat → (Nat → Int32) → Int32} (h : MLS lv I L) (hk : ∀ q, 77 ≤ q → q ≤ 85 → I2 q = I q) : MLS lv I2 L := by
  obtain ⟨x, br, h1, h2, h3⟩ := h
  exact ⟨x, br, h1, h2, h3.kept hk⟩
def frD (sd : Nat) (I I2 : Nat → Nat → Int32) : Prop := ∀ q k, ¬ own sd q k → ¬ (57 ≤ q ∧ q ≤ 60) → ¬ (q = 55 ∧ (k = 2 ∨ k = 4 ∨ k = 10 ∨ k = 17 ∨ k = 19)) → I2 q k = I q k
theorem frD.tr {sd : Nat} {I I2 I3 : Nat → Nat → Int32} (h1 : frD sd I I2) (h2 : frD sd I2 I3) : frD sd I I3 := fun q k a b c => (h2 q k a b c).trans (h1 q k a b c)
theorem fmp.D {sd : Nat} {I I2 : Nat → Nat → Int32} (h : fmp sd I I2) : frD sd I I2 := fun q k h1 _ _ => h q k h1
theorem frD.w {sd q k : Nat} {I : Nat → Nat → Int32} {v : Int32} (h : own sd q k ∨ (57 ≤ q ∧ q ≤ 60) ∨ (q = 55 ∧ (k = 2 ∨ k = 4 ∨ k = 10 ∨ k = 17 ∨ k = 19))) : frD sd I (wr I q k v) := fun q2 k2 h1 h2 h3 => by
  rw [wr_at]
  by_cases e : q2 = q
  · subst e
    by_cases e2 : k2 = k
    · subst e2
      rcases h with h | h | h
      · exact absurd h h1
      · exact absurd h h2
      · exact absurd h h3
    · rw [if_pos rfl, if_neg e2]
  · rw [if_neg e]
theorem frD.q {sd : Nat} {I I2 : Nat → Nat → Int32} (h : frD sd I I2) {q : Nat} (hq : q < 55 ∨ q = 56 ∨ (61 ≤ q ∧ q < 64) ∨ 86 < q) : I2 q = I q := by
  funext k; exact h q k (by unfold own; omega) (by omega) (by omega)
theorem frD.f {sd : Nat} {I I2 : Nat → Nat → Int32} (h : frD sd I I2) {k : Nat} (hk : ¬ ((11 ≤ k ∧ k ≤ 16) ∨ k = 20 ∨ k = 37 ∨ k = 43 ∨ k = 47 ∨ k = 2 ∨ k = 4 ∨ k = 10 ∨ k = 17 ∨ k = 19)) : I2 55 k = I 55 k := h 55 k (by unfold own; omega) (by omega) (by omega)
theorem frD.e {sd : Nat} {I I2 : Nat → Nat → Int32} (f : frD sd I I2) : ∀ q k, ¬ own sd q k → 61 ≤ q → I2 q k = I q k := fun q k y1 y2 => f q k y1 (by omega) (by omega)
theorem MLS.side {lv : Nat} {I I2 : Nat → Nat → Int32} {L : Nat → (Nat → Int32) → Int32} (h : MLS lv I L) (hlv : lv ≤ 1) (f : frD (1 - lv) I I2) : MLS lv I2 L := by
  obtain ⟨x, br, h1, h2, h3⟩ := h
  refine ⟨x, br, h1, h2, fun k hk => ?_⟩
  obtain ⟨g, l, a1, a2, a3, a4, a5⟩ := h3 k hk
  have e := f.e
  refine ⟨g, l, a1, a2, by rw [e 77 _ (by unfold own; omega) (by omega)]; exact a3, by rw [e 78 _ (by unfold own; omega) (by omega)]; exact a4, ?_⟩
  rcases a5 with a5 | ⟨w, ts, c1, c2, c3⟩
  · exact Or.inl a5
  · exact Or.inr ⟨w, ts, c1, c2, c3.kept (Nat.le_refl _) (Nat.le_refl _) (fun i y1 y2 q y3 y4 => e q i (by unfold own; omega) (by omega)) (fun i y1 y2 => ⟨e 84 i (by unfold own; omega) (by omega), e 85 i (by unfold own; omega) (by omega)⟩)⟩
theorem MT.side {lv : Nat} {I I2 : Nat → Nat → Int32} {T : tx} (h : MT lv I T) (hL : MLS lv I (tL T)) (f : frD (1 - lv) I I2) : MT lv I2 T := by
  obtain ⟨q1, q2, q3, q4, q5, q6, q7, q8, q9, q10, q11⟩ := h
  have e := f.e
  have r6 := q2.2.1
  have p5 := q2.2.2.1
  refine ⟨q1, q2, by rw [f.f (by omega)]; exact q3, by rw [e 65 lv (by unfold own; omega) (by omega)]; exact q4, by rw [e 69 lv (by unfold own; omega) (by omega)]; exact q5, by rw [e 72 lv (by unfold own; omega) (by omega)]; exact q6, by rw [e 76 lv (by unfold own; omega) (by omega)]; exact q7, fun i hi => by rw [e 71 _ (by unfold own; omega) (by omega)]; exact q8 i hi, fun a b ha hb => by rw [f.q (q := 89) (by omega)]; exact q9 a b ha hb, fun a ha => by rw [e 73 _ (by unfold own; omega) (by omega), e 74 _ (by unfold own; omega) (by omega), e 75 _ (by unfold own; omega) (by omega)]; exact q10 a ha, (hL.side q1 f).ml q1⟩
theorem MI.fault {lv : Nat} {I I2 : Nat → Nat → Int32} {s : gs} {p : Nat} (h : MI lv I s) (hL : MLS lv I (tL (gT s))) (f : frD (1 - lv) I I2) (h2 : I2 55 2 = nI 0) : MI lv (wr I2 55 17 (nI p)) (ftG s p) ∧ MLS lv (wr I2 55 17 (nI p)) (tL (gT s)) := by
  have hlv := h.1.1
  have g : frD (1 - lv) I (wr I2 55 17 (nI p)) := f.tr (frD.w (by omega))
  obtain ⟨h1, hD, hN, hH, hS, hW, hB, hP⟩ := h
  refine ⟨⟨h1.side hL g, ?_, hN.kept (g.q (by omega)), hH.kept (g.f (by omega)) (g.q (by omega)), hS.kept (g.q (by omega)) (g.q (by omega)), hW.kept (g.f (by omega)) (g.q (by omega)) (g.q (by omega)), ⟨Nat.zero_le _, by rw [wr_ne _ _ _ _ (by decide)]; exact h2, fun j hj => absurd hj (Nat.not_lt_zero _)⟩, wr_eq _ _ _ _⟩, hL.side hlv g⟩
  rw [g 67 lv (by unfold own; omega) (by omega) (by omega)]; exact hD
theorem MI.new {b : Nat → Nat} {n sd t : Nat} {S : ps} {I2 I9 : Nat → Nat → Int32} {G2 : Nat → Nat → Int64} {s : gs} (hV : PV S) (hW : PW S) (hP : MP b n sd S t I2 G2) (h0 : (sE S).1 = 0) (e9 : ∀ q, 56 ≤ q → q ≠ 89 → q ≠ 90 → q ≠ 91 → q ≠ 97 → I9 q = I2 q) (h18 : I9 55 18 = nI sd) (h17 : I9 55 17 = -1) (h57 : I9 55 57 = nI 0) (h61 : I9 55 61 = nI 0) (h2 : I9 55 2 = nI 0) (h89 : ∀ a c, a < 6 → c < 6 → I9 89 (a * 6 + c) = fwS (sF S) 6 a c) (h90 : ∀ k, k < 49 → I9 90 k = bgS (fun c => I2 66 (6 * sd + c)) (fun e => I2 70 (6 * sd + e)) (sC S) (sR S) k) (h97 : ∀ j, j < 3 → I9 97 j = nI 0) : MI sd I9 (nwG s S) ∧ MLS sd I9 (tL (gT (nwG s S))) := by
  obtain ⟨hM, hE, hN, ⟨⟨c1, c2, c3, c4, c5⟩, c6, c7, c8, c9⟩, hX⟩ := hP
  obtain ⟨-, ht, -, -, -⟩ := hM
  obtain ⟨x1, x2, x3, x, br, x4, x5, x6, x7, x8, x9, x10⟩ := hX
  have hs : MLS sd I9 (sL S) := ⟨x, br, by omega, by omega, x10.kept (fun q y1 y2 => e9 q (by omega) (by omega) (by omega) (by omega) (by omega))⟩
  have hl := hW.ln h0
  have v1 := hV.1
  obtain ⟨w1, w2, w3⟩ := id hW
  obtain ⟨q1, q2, q3, q4⟩ := w2 h0
  have ho : rdO (sC S) (sF S) := fun a c ha hc hne ho => by
    obtain ⟨v, y1, y2, y3, y4⟩ := (q2 a c ha hc).2 hne
    rw [y3, y4 ho]
  refine ⟨⟨⟨x3, tok_S hV hW h0, h18, by rw [e9 65 (by decide) (by decide) (by decide) (by decide) (by decide)]; exact c1, by rw [e9 69 (by decide) (by decide) (by decide) (by decide) (by decide)]; exact c3, by rw [e9 72 (by decide) (by decide) (by decide) (by decide) (by decide)]; exact c4, by rw [e9 76 (by decide) (by decide) (by decide) (by decide) (by decide)]; exact c5, fun e he => ?_, fun a c ha hc => ?_, fun a ha => ?_, hs.ml x3⟩, by rw [e9 67 (by decide) (by decide) (by decide) (by decide) (by decide)]; exact c2, fun k hk => ?_, ⟨Nat.zero_le _, h57, fun j hj => absurd hj (Nat.not_lt_zero _)⟩, fun j hj => ⟨h97 j hj, fun w => Bool.noConfusion (show false = true from w)⟩, ⟨Nat.zero_le _, h61, fun j hj => absurd hj (Nat.not_lt_zero _)⟩, ⟨Nat.zero_le _, h2, fun j hj => absurd hj (Nat.not_lt_zero _)⟩, h17⟩, hs⟩
  · have he : e < sR S := he
    rw [e9 71 (by decide) (by decide) (by decide) (by decide) (by decide), (c8 e he).2]
    show b1 (sU S e) = b1 (decide (e < sR S) && sU S e)
    rw [decide_eq_true he, Bool.true_and]
  · have ha : a < sC S := ha
    have hc : c < sC S := hc
    rw [Nat.mul_comm, h89 a c (by omega) (by omega)]
    show _ = fwS (sF S) (sC S) a c
    have y := fw_C hl ho (6 - sC S) (by omega) a c ha hc
    rwa [show sC S + (6 - sC S) = 6 by omega] at y
  · have ha : a < sP S := ha
    rw [e9 73 (by decide) (by decide) (by decide) (by decide) (by decide), e9 74 (by decide) (by decide) (by decide) (by decide) (by decide), e9 75 (by decide) (by decide) (by decide) (by decide) (by decide), (c9 a ha).1, (c9 a ha).2.1, (c9 a ha).2.2]
    refine ⟨?_, rfl, rfl⟩
    obtain ⟨c, y1, y2⟩ := q4 a ha
    show (sH S).1 a = nI (kS ((sH S).1 a))
    rw [y2, kS_n (by omega)]
  · rw [h90 k hk]
    show _ = bgS (sW S) (sQ S) (sC S) (sR S) k
    rw [bgS_cg (w := sW S) (q := sQ S) (fun c hc => c6 c hc) (fun e he => (c8 e he).1)]

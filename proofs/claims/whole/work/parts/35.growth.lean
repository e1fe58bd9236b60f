/-! how far rows grow; that what goes on stays in order -/
theorem grw_add {v : Int32} {a b : Nat} : v + nI a + nI b = v + nI (a + b) := by rw [Int32.add_assoc, nI_add]
theorem i0_add (v : Int32) : v + nI 0 = v := by rw [nI_0]; exact Int32.add_zero v
theorem visL_gr (T : tx) (sd : Int32) (a c : Nat) (r : rw_) (hc : c < 6) {k : Nat} (h1 : 12 ≤ k) (h2 : k < 30) : ∀ e, e ≤ 6 → ∃ g, g ≤ e ∧ (18 ≤ k → k < 24 → g = 0) ∧ (visL T sd a c r e).1 k = r k + nI g
  | 0, _ => ⟨0, Nat.le_refl _, fun _ _ => rfl, (i0_add _).symm⟩
  | e + 1, he => by
    obtain ⟨g, h3, h4, h5⟩ := visL_gr T sd a c r hc h1 h2 e (by omega)
    rw [visL]
    split
    · show ∃ g, g ≤ e + 1 ∧ (18 ≤ k → k < 24 → g = 0) ∧ up1 (up1 (up1 _ _ _) _ _) _ _ k = _
      unfold up1
      rw [if_neg (show ¬ k = 41 + a by omega)]
      by_cases z1 : k = 24 + e
      · rw [if_pos z1, if_neg (by omega), h5, grw_add]
        exact ⟨g + 1, by omega, by omega, rfl⟩
      · rw [if_neg z1]
        by_cases z2 : k = 12 + c
        · rw [if_pos z2, h5, grw_add]
          exact ⟨g + 1, by omega, by omega, rfl⟩
        · rw [if_neg z2]
          exact ⟨g, by omega, h4, h5⟩
    · exact ⟨g, by omega, h4, h5⟩
theorem visR_gr (T : tx) (sd : Int32) (a c : Nat) (r : rw_) (hc : c < 6) {k : Nat} (h1 : 12 ≤ k) (h2 : k < 30) : ∃ g, g ≤ 99 ∧ visR T sd a c r k = r k + nI g := by
  obtain ⟨g, h3, h4, h5⟩ := visL_gr T sd a c r hc h1 h2 6 (Nat.le_refl _)
  unfold visR
  show ∃ g, g ≤ 99 ∧ up1 (up1 _ _ _) _ _ k = _
  obtain ⟨w, hw, ew⟩ := held_n (v := tL T 2 (vsV T (visL T sd a c r 6).1 a c)) (m := 99) (by decide)
  have ew : giveS T (visL T sd a c r 6).1 a c = nI w := ew
  unfold up1
  rw [if_neg (show ¬ k = 36 + a by omega)]
  by_cases z : k = 18 + c
  · rw [if_pos z, h5, h4 (by omega) (by omega), ew, grw_add]
    exact ⟨0 + w, by omega, rfl⟩
  · rw [if_neg z]
    exact ⟨g, by omega, h5⟩
theorem gl_lt {T : tx} (hT : tok T) {r : rw_} {a : Nat} (h : ¬ glS T r a < nI 0) : (glS T r a).toNatClampNeg < tC T ∧ a < tP T := by
  rcases glS_in T r a with z | ⟨b, h1, h2, h3⟩
  · rw [z] at h; exact absurd (by decide) h
  · rw [h3, nI_clamp (by have := hT.1; omega)]; exact ⟨h1, h2⟩
theorem yrL_gr {T : tx} (hT : tok T) (sd : Int32) (r : rw_) {k : Nat} (h1 : 12 ≤ k) (h2 : k < 30) : ∀ a, ∃ g, g ≤ 99 * a ∧ (yrL T sd r a).1 k = r k + nI g
  | 0 => ⟨0, Nat.le_refl _, (i0_add _).symm⟩
  | a + 1 => by
    obtain ⟨g, h3, h4⟩ := yrL_gr hT sd r h1 h2 a
    rw [yrL]
    split
    · exact ⟨g, by omega, h4⟩
    · rename_i hz
      obtain ⟨g2, h5, h6⟩ := visR_gr T sd a (glS T r a).toNatClampNeg (yrL T sd r a).1 (by have := (gl_lt hT hz).1; have := hT.1; omega) h1 h2
      refine ⟨g + g2, by omega, ?_⟩
      show visR _ _ _ _ _ k = _
      rw [h6, h4, grw_add]
theorem yrS_gr {T : tx} (hT : tok T) (sd : Int32) (r : rw_) {k : Nat} (h1 : 12 ≤ k) (h2 : k < 30) : ∃ g, g ≤ 495 ∧ yrS T sd r k = r k + nI g := by
  obtain ⟨g, h3, h4⟩ := yrL_gr hT sd r h1 h2 5
  refine ⟨g, by omega, ?_⟩
  unfold yrS up1
  rw [if_neg (by omega)]
  exact h4
theorem yrsS_gr {T : tx} (hT : tok T) (sd : Int32) (r : rw_) {k : Nat} (h1 : 12 ≤ k) (h2 : k < 30) : ∀ n, ∃ g, g ≤ 495 * n ∧ yrsS T sd r n k = r k + nI g
  | 0 => ⟨0, Nat.le_refl _, (i0_add _).symm⟩
  | n + 1 => by
    obtain ⟨g, h3, h4⟩ := yrsS_gr hT sd r h1 h2 n
    obtain ⟨g2, h5, h6⟩ := yrS_gr hT sd (yrsS T sd r n) h1 h2
    refine ⟨g + g2, by omega, ?_⟩
    show yrS _ _ _ k = _
    rw [h6, h4, grw_add]
theorem sm_up (r : rw_) (k : Nat) (v : Int32) (b : Nat) : ∀ m, sm_ (up1 r k v) b m = sm_ r b m + (if b ≤ k ∧ k < b + m then v else nI 0)
  | 0 => by rw [if_neg (by omega)]; exact (i0_add _).symm
  | m + 1 => by
    rw [sm_, sm_, sm_up r k v b m]
    unfold up1
    by_cases z : b + m = k
    · rw [if_pos z, if_neg (by omega), if_pos (by omega), i0_add, Int32.add_assoc]
    · rw [if_neg z]
      by_cases z2 : b ≤ k ∧ k < b + m
      · rw [if_pos z2, if_pos (by omega), Int32.add_assoc, Int32.add_comm v, ← Int32.add_assoc]
      · rw [if_neg z2, if_neg (by omega), i0_add, i0_add]
def wsm (r : rw_) : Prop := sm_ r 12 6 = sm_ r 24 6
theorem wsm.up {r : rw_} (h : wsm r) {k : Nat} {v : Int32} (hk : k < 12 ∨ (18 ≤ k ∧ k < 24) ∨ 30 ≤ k) : wsm (up1 r k v) := by
  unfold wsm at *
  rw [sm_up, sm_up, if_neg (by omega), if_neg (by omega), h]
theorem wsm.up2 {r : rw_} (h : wsm r) {c e : Nat} {v : Int32} (hc : c < 6) (he : e < 6) : wsm (up1 (up1 r (12 + c) v) (24 + e) v) := by
  unfold wsm at *
  have a1 : sm_ (up1 (up1 r (12 + c) v) (24 + e) v) 12 6 = sm_ r 12 6 + v := by rw [sm_up _ (24 + e), if_neg (by omega), i0_add, sm_up, if_pos (by omega)]
  have a2 : sm_ (up1 (up1 r (12 + c) v) (24 + e) v) 24 6 = sm_ r 24 6 + v := by rw [sm_up _ (24 + e), if_pos (by omega), sm_up, if_neg (by omega), i0_add]
  rw [a1, a2, h]
theorem wsm.cg {r q : rw_} (h : wsm r) (hk : ∀ k, 12 ≤ k → k < 30 → q k = r k) : wsm q := by
  unfold wsm at *
  rw [sm_cg (f := q) (g := r) (b := 12) (c := 12) 6 (fun i hi => hk _ (by omega) (by omega)), sm_cg (f := q) (g := r) (b := 24) (c := 24) 6 (fun i hi => hk _ (by omega) (by omega))]
  exact h
theorem visL_ws (T : tx) (sd : Int32) (a c : Nat) {r : rw_} (hc : c < 6) (h : wsm r) : ∀ e, e ≤ 6 → wsm (visL T sd a c r e).1
  | 0, _ => h
  | e + 1, he => by
    have ih := visL_ws T sd a c hc h e (by omega)
    rw [visL]
    split
    · exact (ih.up2 hc (by omega)).up (by omega)
    · exact ih
theorem yrL_ws {T : tx} (hT : tok T) (sd : Int32) {r : rw_} (h : wsm r) : ∀ a, wsm (yrL T sd r a).1
  | 0 => h
  | a + 1 => by
    have ih := yrL_ws hT sd h a
    rw [yrL]
    split
    · exact ih
    · rename_i hz
      have hc := (gl_lt hT hz).1
      have h6 := hT.1
      exact ((visL_ws T sd a _ (by omega) ih 6 (Nat.le_refl _)).up (by omega)).up (by omega)
theorem yrsS_ws {T : tx} (hT : tok T) (sd : Int32) {r : rw_} (h : wsm r) : ∀ n, wsm (yrsS T sd r n)
  | 0 => h
  | n + 1 => (yrL_ws hT sd (yrsS_ws hT sd h n) 5).up (by omega)
theorem lok.cg {T : tx} {r q : rw_} (h : lok T r) (hk : ∀ k, k < 12 → q k = r k) (hR : tR T ≤ 6) : lok T q := by
  refine ⟨fun e he => ?_, fun e h1 h2 => ?_, fun c hc => ?_⟩
  · rw [hk _ (by omega)]; exact h.1 e he
  · rw [hk _ (by omega)]; exact h.2.1 e h1 h2
  · rw [hk _ (by omega)]; exact h.2.2 c hc
theorem rgd.up {n : Nat} {T : tx} {r : rw_} (h : rgd n T r) : rgd (n + 1) T r := ⟨h.1, fun k h1 h2 => by
  obtain ⟨v, h3, h4⟩ := h.2.1 k h1 h2
  exact ⟨v, by omega, h4⟩, h.2.2⟩
theorem rgd.cg {n : Nat} {T : tx} {r q : rw_} (h : rgd n T r) (hl : lok T q) (hk : ∀ k, 12 ≤ k → k < 30 → q k = r k) : rgd (n + 1) T q := ⟨hl, fun k h1 h2 => by
  obtain ⟨v, h3, h4⟩ := h.2.1 k h1 h2
  exact ⟨v, by omega, by rw [hk k h1 h2]; exact h4⟩, wsm.cg (r := r) h.2.2 hk⟩
theorem rgd.years {n : Nat} {T : tx} {r : rw_} (hT : tok T) (h : rgd n T r) (sd : Int32) {m : Nat} (hm : m ≤ 60) : rgd (n + 1) T (yrsS T sd r m) := by
  refine ⟨h.1.cg (fun k hk => yrsS_pos T sd r hk m) hT.2.1, fun k h1 h2 => ?_, yrsS_ws hT sd h.2.2 m⟩
  obtain ⟨v, h3, h4⟩ := h.2.1 k h1 h2
  obtain ⟨g, h5, h6⟩ := yrsS_gr hT sd r h1 h2 m
  exact ⟨v + g, by omega, by rw [h6, h4, nI_add]⟩
theorem gok.up {n : Nat} {s : gs} (h : gok n s) : gok (n + 1) s := ⟨h.1.up, fun j hj => (h.2.1 j hj).up, fun j hj hd => (h.2.2.1 j hj hd).up, h.2.2.2⟩
theorem gok.kp {n : Nat} {s : gs} {r : rw_} (h : gok n s) (hr : rgd (n + 1) (gT s) r) : gok (n + 1) (kpS s r) := by
  refine ⟨hr, fun j hj => ?_, fun j hj hd => (h.2.2.1 j hj hd).up, h.2.2.2⟩
  have hj : j < min 40 ((gH s).2 + 1) := hj
  show rgd (n + 1) (gT s) (psh (gR s) (gH s).1 j)
  unfold psh
  split
  · exact h.1.up
  · exact (h.2.1 (j - 1) (by omega)).up
theorem inS_t {v : Int32} {n : Nat} (h : inS v n = true) : kS v < n ∧ v = nI (kS v) := by
  unfold inS at h; rwa [decide_eq_true_iff] at h
theorem wiS_t {v : Int32} {lo hi : Nat} (h : wiS v lo hi = true) : (lo ≤ kS v ∧ kS v ≤ hi) ∧ v = nI (kS v) := by
  unfold wiS at h; rwa [decide_eq_true_iff] at h
theorem lok.mv {T : tx} {r : rw_} (h : lok T r) (hR : tR T ≤ 6) {e c : Nat} (he : e < tR T) (hc : c < tC T) : lok T (mvS r e (nI c)) := by
  refine ⟨fun j hj => ?_, fun j h1 h2 => ?_, fun j hj => ?_⟩
  · unfold mvS
    by_cases z : 6 + j = 6 + e
    · rw [if_pos z]; exact ⟨c, hc, rfl⟩
    · rw [if_neg z]; exact h.1 j hj
  · unfold mvS; rw [if_neg (by omega)]; exact h.2.1 j h1 h2
  · unfold mvS; rw [if_neg (by omega)]; exact h.2.2 j hj
theorem rgd.theft {n : Nat} {T : tx} {r : rw_} (hT : tok T) (h : rgd n T r) {e c m : Nat} (he : e < tR T) (hc : c < tC T) : rgd (n + 1) T (stS T r e c m).2 := by
  have h6 := hT.1
  have hR := hT.2.1
  have u47 : ∀ k, k < 30 → up1 r 47 (nI 1) k = r k := fun k hk => by unfold up1; rw [if_neg (by omega)]
  have l47 : lok T (up1 r 47 (nI 1)) := h.1.cg (fun k hk => u47 k (by omega)) hR
  obtain ⟨hce, hre⟩ := h.1.ch hT he
  unfold stS
  split
  · refine h.cg ⟨fun j hj => ?_, fun j h1 h2 => ?_, fun j hj => ?_⟩ (fun k h1 h2 => ?_)
    · show ∃ c, c < tC T ∧ up1 _ _ _ _ = _
      unfold up1 setr
      dsimp only
      rw [if_neg (by omega), if_neg (by omega), if_neg (by omega)]; exact h.1.1 j hj
    · show up1 _ _ _ _ = _
      unfold up1 setr
      dsimp only
      rw [if_neg (by omega), if_neg (by omega), if_neg (by omega)]; exact h.1.2.1 j h1 h2
    · show ∃ w, w ≤ 9 ∧ up1 _ _ _ _ = _
      unfold up1 setr
      dsimp only
      rw [if_neg (by omega)]
      by_cases z : j = chN r e
      · rw [if_pos z]; exact held_n (by decide)
      · rw [if_neg z, if_neg (by omega)]; exact h.1.2.2 j hj
    · show up1 _ _ _ _ = _
      unfold up1 setr
      dsimp only
      rw [if_neg (by omega), if_neg (by omega), if_neg (by omega)]
  · split
    · refine h.cg ((l47.mv hR he hc).cg (fun k hk => ?_) hR) (fun k h1 h2 => ?_)
      · show up1 _ _ _ _ = _
        unfold up1; rw [if_neg (by omega)]
      · show up1 _ _ _ _ = _
        unfold up1 mvS
        dsimp only
        rw [if_neg (by omega), if_neg (by omega), if_neg (by omega)]
    · exact h.cg l47 (fun k h1 h2 => u47 k (by omega))
theorem ok_steal {n : Nat} {s : gs} (hT : tok (gT s)) (h : gok n s) (e c m : Int32) : gok (n + 1) (tSteal s e c m).2 := by
  unfold tSteal
  split
  · rename_i hz
    rw [Bool.and_eq_true_iff, Bool.and_eq_true_iff] at hz
    split
    · exact h.up
    · exact h.kp (h.1.theft hT (inS_t hz.1).1 (inS_t hz.2.1).1)
  · exact h.up
theorem ok_swap {n : Nat} {s : gs} (hT : tok (gT s)) (h : gok n s) (e f : Int32) : gok (n + 1) (tSwap s e f).2 := by
  unfold tSwap
  split
  · rename_i hz
    rw [Bool.and_eq_true_iff] at hz
    split
    · exact h.up
    · obtain ⟨h1, h2⟩ := h.1.1.ch hT (inS_t hz.1).1
      obtain ⟨h3, h4⟩ := h.1.1.ch hT (inS_t hz.2).1
      refine h.kp (h.1.cg ?_ (fun k h1 h2 => ?_))
      · unfold xcS
        rw [h2, h4]
        exact (h.1.1.mv hT.2.1 (inS_t hz.1).1 h3).mv hT.2.1 (inS_t hz.2).1 h1
      · have := (inS_t hz.1).1; have := (inS_t hz.2).1; have := hT.2.1
        unfold xcS mvS; rw [if_neg (by omega), if_neg (by omega)]
  · exact h.up
theorem ok_watch {n : Nat} {s : gs} (hT : tok (gT s)) (h : gok n s) (c w : Int32) : gok (n + 1) (tWatch s c w).2 := by
  unfold tWatch
  split
  · rename_i hz
    rw [Bool.and_eq_true_iff] at hz
    split
    · exact h.up
    · have hc := (inS_t hz.1).1
      have hw := (wiS_t hz.2).1.2
      have h6 := hT.1
      have hR := hT.2.1
      refine h.kp (h.1.cg ⟨fun j hj => ?_, fun j h1 h2 => ?_, fun j hj => ?_⟩ (fun k h1 h2 => ?_))
      · unfold setr; rw [if_neg (by omega)]; exact h.1.1.1 j hj
      · unfold setr; rw [if_neg (by omega)]; exact h.1.1.2.1 j h1 h2
      · unfold setr
        by_cases z : j = kS c
        · rw [if_pos z]; exact ⟨kS w, hw, rfl⟩
        · rw [if_neg z]; exact h.1.1.2.2 j hj
      · unfold setr; rw [if_neg (by omega)]
  · exact h.up
theorem ok_years {n : Nat} {s : gs} (hT : tok (gT s)) (h : gok n s) (m : Int32) : gok (n + 1) (tYears s m).2 := by
  unfold tYears
  split
  · rename_i hz
    split
    · exact h.up
    · exact h.kp (h.1.years hT _ (wiS_t hz).1.2)
  · exact h.up
theorem ok_undo {n : Nat} {s : gs} (h : gok n s) : gok (n + 1) (tUndo s).2 := by
  unfold tUndo
  split
  · exact h.up
  · rename_i hz
    refine ⟨(h.2.1 0 (by omega)).up, fun j hj => ?_, fun j hj hd => (h.2.2.1 j hj hd).up, h.2.2.2⟩
    have hj : j < (gH s).2 - 1 := hj
    exact (h.2.1 (j + 1) (by omega)).up
theorem ok_tell {n : Nat} {s : gs} (h : gok n s) (a : Int32) (w : Bool) : gok (n + 1) (tTell s a w).2 := by
  unfold tTell
  split
  · rename_i hz
    split
    · exact h.up
    · refine ⟨h.1.up, fun j hj => (h.2.1 j hj).up, fun j hj hd => (h.2.2.1 j hj hd).up, fun j hj => ?_⟩
      have hj : j < (gW s).2.2 + 1 := hj
      show (if j = (gW s).2.2 then kS a else (gW s).1 j) < _
      split
      · exact (inS_t hz).1
      · exact h.2.2.2 j (by omega)
  · exact h.up
theorem ok_forget {n : Nat} {s : gs} (h : gok n s) : gok (n + 1) (tForget s).2 := ⟨h.1.up, fun j hj => (h.2.1 j hj).up, fun j hj hd => (h.2.2.1 j hj hd).up, fun j hj => absurd hj (Nat.not_lt_zero _)⟩
theorem ok_hold {n : Nat} {s : gs} (h : gok n s) (v : Int32) : gok (n + 1) (tHold s v).2 := by
  unfold tHold
  split
  · refine ⟨h.1.up, fun j hj => (h.2.1 j hj).up, fun j hj hd => ?_, h.2.2.2⟩
    have hd : (if j = kS v then true else (gK s).1 j) = true := hd
    show rgd (n + 1) (gT s) (if j = kS v then gR s else (gK s).2 j)
    split
    · exact h.1.up
    · rename_i hz
      rw [if_neg hz] at hd
      exact (h.2.2.1 j hj hd).up
  · exact h.up
theorem ok_restore {n : Nat} {s : gs} (h : gok n s) (v : Int32) : gok (n + 1) (tRestore s v).2 := by
  unfold tRestore
  split
  · rename_i hz
    rw [Bool.and_eq_true_iff] at hz
    exact ⟨(h.2.2.1 _ (inS_t hz.1).1 hz.2).up, fun j hj => absurd hj (Nat.not_lt_zero _), fun j hj hd => (h.2.2.1 j hj hd).up, h.2.2.2⟩
  · exact h.up
theorem ok_feed {n : Nat} {s : gs} (h : gok n s) (a b c d e : Int32) : gok (n + 1) (tFeed s a b c d e).2 := by
  unfold tFeed
  split
  · exact ⟨h.1.up, fun j hj => (h.2.1 j hj).up, fun j hj hd => (h.2.2.1 j hj hd).up, h.2.2.2⟩
  · exact h.up
theorem ok_back {n : Nat} {s : gs} (h : gok n s) (v : Int32) : gok (n + 1) (tBack s v).2 := by
  unfold tBack
  split
  · exact ⟨h.1.up, fun j hj => (h.2.1 j hj).up, fun j hj hd => (h.2.2.1 j hj hd).up, h.2.2.2⟩
  · exact h.up
/-! comparisons without a wrap -/
theorem sub3 (a b k : Int32) : a - k - (b - k) = a - b := by
  rw [Int32.sub_eq_add_neg, Int32.sub_eq_add_neg a k, Int32.sub_eq_add_neg b k, Int32.neg_add, Int32.sub_eq_add_neg (-b) (-k), Int32.neg_neg, Int32.add_comm (-b) k, Int32.add_assoc, ← Int32.add_assoc (-k) k, Int32.add_left_neg, Int32.zero_add, ← Int32.sub_eq_add_neg]
theorem cmp_w {x y k : Nat} (hx : x < 2 ^ 30) (hy : y < 2 ^ 30) (hk : k ≤ x) (hk2 : k ≤ y) : (nI 0 < nI x - nI y) ↔ (nI y - nI k < nI x - nI k) := by
  rw [pk_sub hk, pk_sub hk2, nI_ltI (by omega) (by omega)]
  by_cases z : y ≤ x
  · rw [pk_sub z, nI_ltI (by omega) (by omega)]; omega
  · have := pk_sneg (a := x) (b := y) (by omega) (by omega)
    constructor
    · intro w
      rw [nI_0] at w
      exact absurd (Int32.lt_trans this w) (fun z => Int32.lt_irrefl z)
    · intro w; omega

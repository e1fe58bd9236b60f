/-! all that goes on, as the two programs keep it, and what each call answers -/
/-- text, roads, the row, what can be undone, the slots, what was told, the tape, the place of the last fault -/
abbrev gs : Type := tx × Int32 × rw_ × ((Nat → rw_) × Nat) × ((Nat → Bool) × (Nat → rw_)) × ((Nat → Nat) × (Nat → Bool) × Nat) × ((Nat → Int32) × Nat) × Int32
abbrev gT (s : gs) : tx := s.1
abbrev gD (s : gs) : Int32 := s.2.1
abbrev gR (s : gs) : rw_ := s.2.2.1
abbrev gH (s : gs) : (Nat → rw_) × Nat := s.2.2.2.1
abbrev gK (s : gs) : (Nat → Bool) × (Nat → rw_) := s.2.2.2.2.1
abbrev gW (s : gs) : (Nat → Nat) × (Nat → Bool) × Nat := s.2.2.2.2.2.1
abbrev gB (s : gs) : (Nat → Int32) × Nat := s.2.2.2.2.2.2.1
abbrev gP (s : gs) : Int32 := s.2.2.2.2.2.2.2
/-- the class's rows hold it -/
def CI (t : Nat) (I : Nat → Nat → Int32) (s : gs) : Prop := CT t I (gT s) ∧ I t 11 = gD s ∧ CS 39 I (gR s) ∧ PA I (gH s).1 (gH s).2 ∧ PS I (gK s).1 (gK s).2 ∧ TD I (gW s).1 (gW s).2.1 (gW s).2.2 ∧ TP I (gB s).1 (gB s).2 ∧ I 33 6 = gP s
/-- bounds by the number of calls -/
def rgd (n : Nat) (T : tx) (r : rw_) : Prop := lok T r ∧ (∀ k, 12 ≤ k → k < 30 → ∃ v, v ≤ 30000 * n ∧ r k = nI v) ∧ sm_ r 12 6 = sm_ r 24 6
def gok (n : Nat) (s : gs) : Prop := rgd n (gT s) (gR s) ∧ (∀ j, j < (gH s).2 → rgd n (gT s) ((gH s).1 j)) ∧ (∀ j, j < 3 → (gK s).1 j = true → rgd n (gT s) ((gK s).2 j)) ∧ ∀ j, j < (gW s).2.2 → (gW s).1 j < tP (gT s)
theorem CI.q {t : Nat} {I I2 : Nat → Nat → Int32} {s : gs} (h : CI t I s) (f : frf t I I2) : CI t I2 s := by
  have hu := h.1.1
  have g : ∀ q, q ≠ t + 5 → q ≠ t + 6 → q ≠ 46 → q ≠ 42 → q ≠ 43 → q ≠ 47 → I2 q = I q := f
  obtain ⟨h1, h2, h3, h4, h5, h6, h7, h8⟩ := h
  refine ⟨f.T h1, by rw [g t (by omega) (by omega) (by omega) (by omega) (by omega) (by omega)]; exact h2, f.S hu h3, h4.kept ?_ ?_, h5.kept ?_ ?_, h6.kept ?_ ?_ ?_, h7.kept ?_ ?_, ?_⟩
  · exact g _ (by omega) (by omega) (by omega) (by omega) (by omega) (by omega)
  · exact g _ (by omega) (by omega) (by omega) (by omega) (by omega) (by omega)
  · exact g _ (by omega) (by omega) (by omega) (by omega) (by omega) (by omega)
  · exact g _ (by omega) (by omega) (by omega) (by omega) (by omega) (by omega)
  · exact g _ (by omega) (by omega) (by omega) (by omega) (by omega) (by omega)
  · exact g _ (by omega) (by omega) (by omega) (by omega) (by omega) (by omega)
  · exact g _ (by omega) (by omega) (by omega) (by omega) (by omega) (by omega)
  · exact g _ (by omega) (by omega) (by omega) (by omega) (by omega) (by omega)
  · exact g _ (by omega) (by omega) (by omega) (by omega) (by omega) (by omega)
  · rw [g 33 (by omega) (by omega) (by omega) (by omega) (by omega) (by omega)]; exact h8
def kS (v : Int32) : Nat := v.toNatClampNeg
/-- one of the first n numbers -/
def inS (v : Int32) (n : Nat) : Bool := decide (kS v < n ∧ v = nI (kS v))
def wiS (v : Int32) (lo hi : Nat) : Bool := decide ((lo ≤ kS v ∧ kS v ≤ hi) ∧ v = nI (kS v))
theorem kS_n {k : Nat} (h : k < 2 ^ 31) : kS (nI k) = k := nI_clamp h
theorem in_y {n k : Nat} (hk : k < n) (hn : n < 2 ^ 31) : inS (nI k) n = true := by
  unfold inS; rw [decide_eq_true_iff, kS_n (by omega)]; exact ⟨hk, rfl⟩
theorem in_n {v : Int32} {n : Nat} (h : ∀ k, k < n → v ≠ nI k) : inS v n = false := by
  unfold inS; rw [decide_eq_false_iff_not]; exact fun z => h _ z.1 z.2
theorem wi_y {lo hi k : Nat} (h1 : lo ≤ k) (h2 : k ≤ hi) (hn : hi < 2 ^ 31) : wiS (nI k) lo hi = true := by
  unfold wiS; rw [decide_eq_true_iff, kS_n (by omega)]; exact ⟨⟨h1, h2⟩, rfl⟩
theorem wi_n {v : Int32} {lo hi : Nat} (h : ∀ k, lo ≤ k → k ≤ hi → v ≠ nI k) : wiS v lo hi = false := by
  unfold wiS; rw [decide_eq_false_iff_not]; exact fun z => h _ z.1.1 z.1.2 z.2
/-- the row, and the one before it among those that can be gone back to -/
def kpS (s : gs) (r : rw_) : gs := (gT s, gD s, r, (psh (gR s) (gH s).1, min 40 ((gH s).2 + 1)), gK s, gW s, gB s, gP s)
def aChurch (s : gs) (v w : Int32) : Int32 := if inS v (tC (gT s)) = true then (if w.toInt = 0 then gR s (kS v) else if w.toInt = 1 then nI (bsF (atC (gR s) (kS v))) else if w.toInt = 2 then gR s (12 + kS v) else if w.toInt = 3 then gR s (18 + kS v) else if w.toInt = 4 then nI (cnF (fun e => atC (gR s) (kS v) e && tT (gT s) e)) else -1) else -1
def aRelic (s : gs) (v w : Int32) : Int32 := if inS v (tR (gT s)) = true then (if w.toInt = 0 then gR s (6 + kS v) else if w.toInt = 1 then b1 (tT (gT s) (kS v)) else if w.toInt = 2 then gR s (24 + kS v) else if w.toInt = 3 then gR s (30 + kS v) else -1) else -1
def aPilgrim (s : gs) (v w : Int32) : Int32 := if inS v (tP (gT s)) = true then (if w.toInt = 0 then nI (tH (gT s) (kS v)) else if w.toInt = 1 then tN (gT s) (kS v) else if w.toInt = 2 then tG (gT s) (kS v) else if w.toInt = 3 then gR s (36 + kS v) else if w.toInt = 4 then gR s (41 + kS v) else -1) else -1
def aTells (s : gs) (a c w : Int32) : Int32 := if (inS a (tP (gT s)) && inS c (tC (gT s))) = true then (if w.toInt = 0 then drawS (gT s) (gR s) (kS a) (kS c) else if w.toInt = 1 then giveS (gT s) (gR s) (kS a) (kS c) else if w.toInt = 2 then tF (gT s) (tH (gT s) (kS a)) (kS c) else -100000) else -100000
def aHeals (s : gs) (e a : Int32) : Int32 := if (inS e (tR (gT s)) && inS a (tP (gT s))) = true then healS (gT s) (gR s) (chN (gR s) (kS e)) (kS a) (b1 (tT (gT s) (kS e))) else -1
def tSteal (s : gs) (e c n : Int32) : Int32 × gs := if (inS e (tR (gT s)) && (inS c (tC (gT s)) && wiS n 1 9)) = true then (if gR s (6 + kS e) = nI (kS c) then (-2, s) else ((stS (gT s) (gR s) (kS e) (kS c) (kS n)).1, kpS s (stS (gT s) (gR s) (kS e) (kS c) (kS n)).2)) else (-1, s)
def tSwap (s : gs) (e f : Int32) : Int32 × gs := if (inS e (tR (gT s)) && inS f (tR (gT s))) = true then (if gR s (6 + kS e) = gR s (6 + kS f) then (nI 0, s) else (nI 1, kpS s (xcS (gR s) (kS e) (kS f)))) else (nI 0, s)
def tWatch (s : gs) (c w : Int32) : Int32 × gs := if (inS c (tC (gT s)) && wiS w 0 9) = true then (if gR s (kS c) = nI (kS w) then (nI 0, s) else (nI 1, kpS s (setr (gR s) (kS c) (nI (kS w))))) else (nI 0, s)
def tYears (s : gs) (n : Int32) : Int32 × gs := if wiS n 0 60 = true then (if kS n = 0 then (gR s 46, s) else (yaS (gT s) (gR s) (kS n) 46, kpS s (yaS (gT s) (gR s) (kS n)))) else (-1, s)
def tUndo (s : gs) : Int32 × gs := if (gH s).2 = 0 then (nI 0, s) else (nI 1, (gT s, gD s, (gH s).1 0, (fun j => (gH s).1 (j + 1), (gH s).2 - 1), gK s, gW s, gB s, gP s))
def aGoes (s : gs) (a : Int32) : Int32 := if inS a (tP (gT s)) = true then goalS (gT s) (gR s) (kS a) else -1
def aTheft (s : gs) (e n : Int32) : Int32 := if (inS e (tR (gT s)) && wiS n 1 9) = true then likS (gT s) (gR s) (kS e) (kS n) else -1
def aNights (s : gs) (e : Int32) : Int32 := if inS e (tR (gT s)) = true then nI (bnS (gT s) (gR s) (kS e)) else -1
def aWorth (s : gs) (e n w : Int32) : Int32 := if (inS e (tR (gT s)) && (wiS n 1 24 && wiS w 0 1)) = true then (if kS w = 1 then (amx (wdS (gT s) (gR s) (kS e) (kS n)) (tC (gT s))).2 else (amx (wdS (gT s) (gR s) (kS e) (kS n)) (tC (gT s))).1) else -100000
def aGuard (s : gs) (c p n : Int32) : Int32 := if (inS c (tC (gT s)) && (wiS p 1 100 && wiS n 1 9)) = true then wfS (gT s) (gR s) (kS c) (nI (kS p)) (kS n) else -1
/-- watchers of the churches before c; nothing, once one can't be had by nine -/
def gdL (f : Nat → Option Int32) : Nat → Option Int32
  | 0 => some (nI 0)
  | c + 1 => match gdL f c with
    | none => none
    | some a => match f c with
      | none => none
      | some b => some (a + b)
def gdF (T : tx) (r : rw_) (p : Int32) (n c : Nat) : Option Int32 := if bsF (atC r c) = 0 then some (nI 0) else if wfS T r c p n < nI 0 then none else some (wfS T r c p n)
def gdS (q : Option Int32) : Int32 := match q with
  | none => -2
  | some a => a
def aGuards (s : gs) (p n : Int32) : Int32 := if (wiS p 1 100 && wiS n 1 9) = true then gdS (gdL (gdF (gT s) (gR s) (nI (kS p)) (kS n)) (tC (gT s))) else -1
def aWeak (s : gs) (w : Int32) : Int32 := if wiS w 0 2 = true then (if wkS (gT s) (gR s) < nI 0 ∨ kS w = 0 then wkS (gT s) (gR s) else if kS w = 1 then nI (bnS (gT s) (gR s) (kS (wkS (gT s) (gR s)))) else likS (gT s) (gR s) (kS (wkS (gT s) (gR s))) (bnS (gT s) (gR s) (kS (wkS (gT s) (gR s))))) else -1
def aBarter (s : gs) (n w : Int32) : Int32 := if (wiS n 1 24 && wiS w 0 1) = true then (if kS w = 1 then (brO (bgn (gT s) (gR s) (kS n)) (tR (gT s)) (tR (gT s))).2 else nI (brO (bgn (gT s) (gR s) (kS n)) (tR (gT s)) (tR (gT s))).1) else -1
def aTook (s : gs) (c n : Int32) : Int32 := if (inS c (tC (gT s)) && wiS n 0 60) = true then yaS (gT s) (gR s) (kS n) (18 + kS c) - gR s (18 + kS c) else -1
def aWonders (s : gs) (e n : Int32) : Int32 := if (inS e (tR (gT s)) && wiS n 0 60) = true then yaS (gT s) (gR s) (kS n) (24 + kS e) - gR s (24 + kS e) else -1
def aGoesIn (s : gs) (a n : Int32) : Int32 := if (inS a (tP (gT s)) && wiS n 0 60) = true then goalS (gT s) (yaS (gT s) (gR s) (kS n)) (kS a) else -1
def rcF (T : tx) (r : rw_) (n : Nat) : Nat → Int32 := fun c => yaS T r n (18 + c) - r (18 + c)
def fmF (T : tx) (r : rw_) (n : Nat) : Nat → Int32 := fun c => yaS T r n (12 + c)
def aRich (s : gs) (n w : Int32) : Int32 := if (wiS n 0 60 && wiS w 0 1) = true then (if kS w = 1 ∧ ¬ (amx (rcF (gT s) (gR s) (kS n)) (tC (gT s))).1 < 0 then (amx (rcF (gT s) (gR s) (kS n)) (tC (gT s))).2 else (amx (rcF (gT s) (gR s) (kS n)) (tC (gT s))).1) else -1
def hbF (T : tx) (c : Nat) : Int32 := sm_ (tF T c) 0 (tC T)
def aHub (s : gs) : Int32 := (amn (hbF (gT s)) (tC (gT s))).1
def cwN (T : tx) (r : rw_) (c : Nat) : Nat → Nat
  | 0 => 0
  | a + 1 => if goalS T r a = nI c then cwN T r c a + 2 ^ a else cwN T r c a
def aCrowd (s : gs) (c : Int32) : Int32 := if inS c (tC (gT s)) = true then nI (cwN (gT s) (gR s) (kS c) (tP (gT s))) else -1
def aHealed (s : gs) (a n : Int32) : Int32 := if (inS a (tP (gT s)) && wiS n 0 60) = true then yaS (gT s) (gR s) (kS n) (41 + kS a) - gR s (41 + kS a) else -1
def aFamed (s : gs) (n : Int32) : Int32 := if wiS n 0 60 = true then (amx (fmF (gT s) (gR s) (kS n)) (tC (gT s))).1 else -1
def hwG (T : tx) (r : rw_) (e n : Nat) : Nat → Bool := fun i => hwS T (tS T + nI i) r e n
def aYear (s : gs) (e n k : Int32) : Int32 := if (inS e (tR (gT s)) && (wiS n 0 60 && wiS k 1 20)) = true then nI (cntS (hwG (gT s) (gR s) (kS e) (kS n)) (kS k)) else -1
def hN (T : tx) (r : rw_) (e a : Nat) (tr : Int32) : Nat := kS (healS T r (chN r e) a tr)
def blS (y z : Nat) (b : Bool) : Int32 := if y + z = 0 then (if b = true then nI 2 else nI 1) else nI ((if b = true then y + z else y) / Nat.gcd (y + z) y)
def aBelief (s : gs) (e a n k : Int32) (b : Bool) : Int32 := if (inS e (tR (gT s)) && inS a (tP (gT s))) = true then (if (wiS n 0 4 && wiS k 0 (kS n)) = true then blS (rwN (hN (gT s) (gR s) (kS e) (kS a) (nI 1)) (kS k) (kS n)) (rwN (hN (gT s) (gR s) (kS e) (kS a) (nI 0)) (kS k) (kS n)) b else -1) else -1
def ctC (h1 h0 p n : Nat) : Bool := if 0 < rwN h1 n n + rwN h0 n n then decide (p * (rwN h1 n n + rwN h0 n n) ≤ rwN h1 n n * 100) else decide (p * 2 ≤ 100)
def ctF (c : Nat → Bool) : Nat → Nat → Int32
  | 0, _ => -2
  | f + 1, n => if c n = true then nI n else ctF c f (n + 1)
def aCertain (s : gs) (e a p : Int32) : Int32 := if (inS e (tR (gT s)) && (inS a (tP (gT s)) && wiS p 0 100)) = true then ctF (ctC (hN (gT s) (gR s) (kS e) (kS a) (nI 1)) (hN (gT s) (gR s) (kS e) (kS a) (nI 0)) (kS p)) 5 0 else -1
def tTell (s : gs) (a : Int32) (w : Bool) : Int32 × gs := if inS a (tP (gT s)) = true then (if (gW s).2.2 = 20 then (-1, s) else (nI (gW s).2.2, (gT s, gD s, gR s, gH s, gK s, (fun j => if j = (gW s).2.2 then kS a else (gW s).1 j, fun j => if j = (gW s).2.2 then w else (gW s).2.1 j, (gW s).2.2 + 1), gB s, gP s))) else (-1, s)
def tForget (s : gs) : Int32 × gs := (nI (gW s).2.2, (gT s, gD s, gR s, gH s, gK s, (fun _ => 0, fun _ => false, 0), gB s, gP s))
def wdF (T : tx) (r : rw_) (a e : Nat) : Bool := (yrW T (tS T) r a).testBit e
def rlS (s : gs) (k : Nat) : Nat → Bool := rlF (tR (gT s)) (gW s).1 (gW s).2.1 (wdF (gT s) (gR s)) k
def aWhose (s : gs) (k w : Int32) : Int32 := if (wiS k 0 (gW s).2.2 && wiS w 0 1) = true then (if kS w = 0 then nI (cnF (rlS s (kS k))) else nI (bsF (rlS s (kS k)))) else -1
def asF (s : gs) (k : Nat) : Nat → Int32 := fun a => nI (wsN (rlS s k) (wdF (gT s) (gR s) a))
def aAsk (s : gs) (k : Int32) : Int32 := if wiS k 0 (gW s).2.2 = true then (if bsF (rlS s (kS k)) = 0 then -2 else (amn (asF s (kS k)) (tP (gT s))).1) else -1
def tHold (s : gs) (v : Int32) : Int32 × gs := if inS v 3 = true then (nI 1, (gT s, gD s, gR s, gH s, (fun j => if j = kS v then true else (gK s).1 j, fun j => if j = kS v then gR s else (gK s).2 j), gW s, gB s, gP s)) else (nI 0, s)
def tRestore (s : gs) (v : Int32) : Int32 × gs := if (inS v 3 && (gK s).1 (kS v)) = true then (nI 1, (gT s, gD s, (gK s).2 (kS v), (fun _ _ => nI 0, 0), gK s, gW s, gB s, gP s)) else (nI 0, s)
def aCount (s : gs) (w : Int32) : Int32 := if w.toInt = 0 then nI (tC (gT s)) else if w.toInt = 1 then gD s else if w.toInt = 2 then nI (tR (gT s)) else if w.toInt = 3 then nI (tP (gT s)) else if w.toInt = 4 then gR s 46 else if w.toInt = 5 then sm_ (gR s) 18 6 else if w.toInt = 6 then sm_ (gR s) 24 6 else if w.toInt = 7 then gR s 47 else if w.toInt = 8 then gR s 48 else if w.toInt = 9 then sm_ (gR s) 30 6 else if w.toInt = 10 then nI (gB s).2 else if w.toInt = 11 then nI (gH s).2 else if w.toInt = 12 then nI (gW s).2.2 else if w.toInt = 13 then nI (cntS (gK s).1 3) else if w.toInt = 14 then sm_ (gR s) 0 6 else if w.toInt = 15 then nI (bsF (tT (gT s))) else -1
def tFeed (s : gs) (a b c d e : Int32) : Int32 × gs := if (gB s).2 ≤ 1980 then (nI ((gB s).2 + 20), (gT s, gD s, gR s, gH s, gK s, gW s, (apB (apB (apB (apB (apB (gB s).1 (gB s).2 a) ((gB s).2 + 4) b) ((gB s).2 + 8) c) ((gB s).2 + 12) d) ((gB s).2 + 16) e, (gB s).2 + 20), gP s)) else (-1, s)
def tBack (s : gs) (n : Int32) : Int32 × gs := if wiS n 0 (gB s).2 = true then (nI ((gB s).2 - kS n), (gT s, gD s, gR s, gH s, gK s, gW s, ((gB s).1, (gB s).2 - kS n), gP s)) else (-1, s)
theorem sm_cg {f g : Nat → Int32} {b c : Nat} : ∀ m, (∀ i, i < m → f (b + i) = g (c + i)) → sm_ f b m = sm_ g c m
  | 0, _ => rfl
  | m + 1, h => by rw [sm_, sm_, sm_cg m (fun i hi => h i (by omega)), h m (by omega)]
theorem held_n {v : Int32} {m : Nat} (hm : m < 2 ^ 31) : ∃ k, k ≤ m ∧ heldS v (nI m) = nI k := by
  unfold heldS
  split
  · exact ⟨0, by omega, rfl⟩
  · rename_i h0
    split
    · exact ⟨m, Nat.le_refl _, rfl⟩
    · rename_i h1
      rw [nI_0] at h0
      obtain ⟨j, hj, rfl⟩ := nI_of h0
      exact ⟨j, Nat.le_of_not_lt (fun z => h1 (nI_lt z hj)), rfl⟩
theorem heal_n (T : tx) (r : rw_) (e a : Nat) (tr : Int32) : hN T r e a tr ≤ 100 ∧ healS T r (chN r e) a tr = nI (hN T r e a tr) := by
  obtain ⟨k, h1, h2⟩ := held_n (v := tL T 1 (fun k => if k = 8 then tr else vsP T r a (chN r e) k)) (m := 100) (by decide)
  have h3 : healS T r (chN r e) a tr = nI k := h2
  unfold hN
  rw [h3, kS_n (by omega)]
  exact ⟨h1, rfl⟩
theorem yrW_lt (T : tx) (sd : Int32) (r : rw_) (a : Nat) : yrW T sd r a < 64 := by
  have key : ∀ n j, (yrL T sd r n).2 j < 64 := by
    intro n
    induction n with
    | zero => intro j; show 0 < 64; omega
    | succ n ih =>
      intro j
      rw [yrL]
      split
      · show (if j = n then 0 else (yrL T sd r n).2 j) < 64
        split
        · omega
        · exact ih j
      · show (if j = n then visW T sd n _ _ else (yrL T sd r n).2 j) < 64
        split
        · exact visL_lt _ _ _ _ _ 6
        · exact ih j
  exact key 5 a
theorem tb64 : ∀ w, w < 64 → bsF (fun e => w.testBit e) = w := by decide +kernel
theorem wd_ok (T : tx) (r : rw_) (a : Nat) : nI (yrW T (tS T) r a) = nI (bsF (wdF T r a)) := by
  rw [show bsF (wdF T r a) = _ from tb64 _ (yrW_lt T (tS T) r a)]

/-! what a text tells, statement by statement -/
/-- token; the first late fault and its token; names, the churches that they are, how many; churches, roads, relics, pilgrims; watchers; lengths; where relics are; which are true; homes, needs, gifts; the seed; the laws -/
abbrev ps : Type := Nat × (Nat × Nat) × ((Nat → List Nat) × (Nat → Int32) × Nat) × (Nat × Nat × Nat × Nat) × (Nat → Int32) × (Nat → Nat → Int32) × (Nat → Int32) × (Nat → Bool) × ((Nat → Int32) × (Nat → Int32) × (Nat → Int32)) × Int32 × (Nat → (Nat → Int32) → Int32)
abbrev sT (S : ps) : Nat := S.1
abbrev sE (S : ps) : Nat × Nat := S.2.1
abbrev sM (S : ps) : (Nat → List Nat) × (Nat → Int32) × Nat := S.2.2.1
abbrev sN (S : ps) : Nat × Nat × Nat × Nat := S.2.2.2.1
abbrev sC (S : ps) : Nat := S.2.2.2.1.1
abbrev sD (S : ps) : Nat := S.2.2.2.1.2.1
abbrev sR (S : ps) : Nat := S.2.2.2.1.2.2.1
abbrev sP (S : ps) : Nat := S.2.2.2.1.2.2.2
abbrev sW (S : ps) : Nat → Int32 := S.2.2.2.2.1
abbrev sF (S : ps) : Nat → Nat → Int32 := S.2.2.2.2.2.1
abbrev sQ (S : ps) : Nat → Int32 := S.2.2.2.2.2.2.1
abbrev sU (S : ps) : Nat → Bool := S.2.2.2.2.2.2.2.1
abbrev sH (S : ps) : (Nat → Int32) × (Nat → Int32) × (Nat → Int32) := S.2.2.2.2.2.2.2.2.1
abbrev sS (S : ps) : Int32 := S.2.2.2.2.2.2.2.2.2.1
abbrev sL (S : ps) : Nat → (Nat → Int32) → Int32 := S.2.2.2.2.2.2.2.2.2.2
def dpS (nm : Nat → List Nat) (w : List Nat) : Nat → Bool
  | 0 => false
  | i + 1 => dpS nm w i || decide (nm i = w)
def chS (nm : Nat → List Nat) (na : Nat → Int32) (w : List Nat) : Nat → Int32
  | 0 => -1
  | i + 1 => if chS nm na w i < nI 0 then (if nm i = w ∧ ¬ na i < nI 0 then na i else -1) else chS nm na w i
def psN (N : (Nat → List Nat) × (Nat → Int32) × Nat) (w : List Nat) (a : Int32) : (Nat → List Nat) × (Nat → Int32) × Nat := (fun i => if i = N.2.2 then w else N.1 i, fun i => if i = N.2.2 then a else N.2.1 i, N.2.2 + 1)
def lte (e : Nat × Nat) (c : Bool) (k tok : Nat) : Nat × Nat := if e.1 = 0 ∧ c = true then (k, tok) else e
def set1 {α : Type} (f : Nat → α) (k : Nat) (v : α) : Nat → α := fun i => if i = k then v else f i
def set2 (f : Nat → Nat → Int32) (a b : Nat) (v : Int32) : Nat → Nat → Int32 := fun i j => if i = a ∧ j = b then v else f i j
def sqT (b : Nat → Nat) (n : Nat) : List Nat → Nat → Nat × Nat
  | [], t => (0, t)
  | k :: ks, t => if kd b n t = k then (if 400 ≤ t then (2, t) else sqT b n ks (t + 1)) else (1, t)
/-- the church of a name that was told -/
def chN_ (b : Nat → Nat) (n : Nat) (S : ps) (k : Nat) : Int32 := chS (sM S).1 (sM S).2.1 (wdT b n k) (sM S).2.2
def dpN (b : Nat → Nat) (n : Nat) (S : ps) (k : Nat) : Bool := dpS (sM S).1 (wdT b n k) (sM S).2.2
abbrev sres : Type := Nat × Nat × ps
def stQ (b : Nat → Nat) (n : Nat) (ks : List Nat) (S S2 : ps) : sres := if (sqT b n ks (sT S)).1 = 0 then (0, 0, S2) else ((sqT b n ks (sT S)).1, (sqT b n ks (sT S)).2, S)
def nwC (b : Nat → Nat) (n : Nat) (S : ps) : ps := (sT S + 4, lte (lte (sE S) (dpN b n S (sT S + 1)) 3 (sT S + 1)) (decide (9 < nuT b n (sT S + 2))) 5 (sT S + 2), psN (sM S) (wdT b n (sT S + 1)) (nI (sC S)), (sC S + 1, sD S, sR S, sP S), set1 (sW S) (sC S) (nI (nuT b n (sT S + 2))), sF S, sQ S, sU S, sH S, sS S, sL S)
def rdA (b : Nat → Nat) (n : Nat) (S : ps) : Int32 := chN_ b n S (sT S + 1)
def rdB (b : Nat → Nat) (n : Nat) (S : ps) : Int32 := chN_ b n S (sT S + 2)
def nwD (b : Nat → Nat) (n : Nat) (S : ps) : ps := (sT S + 5, lte (lte (lte (lte (sE S) (decide (rdA b n S < nI 0)) 4 (sT S + 1)) (decide (rdB b n S < nI 0)) 4 (sT S + 2)) (decide (¬ rdA b n S < nI 0 ∧ ¬ rdB b n S < nI 0 ∧ ¬ sF S (kS (rdA b n S)) (kS (rdB b n S)) = nI 999)) 3 (sT S + 2)) (decide (nuT b n (sT S + 3) < 1 ∨ 99 < nuT b n (sT S + 3))) 5 (sT S + 3), sM S, (sC S, sD S + 1, sR S, sP S), sW S, if ¬ rdA b n S < nI 0 ∧ ¬ rdB b n S < nI 0 then set2 (set2 (sF S) (kS (rdA b n S)) (kS (rdB b n S)) (nI (nuT b n (sT S + 3)))) (kS (rdB b n S)) (kS (rdA b n S)) (nI (nuT b n (sT S + 3))) else sF S, sQ S, sU S, sH S, sS S, sL S)
def nwR (b : Nat → Nat) (n : Nat) (S : ps) : ps := (sT S + 5, lte (lte (sE S) (dpN b n S (sT S + 1)) 3 (sT S + 1)) (decide (chN_ b n S (sT S + 2) < nI 0)) 4 (sT S + 2), psN (sM S) (wdT b n (sT S + 1)) (-1), (sC S, sD S, sR S + 1, sP S), sW S, sF S, set1 (sQ S) (sR S) (chN_ b n S (sT S + 2)), set1 (sU S) (sR S) (decide (¬ kd b n (sT S + 3) = 11)), sH S, sS S, sL S)
def nwP (b : Nat → Nat) (n : Nat) (S : ps) : ps := (sT S + 6, lte (lte (lte (lte (sE S) (dpN b n S (sT S + 1)) 3 (sT S + 1)) (decide (chN_ b n S (sT S + 2) < nI 0)) 4 (sT S + 2)) (decide (9 < nuT b n (sT S + 3))) 5 (sT S + 3)) (decide (9 < nuT b n (sT S + 4))) 5 (sT S + 4), psN (sM S) (wdT b n (sT S + 1)) (-1), (sC S, sD S, sR S, sP S + 1), sW S, sF S, sQ S, sU S, (set1 (sH S).1 (sP S) (chN_ b n S (sT S + 2)), set1 (sH S).2.1 (sP S) (nI (nuT b n (sT S + 3))), set1 (sH S).2.2 (sP S) (nI (nuT b n (sT S + 4)))), sS S, sL S)
def nwS (b : Nat → Nat) (n : Nat) (S : ps) : ps := (sT S + 3, sE S, sM S, sN S, sW S, sF S, sQ S, sU S, sH S, nI (nuT b n (sT S + 1)), sL S)
/-- a law behind its sign: r more ifs may come -/
abbrev lres : Type := Nat × Nat × List (rpn × rpn × rpn) × rpn
def lbd (r : res) (k : Nat → rpn → lres) : lres := if r.1 = 0 then k r.2.1 r.2.2 else (r.1, r.2.1, [], [])
theorem lbd_0 {r : res} {k : Nat → rpn → lres} (h : r.1 = 0) : lbd r k = k r.2.1 r.2.2 := if_pos h
theorem lbd_1 {r : res} {k : Nat → rpn → lres} (h : ¬ r.1 = 0) : lbd r k = (r.1, r.2.1, [], []) := if_neg h
def ltk (b : Nat → Nat) (n k t : Nat) (r : lres) : lres := if kd b n t = k then (if 400 ≤ t then (2, t, [], []) else r) else (1, t, [], [])
def lwF (b : Nat → Nat) (n t : Nat) (acc : List (rpn × rpn × rpn)) : lres := lbd (sumS b n t) (fun t1 c1 => ltk b n 59 t1 (0, t1 + 1, acc, c1))
def lwI (b : Nat → Nat) (n t : Nat) (acc : List (rpn × rpn × rpn)) (k : Nat → List (rpn × rpn × rpn) → lres) : lres := ltk b n 12 t (lbd (sumS b n (t + 1)) (fun t1 c1 => ltk b n 60 t1 (lbd (sumS b n (t1 + 1)) (fun t2 c2 => ltk b n 13 t2 (lbd (sumS b n (t2 + 1)) (fun t3 c3 => ltk b n 14 t3 (k (t3 + 1) (acc ++ [(c1, c2, c3)]))))))))
def lwP (b : Nat → Nat) (n : Nat) : Nat → Nat → List (rpn × rpn × rpn) → lres
  | 0, t, acc => if kd b n t = 12 then (2, t, [], []) else lwF b n t acc
  | r + 1, t, acc => if kd b n t = 12 then lwI b n t acc (lwP b n r) else lwF b n t acc
def lwQ (b : Nat → Nat) (n t : Nat) : lres := if 4 ≤ kd b n t ∧ kd b n t ≤ 8 then (if 400 ≤ t then (2, t, [], []) else ltk b n 61 (t + 1) (lwP b n 4 (t + 2) [])) else (1, t, [], [])
def nwL (S : ps) (k : Nat) (r : lres) : ps := (r.2.1, sE S, sM S, sN S, sW S, sF S, sQ S, sU S, sH S, sS S, set1 (sL S) k (fun vs => lwL vs r.2.2.2 r.2.2.1))
def stX (b : Nat → Nat) (n : Nat) (S : ps) : sres :=
  if kd b n (sT S) = 0 then (if sC S = 6 then (2, sT S, S) else stQ b n [0, 24, 25, 59] S (nwC b n S))
  else if kd b n (sT S) = 1 then (if sD S = 9 then (2, sT S, S) else stQ b n [1, 24, 24, 25, 59] S (nwD b n S))
  else if kd b n (sT S) = 2 then (if sR S = 6 then (2, sT S, S) else stQ b n [2, 24, 24, if kd b n (sT S + 3) = 11 then 11 else 10, 59] S (nwR b n S))
  else if kd b n (sT S) = 3 then (if sP S = 5 then (2, sT S, S) else stQ b n [3, 24, 24, 25, 25, 59] S (nwP b n S))
  else if kd b n (sT S) = 9 then stQ b n [9, 25, 59] S (nwS b n S)
  else if (lwQ b n (sT S)).1 = 0 then (0, 0, nwL S (kd b n (sT S) - 4) (lwQ b n (sT S))) else ((lwQ b n (sT S)).1, (lwQ b n (sT S)).2.1, S)
def rdS (b : Nat → Nat) (n : Nat) : Nat → ps → sres
  | 0, S => (0, 0, S)
  | f + 1, S => if kd b n (sT S) = 26 then (0, 0, S) else if (stX b n S).1 = 0 then rdS b n f (stX b n S).2.2 else stX b n S
def ps0 : ps := (0, (0, 0), (fun _ => [], fun _ => -1, 0), (0, 0, 0, 0), fun _ => nI 0, fun a b => if a = b then nI 0 else nI 999, fun _ => nI 0, fun _ => false, (fun _ => nI 0, fun _ => nI 0, fun _ => nI 0), nI 0, plS)
theorem sq_far {b : Nat → Nat} {n : Nat} : ∀ (ks : List Nat) (t : Nat), (∀ k, k ∈ ks → k ≠ 26 ∧ k ≠ 27) → t ≤ 400 → gdT b n t → (sqT b n ks t).2 ≤ 400 ∧ gdT b n (sqT b n ks t).2 ∧ ((sqT b n ks t).1 = 0 → (sqT b n ks t).2 = t + ks.length) ∧ (sqT b n ks t).1 ≤ 2
  | [], t, _, ht, hg => ⟨ht, hg, fun _ => rfl, Nat.zero_le _⟩
  | k :: ks, t, hk, ht, hg => by
    rw [sqT]
    by_cases z : kd b n t = k
    · rw [if_pos z]
      by_cases z4 : 400 ≤ t
      · rw [if_pos z4]; exact ⟨ht, hg, fun w => absurd w (show ¬ 2 = 0 by decide), Nat.le_refl _⟩
      · rw [if_neg z4]
        have hk0 := hk k (List.mem_cons_self ..)
        obtain ⟨h1, h2, h3, h4⟩ := sq_far ks (t + 1) (fun j hj => hk j (List.mem_cons_of_mem _ hj)) (by omega) (hg.s (by rw [z]; exact hk0.1) (by rw [z]; exact hk0.2))
        exact ⟨h1, h2, fun w => by rw [h3 w, List.length_cons]; omega, h4⟩
    · rw [if_neg z]; exact ⟨ht, hg, fun w => absurd w (show ¬ 1 = 0 by decide), (by decide : 1 ≤ 2)⟩
/-- tokens that were taken -/
def sqG (b : Nat → Nat) (n : Nat) : List Nat → Nat → Prop
  | [], _ => True
  | k :: ks, t => kd b n t = k ∧ t < 400 ∧ sqG b n ks (t + 1)
theorem sqG.ok {b : Nat → Nat} {n : Nat} : ∀ (ks : List Nat) (t : Nat), (sqT b n ks t).1 = 0 → sqG b n ks t
  | [], _, _ => True.intro
  | k :: ks, t, h => by
    rw [sqT] at h
    by_cases z : kd b n t = k
    · rw [if_pos z] at h
      by_cases z4 : 400 ≤ t
      · rw [if_pos z4] at h; exact absurd h (show ¬ 2 = 0 by decide)
      · rw [if_neg z4] at h; exact ⟨z, by omega, sqG.ok ks (t + 1) h⟩
    · rw [if_neg z] at h; exact absurd h (show ¬ 1 = 0 by decide)
theorem sqT_y {b : Nat → Nat} {n : Nat} {k t : Nat} {ks : List Nat} (h1 : kd b n t = k) (h2 : t < 400) : sqT b n (k :: ks) t = sqT b n ks (t + 1) := by
  rw [sqT, if_pos h1, if_neg (by omega)]
theorem sqT_1 {b : Nat → Nat} {n : Nat} {k t : Nat} {ks : List Nat} (h1 : ¬ kd b n t = k) : sqT b n (k :: ks) t = (1, t) := by
  rw [sqT, if_neg h1]
theorem sqT_2 {b : Nat → Nat} {n : Nat} {k t : Nat} {ks : List Nat} (h1 : kd b n t = k) (h2 : 400 ≤ t) : sqT b n (k :: ks) t = (2, t) := by
  rw [sqT, if_pos h1, if_pos h2]
theorem chS_cg {nm nm2 : Nat → List Nat} {na na2 : Nat → Int32} {w : List Nat} : ∀ k, (∀ i, i < k → nm2 i = nm i ∧ na2 i = na i) → chS nm2 na2 w k = chS nm na w k
  | 0, _ => rfl
  | k + 1, h => by rw [chS, chS, chS_cg k (fun i hi => h i (by omega)), (h k (by omega)).1, (h k (by omega)).2]
theorem dpS_cg {nm nm2 : Nat → List Nat} {w : List Nat} : ∀ k, (∀ i, i < k → nm2 i = nm i) → dpS nm2 w k = dpS nm w k
  | 0, _ => rfl
  | k + 1, h => by rw [dpS, dpS, dpS_cg k (fun i hi => h i (by omega)), h k (by omega)]
theorem psN_ch (N : (Nat → List Nat) × (Nat → Int32) × Nat) (w0 : List Nat) (a : Int32) (w : List Nat) : chS (psN N w0 a).1 (psN N w0 a).2.1 w (psN N w0 a).2.2 = if chS N.1 N.2.1 w N.2.2 < nI 0 then (if w0 = w ∧ ¬ a < nI 0 then a else -1) else chS N.1 N.2.1 w N.2.2 := by
  have e : chS (psN N w0 a).1 (psN N w0 a).2.1 w N.2.2 = chS N.1 N.2.1 w N.2.2 := chS_cg _ (fun i hi => ⟨if_neg (by omega), if_neg (by omega)⟩)
  show chS (psN N w0 a).1 (psN N w0 a).2.1 w (N.2.2 + 1) = _
  rw [chS, e, show (psN N w0 a).1 N.2.2 = w0 from if_pos rfl, show (psN N w0 a).2.1 N.2.2 = a from if_pos rfl]
theorem psN_dp (N : (Nat → List Nat) × (Nat → Int32) × Nat) (w0 : List Nat) (a : Int32) (w : List Nat) : dpS (psN N w0 a).1 w (psN N w0 a).2.2 = (dpS N.1 w N.2.2 || decide (w0 = w)) := by
  have e : dpS (psN N w0 a).1 w N.2.2 = dpS N.1 w N.2.2 := dpS_cg _ (fun i hi => if_neg (by omega))
  show dpS (psN N w0 a).1 w (N.2.2 + 1) = _
  rw [dpS, e, show (psN N w0 a).1 N.2.2 = w0 from if_pos rfl]
theorem chS_in {nm : Nat → List Nat} {na : Nat → Int32} {C : Nat} {w : List Nat} : ∀ k, (∀ i, i < k → na i = -1 ∨ ∃ c, c < C ∧ na i = nI c) → chS nm na w k = -1 ∨ ∃ c, c < C ∧ chS nm na w k = nI c
  | 0, _ => Or.inl rfl
  | k + 1, h => by
    rw [chS]
    split
    · split
      · rename_i h1
        rcases h k (by omega) with h2 | h2
        · rw [h2] at h1; exact absurd (show (-1 : Int32) < nI 0 by decide) h1.2
        · exact Or.inr h2
      · exact Or.inl rfl
    · exact chS_in k (fun i hi => h i (by omega))

/-! a tape's bytes as tokens -/
theorem an255 (x : Int32) : x &&& nI 255 = nI (x.toBitVec &&& 255#32).toNat ∧ (x.toBitVec &&& 255#32).toNat < 256 := by
  refine ⟨?_, ?_⟩
  · apply Int32.toBitVec_inj.mp
    rw [Int32.toBitVec_and]
    show _ = BitVec.ofNat 32 _
    rw [BitVec.ofNat_toNat, BitVec.setWidth_eq]
    rfl
  · rw [BitVec.toNat_and]; exact Nat.lt_of_le_of_lt Nat.and_le_right (by decide)
/-- a byte of the tape -/
def bt (B : Nat → Int32) (j : Nat) : Nat := ((B j).toBitVec &&& 255#32).toNat
theorem bt_lt (B : Nat → Int32) (j : Nat) : bt B j < 256 := (an255 (B j)).2
theorem bt_ok (B : Nat → Int32) (j : Nat) : B j &&& nI 255 = nI (bt B j) := (an255 (B j)).1
def isLt (c : Nat) : Bool := decide (97 ≤ c ∧ c ≤ 122)
def isDg (c : Nat) : Bool := decide (48 ≤ c ∧ c ≤ 57)
def isBl (c : Nat) : Bool := decide (c = 32 ∨ c = 9 ∨ c = 10 ∨ c = 13)
theorem isLt_i {c : Nat} : isLt c = true ↔ 97 ≤ c ∧ c ≤ 122 := decide_eq_true_iff
theorem isDg_i {c : Nat} : isDg c = true ↔ 48 ≤ c ∧ c ≤ 57 := decide_eq_true_iff
theorem isBl_i {c : Nat} : isBl c = true ↔ (c = 32 ∨ c = 9 ∨ c = 10 ∨ c = 13) := decide_eq_true_iff
/-- where a run of such bytes ends -/
def rnE (p : Nat → Bool) (b : Nat → Nat) (n : Nat) : Nat → Nat → Nat
  | 0, i => i
  | f + 1, i => if i < n ∧ p (b i) = true then rnE p b n f (i + 1) else i
def rn (p : Nat → Bool) (b : Nat → Nat) (n i : Nat) : Nat := rnE p b n (n - i) i
theorem rn_y {p : Nat → Bool} {b : Nat → Nat} {n i : Nat} (h1 : i < n) (h2 : p (b i) = true) : rn p b n i = rn p b n (i + 1) := by
  unfold rn
  rw [show n - i = n - (i + 1) + 1 by omega, rnE, if_pos ⟨h1, h2⟩]
theorem rn_n {p : Nat → Bool} {b : Nat → Nat} {n i : Nat} (h : ¬ (i < n ∧ p (b i) = true)) : rn p b n i = i := by
  unfold rn
  cases n - i with
  | zero => rfl
  | succ f => rw [rnE, if_neg h]
theorem rnE_ge (p : Nat → Bool) (b : Nat → Nat) (n : Nat) : ∀ f i, i ≤ rnE p b n f i ∧ (i ≤ n → rnE p b n f i ≤ n) ∧ ∀ j, i ≤ j → j < rnE p b n f i → p (b j) = true
  | 0, i => ⟨Nat.le_refl _, fun h => h, fun j h1 h2 => absurd h2 (by rw [rnE]; omega)⟩
  | f + 1, i => by
    obtain ⟨h1, h2, h3⟩ := rnE_ge p b n f (i + 1)
    rw [rnE]
    split
    · rename_i hc
      refine ⟨by omega, fun _ => h2 (by omega), fun j h4 h5 => ?_⟩
      by_cases z : j = i
      · rw [z]; exact hc.2
      · exact h3 j (by omega) h5
    · exact ⟨Nat.le_refl _, fun h => h, fun j h4 h5 => by omega⟩
theorem rn_ge (p : Nat → Bool) (b : Nat → Nat) (n i : Nat) : i ≤ rn p b n i := (rnE_ge p b n _ i).1
theorem rn_le (p : Nat → Bool) (b : Nat → Nat) {n i : Nat} (h : i ≤ n) : rn p b n i ≤ n := (rnE_ge p b n _ i).2.1 h
theorem rn_all (p : Nat → Bool) (b : Nat → Nat) (n i : Nat) : ∀ j, i ≤ j → j < rn p b n i → p (b j) = true := (rnE_ge p b n _ i).2.2
theorem rn_gt {p : Nat → Bool} {b : Nat → Nat} {n i : Nat} (h1 : i < n) (h2 : p (b i) = true) : i < rn p b n i := by
  rw [rn_y h1 h2]; exact rn_ge p b n (i + 1)
/-- letters from i on, the last first; and as a number -/
def lt_ (b : Nat → Nat) (i : Nat) : Nat → List Nat
  | 0 => []
  | l + 1 => (b (i + l) - 96) :: lt_ b i l
def vl_ (q : Nat) : List Nat → Nat
  | [] => 0
  | x :: xs => x + q * vl_ q xs
def dg_ (b : Nat → Nat) (i : Nat) : Nat → Nat
  | 0 => 0
  | l + 1 => 10 * dg_ b i l + (b (i + l) - 48)
def ltr (xs : List Nat) : Prop := ∀ x, x ∈ xs → 1 ≤ x ∧ x ≤ 26
theorem lt_ltr {b : Nat → Nat} {i : Nat} : ∀ l, (∀ j, i ≤ j → j < i + l → isLt (b j) = true) → ltr (lt_ b i l)
  | 0, _ => fun x hx => absurd hx (List.not_mem_nil)
  | l + 1, h => fun x hx => by
    rcases List.mem_cons.mp hx with h1 | h1
    · have := isLt_i.mp (h (i + l) (by omega) (by omega)); omega
    · exact lt_ltr l (fun j h2 h3 => h j h2 (by omega)) x h1
theorem lt_len (b : Nat → Nat) (i : Nat) : ∀ l, (lt_ b i l).length = l
  | 0 => rfl
  | l + 1 => by rw [lt_, List.length_cons, lt_len b i l]
theorem vl_inj {q : Nat} (hq : 27 ≤ q) : ∀ xs ys, ltr xs → ltr ys → vl_ q xs = vl_ q ys → xs = ys
  | [], [], _, _, _ => rfl
  | [], y :: ys, _, h2, h => by have := h2 y (List.mem_cons_self ..); rw [vl_, vl_] at h; omega
  | x :: xs, [], h1, _, h => by have := h1 x (List.mem_cons_self ..); rw [vl_, vl_] at h; omega
  | x :: xs, y :: ys, h1, h2, h => by
    have hx := h1 x (List.mem_cons_self ..)
    have hy := h2 y (List.mem_cons_self ..)
    rw [vl_, vl_] at h
    have e1 : x = y := by
      have := congrArg (fun z => z % q) h
      rw [Nat.add_mul_mod_self_left, Nat.add_mul_mod_self_left, Nat.mod_eq_of_lt (by omega), Nat.mod_eq_of_lt (by omega)] at this
      exact this
    subst e1
    have e2 : vl_ q xs = vl_ q ys := Nat.eq_of_mul_eq_mul_left (show 0 < q by omega) (by omega)
    rw [vl_inj hq xs ys (fun z hz => h1 z (List.mem_cons_of_mem _ hz)) (fun z hz => h2 z (List.mem_cons_of_mem _ hz)) e2]
theorem vl_lt {q : Nat} (hq : 27 ≤ q) : ∀ xs, ltr xs → vl_ q xs < q ^ xs.length
  | [], _ => by rw [vl_]; exact Nat.pow_pos (by omega)
  | x :: xs, h => by
    have hx := h x (List.mem_cons_self ..)
    have ih := vl_lt hq xs (fun z hz => h z (List.mem_cons_of_mem _ hz))
    rw [vl_, List.length_cons, Nat.pow_succ, Nat.mul_comm (q ^ xs.length) q]
    have h2 := Nat.mul_le_mul_left q (show vl_ q xs + 1 ≤ q ^ xs.length from ih)
    rw [Nat.mul_add] at h2
    omega
theorem vl_8 {q : Nat} (hq : 27 ≤ q) (hq2 : q ≤ 32) {xs : List Nat} (h : ltr xs) (hl : xs.length ≤ 8) : vl_ q xs < 2 ^ 40 := by
  have h1 := vl_lt hq xs h
  have h2 := Nat.pow_le_pow_left hq2 xs.length
  have h3 := Nat.pow_le_pow_right (show 0 < 32 by decide) hl
  have h4 : 32 ^ 8 = 2 ^ 40 := by decide
  omega
/-- words with a meaning -/
def kwL : List (List Nat) := [[8, 3, 18, 21, 8, 3], [4, 1, 15, 18], [3, 9, 12, 5, 18], [13, 9, 18, 7, 12, 9, 16], [19, 23, 1, 18, 4], [19, 12, 1, 5, 8], [19, 5, 22, 9, 7], [5, 22, 1, 5, 12], [20, 8, 7, 21, 1, 3], [4, 5, 5, 19], [5, 21, 18, 20], [25, 16, 15, 3], [6, 9], [14, 5, 8, 20], [5, 19, 12, 5], [19, 3, 9, 12, 5, 18], [19, 18, 5, 4, 14, 15, 23], [18, 1, 6], [4, 5, 5, 14], [20, 6, 9, 7], [19, 20, 8, 7, 9, 14], [8, 3, 20, 1, 23], [19, 18, 1, 5, 25], [8, 20, 21, 18, 20]]
def kwd (k : Nat) : List Nat := kwL.getD k []
def pmL : List Nat := [0, 1, 2, 3, 10, 11, 4, 5, 6, 7, 8, 9, 12, 13, 14, 15, 16, 17, 18, 19, 20, 21, 22, 23]
def pm (k : Nat) : Nat := pmL.getD k 0
/-- the first such word from i on -/
def wk (xs : List Nat) : Nat → Nat → Nat
  | 0, _ => 24
  | f + 1, i => if kwd i = xs then i else wk xs f (i + 1)
def wkd (xs : List Nat) : Nat := wk xs 24 0
def mkL : List Nat := [20, 21, 22, 23, 26, 27, 28, 29, 30, 31, 24, 25, 32, 33, 34, 35, 36, 37, 38, 39, 40, 41, 42, 43, 1, 2, 0, 3]
/-- the model's number of a kind -/
def mk (k : Nat) : Nat := if k < 28 then mkL.getD k 0 else if k = 59 then 4 else if k = 61 then 5 else if k = 40 then 6 else if k = 41 then 7 else if k = 43 then 8 else if k = 45 then 9 else if k = 42 then 10 else if k = 60 then 13 else if k = 47 then 15 else 3
def sgS (c : Nat) : Bool := decide (c = 59 ∨ c = 61 ∨ c = 43 ∨ c = 45 ∨ c = 42 ∨ c = 47 ∨ c = 60 ∨ c = 40 ∨ c = 41)
def mq (xs : List Nat) : Nat → Nat
  | 0 => 1
  | k + 1 => if kwd (pm k) = xs then 20 + k else mq xs k
theorem kw_ltr : ∀ k, k < 24 → ltr (kwd k) ∧ (kwd k).length ≤ 8 := by
  have h : ∀ k, k < 24 → (kwd k).all (fun x => decide (1 ≤ x ∧ x ≤ 26)) = true ∧ (kwd k).length ≤ 8 := by decide +kernel
  exact fun k hk => ⟨fun x hx => decide_eq_true_iff.mp (List.all_eq_true.mp (h k hk).1 x hx), (h k hk).2⟩
theorem wk_kw : ∀ k, k < 24 → wkd (kwd k) = k ∧ mq (kwd k) 24 = mk k := by decide +kernel
theorem pm_lt : ∀ k, k < 24 → pm k < 24 := by decide +kernel
theorem wk_in (xs : List Nat) : ∀ f i, (wk xs f i = 24 ∧ ∀ j, i ≤ j → j < i + f → kwd j ≠ xs) ∨ ∃ j, i ≤ j ∧ j < i + f ∧ wk xs f i = j ∧ kwd j = xs
  | 0, i => Or.inl ⟨rfl, fun j h1 h2 => by omega⟩
  | f + 1, i => by
    rw [wk]
    split
    · rename_i h; exact Or.inr ⟨i, by omega, by omega, rfl, h⟩
    · rename_i h
      rcases wk_in xs f (i + 1) with ⟨h1, h2⟩ | ⟨j, h1, h2, h3, h4⟩
      · refine Or.inl ⟨h1, fun j h3 h4 => ?_⟩
        by_cases z : j = i
        · rw [z]; exact h
        · exact h2 j (by omega) (by omega)
      · exact Or.inr ⟨j, by omega, by omega, h3, h4⟩
theorem mq_no (xs : List Nat) (h : ∀ j, j < 24 → kwd j ≠ xs) : ∀ k, k ≤ 24 → mq xs k = 1
  | 0, _ => rfl
  | k + 1, hk => by rw [mq, if_neg (h _ (pm_lt k (by omega))), mq_no xs h k (by omega)]
theorem mq_ok (xs : List Nat) : mq xs 24 = mk (wkd xs) := by
  rcases wk_in xs 24 0 with ⟨h1, h2⟩ | ⟨j, h1, h2, h3, h4⟩
  · rw [mq_no xs (fun j hj => h2 j (by omega) (by omega)) 24 (by omega)]
    show 1 = mk (wk xs 24 0)
    rw [h1]; rfl
  · rw [← h4, (wk_kw j (by omega)).2, (wk_kw j (by omega)).1]
theorem wkd_le (xs : List Nat) : wkd xs ≤ 24 := by
  rcases wk_in xs 24 0 with ⟨h1, h2⟩ | ⟨j, h1, h2, h3, h4⟩
  · show wk xs 24 0 ≤ 24; omega
  · show wk xs 24 0 ≤ 24; omega
/-- the kind of what begins at i: a word's number, 24 a name, 25 a number, 26 the end, 27 nothing, or a sign's byte -/
def kdA (b : Nat → Nat) (n i : Nat) : Nat := if n ≤ i then 26 else if isLt (b i) = true then (if 8 < rn isLt b n i - i then 27 else wkd (lt_ b i (rn isLt b n i - i))) else if isDg (b i) = true then (if 4 < rn isDg b n i - i then 27 else 25) else if sgS (b i) = true then b i else 27
def enA (b : Nat → Nat) (n i : Nat) : Nat := if isLt (b i) = true then rn isLt b n i else if isDg (b i) = true then rn isDg b n i else i + 1
/-- where the k-th begins -/
def stA (b : Nat → Nat) (n : Nat) : Nat → Nat
  | 0 => rn isBl b n 0
  | k + 1 => if n ≤ stA b n k then n else rn isBl b n (enA b n (stA b n k))
def kd (b : Nat → Nat) (n k : Nat) : Nat := kdA b n (stA b n k)
def wdT (b : Nat → Nat) (n k : Nat) : List Nat := lt_ b (stA b n k) (rn isLt b n (stA b n k) - stA b n k)
def nuT (b : Nat → Nat) (n k : Nat) : Nat := dg_ b (stA b n k) (rn isDg b n (stA b n k) - stA b n k)
theorem enA_gt {b : Nat → Nat} {n i : Nat} (h : i < n) : i < enA b n i ∧ enA b n i ≤ n := by
  unfold enA
  split
  · rename_i h1; exact ⟨rn_gt h h1, rn_le _ _ (by omega)⟩
  · split
    · rename_i h1; exact ⟨rn_gt h h1, rn_le _ _ (by omega)⟩
    · omega
theorem stA_le (b : Nat → Nat) (n : Nat) : ∀ k, stA b n k ≤ n
  | 0 => rn_le _ _ (Nat.zero_le _)
  | k + 1 => by
    rw [stA]
    split
    · exact Nat.le_refl _
    · exact rn_le _ _ (enA_gt (by omega)).2
theorem stA_lt {b : Nat → Nat} {n k : Nat} (h : stA b n k < n) : stA b n k < stA b n (k + 1) := by
  rw [show stA b n (k + 1) = if n ≤ stA b n k then n else rn isBl b n (enA b n (stA b n k)) from rfl, if_neg (by omega)]
  exact Nat.lt_of_lt_of_le (enA_gt h).1 (rn_ge _ _ _ _)
theorem sg_k {c : Nat} (h : sgS c = true) : 40 ≤ c ∧ c ≤ 61 := by
  unfold sgS at h
  rw [decide_eq_true_iff] at h
  omega
theorem kd_26 {b : Nat → Nat} {n i : Nat} : kdA b n i = 26 ↔ n ≤ i := by
  unfold kdA
  split
  · exact ⟨fun _ => by assumption, fun _ => rfl⟩
  · rename_i h
    refine ⟨fun z => ?_, fun z => absurd z h⟩
    exfalso
    split at z
    · split at z
      · omega
      · have := wkd_le (lt_ b i (rn isLt b n i - i)); omega
    · split at z
      · split at z <;> omega
      · split at z
        · rename_i h2; have := sg_k h2; omega
        · omega
theorem kd_lt (b : Nat → Nat) (n i : Nat) : kdA b n i < 62 := by
  unfold kdA
  split
  · omega
  · split
    · split
      · omega
      · have := wkd_le (lt_ b i (rn isLt b n i - i)); omega
    · split
      · split <;> omega
      · split
        · rename_i h2; have := sg_k h2; omega
        · omega
/-- all tokens before k go on -/
def gdT (b : Nat → Nat) (n k : Nat) : Prop := ∀ j, j < k → kd b n j ≠ 26 ∧ kd b n j ≠ 27
theorem gdT.lt {b : Nat → Nat} {n k : Nat} (h : gdT b n k) {j : Nat} (hj : j < k) : stA b n j < n := by
  have := (h j hj).1
  unfold kd at this
  rw [Ne, kd_26] at this
  omega
theorem stA_mono {b : Nat → Nat} {n k : Nat} (h : gdT b n k) : ∀ d i, i + d + 1 ≤ k → stA b n i < stA b n (i + d + 1)
  | 0, i, hi => stA_lt (h.lt (by omega))
  | d + 1, i, hi => Nat.lt_trans (stA_mono h d i (by omega)) (stA_lt (h.lt (by omega)))
theorem st_mono {b : Nat → Nat} {n k i j : Nat} (h : gdT b n k) (h1 : i < j) (h2 : j ≤ k) : stA b n i < stA b n j := by
  have := stA_mono h (j - i - 1) i (by omega)
  rwa [show i + (j - i - 1) + 1 = j by omega] at this
theorem kd_24 {b : Nat → Nat} {n i : Nat} (h : kdA b n i = 24) : isLt (b i) = true ∧ i < n ∧ rn isLt b n i - i ≤ 8 := by
  unfold kdA at h
  split at h
  · omega
  · split at h
    · rename_i h1
      split at h
      · omega
      · exact ⟨h1, by omega, by omega⟩
    · split at h
      · split at h <;> omega
      · split at h
        · rename_i h2; have := sg_k h2; omega
        · omega
theorem kd_25 {b : Nat → Nat} {n i : Nat} (h : kdA b n i = 25) : isLt (b i) = false ∧ isDg (b i) = true ∧ i < n ∧ rn isDg b n i - i ≤ 4 := by
  unfold kdA at h
  split at h
  · omega
  · split at h
    · split at h
      · omega
      · have := wkd_le (lt_ b i (rn isLt b n i - i)); omega
    · rename_i h1
      split at h
      · rename_i h2
        split at h
        · omega
        · exact ⟨by rwa [Bool.not_eq_true] at h1, h2, by omega, by omega⟩
      · split at h
        · rename_i h2; have := sg_k h2; omega
        · omega
theorem wd_ltr (b : Nat → Nat) (n k : Nat) : ltr (wdT b n k) := lt_ltr _ (fun j h1 h2 => rn_all isLt b n _ j h1 (by have := rn_ge isLt b n (stA b n k); omega))
theorem dg_b {b : Nat → Nat} {i : Nat} : ∀ l, (∀ j, i ≤ j → j < i + l → isDg (b j) = true) → dg_ b i l < 10 ^ l
  | 0, _ => by rw [dg_]; decide
  | l + 1, h => by
    have ih := dg_b l (fun j h2 h3 => h j h2 (by omega))
    have := isDg_i.mp (h (i + l) (by omega) (by omega))
    rw [dg_, Nat.pow_succ]
    omega
theorem nu_lt {b : Nat → Nat} {n k : Nat} (h : kd b n k = 25) : nuT b n k ≤ 9999 := by
  have h1 := kd_25 h
  have h2 := dg_b (b := b) (i := stA b n k) (rn isDg b n (stA b n k) - stA b n k) (fun j h3 h4 => rn_all isDg b n _ j h3 (by have := rn_ge isDg b n (stA b n k); omega))
  have h3 := Nat.pow_le_pow_right (show 0 < 10 by decide) h1.2.2.2
  unfold nuT
  omega
theorem skb_n {b : Nat → Nat} {n i : Nat} (h : n ≤ i) : rn isBl b n i = i := rn_n (by omega)

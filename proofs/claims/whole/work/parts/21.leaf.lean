/-! contracts of the small methods of the class -/
theorem heldS_eq {v m : Int32} (hm : ¬ m < nI 0) : (if nI 0 < (if v < m then v else m) then (if v < m then v else m) else nI 0) = heldS v m := by
  unfold heldS
  rw [nI_0] at *
  simp only [Int32.lt_iff_toInt_lt, Int32.toInt_zero] at *
  by_cases h1 : v.toInt < m.toInt
  · rw [if_pos h1, if_neg (by omega : ¬ m.toInt < v.toInt)]
    by_cases h2 : 0 < v.toInt
    · rw [if_pos h2, if_neg (by omega)]
    · rw [if_neg h2]
      by_cases h3 : v.toInt < 0
      · rw [if_pos h3]
      · rw [if_neg h3]
        exact Int32.toInt_inj.mp (by rw [Int32.toInt_zero]; omega)
  · rw [if_neg h1, if_neg (by omega : ¬ v.toInt < 0)]
    by_cases h2 : m.toInt < v.toInt
    · rw [if_pos h2]
      by_cases h3 : 0 < m.toInt
      · rw [if_pos h3]
      · rw [if_neg h3]
        exact Int32.toInt_inj.mp (by rw [Int32.toInt_zero]; omega)
    · rw [if_neg h2]
      have e : m = v := Int32.toInt_inj.mp (by omega)
      subst e
      by_cases h3 : 0 < m.toInt
      · rw [if_pos h3]
      · rw [if_neg h3]
        exact Int32.toInt_inj.mp (by rw [Int32.toInt_zero]; omega)
theorem win_ok {v : Int32} {lo hi : Nat} {P : Prop} (hl : lo ≤ hi) (hb : hi < 2 ^ 31) (h1 : ∀ k, lo ≤ k → k ≤ hi → v = nI k → P) (c2 : ¬ v < nI lo) (c7 : ¬ nI hi < v) : P := by
  have a1 : (lo : Int) ≤ v.toInt := by rw [Int32.lt_iff_toInt_lt, nI_toInt (by omega)] at c2; omega
  have a2 : v.toInt ≤ (hi : Int) := by rw [Int32.lt_iff_toInt_lt, nI_toInt hb] at c7; omega
  obtain ⟨k, hk, e⟩ := nI_of (x := v) (by rw [Int32.lt_iff_toInt_lt, Int32.toInt_zero]; omega)
  subst e
  rw [nI_toInt hk] at a1 a2
  exact h1 k (by omega) (by omega) rfl
def bc0 (v : Int32) : Int32 := v - ((v.toUInt32 >>> ((nI 1).toUInt32 &&& Int32.toUInt32 31)).toInt32 &&& nI 1431655765)
def bc1 (v : Int32) : Int32 := (v &&& nI 858993459) + ((v.toUInt32 >>> ((nI 2).toUInt32 &&& Int32.toUInt32 31)).toInt32 &&& nI 858993459)
def bc2 (v : Int32) : Int32 := (v + (v.toUInt32 >>> ((nI 4).toUInt32 &&& Int32.toUInt32 31)).toInt32) &&& nI 252645135
def bc3 (v : Int32) : Int32 := v + (v.toUInt32 >>> ((nI 8).toUInt32 &&& Int32.toUInt32 31)).toInt32
def bc4 (v : Int32) : Int32 := v + (v.toUInt32 >>> ((nI 16).toUInt32 &&& Int32.toUInt32 31)).toInt32
def bcS (v : Int32) : Int32 := bc4 (bc3 (bc2 (bc1 (bc0 v)))) &&& nI 63
theorem c_X5_get {d Lx t rt u : Nat} {I : Nat → Nat → Int32} {G : Nat → Nat → Int64} {Q : ab_Q} {c j : Nat} (hc : c = 39 ∨ c = 45) (hj : j < 55) (hq : Q (some (.int (I (c + 1) j))) (hp Lx t rt u I G)) : ab_call ab_MT (d + 1) 74 [.ref c, .int (nI j)] (hp Lx t rt u I G) 0 0 Q := by
  rcases hc with rfl | rfl
  all_goals
    refine wx_in (M := mX5_get) rfl rfl rfl (Nat.le_of_ble_eq_true rfl) ?_
    refine wx_iload_n rfl (e := 1) rfl rfl ?_
    refine wn_if_lt rfl (e := 4) rfl (by omega) ?_
    refine wx_iload_n rfl (e := 5) rfl rfl ?_
    refine wx_bipush (v := (nI 55)) rfl (e := 7) rfl (by decide) ?_
    first | refine wn_ic_ge rfl (e := 10) rfl (by omega) (by omega) (fun c_7 => absurd c_7 (by omega)) (fun c_7 => ?_) | refine wx_ic_ge rfl (e := 10) rfl (fun c_7 => absurd c_7 (by omega)) (fun c_7 => ?_)
    refine wx_aload_n rfl (e := 11) rfl rfl ?_
    refine wx_getr rfl (e := 14) rfl rfl rfl ?_
    refine wx_iload_n rfl (e := 15) rfl rfl ?_
    first | refine wn_iald rfl (e := 16) rfl rfl (by omega) (by decide) ?_ | refine wx_iald rfl (e := 16) rfl rfl (by assumption) ?_
    refine wx_goto rfl ?_
    refine wx_iret rfl rfl rfl ⟨by decide, by decide⟩ ?_
    exact hq
theorem c_X5_set {d Lx t rt u : Nat} {I : Nat → Nat → Int32} {G : Nat → Nat → Int64} {Q : ab_Q} {c j : Nat} {v : Int32} (hc : c = 39 ∨ c = 45) (hj : j < 55) (hq : Q none (hp Lx t rt u (wr I (c + 1) j v) G)) : ab_call ab_MT (d + 1) 75 [.ref c, .int (nI j), .int v] (hp Lx t rt u I G) 0 0 Q := by
  rcases hc with rfl | rfl
  all_goals
    refine wx_in (M := mX5_set) rfl rfl rfl (Nat.le_of_ble_eq_true rfl) ?_
    refine wx_iload_n rfl (e := 1) rfl rfl ?_
    refine wn_if_lt rfl (e := 4) rfl (by omega) ?_
    refine wx_iload_n rfl (e := 5) rfl rfl ?_
    refine wx_bipush (v := (nI 55)) rfl (e := 7) rfl (by decide) ?_
    first | refine wn_ic_ge rfl (e := 10) rfl (by omega) (by omega) (fun c_7 => absurd c_7 (by omega)) (fun c_7 => ?_) | refine wx_ic_ge rfl (e := 10) rfl (fun c_7 => absurd c_7 (by omega)) (fun c_7 => ?_)
    refine wx_aload_n rfl (e := 11) rfl rfl ?_
    refine wx_getr rfl (e := 14) rfl rfl rfl ?_
    refine wx_iload_n rfl (e := 15) rfl rfl ?_
    refine wx_iload_n rfl (e := 16) rfl rfl ?_
    first | refine wn_iast rfl (e := 17) rfl rfl (by decide) (by omega) (by decide) ?_ | refine wx_iast rfl (e := 17) rfl rfl (by decide) (by assumption) ?_
    refine wx_ret rfl rfl ⟨by decide, by decide⟩ ?_
    exact hq
theorem c_X5_add {d Lx t rt u : Nat} {I : Nat → Nat → Int32} {G : Nat → Nat → Int64} {Q : ab_Q} {c j : Nat} {v : Int32} (hc : c = 39 ∨ c = 45) (hj : j < 55) (hq : Q none (hp Lx t rt u (wr I (c + 1) j (I (c + 1) j + v)) G)) : ab_call ab_MT (d + 1) 76 [.ref c, .int (nI j), .int v] (hp Lx t rt u I G) 0 0 Q := by
  rcases hc with rfl | rfl
  all_goals
    refine wx_in (M := mX5_add) rfl rfl rfl (Nat.le_of_ble_eq_true rfl) ?_
    refine wx_iload_n rfl (e := 1) rfl rfl ?_
    refine wn_if_lt rfl (e := 4) rfl (by omega) ?_
    refine wx_iload_n rfl (e := 5) rfl rfl ?_
    refine wx_bipush (v := (nI 55)) rfl (e := 7) rfl (by decide) ?_
    first | refine wn_ic_ge rfl (e := 10) rfl (by omega) (by omega) (fun c_7 => absurd c_7 (by omega)) (fun c_7 => ?_) | refine wx_ic_ge rfl (e := 10) rfl (fun c_7 => absurd c_7 (by omega)) (fun c_7 => ?_)
    refine wx_aload_n rfl (e := 11) rfl rfl ?_
    refine wx_getr rfl (e := 14) rfl rfl rfl ?_
    refine wx_iload_n rfl (e := 15) rfl rfl ?_
    refine wx_dup2 rfl (e := 16) rfl ⟨rfl, rfl⟩ ?_
    first | refine wn_iald rfl (e := 17) rfl rfl (by omega) (by decide) ?_ | refine wx_iald rfl (e := 17) rfl rfl (by assumption) ?_
    refine wx_iload_n rfl (e := 18) rfl rfl ?_
    first | refine wn_iadd rfl (e := 19) rfl ?_ | refine wx_iadd rfl (e := 19) rfl ?_
    first | refine wn_iast rfl (e := 20) rfl rfl (by decide) (by omega) (by decide) ?_ | refine wx_iast rfl (e := 20) rfl rfl (by decide) (by assumption) ?_
    refine wx_ret rfl rfl ⟨by decide, by decide⟩ ?_
    exact hq
theorem c_X7_churches {d Lx t rt u : Nat} {I : Nat → Nat → Int32} {G : Nat → Nat → Int64} {Q : ab_Q} {o : Nat} (ho : o = 1 ∨ o = 16) (hq : Q (some (.int (I o 10))) (hp Lx t rt u I G)) : ab_call ab_MT (d + 1) 92 [.ref o] (hp Lx t rt u I G) 0 0 Q := by
  rcases ho with rfl | rfl
  all_goals
    refine wx_in (M := mX7_churches) rfl rfl rfl (Nat.le_of_ble_eq_true rfl) ?_
    refine wx_aload_n rfl (e := 1) rfl rfl ?_
    refine wx_geti rfl (e := 4) rfl rfl ?_
    refine wx_iret rfl rfl rfl ⟨by decide, by decide⟩ ?_
    exact hq
theorem c_X7_roads {d Lx t rt u : Nat} {I : Nat → Nat → Int32} {G : Nat → Nat → Int64} {Q : ab_Q} {o : Nat} (ho : o = 1 ∨ o = 16) (hq : Q (some (.int (I o 11))) (hp Lx t rt u I G)) : ab_call ab_MT (d + 1) 93 [.ref o] (hp Lx t rt u I G) 0 0 Q := by
  rcases ho with rfl | rfl
  all_goals
    refine wx_in (M := mX7_roads) rfl rfl rfl (Nat.le_of_ble_eq_true rfl) ?_
    refine wx_aload_n rfl (e := 1) rfl rfl ?_
    refine wx_geti rfl (e := 4) rfl rfl ?_
    refine wx_iret rfl rfl rfl ⟨by decide, by decide⟩ ?_
    exact hq
theorem c_X7_relics {d Lx t rt u : Nat} {I : Nat → Nat → Int32} {G : Nat → Nat → Int64} {Q : ab_Q} {o : Nat} (ho : o = 1 ∨ o = 16) (hq : Q (some (.int (I o 12))) (hp Lx t rt u I G)) : ab_call ab_MT (d + 1) 94 [.ref o] (hp Lx t rt u I G) 0 0 Q := by
  rcases ho with rfl | rfl
  all_goals
    refine wx_in (M := mX7_relics) rfl rfl rfl (Nat.le_of_ble_eq_true rfl) ?_
    refine wx_aload_n rfl (e := 1) rfl rfl ?_
    refine wx_geti rfl (e := 4) rfl rfl ?_
    refine wx_iret rfl rfl rfl ⟨by decide, by decide⟩ ?_
    exact hq
theorem c_X7_trueRelics {d Lx t rt u : Nat} {I : Nat → Nat → Int32} {G : Nat → Nat → Int64} {Q : ab_Q} {o : Nat} (ho : o = 1 ∨ o = 16) (hq : Q (some (.int (I o 13))) (hp Lx t rt u I G)) : ab_call ab_MT (d + 1) 95 [.ref o] (hp Lx t rt u I G) 0 0 Q := by
  rcases ho with rfl | rfl
  all_goals
    refine wx_in (M := mX7_trueRelics) rfl rfl rfl (Nat.le_of_ble_eq_true rfl) ?_
    refine wx_aload_n rfl (e := 1) rfl rfl ?_
    refine wx_geti rfl (e := 4) rfl rfl ?_
    refine wx_iret rfl rfl rfl ⟨by decide, by decide⟩ ?_
    exact hq
theorem c_X7_pilgrims {d Lx t rt u : Nat} {I : Nat → Nat → Int32} {G : Nat → Nat → Int64} {Q : ab_Q} {o : Nat} (ho : o = 1 ∨ o = 16) (hq : Q (some (.int (I o 14))) (hp Lx t rt u I G)) : ab_call ab_MT (d + 1) 96 [.ref o] (hp Lx t rt u I G) 0 0 Q := by
  rcases ho with rfl | rfl
  all_goals
    refine wx_in (M := mX7_pilgrims) rfl rfl rfl (Nat.le_of_ble_eq_true rfl) ?_
    refine wx_aload_n rfl (e := 1) rfl rfl ?_
    refine wx_geti rfl (e := 4) rfl rfl ?_
    refine wx_iret rfl rfl rfl ⟨by decide, by decide⟩ ?_
    exact hq
theorem c_X7_seed {d Lx t rt u : Nat} {I : Nat → Nat → Int32} {G : Nat → Nat → Int64} {Q : ab_Q} {o : Nat} (ho : o = 1 ∨ o = 16) (hq : Q (some (.int (I o 15))) (hp Lx t rt u I G)) : ab_call ab_MT (d + 1) 97 [.ref o] (hp Lx t rt u I G) 0 0 Q := by
  rcases ho with rfl | rfl
  all_goals
    refine wx_in (M := mX7_seed) rfl rfl rfl (Nat.le_of_ble_eq_true rfl) ?_
    refine wx_aload_n rfl (e := 1) rfl rfl ?_
    refine wx_geti rfl (e := 4) rfl rfl ?_
    refine wx_iret rfl rfl rfl ⟨by decide, by decide⟩ ?_
    exact hq
theorem c_X7_laws {d Lx t rt u : Nat} {I : Nat → Nat → Int32} {G : Nat → Nat → Int64} {Q : ab_Q} {o : Nat} (ho : o = 1 ∨ o = 16) (hq : Q (some (.ref (o + 1))) (hp Lx t rt u I G)) : ab_call ab_MT (d + 1) 91 [.ref o] (hp Lx t rt u I G) 0 0 Q := by
  rcases ho with rfl | rfl
  all_goals
    refine wx_in (M := mX7_laws) rfl rfl rfl (Nat.le_of_ble_eq_true rfl) ?_
    refine wx_aload_n rfl (e := 1) rfl rfl ?_
    refine wx_getr rfl (e := 4) rfl rfl rfl ?_
    refine wx_aret rfl rfl (by decide) ⟨by decide, by decide⟩ ?_
    exact hq
theorem c_X7_watchersOf {d Lx t rt u : Nat} {I : Nat → Nat → Int32} {G : Nat → Nat → Int64} {Q : ab_Q} {o n k : Nat} (ho : o = 1 ∨ o = 16) (hn : I o 10 = nI n) (hk : k < n) (hb : n < 2 ^ 31) (hj : k < 6) (hq : Q (some (.int (I (o + 9) k))) (hp Lx t rt u I G)) : ab_call ab_MT (d + 1) 102 [.ref o, .int (nI k)] (hp Lx t rt u I G) 0 0 Q := by
  rcases ho with rfl | rfl
  all_goals
    refine wx_in (M := mX7_watchersOf) rfl rfl rfl (Nat.le_of_ble_eq_true rfl) ?_
    refine wx_iload_n rfl (e := 1) rfl rfl ?_
    refine wn_if_lt rfl (e := 4) rfl (by omega) ?_
    refine wx_iload_n rfl (e := 5) rfl rfl ?_
    refine wx_aload_n rfl (e := 6) rfl rfl ?_
    refine wx_geti rfl (e := 9) rfl rfl ?_
    rw [hn]
    first | refine wn_ic_ge rfl (e := 12) rfl (by omega) (by omega) (fun c_9 => absurd c_9 (by omega)) (fun c_9 => ?_) | refine wx_ic_ge rfl (e := 12) rfl (fun c_9 => absurd c_9 (by omega)) (fun c_9 => ?_)
    refine wx_aload_n rfl (e := 13) rfl rfl ?_
    refine wx_getr rfl (e := 16) rfl rfl rfl ?_
    refine wx_iload_n rfl (e := 17) rfl rfl ?_
    first | refine wn_iald rfl (e := 18) rfl rfl (by omega) (by decide) ?_ | refine wx_iald rfl (e := 18) rfl rfl (by assumption) ?_
    refine wx_goto rfl ?_
    refine wx_iret rfl rfl rfl ⟨by decide, by decide⟩ ?_
    exact hq
theorem c_X7_home {d Lx t rt u : Nat} {I : Nat → Nat → Int32} {G : Nat → Nat → Int64} {Q : ab_Q} {o n k : Nat} (ho : o = 1 ∨ o = 16) (hn : I o 14 = nI n) (hk : k < n) (hb : n < 2 ^ 31) (hj : k < 5) (hq : Q (some (.int (I (o + 12) k))) (hp Lx t rt u I G)) : ab_call ab_MT (d + 1) 104 [.ref o, .int (nI k)] (hp Lx t rt u I G) 0 0 Q := by
  rcases ho with rfl | rfl
  all_goals
    refine wx_in (M := mX7_home) rfl rfl rfl (Nat.le_of_ble_eq_true rfl) ?_
    refine wx_iload_n rfl (e := 1) rfl rfl ?_
    refine wn_if_lt rfl (e := 4) rfl (by omega) ?_
    refine wx_iload_n rfl (e := 5) rfl rfl ?_
    refine wx_aload_n rfl (e := 6) rfl rfl ?_
    refine wx_geti rfl (e := 9) rfl rfl ?_
    rw [hn]
    first | refine wn_ic_ge rfl (e := 12) rfl (by omega) (by omega) (fun c_9 => absurd c_9 (by omega)) (fun c_9 => ?_) | refine wx_ic_ge rfl (e := 12) rfl (fun c_9 => absurd c_9 (by omega)) (fun c_9 => ?_)
    refine wx_aload_n rfl (e := 13) rfl rfl ?_
    refine wx_getr rfl (e := 16) rfl rfl rfl ?_
    refine wx_iload_n rfl (e := 17) rfl rfl ?_
    first | refine wn_iald rfl (e := 18) rfl rfl (by omega) (by decide) ?_ | refine wx_iald rfl (e := 18) rfl rfl (by assumption) ?_
    refine wx_goto rfl ?_
    refine wx_iret rfl rfl rfl ⟨by decide, by decide⟩ ?_
    exact hq
theorem c_X7_needOf {d Lx t rt u : Nat} {I : Nat → Nat → Int32} {G : Nat → Nat → Int64} {Q : ab_Q} {o n k : Nat} (ho : o = 1 ∨ o = 16) (hn : I o 14 = nI n) (hk : k < n) (hb : n < 2 ^ 31) (hj : k < 5) (hq : Q (some (.int (I (o + 13) k))) (hp Lx t rt u I G)) : ab_call ab_MT (d + 1) 105 [.ref o, .int (nI k)] (hp Lx t rt u I G) 0 0 Q := by
  rcases ho with rfl | rfl
  all_goals
    refine wx_in (M := mX7_needOf) rfl rfl rfl (Nat.le_of_ble_eq_true rfl) ?_
    refine wx_iload_n rfl (e := 1) rfl rfl ?_
    refine wn_if_lt rfl (e := 4) rfl (by omega) ?_
    refine wx_iload_n rfl (e := 5) rfl rfl ?_
    refine wx_aload_n rfl (e := 6) rfl rfl ?_
    refine wx_geti rfl (e := 9) rfl rfl ?_
    rw [hn]
    first | refine wn_ic_ge rfl (e := 12) rfl (by omega) (by omega) (fun c_9 => absurd c_9 (by omega)) (fun c_9 => ?_) | refine wx_ic_ge rfl (e := 12) rfl (fun c_9 => absurd c_9 (by omega)) (fun c_9 => ?_)
    refine wx_aload_n rfl (e := 13) rfl rfl ?_
    refine wx_getr rfl (e := 16) rfl rfl rfl ?_
    refine wx_iload_n rfl (e := 17) rfl rfl ?_
    first | refine wn_iald rfl (e := 18) rfl rfl (by omega) (by decide) ?_ | refine wx_iald rfl (e := 18) rfl rfl (by assumption) ?_
    refine wx_goto rfl ?_
    refine wx_iret rfl rfl rfl ⟨by decide, by decide⟩ ?_
    exact hq
theorem c_X7_giftOf {d Lx t rt u : Nat} {I : Nat → Nat → Int32} {G : Nat → Nat → Int64} {Q : ab_Q} {o n k : Nat} (ho : o = 1 ∨ o = 16) (hn : I o 14 = nI n) (hk : k < n) (hb : n < 2 ^ 31) (hj : k < 5) (hq : Q (some (.int (I (o + 14) k))) (hp Lx t rt u I G)) : ab_call ab_MT (d + 1) 106 [.ref o, .int (nI k)] (hp Lx t rt u I G) 0 0 Q := by
  rcases ho with rfl | rfl
  all_goals
    refine wx_in (M := mX7_giftOf) rfl rfl rfl (Nat.le_of_ble_eq_true rfl) ?_
    refine wx_iload_n rfl (e := 1) rfl rfl ?_
    refine wn_if_lt rfl (e := 4) rfl (by omega) ?_
    refine wx_iload_n rfl (e := 5) rfl rfl ?_
    refine wx_aload_n rfl (e := 6) rfl rfl ?_
    refine wx_geti rfl (e := 9) rfl rfl ?_
    rw [hn]
    first | refine wn_ic_ge rfl (e := 12) rfl (by omega) (by omega) (fun c_9 => absurd c_9 (by omega)) (fun c_9 => ?_) | refine wx_ic_ge rfl (e := 12) rfl (fun c_9 => absurd c_9 (by omega)) (fun c_9 => ?_)
    refine wx_aload_n rfl (e := 13) rfl rfl ?_
    refine wx_getr rfl (e := 16) rfl rfl rfl ?_
    refine wx_iload_n rfl (e := 17) rfl rfl ?_
    first | refine wn_iald rfl (e := 18) rfl rfl (by omega) (by decide) ?_ | refine wx_iald rfl (e := 18) rfl rfl (by assumption) ?_
    refine wx_goto rfl ?_
    refine wx_iret rfl rfl rfl ⟨by decide, by decide⟩ ?_
    exact hq
theorem c_X7_churchOf {d Lx t rt u : Nat} {I : Nat → Nat → Int32} {G : Nat → Nat → Int64} {Q : ab_Q} {o n k : Nat} (ho : o = 1 ∨ o = 16) (hn : I o 12 = nI n) (hb : n ≤ 6) (hk : k < 6) (hq : k < n → Q (some (.int (I (o + 11) k))) (hp Lx t rt u I G)) (hq2 : n ≤ k → Q (some (.int (-1))) (hp Lx t rt u I G)) : ab_call ab_MT (d + 1) 103 [.ref o, .int (nI k)] (hp Lx t rt u I G) 0 0 Q := by
  rcases ho with rfl | rfl
  all_goals
    refine wx_in (M := mX7_churchOf) rfl rfl rfl (Nat.le_of_ble_eq_true rfl) ?_
    refine wx_iload_n rfl (e := 1) rfl rfl ?_
    refine wn_if_lt rfl (e := 4) rfl (by omega) ?_
    refine wx_iload_n rfl (e := 5) rfl rfl ?_
    refine wx_aload_n rfl (e := 6) rfl rfl ?_
    refine wx_geti rfl (e := 9) rfl rfl ?_
    rw [hn]
    first | refine wn_ic_ge rfl (e := 12) rfl (by omega) (by omega) (fun c_9 => ?_) (fun c_9 => ?_) | refine wx_ic_ge rfl (e := 12) rfl (fun c_9 => ?_) (fun c_9 => ?_)
    · refine wx_iconst (v := (-1)) rfl (e := 22) rfl (by decide) ?_
      refine wx_iret rfl rfl rfl ⟨by decide, by decide⟩ ?_
      first | exact hq (by omega) | exact hq2 (by omega)
    · refine wx_aload_n rfl (e := 13) rfl rfl ?_
      refine wx_getr rfl (e := 16) rfl rfl rfl ?_
      refine wx_iload_n rfl (e := 17) rfl rfl ?_
      first | refine wn_iald rfl (e := 18) rfl rfl (by omega) (by decide) ?_ | refine wx_iald rfl (e := 18) rfl rfl (by assumption) ?_
      refine wx_goto rfl ?_
      refine wx_iret rfl rfl rfl ⟨by decide, by decide⟩ ?_
      first | exact hq (by omega) | exact hq2 (by omega)
theorem c_X7_watchersOf2 {d Lx t rt u : Nat} {I : Nat → Nat → Int32} {G : Nat → Nat → Int64} {Q : ab_Q} {o n k : Nat} (ho : o = 1 ∨ o = 16) (hn : I o 10 = nI n) (hb : n ≤ 6) (hk : k < 6) (hq : k < n → Q (some (.int (I (o + 9) k))) (hp Lx t rt u I G)) (hq2 : n ≤ k → Q (some (.int (nI 0))) (hp Lx t rt u I G)) : ab_call ab_MT (d + 1) 102 [.ref o, .int (nI k)] (hp Lx t rt u I G) 0 0 Q := by
  rcases ho with rfl | rfl
  all_goals
    refine wx_in (M := mX7_watchersOf) rfl rfl rfl (Nat.le_of_ble_eq_true rfl) ?_
    refine wx_iload_n rfl (e := 1) rfl rfl ?_
    refine wn_if_lt rfl (e := 4) rfl (by omega) ?_
    refine wx_iload_n rfl (e := 5) rfl rfl ?_
    refine wx_aload_n rfl (e := 6) rfl rfl ?_
    refine wx_geti rfl (e := 9) rfl rfl ?_
    rw [hn]
    first | refine wn_ic_ge rfl (e := 12) rfl (by omega) (by omega) (fun c_9 => ?_) (fun c_9 => ?_) | refine wx_ic_ge rfl (e := 12) rfl (fun c_9 => ?_) (fun c_9 => ?_)
    · refine wx_iconst (v := (nI 0)) rfl (e := 22) rfl (by decide) ?_
      refine wx_iret rfl rfl rfl ⟨by decide, by decide⟩ ?_
      first | exact hq (by omega) | exact hq2 (by omega)
    · refine wx_aload_n rfl (e := 13) rfl rfl ?_
      refine wx_getr rfl (e := 16) rfl rfl rfl ?_
      refine wx_iload_n rfl (e := 17) rfl rfl ?_
      first | refine wn_iald rfl (e := 18) rfl rfl (by omega) (by decide) ?_ | refine wx_iald rfl (e := 18) rfl rfl (by assumption) ?_
      refine wx_goto rfl ?_
      refine wx_iret rfl rfl rfl ⟨by decide, by decide⟩ ?_
      first | exact hq (by omega) | exact hq2 (by omega)
theorem c_X7_truth {d Lx t rt u : Nat} {I : Nat → Nat → Int32} {G : Nat → Nat → Int64} {Q : ab_Q} {o n k : Nat} (ho : o = 1 ∨ o = 16) (hn : I o 12 = nI n) (hk : k < n) (hb : n < 2 ^ 31) (hq : Q (some (.int ((I o 13 >>> (nI k &&& 31)) &&& nI 1))) (hp Lx t rt u I G)) : ab_call ab_MT (d + 1) 101 [.ref o, .int (nI k)] (hp Lx t rt u I G) 0 0 Q := by
  rcases ho with rfl | rfl
  all_goals
    refine wx_in (M := mX7_truth) rfl rfl rfl (Nat.le_of_ble_eq_true rfl) ?_
    refine wx_iload_n rfl (e := 1) rfl rfl ?_
    refine wn_if_lt rfl (e := 4) rfl (by omega) ?_
    refine wx_iload_n rfl (e := 5) rfl rfl ?_
    refine wx_aload_n rfl (e := 6) rfl rfl ?_
    refine wx_geti rfl (e := 9) rfl rfl ?_
    rw [hn]
    first | refine wn_ic_ge rfl (e := 12) rfl (by omega) (by omega) (fun c_9 => absurd c_9 (by omega)) (fun c_9 => ?_) | refine wx_ic_ge rfl (e := 12) rfl (fun c_9 => absurd c_9 (by omega)) (fun c_9 => ?_)
    refine wx_aload_n rfl (e := 13) rfl rfl ?_
    refine wx_geti rfl (e := 16) rfl rfl ?_
    refine wx_iload_n rfl (e := 17) rfl rfl ?_
    refine wx_ishr rfl (e := 18) rfl ?_
    refine wx_iconst (v := (nI 1)) rfl (e := 19) rfl (by decide) ?_
    refine wx_iand rfl (e := 20) rfl ?_
    refine wx_goto rfl ?_
    refine wx_iret rfl rfl rfl ⟨by decide, by decide⟩ ?_
    exact hq
theorem c_X7_far {d Lx t rt u : Nat} {I : Nat → Nat → Int32} {G : Nat → Nat → Int64} {Q : ab_Q} {o n a b : Nat} (ho : o = 1 ∨ o = 16) (hn : I o 10 = nI n) (ha : a < n) (hb : b < n) (h6 : n ≤ 6) (hq : Q (some (.int (I (o + 10) (a * 6 + b)))) (hp Lx t rt u I G)) : ab_call ab_MT (d + 1) 107 [.ref o, .int (nI a), .int (nI b)] (hp Lx t rt u I G) 0 0 Q := by
  rcases ho with rfl | rfl
  all_goals
    refine wx_in (M := mX7_far) rfl rfl rfl (Nat.le_of_ble_eq_true rfl) ?_
    refine wx_iload_n rfl (e := 1) rfl rfl ?_
    refine wn_if_lt rfl (e := 4) rfl (by omega) ?_
    refine wx_iload_n rfl (e := 5) rfl rfl ?_
    refine wx_aload_n rfl (e := 6) rfl rfl ?_
    refine wx_geti rfl (e := 9) rfl rfl ?_
    rw [hn]
    first | refine wn_ic_ge rfl (e := 12) rfl (by omega) (by omega) (fun c_9 => absurd c_9 (by omega)) (fun c_9 => ?_) | refine wx_ic_ge rfl (e := 12) rfl (fun c_9 => absurd c_9 (by omega)) (fun c_9 => ?_)
    refine wx_iload_n rfl (e := 13) rfl rfl ?_
    refine wn_if_lt rfl (e := 16) rfl (by omega) ?_
    refine wx_iload_n rfl (e := 17) rfl rfl ?_
    refine wx_aload_n rfl (e := 18) rfl rfl ?_
    refine wx_geti rfl (e := 21) rfl rfl ?_
    rw [hn]
    first | refine wn_ic_ge rfl (e := 24) rfl (by omega) (by omega) (fun c_21 => absurd c_21 (by omega)) (fun c_21 => ?_) | refine wx_ic_ge rfl (e := 24) rfl (fun c_21 => absurd c_21 (by omega)) (fun c_21 => ?_)
    refine wx_iconst (v := (nI 1)) rfl (e := 25) rfl (by decide) ?_
    refine wx_goto rfl ?_
    refine wx_istore_n (L2 := [_, _, _, _]) rfl (e := 30) rfl (by decide) rfl ?_
    refine wx_iload_n rfl (e := 31) rfl rfl ?_
    first | refine wn_if_eq rfl (e := 34) rfl (by omega) (fun c_31 => absurd c_31 (by omega)) (fun c_31 => ?_) | refine wx_if_eq rfl (e := 34) rfl (fun c_31 => absurd c_31 (by omega)) (fun c_31 => ?_)
    refine wx_aload_n rfl (e := 35) rfl rfl ?_
    refine wx_getr rfl (e := 38) rfl rfl rfl ?_
    refine wx_iload_n rfl (e := 39) rfl rfl ?_
    refine wx_bipush (v := (nI 6)) rfl (e := 41) rfl (by decide) ?_
    first | refine wn_imul rfl (e := 42) rfl ?_ | refine wx_imul rfl (e := 42) rfl ?_
    refine wx_iload_n rfl (e := 43) rfl rfl ?_
    first | refine wn_iadd rfl (e := 44) rfl ?_ | refine wx_iadd rfl (e := 44) rfl ?_
    first | refine wn_iald rfl (e := 45) rfl rfl (by omega) (by decide) ?_ | refine wx_iald rfl (e := 45) rfl rfl (by assumption) ?_
    refine wx_goto rfl ?_
    refine wx_iret rfl rfl rfl ⟨by decide, by decide⟩ ?_
    exact hq
theorem c_X7_hasChurch {d Lx t rt u : Nat} {I : Nat → Nat → Int32} {G : Nat → Nat → Int64} {Q : ab_Q} {o n : Nat} {v : Int32} (ho : o = 1 ∨ o = 16) (hn : I o 10 = nI n) (hb : n < 2 ^ 31) (h1 : ∀ k, k < n → v = nI k → Q (some (.int (nI 1))) (hp Lx t rt u I G)) (h0 : (∀ k, k < n → v ≠ nI k) → Q (some (.int (nI 0))) (hp Lx t rt u I G)) : ab_call ab_MT (d + 1) 98 [.ref o, .int v] (hp Lx t rt u I G) 0 0 Q := by
  rcases ho with rfl | rfl
  all_goals
    refine wx_in (M := mX7_hasChurch) rfl rfl rfl (Nat.le_of_ble_eq_true rfl) ?_
    refine wx_iload_n rfl (e := 1) rfl rfl ?_
    refine wx_if_lt rfl (e := 4) rfl (fun c_1 => ?_) (fun c_1 => ?_)
    · refine wx_iconst (v := (nI 0)) rfl (e := 17) rfl (by decide) ?_
      refine wx_iret rfl rfl rfl ⟨by decide, by decide⟩ ?_
      first | (exact h0 (fun k hk e => by subst e; exact absurd c_1 (nI_pos (by omega)))) | (exact h0 (fun k hk e => by subst e; exact absurd c_9 (nI_ge hk hb))) | (obtain ⟨k, hk, e⟩ := nI_of c_1; subst e; exact h1 k (Nat.lt_of_not_le (fun z => c_9 (nI_le z hk))) rfl)
    · refine wx_iload_n rfl (e := 5) rfl rfl ?_
      refine wx_aload_n rfl (e := 6) rfl rfl ?_
      refine wx_geti rfl (e := 9) rfl rfl ?_
      rw [hn]
      first | refine wn_ic_ge rfl (e := 12) rfl (by omega) (by omega) (fun c_9 => ?_) (fun c_9 => ?_) | refine wx_ic_ge rfl (e := 12) rfl (fun c_9 => ?_) (fun c_9 => ?_)
      · refine wx_iconst (v := (nI 0)) rfl (e := 17) rfl (by decide) ?_
        refine wx_iret rfl rfl rfl ⟨by decide, by decide⟩ ?_
        first | (exact h0 (fun k hk e => by subst e; exact absurd c_1 (nI_pos (by omega)))) | (exact h0 (fun k hk e => by subst e; exact absurd c_9 (nI_ge hk hb))) | (obtain ⟨k, hk, e⟩ := nI_of c_1; subst e; exact h1 k (Nat.lt_of_not_le (fun z => c_9 (nI_le z hk))) rfl)
      · refine wx_iconst (v := (nI 1)) rfl (e := 13) rfl (by decide) ?_
        refine wx_goto rfl ?_
        refine wx_iret rfl rfl rfl ⟨by decide, by decide⟩ ?_
        first | (exact h0 (fun k hk e => by subst e; exact absurd c_1 (nI_pos (by omega)))) | (exact h0 (fun k hk e => by subst e; exact absurd c_9 (nI_ge hk hb))) | (obtain ⟨k, hk, e⟩ := nI_of c_1; subst e; exact h1 k (Nat.lt_of_not_le (fun z => c_9 (nI_le z hk))) rfl)
theorem c_X7_hasRelic {d Lx t rt u : Nat} {I : Nat → Nat → Int32} {G : Nat → Nat → Int64} {Q : ab_Q} {o n : Nat} {v : Int32} (ho : o = 1 ∨ o = 16) (hn : I o 12 = nI n) (hb : n < 2 ^ 31) (h1 : ∀ k, k < n → v = nI k → Q (some (.int (nI 1))) (hp Lx t rt u I G)) (h0 : (∀ k, k < n → v ≠ nI k) → Q (some (.int (nI 0))) (hp Lx t rt u I G)) : ab_call ab_MT (d + 1) 99 [.ref o, .int v] (hp Lx t rt u I G) 0 0 Q := by
  rcases ho with rfl | rfl
  all_goals
    refine wx_in (M := mX7_hasRelic) rfl rfl rfl (Nat.le_of_ble_eq_true rfl) ?_
    refine wx_iload_n rfl (e := 1) rfl rfl ?_
    refine wx_if_lt rfl (e := 4) rfl (fun c_1 => ?_) (fun c_1 => ?_)
    · refine wx_iconst (v := (nI 0)) rfl (e := 17) rfl (by decide) ?_
      refine wx_iret rfl rfl rfl ⟨by decide, by decide⟩ ?_
      first | (exact h0 (fun k hk e => by subst e; exact absurd c_1 (nI_pos (by omega)))) | (exact h0 (fun k hk e => by subst e; exact absurd c_9 (nI_ge hk hb))) | (obtain ⟨k, hk, e⟩ := nI_of c_1; subst e; exact h1 k (Nat.lt_of_not_le (fun z => c_9 (nI_le z hk))) rfl)
    · refine wx_iload_n rfl (e := 5) rfl rfl ?_
      refine wx_aload_n rfl (e := 6) rfl rfl ?_
      refine wx_geti rfl (e := 9) rfl rfl ?_
      rw [hn]
      first | refine wn_ic_ge rfl (e := 12) rfl (by omega) (by omega) (fun c_9 => ?_) (fun c_9 => ?_) | refine wx_ic_ge rfl (e := 12) rfl (fun c_9 => ?_) (fun c_9 => ?_)
      · refine wx_iconst (v := (nI 0)) rfl (e := 17) rfl (by decide) ?_
        refine wx_iret rfl rfl rfl ⟨by decide, by decide⟩ ?_
        first | (exact h0 (fun k hk e => by subst e; exact absurd c_1 (nI_pos (by omega)))) | (exact h0 (fun k hk e => by subst e; exact absurd c_9 (nI_ge hk hb))) | (obtain ⟨k, hk, e⟩ := nI_of c_1; subst e; exact h1 k (Nat.lt_of_not_le (fun z => c_9 (nI_le z hk))) rfl)
      · refine wx_iconst (v := (nI 1)) rfl (e := 13) rfl (by decide) ?_
        refine wx_goto rfl ?_
        refine wx_iret rfl rfl rfl ⟨by decide, by decide⟩ ?_
        first | (exact h0 (fun k hk e => by subst e; exact absurd c_1 (nI_pos (by omega)))) | (exact h0 (fun k hk e => by subst e; exact absurd c_9 (nI_ge hk hb))) | (obtain ⟨k, hk, e⟩ := nI_of c_1; subst e; exact h1 k (Nat.lt_of_not_le (fun z => c_9 (nI_le z hk))) rfl)
theorem c_X7_hasPilgrim {d Lx t rt u : Nat} {I : Nat → Nat → Int32} {G : Nat → Nat → Int64} {Q : ab_Q} {o n : Nat} {v : Int32} (ho : o = 1 ∨ o = 16) (hn : I o 14 = nI n) (hb : n < 2 ^ 31) (h1 : ∀ k, k < n → v = nI k → Q (some (.int (nI 1))) (hp Lx t rt u I G)) (h0 : (∀ k, k < n → v ≠ nI k) → Q (some (.int (nI 0))) (hp Lx t rt u I G)) : ab_call ab_MT (d + 1) 100 [.ref o, .int v] (hp Lx t rt u I G) 0 0 Q := by
  rcases ho with rfl | rfl
  all_goals
    refine wx_in (M := mX7_hasPilgrim) rfl rfl rfl (Nat.le_of_ble_eq_true rfl) ?_
    refine wx_iload_n rfl (e := 1) rfl rfl ?_
    refine wx_if_lt rfl (e := 4) rfl (fun c_1 => ?_) (fun c_1 => ?_)
    · refine wx_iconst (v := (nI 0)) rfl (e := 17) rfl (by decide) ?_
      refine wx_iret rfl rfl rfl ⟨by decide, by decide⟩ ?_
      first | (exact h0 (fun k hk e => by subst e; exact absurd c_1 (nI_pos (by omega)))) | (exact h0 (fun k hk e => by subst e; exact absurd c_9 (nI_ge hk hb))) | (obtain ⟨k, hk, e⟩ := nI_of c_1; subst e; exact h1 k (Nat.lt_of_not_le (fun z => c_9 (nI_le z hk))) rfl)
    · refine wx_iload_n rfl (e := 5) rfl rfl ?_
      refine wx_aload_n rfl (e := 6) rfl rfl ?_
      refine wx_geti rfl (e := 9) rfl rfl ?_
      rw [hn]
      first | refine wn_ic_ge rfl (e := 12) rfl (by omega) (by omega) (fun c_9 => ?_) (fun c_9 => ?_) | refine wx_ic_ge rfl (e := 12) rfl (fun c_9 => ?_) (fun c_9 => ?_)
      · refine wx_iconst (v := (nI 0)) rfl (e := 17) rfl (by decide) ?_
        refine wx_iret rfl rfl rfl ⟨by decide, by decide⟩ ?_
        first | (exact h0 (fun k hk e => by subst e; exact absurd c_1 (nI_pos (by omega)))) | (exact h0 (fun k hk e => by subst e; exact absurd c_9 (nI_ge hk hb))) | (obtain ⟨k, hk, e⟩ := nI_of c_1; subst e; exact h1 k (Nat.lt_of_not_le (fun z => c_9 (nI_le z hk))) rfl)
      · refine wx_iconst (v := (nI 1)) rfl (e := 13) rfl (by decide) ?_
        refine wx_goto rfl ?_
        refine wx_iret rfl rfl rfl ⟨by decide, by decide⟩ ?_
        first | (exact h0 (fun k hk e => by subst e; exact absurd c_1 (nI_pos (by omega)))) | (exact h0 (fun k hk e => by subst e; exact absurd c_9 (nI_ge hk hb))) | (obtain ⟨k, hk, e⟩ := nI_of c_1; subst e; exact h1 k (Nat.lt_of_not_le (fun z => c_9 (nI_le z hk))) rfl)
theorem c_X2_setVar {d Lx t rt u : Nat} {I : Nat → Nat → Int32} {G : Nat → Nat → Int64} {Q : ab_Q} {w j : Nat} {v : Int32} (hw : w = 2 ∨ w = 17) (hj : j < 9) (hq : Q none (hp Lx t rt u (wr I (w + 4) j v) G)) : ab_call ab_MT (d + 1) 41 [.ref w, .int (nI j), .int v] (hp Lx t rt u I G) 0 0 Q := by
  rcases hw with rfl | rfl
  all_goals
    refine wx_in (M := mX2_setVar) rfl rfl rfl (Nat.le_of_ble_eq_true rfl) ?_
    refine wx_iload_n rfl (e := 1) rfl rfl ?_
    refine wn_if_lt rfl (e := 4) rfl (by omega) ?_
    refine wx_iload_n rfl (e := 5) rfl rfl ?_
    refine wx_bipush (v := (nI 9)) rfl (e := 7) rfl (by decide) ?_
    first | refine wn_ic_ge rfl (e := 10) rfl (by omega) (by omega) (fun c_7 => absurd c_7 (by omega)) (fun c_7 => ?_) | refine wx_ic_ge rfl (e := 10) rfl (fun c_7 => absurd c_7 (by omega)) (fun c_7 => ?_)
    refine wx_aload_n rfl (e := 11) rfl rfl ?_
    refine wx_getr rfl (e := 14) rfl rfl rfl ?_
    refine wx_iload_n rfl (e := 15) rfl rfl ?_
    refine wx_iload_n rfl (e := 16) rfl rfl ?_
    first | refine wn_iast rfl (e := 17) rfl rfl (by decide) (by omega) (by decide) ?_ | refine wx_iast rfl (e := 17) rfl rfl (by decide) (by assumption) ?_
    refine wx_ret rfl rfl ⟨by decide, by decide⟩ ?_
    exact hq
theorem c_X2_varOf {d Lx t rt u : Nat} {I : Nat → Nat → Int32} {G : Nat → Nat → Int64} {Q : ab_Q} {w : Nat} {v : Int32} (hw : w = 2 ∨ w = 17) (h1 : ∀ j, j < 9 → v = nI j → Q (some (.int (I (w + 4) j))) (hp Lx t rt u I G)) (h0 : (∀ j, j < 9 → v ≠ nI j) → Q (some (.int (nI 0))) (hp Lx t rt u I G)) : ab_call ab_MT (d + 1) 42 [.ref w, .int v] (hp Lx t rt u I G) 0 0 Q := by
  rcases hw with rfl | rfl
  all_goals
    refine wx_in (M := mX2_varOf) rfl rfl rfl (Nat.le_of_ble_eq_true rfl) ?_
    refine wx_iload_n rfl (e := 1) rfl rfl ?_
    refine wx_if_lt rfl (e := 4) rfl (fun c_1 => ?_) (fun c_1 => ?_)
    · refine wx_iconst (v := (nI 0)) rfl (e := 20) rfl (by decide) ?_
      refine wx_iret rfl rfl rfl ⟨by decide, by decide⟩ ?_
      first | exact h1 k hk9 rfl | (exact h0 (fun k hk e => by subst e; exact absurd c_1 (nI_pos (by omega)))) | (exact h0 (fun k hk e => by subst e; exact absurd c_7 (nI_ge hk (by decide))))
    · refine wx_iload_n rfl (e := 5) rfl rfl ?_
      refine wx_bipush (v := (nI 9)) rfl (e := 7) rfl (by decide) ?_
      first | refine wn_ic_ge rfl (e := 10) rfl (by omega) (by omega) (fun c_7 => ?_) (fun c_7 => ?_) | refine wx_ic_ge rfl (e := 10) rfl (fun c_7 => ?_) (fun c_7 => ?_)
      · refine wx_iconst (v := (nI 0)) rfl (e := 20) rfl (by decide) ?_
        refine wx_iret rfl rfl rfl ⟨by decide, by decide⟩ ?_
        first | exact h1 k hk9 rfl | (exact h0 (fun k hk e => by subst e; exact absurd c_1 (nI_pos (by omega)))) | (exact h0 (fun k hk e => by subst e; exact absurd c_7 (nI_ge hk (by decide))))
      · obtain ⟨k, hk, e⟩ := nI_of c_1
        subst e
        have hk9 : k < 9 := Nat.lt_of_not_le (fun z => c_7 (nI_le z hk))
        refine wx_aload_n rfl (e := 11) rfl rfl ?_
        refine wx_getr rfl (e := 14) rfl rfl rfl ?_
        refine wx_iload_n rfl (e := 15) rfl rfl ?_
        first | refine wn_iald rfl (e := 16) rfl rfl (by omega) (by decide) ?_ | refine wx_iald rfl (e := 16) rfl rfl (by assumption) ?_
        refine wx_goto rfl ?_
        refine wx_iret rfl rfl rfl ⟨by decide, by decide⟩ ?_
        first | exact h1 k hk9 rfl | (exact h0 (fun k hk e => by subst e; exact absurd c_1 (nI_pos (by omega)))) | (exact h0 (fun k hk e => by subst e; exact absurd c_7 (nI_ge hk (by decide))))
theorem c_J9_max_7cf53 {d : Nat} {h : ab_H} {Q : ab_Q} {a b : Int32} (hq : Q (some (.int (if a < b then b else a))) h) : ab_call ab_MT (d + 1) 299 [.int a, .int b] h 0 0 Q := by
  refine wx_in (M := mJ9_max_7cf53) rfl rfl rfl (Nat.le_of_ble_eq_true rfl) ?_
  refine wx_iload_n rfl (e := 1) rfl rfl ?_
  refine wx_iload_n rfl (e := 2) rfl rfl ?_
  first | refine wn_ic_lt rfl (e := 5) rfl (by omega) (by omega) (fun c_2 => ?_) (fun c_2 => ?_) | refine wx_ic_lt rfl (e := 5) rfl (fun c_2 => ?_) (fun c_2 => ?_)
  · refine wx_iload_n rfl (e := 10) rfl rfl ?_
    refine wx_iret rfl rfl rfl ⟨by decide, by decide⟩ ?_
    first | (rw [if_pos c_2] at hq; exact hq) | (rw [if_neg c_2] at hq; exact hq)
  · refine wx_iload_n rfl (e := 6) rfl rfl ?_
    refine wx_goto rfl ?_
    refine wx_iret rfl rfl rfl ⟨by decide, by decide⟩ ?_
    first | (rw [if_pos c_2] at hq; exact hq) | (rw [if_neg c_2] at hq; exact hq)
theorem c_J9_min_7cf53 {d : Nat} {h : ab_H} {Q : ab_Q} {a b : Int32} (hq : Q (some (.int (if b < a then b else a))) h) : ab_call ab_MT (d + 1) 301 [.int a, .int b] h 0 0 Q := by
  refine wx_in (M := mJ9_min_7cf53) rfl rfl rfl (Nat.le_of_ble_eq_true rfl) ?_
  refine wx_iload_n rfl (e := 1) rfl rfl ?_
  refine wx_iload_n rfl (e := 2) rfl rfl ?_
  first | refine wn_ic_gt rfl (e := 5) rfl (by omega) (by omega) (fun c_2 => ?_) (fun c_2 => ?_) | refine wx_ic_gt rfl (e := 5) rfl (fun c_2 => ?_) (fun c_2 => ?_)
  · refine wx_iload_n rfl (e := 10) rfl rfl ?_
    refine wx_iret rfl rfl rfl ⟨by decide, by decide⟩ ?_
    first | (rw [if_pos c_2] at hq; exact hq) | (rw [if_neg c_2] at hq; exact hq)
  · refine wx_iload_n rfl (e := 6) rfl rfl ?_
    refine wx_goto rfl ?_
    refine wx_iret rfl rfl rfl ⟨by decide, by decide⟩ ?_
    first | (rw [if_pos c_2] at hq; exact hq) | (rw [if_neg c_2] at hq; exact hq)
theorem c_X10_heldTo {d : Nat} {h : ab_H} {Q : ab_Q} {v m : Int32} (hm : ¬ m < nI 0) (hq : Q (some (.int (heldS v m))) h) : ab_call ab_MT (d + 2) 181 [.int v, .int m] h 0 0 Q := by
  refine wx_in (M := mX10_heldTo) rfl rfl rfl (Nat.le_of_ble_eq_true rfl) ?_
  refine wx_iconst (v := (nI 0)) rfl (e := 1) rfl (by decide) ?_
  refine wx_iload_n rfl (e := 2) rfl rfl ?_
  refine wx_iload_n rfl (e := 3) rfl rfl ?_
  refine wx_cs2 (mc := 0) (ms := 0) rfl (e := 6) rfl (Nat.le_of_ble_eq_true rfl) ⟨by decide, by decide⟩ ?_
  refine c_J9_min_7cf53 ?_
  refine wx_cs2 (mc := 0) (ms := 0) rfl (e := 9) rfl (Nat.le_of_ble_eq_true rfl) ⟨by decide, by decide⟩ ?_
  refine c_J9_max_7cf53 ?_
  refine wx_iret rfl rfl rfl ⟨by decide, by decide⟩ ?_
  rw [heldS_eq hm]
  exact hq
theorem c_X0_mixed {d : Nat} {h : ab_H} {Q : ab_Q} {a b : Int32} (hq : Q (some (.int (mixS a b))) h) : ab_call ab_MT (d + 1) 5 [.int a, .int b] h 0 0 Q := by
  refine wx_in (M := mX0_mixed) rfl rfl rfl (Nat.le_of_ble_eq_true rfl) ?_
  refine wx_iload_n rfl (e := 1) rfl rfl ?_
  refine wx_iload_n rfl (e := 2) rfl rfl ?_
  refine wx_ixor rfl (e := 3) rfl ?_
  refine wx_ldc (v := (nI 1103515245)) rfl (e := 5) rfl (by decide) ?_
  refine wx_imul rfl (e := 6) rfl ?_
  refine wx_sipush (v := (nI 12345)) rfl (e := 9) rfl (by decide) ?_
  refine wx_iadd rfl (e := 10) rfl ?_
  refine wx_istore_n (L2 := [_, _, _]) rfl (e := 11) rfl (by decide) rfl ?_
  refine wx_iload_n rfl (e := 12) rfl rfl ?_
  refine wx_iload_n rfl (e := 13) rfl rfl ?_
  refine wx_bipush (v := (nI 15)) rfl (e := 15) rfl (by decide) ?_
  refine wx_iushr rfl (e := 16) rfl ?_
  refine wx_ixor rfl (e := 17) rfl ?_
  refine wx_iret rfl rfl rfl ⟨by decide, by decide⟩ ?_
  unfold mixS at hq
  exact hq
theorem c_X0_lot {d : Nat} {h : ab_H} {Q : ab_Q} {a b : Int32} (hq : Q (some (.int (lotS a b))) h) : ab_call ab_MT (d + 2) 4 [.int a, .int b] h 0 0 Q := by
  refine wx_in (M := mX0_lot) rfl rfl rfl (Nat.le_of_ble_eq_true rfl) ?_
  refine wx_iload_n rfl (e := 1) rfl rfl ?_
  refine wx_bipush (v := (nI 111)) rfl (e := 3) rfl (by decide) ?_
  refine wx_cs2 (mc := 0) (ms := 0) rfl (e := 6) rfl (Nat.le_of_ble_eq_true rfl) ⟨by decide, by decide⟩ ?_
  refine c_X0_mixed ?_
  refine wx_iload_n rfl (e := 7) rfl rfl ?_
  refine wx_cs2 (mc := 0) (ms := 0) rfl (e := 10) rfl (Nat.le_of_ble_eq_true rfl) ⟨by decide, by decide⟩ ?_
  refine c_X0_mixed ?_
  refine wx_iconst (v := (nI 1)) rfl (e := 11) rfl (by decide) ?_
  refine wx_iushr rfl (e := 12) rfl ?_
  refine wx_iret rfl rfl rfl ⟨by decide, by decide⟩ ?_
  exact hq
theorem c_X0_falls {d : Nat} {h : ab_H} {Q : ab_Q} {a b v : Int32} (h1 : lotH a b < v → Q (some (.int (nI 1))) h) (h0 : ¬ lotH a b < v → Q (some (.int (nI 0))) h) : ab_call ab_MT (d + 3) 6 [.int a, .int b, .int v] h 0 0 Q := by
  refine wx_in (M := mX0_falls) rfl rfl rfl (Nat.le_of_ble_eq_true rfl) ?_
  refine wx_iload_n rfl (e := 1) rfl rfl ?_
  refine wx_iload_n rfl (e := 2) rfl rfl ?_
  refine wx_cs2 (mc := 0) (ms := 0) rfl (e := 5) rfl (Nat.le_of_ble_eq_true rfl) ⟨by decide, by decide⟩ ?_
  refine c_X0_lot ?_
  refine wx_bipush (v := (nI 100)) rfl (e := 7) rfl (by decide) ?_
  refine wx_irem rfl (e := 8) rfl (by decide) ?_
  refine wx_iload_n rfl (e := 9) rfl rfl ?_
  first | refine wn_ic_ge rfl (e := 12) rfl (by omega) (by omega) (fun c_9 => ?_) (fun c_9 => ?_) | refine wx_ic_ge rfl (e := 12) rfl (fun c_9 => ?_) (fun c_9 => ?_)
  · refine wx_iconst (v := (nI 0)) rfl (e := 17) rfl (by decide) ?_
    refine wx_iret rfl rfl rfl ⟨by decide, by decide⟩ ?_
    first | exact h0 (Int32.not_lt.mpr c_9) | exact h1 (Int32.not_le.mp c_9)
  · refine wx_iconst (v := (nI 1)) rfl (e := 13) rfl (by decide) ?_
    refine wx_goto rfl ?_
    refine wx_iret rfl rfl rfl ⟨by decide, by decide⟩ ?_
    first | exact h0 (Int32.not_lt.mpr c_9) | exact h1 (Int32.not_le.mp c_9)
theorem c_X10_isWithin {d : Nat} {h : ab_H} {Q : ab_Q} {v : Int32} {lo hi : Nat} (hl : lo ≤ hi) (hb : hi < 2 ^ 31) (h1 : ∀ k, lo ≤ k → k ≤ hi → v = nI k → Q (some (.int (nI 1))) h) (h0 : (∀ k, lo ≤ k → k ≤ hi → v ≠ nI k) → Q (some (.int (nI 0))) h) : ab_call ab_MT (d + 1) 180 [.int v, .int (nI lo), .int (nI hi)] h 0 0 Q := by
  refine wx_in (M := mX10_isWithin) rfl rfl rfl (Nat.le_of_ble_eq_true rfl) ?_
  refine wx_iload_n rfl (e := 1) rfl rfl ?_
  refine wx_iload_n rfl (e := 2) rfl rfl ?_
  first | refine wn_ic_lt rfl (e := 5) rfl (by omega) (by omega) (fun c_2 => ?_) (fun c_2 => ?_) | refine wx_ic_lt rfl (e := 5) rfl (fun c_2 => ?_) (fun c_2 => ?_)
  · refine wx_iconst (v := (nI 0)) rfl (e := 15) rfl (by decide) ?_
    refine wx_iret rfl rfl rfl ⟨by decide, by decide⟩ ?_
    first | exact h0 (fun k a b e => by subst e; exact absurd c_2 (nI_nlt a (by omega))) | exact h0 (fun k a b e => by subst e; exact absurd c_7 (nI_nlt b (by omega))) | exact win_ok hl hb h1 c_2 c_7
  · refine wx_iload_n rfl (e := 6) rfl rfl ?_
    refine wx_iload_n rfl (e := 7) rfl rfl ?_
    first | refine wn_ic_gt rfl (e := 10) rfl (by omega) (by omega) (fun c_7 => ?_) (fun c_7 => ?_) | refine wx_ic_gt rfl (e := 10) rfl (fun c_7 => ?_) (fun c_7 => ?_)
    · refine wx_iconst (v := (nI 0)) rfl (e := 15) rfl (by decide) ?_
      refine wx_iret rfl rfl rfl ⟨by decide, by decide⟩ ?_
      first | exact h0 (fun k a b e => by subst e; exact absurd c_2 (nI_nlt a (by omega))) | exact h0 (fun k a b e => by subst e; exact absurd c_7 (nI_nlt b (by omega))) | exact win_ok hl hb h1 c_2 c_7
    · refine wx_iconst (v := (nI 1)) rfl (e := 11) rfl (by decide) ?_
      refine wx_goto rfl ?_
      refine wx_iret rfl rfl rfl ⟨by decide, by decide⟩ ?_
      first | exact h0 (fun k a b e => by subst e; exact absurd c_2 (nI_nlt a (by omega))) | exact h0 (fun k a b e => by subst e; exact absurd c_7 (nI_nlt b (by omega))) | exact win_ok hl hb h1 c_2 c_7
theorem c_J6_bitCount {d : Nat} {h : ab_H} {Q : ab_Q} {v : Int32} (hq : Q (some (.int (bcS v))) h) : ab_call ab_MT (d + 1) 298 [.int v] h 0 0 Q := by
  refine wx_in (M := mJ6_bitCount_0f7a4) rfl rfl rfl (Nat.le_of_ble_eq_true rfl) ?_
  refine wx_iload_n rfl (e := 1) rfl rfl ?_
  refine wx_iload_n rfl (e := 2) rfl rfl ?_
  refine wx_iconst (v := (nI 1)) rfl (e := 3) rfl (by decide) ?_
  refine wx_iushr rfl (e := 4) rfl ?_
  refine wx_ldcw (v := (nI 1431655765)) rfl (e := 7) rfl (by decide) ?_
  refine wx_iand rfl (e := 8) rfl ?_
  first | refine wn_isub rfl (e := 9) rfl (by omega) ?_ | refine wx_isub rfl (e := 9) rfl ?_
  refine wx_istore_n (L2 := [_]) rfl (e := 10) rfl (by decide) rfl ?_
  refine wx_iload_n rfl (e := 11) rfl rfl ?_
  refine wx_ldcw (v := (nI 858993459)) rfl (e := 14) rfl (by decide) ?_
  refine wx_iand rfl (e := 15) rfl ?_
  refine wx_iload_n rfl (e := 16) rfl rfl ?_
  refine wx_iconst (v := (nI 2)) rfl (e := 17) rfl (by decide) ?_
  refine wx_iushr rfl (e := 18) rfl ?_
  refine wx_ldcw (v := (nI 858993459)) rfl (e := 21) rfl (by decide) ?_
  refine wx_iand rfl (e := 22) rfl ?_
  first | refine wn_iadd rfl (e := 23) rfl ?_ | refine wx_iadd rfl (e := 23) rfl ?_
  refine wx_istore_n (L2 := [_]) rfl (e := 24) rfl (by decide) rfl ?_
  refine wx_iload_n rfl (e := 25) rfl rfl ?_
  refine wx_iload_n rfl (e := 26) rfl rfl ?_
  refine wx_iconst (v := (nI 4)) rfl (e := 27) rfl (by decide) ?_
  refine wx_iushr rfl (e := 28) rfl ?_
  first | refine wn_iadd rfl (e := 29) rfl ?_ | refine wx_iadd rfl (e := 29) rfl ?_
  refine wx_ldcw (v := (nI 252645135)) rfl (e := 32) rfl (by decide) ?_
  refine wx_iand rfl (e := 33) rfl ?_
  refine wx_istore_n (L2 := [_]) rfl (e := 34) rfl (by decide) rfl ?_
  refine wx_iload_n rfl (e := 35) rfl rfl ?_
  refine wx_iload_n rfl (e := 36) rfl rfl ?_
  refine wx_bipush (v := (nI 8)) rfl (e := 38) rfl (by decide) ?_
  refine wx_iushr rfl (e := 39) rfl ?_
  first | refine wn_iadd rfl (e := 40) rfl ?_ | refine wx_iadd rfl (e := 40) rfl ?_
  refine wx_istore_n (L2 := [_]) rfl (e := 41) rfl (by decide) rfl ?_
  refine wx_iload_n rfl (e := 42) rfl rfl ?_
  refine wx_iload_n rfl (e := 43) rfl rfl ?_
  refine wx_bipush (v := (nI 16)) rfl (e := 45) rfl (by decide) ?_
  refine wx_iushr rfl (e := 46) rfl ?_
  first | refine wn_iadd rfl (e := 47) rfl ?_ | refine wx_iadd rfl (e := 47) rfl ?_
  refine wx_istore_n (L2 := [_]) rfl (e := 48) rfl (by decide) rfl ?_
  refine wx_iload_n rfl (e := 49) rfl rfl ?_
  refine wx_bipush (v := (nI 63)) rfl (e := 51) rfl (by decide) ?_
  refine wx_iand rfl (e := 52) rfl ?_
  refine wx_iret rfl rfl rfl ⟨by decide, by decide⟩ ?_
  exact hq

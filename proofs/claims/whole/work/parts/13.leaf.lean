/-! contracts of the small methods of the class -/
theorem c_X5_get {d Lx t rt u : Nat} {I : Nat → Nat → Int32} {G : Nat → Nat → Int64} {Q : ab_Q} {c j : Nat} (hc : c = 39 ∨ c = 45) (hj : j < 55) (hq : Q (some (.int (I (c + 1) j))) (hp Lx t rt u I G)) : ab_call ab_MT (d + 1) 74 [.ref c, .int (nI j)] (hp Lx t rt u I G) 0 0 Q := by
  rcases hc with rfl | rfl
  all_goals
    refine wx_in (M := mX5_get) rfl rfl rfl (Nat.le_of_ble_eq_true rfl) ?_
    refine wx_iload_n rfl (e := 1) rfl rfl ?_
    refine wn_if_lt rfl (e := 4) rfl (by omega) ?_
    refine wx_iload_n rfl (e := 5) rfl rfl ?_
    refine wx_bipush (v := (nI 55)) rfl (e := 7) rfl (by decide) ?_
    first | refine wn_ic_ge rfl (e := 10) rfl (by omega) (by omega) (fun c_7 => absurd c_7 (by omega)) (fun c_7 => ?_) | refine wx_ic_ge rfl (e := 10) rfl (fun c_7 => absurd c_7 (by omega)) (fun c_7 => ?_)
    refine wx_aload_n rfl (e := 11) rfl rfl ?_
    refine wx_getr rfl (e := 14) rfl rfl rfl ?_
    refine wx_iload_n rfl (e := 15) rfl rfl ?_
    first | refine wn_iald rfl (e := 16) rfl rfl (by omega) (by decide) ?_ | refine wx_iald rfl (e := 16) rfl rfl (by assumption) ?_
    refine wx_goto rfl ?_
    refine wx_iret rfl rfl rfl ⟨by decide, by decide⟩ ?_
    exact hq
theorem c_X5_set {d Lx t rt u : Nat} {I : Nat → Nat → Int32} {G : Nat → Nat → Int64} {Q : ab_Q} {c j : Nat} {v : Int32} (hc : c = 39 ∨ c = 45) (hj : j < 55) (hq : Q none (hp Lx t rt u (wr I (c + 1) j v) G)) : ab_call ab_MT (d + 1) 75 [.ref c, .int (nI j), .int v] (hp Lx t rt u I G) 0 0 Q := by
  rcases hc with rfl | rfl
  all_goals
    refine wx_in (M := mX5_set) rfl rfl rfl (Nat.le_of_ble_eq_true rfl) ?_
    refine wx_iload_n rfl (e := 1) rfl rfl ?_
    refine wn_if_lt rfl (e := 4) rfl (by omega) ?_
    refine wx_iload_n rfl (e := 5) rfl rfl ?_
    refine wx_bipush (v := (nI 55)) rfl (e := 7) rfl (by decide) ?_
    first | refine wn_ic_ge rfl (e := 10) rfl (by omega) (by omega) (fun c_7 => absurd c_7 (by omega)) (fun c_7 => ?_) | refine wx_ic_ge rfl (e := 10) rfl (fun c_7 => absurd c_7 (by omega)) (fun c_7 => ?_)
    refine wx_aload_n rfl (e := 11) rfl rfl ?_
    refine wx_getr rfl (e := 14) rfl rfl rfl ?_
    refine wx_iload_n rfl (e := 15) rfl rfl ?_
    refine wx_iload_n rfl (e := 16) rfl rfl ?_
    first | refine wn_iast rfl (e := 17) rfl rfl (by decide) (by omega) (by decide) ?_ | refine wx_iast rfl (e := 17) rfl rfl (by decide) (by assumption) ?_
    refine wx_ret rfl rfl ⟨by decide, by decide⟩ ?_
    exact hq
theorem c_X5_add {d Lx t rt u : Nat} {I : Nat → Nat → Int32} {G : Nat → Nat → Int64} {Q : ab_Q} {c j : Nat} {v : Int32} (hc : c = 39 ∨ c = 45) (hj : j < 55) (hq : Q none (hp Lx t rt u (wr I (c + 1) j (I (c + 1) j + v)) G)) : ab_call ab_MT (d + 1) 76 [.ref c, .int (nI j), .int v] (hp Lx t rt u I G) 0 0 Q := by
  rcases hc with rfl | rfl
  all_goals
    refine wx_in (M := mX5_add) rfl rfl rfl (Nat.le_of_ble_eq_true rfl) ?_
    refine wx_iload_n rfl (e := 1) rfl rfl ?_
    refine wn_if_lt rfl (e := 4) rfl (by omega) ?_
    refine wx_iload_n rfl (e := 5) rfl rfl ?_
    refine wx_bipush (v := (nI 55)) rfl (e := 7) rfl (by decide) ?_
    first | refine wn_ic_ge rfl (e := 10) rfl (by omega) (by omega) (fun c_7 => absurd c_7 (by omega)) (fun c_7 => ?_) | refine wx_ic_ge rfl (e := 10) rfl (fun c_7 => absurd c_7 (by omega)) (fun c_7 => ?_)
    refine wx_aload_n rfl (e := 11) rfl rfl ?_
    refine wx_getr rfl (e := 14) rfl rfl rfl ?_
    refine wx_iload_n rfl (e := 15) rfl rfl ?_
    refine wx_dup2 rfl (e := 16) rfl ⟨rfl, rfl⟩ ?_
    first | refine wn_iald rfl (e := 17) rfl rfl (by omega) (by decide) ?_ | refine wx_iald rfl (e := 17) rfl rfl (by assumption) ?_
    refine wx_iload_n rfl (e := 18) rfl rfl ?_
    first | refine wn_iadd rfl (e := 19) rfl ?_ | refine wx_iadd rfl (e := 19) rfl ?_
    first | refine wn_iast rfl (e := 20) rfl rfl (by decide) (by omega) (by decide) ?_ | refine wx_iast rfl (e := 20) rfl rfl (by decide) (by assumption) ?_
    refine wx_ret rfl rfl ⟨by decide, by decide⟩ ?_
    exact hq
theorem c_X7_churches {d Lx t rt u : Nat} {I : Nat → Nat → Int32} {G : Nat → Nat → Int64} {Q : ab_Q} {o : Nat} (ho : o = 1 ∨ o = 16) (hq : Q (some (.int (I o 10))) (hp Lx t rt u I G)) : ab_call ab_MT (d + 1) 92 [.ref o] (hp Lx t rt u I G) 0 0 Q := by
  rcases ho with rfl | rfl
  all_goals
    refine wx_in (M := mX7_churches) rfl rfl rfl (Nat.le_of_ble_eq_true rfl) ?_
    refine wx_aload_n rfl (e := 1) rfl rfl ?_
    refine wx_geti rfl (e := 4) rfl rfl ?_
    refine wx_iret rfl rfl rfl ⟨by decide, by decide⟩ ?_
    exact hq
theorem c_X7_roads {d Lx t rt u : Nat} {I : Nat → Nat → Int32} {G : Nat → Nat → Int64} {Q : ab_Q} {o : Nat} (ho : o = 1 ∨ o = 16) (hq : Q (some (.int (I o 11))) (hp Lx t rt u I G)) : ab_call ab_MT (d + 1) 93 [.ref o] (hp Lx t rt u I G) 0 0 Q := by
  rcases ho with rfl | rfl
  all_goals
    refine wx_in (M := mX7_roads) rfl rfl rfl (Nat.le_of_ble_eq_true rfl) ?_
    refine wx_aload_n rfl (e := 1) rfl rfl ?_
    refine wx_geti rfl (e := 4) rfl rfl ?_
    refine wx_iret rfl rfl rfl ⟨by decide, by decide⟩ ?_
    exact hq
theorem c_X7_relics {d Lx t rt u : Nat} {I : Nat → Nat → Int32} {G : Nat → Nat → Int64} {Q : ab_Q} {o : Nat} (ho : o = 1 ∨ o = 16) (hq : Q (some (.int (I o 12))) (hp Lx t rt u I G)) : ab_call ab_MT (d + 1) 94 [.ref o] (hp Lx t rt u I G) 0 0 Q := by
  rcases ho with rfl | rfl
  all_goals
    refine wx_in (M := mX7_relics) rfl rfl rfl (Nat.le_of_ble_eq_true rfl) ?_
    refine wx_aload_n rfl (e := 1) rfl rfl ?_
    refine wx_geti rfl (e := 4) rfl rfl ?_
    refine wx_iret rfl rfl rfl ⟨by decide, by decide⟩ ?_
    exact hq
theorem c_X7_trueRelics {d Lx t rt u : Nat} {I : Nat → Nat → Int32} {G : Nat → Nat → Int64} {Q : ab_Q} {o : Nat} (ho : o = 1 ∨ o = 16) (hq : Q (some (.int (I o 13))) (hp Lx t rt u I G)) : ab_call ab_MT (d + 1) 95 [.ref o] (hp Lx t rt u I G) 0 0 Q := by
  rcases ho with rfl | rfl
  all_goals
    refine wx_in (M := mX7_trueRelics) rfl rfl rfl (Nat.le_of_ble_eq_true rfl) ?_
    refine wx_aload_n rfl (e := 1) rfl rfl ?_
    refine wx_geti rfl (e := 4) rfl rfl ?_
    refine wx_iret rfl rfl rfl ⟨by decide, by decide⟩ ?_
    exact hq
theorem c_X7_pilgrims {d Lx t rt u : Nat} {I : Nat → Nat → Int32} {G : Nat → Nat → Int64} {Q : ab_Q} {o : Nat} (ho : o = 1 ∨ o = 16) (hq : Q (some (.int (I o 14))) (hp Lx t rt u I G)) : ab_call ab_MT (d + 1) 96 [.ref o] (hp Lx t rt u I G) 0 0 Q := by
  rcases ho with rfl | rfl
  all_goals
    refine wx_in (M := mX7_pilgrims) rfl rfl rfl (Nat.le_of_ble_eq_true rfl) ?_
    refine wx_aload_n rfl (e := 1) rfl rfl ?_
    refine wx_geti rfl (e := 4) rfl rfl ?_
    refine wx_iret rfl rfl rfl ⟨by decide, by decide⟩ ?_
    exact hq
theorem c_X7_seed {d Lx t rt u : Nat} {I : Nat → Nat → Int32} {G : Nat → Nat → Int64} {Q : ab_Q} {o : Nat} (ho : o = 1 ∨ o = 16) (hq : Q (some (.int (I o 15))) (hp Lx t rt u I G)) : ab_call ab_MT (d + 1) 97 [.ref o] (hp Lx t rt u I G) 0 0 Q := by
  rcases ho with rfl | rfl
  all_goals
    refine wx_in (M := mX7_seed) rfl rfl rfl (Nat.le_of_ble_eq_true rfl) ?_
    refine wx_aload_n rfl (e := 1) rfl rfl ?_
    refine wx_geti rfl (e := 4) rfl rfl ?_
    refine wx_iret rfl rfl rfl ⟨by decide, by decide⟩ ?_
    exact hq
theorem c_X7_laws {d Lx t rt u : Nat} {I : Nat → Nat → Int32} {G : Nat → Nat → Int64} {Q : ab_Q} {o : Nat} (ho : o = 1 ∨ o = 16) (hq : Q (some (.ref (o + 1))) (hp Lx t rt u I G)) : ab_call ab_MT (d + 1) 91 [.ref o] (hp Lx t rt u I G) 0 0 Q := by
  rcases ho with rfl | rfl
  all_goals
    refine wx_in (M := mX7_laws) rfl rfl rfl (Nat.le_of_ble_eq_true rfl) ?_
    refine wx_aload_n rfl (e := 1) rfl rfl ?_
    refine wx_getr rfl (e := 4) rfl rfl rfl ?_
    refine wx_aret rfl rfl (by decide) ⟨by decide, by decide⟩ ?_
    exact hq

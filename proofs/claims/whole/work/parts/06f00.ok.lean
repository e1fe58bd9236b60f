/-! the checks of the code tables, f0 -/
theorem ab_sp {f : ab_I → Bool} {l : List ab_I} (n : Nat) (h1 : (l.take n).all f = true) (h2 : (l.drop n).all f = true) : l.all f = true := by
  rw [← List.take_append_drop n l, List.all_append, h1, h2]
  rfl
theorem ab_cm_of {M : ab_M} {z : Nat × Nat × Nat × Nat} (h0 : ab_cm (ab_my M, ab_mb M, ab_ml M, ab_mr M, ab_mc M, ab_ms M, ab_mk M, []) z = true) (ha : (ab_mo M).all (ab_ce M) = true) : ab_cm M z = true := by
  unfold ab_cm at *
  simp only [Bool.and_eq_true] at *
  exact ⟨h0.1, ha⟩
def ab_c2 (M : ab_M) (z : Nat × Nat × Nat × Nat) : Bool := ab_at z.2.2.2 (.initialized (ab_my M).cls) && decide (ab_ml M ≤ 40) && plainName (ab_my M).cls && decide ((ab_my M).cls ≠ "java/lang/invoke/MethodHandle") && decide ((ab_my M).cls ≠ "java/lang/invoke/VarHandle") && (match ab_mk M with
  | 0 => ab_at z.2.1 (.static (ab_my M))
  | 1 => ab_at z.2.1 (.instanceMethod (ab_my M)) && ab_at z.2.2.1 (.selects (ab_my M).cls (ab_my M) (ab_my M))
  | 2 => ab_at z.2.1 (.instanceMethod (ab_my M)) && decide ((ab_my M).name = "<init>") && decide (ab_mr M = none)
  | _ => false)
theorem ab_cm_of2 {M : ab_M} {z : Nat × Nat × Nat × Nat} (h1 : lw_tbl[z.1]? = some (.code (ab_my M) (ab_mb M) (ab_ml M) (ab_mr M))) (h2 : ab_c2 M z = true) (ha : (ab_mo M).all (ab_ce M) = true) : ab_cm M z = true := by
  unfold ab_cm
  unfold ab_c2 at h2
  simp only [Bool.and_eq_true] at *
  obtain ⟨⟨⟨⟨⟨q1, q2⟩, q3⟩, q4⟩, q5⟩, q6⟩ := h2
  refine ⟨⟨⟨⟨⟨⟨⟨?_, q1⟩, q2⟩, q3⟩, q4⟩, q5⟩, q6⟩, ha⟩
  unfold ab_at
  rw [h1]
  simp only [decide_true, Bool.true_and]
  rfl
set_option maxRecDepth 100000 in
theorem ckX11_init_s0 : (((ab_mo mX11_init)).take 40).all (ab_ce mX11_init) = true := by decide +kernel
set_option maxRecDepth 100000 in
theorem ckX11_init_s1 : ((((ab_mo mX11_init).drop 40)).take 40).all (ab_ce mX11_init) = true := by decide +kernel
set_option maxRecDepth 100000 in
theorem ckX11_init_s2 : (((((ab_mo mX11_init).drop 40).drop 40)).take 40).all (ab_ce mX11_init) = true := by decide +kernel
set_option maxRecDepth 100000 in
theorem ckX11_init_s3 : ((((((ab_mo mX11_init).drop 40).drop 40).drop 40)).take 40).all (ab_ce mX11_init) = true := by decide +kernel
set_option maxRecDepth 100000 in
theorem ckX11_init_s4 : (((((((ab_mo mX11_init).drop 40).drop 40).drop 40).drop 40)).take 40).all (ab_ce mX11_init) = true := by decide +kernel
set_option maxRecDepth 100000 in
theorem ckX11_init_s5 : ((((((((ab_mo mX11_init).drop 40).drop 40).drop 40).drop 40).drop 40)).take 40).all (ab_ce mX11_init) = true := by decide +kernel
set_option maxRecDepth 100000 in
theorem ckX11_init_s6 : (((((((((ab_mo mX11_init).drop 40).drop 40).drop 40).drop 40).drop 40).drop 40)).take 40).all (ab_ce mX11_init) = true := by decide +kernel
set_option maxRecDepth 100000 in
theorem ckX11_init_s7 : ((((((((((ab_mo mX11_init).drop 40).drop 40).drop 40).drop 40).drop 40).drop 40).drop 40)).take 40).all (ab_ce mX11_init) = true := by decide +kernel
set_option maxRecDepth 100000 in
theorem ckX11_init_s8 : (((((((((((ab_mo mX11_init).drop 40).drop 40).drop 40).drop 40).drop 40).drop 40).drop 40).drop 40)).take 40).all (ab_ce mX11_init) = true := by decide +kernel
set_option maxRecDepth 100000 in
theorem ckX11_init_s9 : ((((((((((((ab_mo mX11_init).drop 40).drop 40).drop 40).drop 40).drop 40).drop 40).drop 40).drop 40).drop 40)).take 40).all (ab_ce mX11_init) = true := by decide +kernel

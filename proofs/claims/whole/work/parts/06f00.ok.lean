/-! the checks of the code tables, f0 -/
theorem ab_sp {f : ab_I → Bool} {l : List ab_I} (n : Nat) (h1 : (l.take n).all f = true) (h2 : (l.drop n).all f = true) : l.all f = true := by
  rw [← List.take_append_drop n l, List.all_append, h1, h2]
  rfl
theorem ab_cm_of {M : ab_M} {z : Nat × Nat × Nat × Nat} (h0 : ab_cm (ab_my M, ab_mb M, ab_ml M, ab_mr M, ab_mc M, ab_ms M, ab_mk M, []) z = true) (ha : (ab_mo M).all (ab_ce M) = true) : ab_cm M z = true := by
  unfold ab_cm at *
  simp only [Bool.and_eq_true] at *
  exact ⟨h0.1, ha⟩
set_option maxRecDepth 100000 in
theorem ckX11_init_s0 : (((ab_mo mX11_init)).take 40).all (ab_ce mX11_init) = true := by decide +kernel
set_option maxRecDepth 100000 in
theorem ckX11_init_s1 : ((((ab_mo mX11_init).drop 40)).take 40).all (ab_ce mX11_init) = true := by decide +kernel
set_option maxRecDepth 100000 in
theorem ckX11_init_s2 : (((((ab_mo mX11_init).drop 40).drop 40)).take 40).all (ab_ce mX11_init) = true := by decide +kernel
set_option maxRecDepth 100000 in
theorem ckX11_init_s3 : ((((((ab_mo mX11_init).drop 40).drop 40).drop 40)).take 40).all (ab_ce mX11_init) = true := by decide +kernel
set_option maxRecDepth 100000 in
theorem ckX11_init_s4 : (((((((ab_mo mX11_init).drop 40).drop 40).drop 40).drop 40)).take 40).all (ab_ce mX11_init) = true := by decide +kernel
set_option maxRecDepth 100000 in
theorem ckX11_init_s5 : ((((((((ab_mo mX11_init).drop 40).drop 40).drop 40).drop 40).drop 40)).take 40).all (ab_ce mX11_init) = true := by decide +kernel

/-! rows that the next part needs -/
theorem ab_sw_mem (v : Int32) (lo : Int) (L : ab_Lo) (r : List Value) (h : ab_H) (cs sl : Nat) : ∀ (ts : List Nat) (b j : Nat) (hj : j < ts.length), (v.toInt = lo + ((b + j : Nat) : Int), (ts[j], L, r, h, cs, sl)) ∈ ab_sw v lo L r h cs sl b ts
  | [], _, _, hj => absurd hj (Nat.not_lt_zero _)
  | t :: ts, b, 0, _ => List.mem_cons_self
  | t :: ts, b, j + 1, hj => by
    have := ab_sw_mem v lo L r h cs sl ts (b + 1) j (by simpa using hj)
    rw [show b + 1 + j = b + (j + 1) by omega] at this
    exact List.mem_cons_of_mem _ this
theorem ab_init_all : ∀ ci, ci < 12 → ∀ k, k < ab_nf ci → (ab_isR (ab_ty ci k) = true → defaultValue (ab_ty ci k) = .null) ∧ (ab_isR (ab_ty ci k) = false → defaultValue (ab_ty ci k) = .int 0) := by decide +kernel
theorem ab_init_ok {ci : Nat} (h : ci < 12) (k : Nat) (hk : k < ab_nf ci) : (ab_isR (ab_ty ci k) = true → defaultValue (ab_ty ci k) = .null) ∧ (ab_isR (ab_ty ci k) = false → defaultValue (ab_ty ci k) = .int 0) := ab_init_all ci h k hk
theorem ab_alen_row {p : Program} {l : Launch} {e : Env} {R : Room} {s : State} {m : MethodId} {args : Array Value} {below : List Frame} {meth : Method} {c : Code} {H : Heap} {locs : List Loc} {cs sl pc : Nat} {Qw : State → Prop} {ls : Array Slot} {g : ab_W} {cc : ByteArray} {h : ab_H} {c0 n : Nat} {ty : FieldType} {r : List Value} (hx : p.tables.exec = Jvm.exec) (hb : c.code = cc) (hK : va_K (ab_D g) ab_cls (ab_tys g) s) (hP : va_P (ab_D g) ab_cls (ab_ws g h) H) (hlt : c0 < h.1) (hsc : ab_S h c0 = .inr (ty, n)) (hty : ty = .int ∨ ty = .byte ∨ ty = .boolean ∨ ty = .long) (hd : decode cc pc = .ok (.arraylength, 1))
    (kk : W p l e R s m args below meth c H locs cs sl Qw (F0 m (pc + 1) ls (.int (Int32.ofNat n) :: r))) : W p l e R s m args below meth c H locs cs sl Qw (F0 m pc ls (.ref (ab_B g + c0) :: r)) := by
  rcases hty with rfl | rfl | rfl | rfl
  · exact va_alen hx hb hK hP c0 0 (by rw [ab_ws_at hlt, ab_E_i hsc (by decide)]) (ty := .int) rfl rfl hd kk
  · exact va_alen hx hb hK hP c0 1 (by rw [ab_ws_at hlt, ab_E_i hsc (by decide)]) (ty := .byte) rfl rfl hd kk
  · exact va_alen hx hb hK hP c0 2 (by rw [ab_ws_at hlt, ab_E_i hsc (by decide)]) (ty := .boolean) rfl rfl hd kk
  · exact va_alen hx hb hK hP c0 3 (by rw [ab_ws_at hlt, ab_E_l hsc]) (ty := .long) rfl rfl hd kk

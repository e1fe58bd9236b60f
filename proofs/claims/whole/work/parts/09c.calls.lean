/-! methods as contracts; calls -/
theorem ab_at_in {z : Nat} {w : Cond} (h : ab_at z w = true) : w ∈ ab_TB := by
  unfold ab_at at h
  simp only [Bool.and_eq_true, decide_eq_true_eq] at h
  exact List.mem_filter.mpr ⟨List.mem_of_getElem? h.1, h.2⟩
theorem ab_atN_in {z : Nat} {w : Cond} (h : ab_atN z w = true) : w ∈ lw_tbl := by
  unfold ab_atN at h
  simp only [decide_eq_true_eq] at h
  exact List.mem_of_getElem? h
def ab_cw (M : ab_M) : List Cond := Cond.code (ab_my M) (ab_mb M) (ab_ml M) (ab_mr M) :: ab_TB
def ab_rm (d : Nat) (M : ab_M) : Room := { frames := d + 1, cells := ab_mc M, slots := ab_ms M, locals := 60 * (d + 1) }
theorem ab_good {M : ab_M} (h : Cond.code (ab_my M) (ab_mb M) (ab_ml M) (ab_mr M) ∈ ab_TB) : GoodIn ab_TB (ab_cw M) := by
  intro w hw
  have hm : w ∈ ab_TB := by
    rcases List.mem_cons.mp hw with rfl | hw
    · exact h
    · exact hw
  exact ⟨hm, good_of_word (List.mem_filter.mp hm).2⟩
/-- what stands around a method's body -/
def ab_X (g : ab_W) (M : ab_M) (d : Nat) (p : Program) (R : Room) (s : State) (m : MethodId) (args : Array Value) (meth : Method) (c : Code) : Prop :=
  p.tables.exec = Jvm.exec ∧ c.code = ab_mb M ∧ c.maxLocals = ab_ml M ∧ s.vm.findClass (ab_my M).cls = some m.cls ∧ (∀ w ∈ ab_TB, w.before args s = true) ∧ ab_F g s ∧ (d + 1 ≤ R.frames ∧ 60 * (d + 1) ≤ R.locals ∧ ab_mc M ≤ R.cells ∧ ab_ms M ≤ R.slots) ∧ ((ab_my M).name = "<init>" → meth.name = "<init>")
def ab_ret (M : ab_M) (pc : Nat) : Option Value → Prop
  | none => decode (ab_mb M) pc = .ok (.return_, 1) ∧ ab_mr M = none
  | some (.int v) => decode (ab_mb M) pc = .ok (.ireturn, 1) ∧ ∃ ty, ab_mr M = some ty ∧ narrow ty (.int v) = .int v
  | some (.long _) => decode (ab_mb M) pc = .ok (.lreturn, 1) ∧ ab_mr M = some .long
  | some (.ref v) => decode (ab_mb M) pc = .ok (.areturn, 1) ∧ v < 1000000 ∧ ∃ n, ab_mr M = some (.object n)
  | _ => False
/-- the machine does what the abstract machine does, from t on -/
def ab_Snd (g : ab_W) (l : Launch) (d : Nat) (M : ab_M) (Q : ab_Q) (t : ab_T) : Prop :=
  ∀ (p : Program) (e : Env) (R : Room) (s : State) (m : MethodId) (args : Array Value) (below : List Frame) (meth : Method) (c : Code) (H : Heap) (locs : List Loc) (ls : Array Slot) (Qw : State → Prop),
    ab_X g M d p R s m args meth c → va_S (ab_A g) s.heap H locs → ab_Rel g t.2.2.2.1 H → ab_LR g ls (ab_ml M) t.2.1 →
    (∀ (pc : Nat) (ls : Array Slot) (H : Heap) (locs : List Loc) (r : Option Value) (h : ab_H) (cs sl : Nat), ab_ret M pc r → cs ≤ ab_mc M → sl ≤ ab_ms M → va_S (ab_A g) s.heap H locs → ab_Rel g h H → Q r h →
      W p l e R s m args below meth c H locs cs sl Qw (F0 m pc ls (r.toList.map (ab_cv g)))) →
    W p l e R s m args below meth c H locs t.2.2.2.2.1 t.2.2.2.2.2 Qw (F0 m t.1 ls (t.2.2.1.map (ab_cv g)))
def ab_Qc (g : ab_W) (Q : ab_Q) : Array Value → State → Outcome → State → Prop := fun _ st oc t => (∃ (r : Option Value) (h2 : ab_H), oc = .returned (r.map (ab_cv g)) ∧ Q r h2 ∧ ab_Rel g h2 t.heap) ∧ va_F (ab_A g) st t
theorem ab_met {g : ab_W} {l : Launch} {d : Nat} {M : ab_M} {Q : ab_Q} {As : List Value} {h : ab_H} (hpl : plainName (ab_my M).cls = true) (hlen : (ab_en As).length ≤ ab_ml M) (hsnd : ab_Snd g l d M Q (0, ab_ent As (ab_ml M), [], h, 0, 0)) :
    Met l (ab_my M) (ab_cw M) (ab_rm d M) (va_Pc (As.map (ab_cv g)) (fun U => ab_Rel g h U.heap ∧ ab_F g U)) (ab_Qc g Q) (ab_mc M) (ab_ms M) (ab_A g) := by
  refine Met.ofW (cc := ab_mb M) (maxL := ab_ml M) (ret := ab_mr M) hpl rfl ?_
  intro p e s m args below meth c s₁ B hml hv
  obtain ⟨rfl, hR, hF⟩ := hv
  have hts := atoms_spec (ws := ab_cw M) B.pre
  have hown := findClass_of_methodNamed B.named
  have hlocks := B.notSynchronized
  have hr := B.returns
  have hx := B.exec
  have hb := B.bytes
  rw [lg_entry_eq]
  refine hsnd p e _ s m _ below meth c s.heap [] _ _ ⟨B.exec, B.bytes, hml, hown, fun w hw => hts w (List.mem_cons_of_mem _ hw), hF, ⟨Nat.le_refl _, Nat.le_refl _, Nat.le_refl _, Nat.le_refl _⟩, fun hn => ((name_of_methodNamed B.named B.method).1).trans hn⟩ va_S.rf hR (ab_LR.entry hF.2.2.2.2.2.2.2.2.2.1 hlen) ?_
  intro pc ls H locs r h2 cs sl hret hcs hsl hS hR2 hQ
  refine W.widen hcs hsl ?_
  have hq : ∀ t : State, t.heap = H → ab_Qc g Q ((As.map (ab_cv g)).toArray) s (.returned (r.map (ab_cv g))) t := fun t ht => ⟨⟨r, h2, rfl, hQ, by rw [ht]; exact hR2⟩, hS.F ht⟩
  match r, hret, hq with
  | none, hret, hq => exact W.vret hx hb (hr.trans hret.2) (fun t ht _ => hq t ht) hS.2.2 hret.1
  | some (.int v), hret, hq =>
    obtain ⟨h1, ty, h3, h4⟩ := hret
    exact W.zret hx hb (hr.trans h3) h4 (fun t ht _ => hq t ht) hS.2.2 h1
  | some (.long v), hret, hq => exact W.lret hx hb (hr.trans hret.2) (fun t ht _ => hq t ht) hS.2.2 hret.1
  | some (.ref v), hret, hq =>
    obtain ⟨h1, h3, n, h4⟩ := hret
    exact W.aret hx hb (hr.trans h4) (Or.inl ⟨n, rfl⟩) (Or.inr ⟨_, ab_rv_lt h3⟩) (fun t ht _ => hq t ht) hS.2.2 h1
theorem ab_goes {p : Program} {l : Launch} {e : Env} {R : Room} {s : State} {m : MethodId} {args : Array Value} {below : List Frame} {meth : Method} {c : Code} {H : Heap} {locs : List Loc} {cs sl mc ms pc : Nat} {Qw : State → Prop} {ls : Array Slot} {st0 rest : List Value} {a : Array Value} {g : ab_W} {Q : ab_Q}
    (hr : va_Run p l e R s m args below meth c H locs cs sl mc ms (F0 m pc ls st0) rest (ab_Qc g Q a) (ab_A g)) (hS : va_S (ab_A g) s.heap H locs)
    (kk : ∀ (r : Option Value) (h2 : ab_H) (H1 : Heap) (locs1 : List Loc), Q r h2 → ab_Rel g h2 H1 → va_S (ab_A g) s.heap H1 locs1 → W p l e R s m args below meth c H1 locs1 (cs + mc) (sl + ms) Qw (F0 m (pc + 3) ls ((r.map (ab_cv g)).toList ++ rest))) :
    W p l e R s m args below meth c H locs cs sl Qw (F0 m pc ls st0) := by
  intro T hT X
  obtain ⟨v, st₀, t, T', L, h0, X', hL, e1, e2, ⟨⟨r, h2, hv, hq, hR⟩, hz, hk⟩, st⟩ := hr T hT X
  cases hv
  rw [h0] at hz hk
  obtain ⟨t2, a1, b1⟩ := kk r h2 T'.heap (locs ++ L) hq (by rw [e1]; exact hR)
    ⟨Nat.le_trans hS.1 (by rw [e1]; exact hz), fun q h1 h3 => by rw [e1, hk q (Nat.lt_of_lt_of_le h1 hS.1) h3]; exact hS.2.1 q h1 h3, fun q hq2 => by
      rcases List.mem_append.mp hq2 with h | h
      · exact hS.2.2 q h
      · exact hL q h⟩ T' rfl X'
  exact ⟨t2, st t2 a1, b1⟩
theorem ab_blind (g : ab_W) (h : ab_H) (As : List Value) : FrameBlind (va_Pc As (fun U => ab_Rel g h U.heap ∧ ab_F g U)) := fun _ _ _ _ q => ⟨q.1, q.2.1, q.2.2.same rfl rfl⟩
/-- the words of a method of the table -/
theorem ab_words {M : ab_M} (h : ab_okM M) : Cond.code (ab_my M) (ab_mb M) (ab_ml M) (ab_mr M) ∈ ab_TB ∧ Cond.initialized (ab_my M).cls ∈ ab_TB ∧ ab_ml M ≤ 40 ∧ plainName (ab_my M).cls = true ∧ ((ab_my M).cls ≠ "java/lang/invoke/MethodHandle" ∧ (ab_my M).cls ≠ "java/lang/invoke/VarHandle") ∧
    (ab_mk M = 0 → Cond.static (ab_my M) ∈ ab_TB) ∧ (ab_mk M = 1 → Cond.instanceMethod (ab_my M) ∈ ab_TB ∧ Cond.selects (ab_my M).cls (ab_my M) (ab_my M) ∈ ab_TB) ∧ (ab_mk M = 2 → Cond.instanceMethod (ab_my M) ∈ ab_TB ∧ (ab_my M).name = "<init>" ∧ ab_mr M = none) ∧ (ab_mo M).all (ab_ce M) = true := by
  obtain ⟨z, hz⟩ := h
  unfold ab_cm at hz
  simp only [Bool.and_eq_true, decide_eq_true_eq] at hz
  obtain ⟨⟨⟨⟨⟨⟨⟨h1, h2⟩, h3⟩, h4⟩, h5⟩, h6⟩, h7⟩, h8⟩ := hz
  refine ⟨ab_at_in h1, ab_at_in h2, h3, h4, ⟨h5, h6⟩, fun e => ?_, fun e => ?_, fun e => ?_, h8⟩
  · rw [e] at h7
    exact ab_at_in h7
  · rw [e] at h7
    simp only [Bool.and_eq_true] at h7
    exact ⟨ab_at_in h7.1, ab_at_in h7.2⟩
  · rw [e] at h7
    simp only [Bool.and_eq_true, decide_eq_true_eq] at h7
    exact ⟨ab_at_in h7.1.1, h7.1.2, h7.2⟩
theorem ab_pn_ok {y : MethodName} {n : Nat} (h : ab_pn y n = true) : (parseMethodDescriptor y.desc).map (fun d => d.parameters.length) = some n := by
  unfold ab_pn at h
  simpa using h
section ABC
variable {p : Program} {l : Launch} {e : Env} {R : Room} {s : State} {m : MethodId} {args : Array Value} {below : List Frame} {meth : Method} {c : Code} {H : Heap} {locs : List Loc} {cs sl pc d x n k z : Nat} {Qw : State → Prop} {ls : Array Slot} {st : List Value} {g : ab_W} {Q : ab_Q} {M M2 : ab_M} {h : ab_H}
/-- a call of a static method -/
theorem ab_callS (hX : ab_X g M (d + 1) p R s m args meth c) (hS : va_S (ab_A g) s.heap H locs) (hR : ab_Rel g h H) (hls : ls.size = ab_ml M) (hok : ab_okM M2) (hk : ab_mk M2 = 0) (hlink : (Cond.methodLink (ab_my M).cls k (ab_my M2) ∈ ab_TB) ∨ (Cond.methodLinkNest (ab_my M).cls k (ab_my M2) "SaintTheft" ∈ lw_tbl)) (hn : ab_pn (ab_my M2) n = true) (hd : decode (ab_mb M) pc = .ok (.invokestatic k, 3))
    (hl : n ≤ st.length) (hw : ((st.drop n).map fun v => v.category).sum ≤ 8) (hlen : (ab_en (st.take n).reverse).length ≤ ab_ml M2) (hc : cs + ab_mc M2 ≤ ab_mc M) (hs : sl + ab_ms M2 ≤ ab_ms M) (hsnd : ab_Snd g l d M2 Q (0, ab_ent (st.take n).reverse (ab_ml M2), [], h, 0, 0))
    (kk : ∀ (r : Option Value) (h2 : ab_H) (H1 : Heap) (locs1 : List Loc), Q r h2 → ab_Rel g h2 H1 → va_S (ab_A g) s.heap H1 locs1 → W p l e R s m args below meth c H1 locs1 (cs + ab_mc M2) (sl + ab_ms M2) Qw (F0 m (pc + 3) ls ((r.toList ++ st.drop n).map (ab_cv g)))) :
    W p l e R s m args below meth c H locs cs sl Qw (F0 m pc ls (st.map (ab_cv g))) := by
  obtain ⟨hx, hb, hml, hown, hts, hF, ⟨r1, r2, r3, r4⟩, -⟩ := hX
  obtain ⟨w1, w2, w3, w4, w5, w6, -⟩ := ab_words hok
  have hvf := hF.2.2.2.2.2.2.2.2.2.1
  have hM := ab_met w4 hlen hsnd
  have hst : st.map (ab_cv g) = (((st.take n).reverse).map (ab_cv g)).reverse ++ (st.drop n).map (ab_cv g) := by
    rw [← List.map_reverse, List.reverse_reverse, ← List.map_append, List.take_append_drop]
  have hp : PreS s H (va_Pc (((st.take n).reverse).map (ab_cv g)) (fun U => ab_Rel g h U.heap ∧ ab_F g U)) (((st.take n).reverse).map (ab_cv g)) := ⟨ab_blind g h _, fun U hU hW => ⟨rfl, by rw [hU]; exact hR, hF.warm hU hW hS⟩⟩
  have hroom : 2 * (F0 m pc ls (st.map (ab_cv g))).monitorRoom + (((st.drop n).map (ab_cv g)).map fun v => v.category).sum ≤ 8 := lv_room (by rw [ab_cats hvf]; exact hw)
  have hlr : (ab_rm d M2).frames + 1 ≤ R.frames ∧ 8 + (ab_ml M2 + 11) + (ab_rm d M2).locals ≤ R.locals := ⟨r1, by show 8 + (ab_ml M2 + 11) + 60 * (d + 1) ≤ R.locals; omega⟩
  have kk2 : ∀ (r : Option Value) (h2 : ab_H) (H1 : Heap) (locs1 : List Loc), Q r h2 → ab_Rel g h2 H1 → va_S (ab_A g) s.heap H1 locs1 → W p l e R s m args below meth c H1 locs1 (cs + ab_mc M2) (sl + ab_ms M2) Qw (F0 m (pc + 3) ls ((r.map (ab_cv g)).toList ++ (st.drop n).map (ab_cv g))) := by
    intro r h2 H1 locs1 a1 a2 a3
    have := kk r h2 H1 locs1 a1 a2 a3
    rw [List.map_append] at this
    cases r with
    | none => exact this
    | some v => exact this
  have hnl : (((st.take n).reverse).map (ab_cv g)).length = n := by simp; omega
  rcases hlink with hl1 | hl1
  · exact ab_goes (va_runS ⟨hx, hb, hml, hown, hts⟩ hM ⟨callB_of n hts (ab_good w1) rfl rfl rfl (hts _ w2) (hts _ hl1) ⟨w5.1, w5.2, ab_pn_ok hn⟩ hlr, hts _ (w6 hk)⟩ hp rfl hnl hls hst hroom hd ⟨by omega, by omega⟩) hS kk2
  · exact ab_goes (va_runSN ⟨hx, hb, hml, hown, hts⟩ hM ⟨va_cnB n hts (ab_good w1) rfl rfl rfl (hF.2.1 _ _ _ _ hl1) (hts _ w2) ⟨w5.1, w5.2, ab_pn_ok hn⟩ hlr, hts _ (w6 hk), trivial⟩ hp rfl hnl hls hst hroom hd ⟨by omega, by omega⟩) hS kk2
/-- .. of a constructor -/
theorem ab_callI {b : Nat} {As rest : List Value} (hX : ab_X g M (d + 1) p R s m args meth c) (hS : va_S (ab_A g) s.heap H locs) (hR : ab_Rel g h H) (hls : ls.size = ab_ml M) (hok : ab_okM M2) (hk : ab_mk M2 = 2) (hlink : (Cond.methodLink (ab_my M).cls k (ab_my M2) ∈ ab_TB) ∨ (Cond.methodLinkNest (ab_my M).cls k (ab_my M2) "SaintTheft" ∈ lw_tbl)) (hn : ab_pn (ab_my M2) n = true) (hd : decode (ab_mb M) pc = .ok (.invokespecial k, 3))
    (hnl : As.length = n) (hst : st = As.reverse ++ .ref b :: rest) (hb1 : b < 1000000) (hw : (rest.map fun v => v.category).sum ≤ 8) (hlen : (ab_en (.ref b :: As)).length ≤ ab_ml M2) (hc : cs + ab_mc M2 ≤ ab_mc M) (hs : sl + ab_ms M2 ≤ ab_ms M) (hsnd : ab_Snd g l d M2 Q (0, ab_ent (.ref b :: As) (ab_ml M2), [], h, 0, 0))
    (kk : ∀ (r : Option Value) (h2 : ab_H) (H1 : Heap) (locs1 : List Loc), Q r h2 → ab_Rel g h2 H1 → va_S (ab_A g) s.heap H1 locs1 → W p l e R s m args below meth c H1 locs1 (cs + ab_mc M2) (sl + ab_ms M2) Qw (F0 m (pc + 3) ls ((r.toList ++ rest).map (ab_cv g)))) :
    W p l e R s m args below meth c H locs cs sl Qw (F0 m pc ls (st.map (ab_cv g))) := by
  obtain ⟨hx, hb, hml, hown, hts, hF, ⟨r1, r2, r3, r4⟩, -⟩ := hX
  obtain ⟨w1, w2, w3, w4, w5, -, -, w6, -⟩ := ab_words hok
  obtain ⟨w7, w8, w9⟩ := w6 hk
  have hvf := hF.2.2.2.2.2.2.2.2.2.1
  have hM := ab_met w4 hlen hsnd
  have e1 : ab_cv g (.ref b) = .ref (ab_B g + b) := ab_rv_lt hb1
  have hst2 : st.map (ab_cv g) = (As.map (ab_cv g)).reverse ++ .ref (ab_B g + b) :: rest.map (ab_cv g) := by
    rw [hst, List.map_append, List.map_cons, List.map_reverse, e1]
  rw [List.map_cons, e1] at hM
  have hp : PreS s H (va_Pc (.ref (ab_B g + b) :: As.map (ab_cv g)) (fun U => ab_Rel g h U.heap ∧ ab_F g U)) (.ref (ab_B g + b) :: As.map (ab_cv g)) := ⟨ab_blind g h _, fun U hU hW => ⟨rfl, by rw [hU]; exact hR, hF.warm hU hW hS⟩⟩
  have hroom : 2 * (F0 m pc ls (st.map (ab_cv g))).monitorRoom + ((rest.map (ab_cv g)).map fun v => v.category).sum ≤ 8 := lv_room (by rw [ab_cats hvf]; exact hw)
  have hlr : (ab_rm d M2).frames + 1 ≤ R.frames ∧ 8 + (ab_ml M2 + 11) + (ab_rm d M2).locals ≤ R.locals := ⟨r1, by show 8 + (ab_ml M2 + 11) + 60 * (d + 1) ≤ R.locals; omega⟩
  have kk2 : ∀ (r : Option Value) (h2 : ab_H) (H1 : Heap) (locs1 : List Loc), Q r h2 → ab_Rel g h2 H1 → va_S (ab_A g) s.heap H1 locs1 → W p l e R s m args below meth c H1 locs1 (cs + ab_mc M2) (sl + ab_ms M2) Qw (F0 m (pc + 3) ls ((r.map (ab_cv g)).toList ++ rest.map (ab_cv g))) := by
    intro r h2 H1 locs1 a1 a2 a3
    have := kk r h2 H1 locs1 a1 a2 a3
    rw [List.map_append] at this
    cases r with
    | none => exact this
    | some v => exact this
  have hcw : ab_cw M2 = Cond.code (ab_my M2) (ab_mb M2) (ab_ml M2) none :: ab_TB := by unfold ab_cw; rw [w9]
  have hnl2 : (As.map (ab_cv g)).length = n := by rw [List.length_map]; exact hnl
  rcases hlink with hl1 | hl1
  · exact ab_goes (va_runI ⟨hx, hb, hml, hown, hts⟩ hM ⟨callB_of n hts (ab_good w1) hcw rfl rfl (hts _ w2) (hts _ hl1) ⟨w5.1, w5.2, ab_pn_ok hn⟩ hlr, w8, hts _ w7⟩ hp rfl hnl2 hls hst2 hroom hd ⟨by omega, by omega⟩) hS kk2
  · exact ab_goes (va_runIN ⟨hx, hb, hml, hown, hts⟩ hM ⟨va_cnB n hts (ab_good w1) hcw rfl rfl (hF.2.1 _ _ _ _ hl1) (hts _ w2) ⟨w5.1, w5.2, ab_pn_ok hn⟩ hlr, w8, hts _ w7⟩ hp rfl hnl2 hls hst2 hroom hd ⟨by omega, by omega⟩) hS kk2
/-- the cell of a receiver -/
theorem ab_recv {b y : Nat} (hF : ab_F g s) (hS : va_S (ab_A g) s.heap H locs) (hR : ab_Rel g h H) (hy : y < 12 ∨ y = 90) (hc : ab_S h b = .inl y) : ∃ a, ab_cv g (.ref b) = .ref a ∧ ∃ cell : Cell, H[a]? = some cell ∧ cell.vm.isStatics = false ∧ s.vm.findClass (ab_cnm y) = some cell.cls := by
  obtain ⟨hK, -, -, -, hV, -⟩ := hF
  obtain ⟨hP, -, hsp⟩ := hR
  rcases ab_inl hsp hc (by omega) with h1 | ⟨rfl, h1⟩
  · have hE : ab_E g h b = .inr (y, (List.range (ab_nf y)).map (fun k => ab_cv g (ab_fv h y b k))) := by
      unfold ab_E
      rw [hc]
    have hy12 : y < 12 := by
      rcases hy with hy | rfl
      · exact hy
      · obtain ⟨r, q1, -⟩ := hP b _ (by rw [ab_ws_at h1, hE])
        exact absurd q1 (by simp [ab_cls])
    have hlt : b < 1000000 := by have := hsp.2.1; omega
    exact ⟨ab_B g + b, ab_rv_lt hlt, va_recv hK hP (ab_clsE hy12) (by rw [ab_ws_at h1, hE])⟩
  · rcases h1 with rfl | rfl
    · exact ⟨ab_aK g 0, rfl, vk_recv hV (by decide) hS⟩
    · exact ⟨ab_aK g 1, rfl, vk_recv hV (by decide) hS⟩
/-- .. of a method of an object -/
theorem ab_callV {b y : Nat} {As rest : List Value} (hX : ab_X g M (d + 1) p R s m args meth c) (hS : va_S (ab_A g) s.heap H locs) (hR : ab_Rel g h H) (hls : ls.size = ab_ml M) (hok : ab_okM M2) (hk : ab_mk M2 = 1) (hlink : Cond.methodLink (ab_my M).cls k (ab_my M2) ∈ ab_TB) (hn : ab_pn (ab_my M2) n = true) (hd : decode (ab_mb M) pc = .ok (.invokevirtual k, 3)) (hy : y < 12 ∨ y = 90) (hcn : ab_cnm y = (ab_my M2).cls) (hcb : ab_S h b = .inl y)
    (hnl : As.length = n) (hst : st = As.reverse ++ .ref b :: rest) (hw : (rest.map fun v => v.category).sum ≤ 8) (hlen : (ab_en (.ref b :: As)).length ≤ ab_ml M2) (hc : cs + ab_mc M2 ≤ ab_mc M) (hs : sl + ab_ms M2 ≤ ab_ms M) (hsnd : ab_Snd g l d M2 Q (0, ab_ent (.ref b :: As) (ab_ml M2), [], h, 0, 0))
    (kk : ∀ (r : Option Value) (h2 : ab_H) (H1 : Heap) (locs1 : List Loc), Q r h2 → ab_Rel g h2 H1 → va_S (ab_A g) s.heap H1 locs1 → W p l e R s m args below meth c H1 locs1 (cs + ab_mc M2) (sl + ab_ms M2) Qw (F0 m (pc + 3) ls ((r.toList ++ rest).map (ab_cv g)))) :
    W p l e R s m args below meth c H locs cs sl Qw (F0 m pc ls (st.map (ab_cv g))) := by
  obtain ⟨hx, hb, hml, hown, hts, hF, ⟨r1, r2, r3, r4⟩, -⟩ := hX
  obtain ⟨w1, w2, w3, w4, w5, -, w6, -, -⟩ := ab_words hok
  obtain ⟨w7, w8⟩ := w6 hk
  have hvf := hF.2.2.2.2.2.2.2.2.2.1
  have hM := ab_met w4 hlen hsnd
  obtain ⟨a, e1, hcell⟩ := ab_recv hF hS hR hy hcb
  have hst2 : st.map (ab_cv g) = (As.map (ab_cv g)).reverse ++ .ref a :: rest.map (ab_cv g) := by
    rw [hst, List.map_append, List.map_cons, List.map_reverse, e1]
  rw [List.map_cons, e1] at hM
  rw [hcn] at hcell
  have hp : PreV s H (ab_my M2).cls a (va_Pc (.ref a :: As.map (ab_cv g)) (fun U => ab_Rel g h U.heap ∧ ab_F g U)) (As.map (ab_cv g)) := ⟨ab_blind g h _, hcell, fun U hU hW => ⟨rfl, by rw [hU]; exact hR, hF.warm hU hW hS⟩⟩
  have hroom : 2 * (F0 m pc ls (st.map (ab_cv g))).monitorRoom + ((rest.map (ab_cv g)).map fun v => v.category).sum ≤ 8 := lv_room (by rw [ab_cats hvf]; exact hw)
  have hlr : (ab_rm d M2).frames + 1 ≤ R.frames ∧ 8 + (ab_ml M2 + 11) + (ab_rm d M2).locals ≤ R.locals := ⟨r1, by show 8 + (ab_ml M2 + 11) + 60 * (d + 1) ≤ R.locals; omega⟩
  have kk2 : ∀ (r : Option Value) (h2 : ab_H) (H1 : Heap) (locs1 : List Loc), Q r h2 → ab_Rel g h2 H1 → va_S (ab_A g) s.heap H1 locs1 → W p l e R s m args below meth c H1 locs1 (cs + ab_mc M2) (sl + ab_ms M2) Qw (F0 m (pc + 3) ls ((r.map (ab_cv g)).toList ++ rest.map (ab_cv g))) := by
    intro r h2 H1 locs1 a1 a2 a3
    have := kk r h2 H1 locs1 a1 a2 a3
    rw [List.map_append] at this
    cases r with
    | none => exact this
    | some v => exact this
  have hnl2 : (As.map (ab_cv g)).length = n := by rw [List.length_map]; exact hnl
  exact ab_goes (va_runV ⟨hx, hb, hml, hown, hts⟩ hM ⟨callB_of n hts (ab_good w1) rfl rfl rfl (hts _ w2) (hts _ hlink) ⟨w5.1, w5.2, ab_pn_ok hn⟩ hlr, hts _ w7, hts _ w8⟩ hp rfl hnl2 hls hst2 hroom hd ⟨by omega, by omega⟩) hS kk2
end ABC

/-! the abstract machine's rows, for walking: one an instruction; the heap is (n, S, I, G, P) -/
def wr (I : Nat → Nat → Int32) (c k : Nat) (v : Int32) : Nat → Nat → Int32 := va_up I c (upd (I c) k v)
def wl (G : Nat → Nat → Int64) (c k : Nat) (v : Int64) : Nat → Nat → Int64 := va_up G c (vp_updL (G c) k v)
def wq (P : Nat → Nat → Option Nat) (c k : Nat) (v : Option Nat) : Nat → Nat → Option Nat := va_up P c (va_up (P c) k v)
theorem wr_at (I : Nat → Nat → Int32) (c k : Nat) (v : Int32) (c2 k2 : Nat) : wr I c k v c2 k2 = if c2 = c then (if k2 = k then v else I c k2) else I c2 k2 := by
  unfold wr va_up upd
  by_cases h : c2 = c
  · subst h; simp
  · simp [h]
theorem wl_at (G : Nat → Nat → Int64) (c k : Nat) (v : Int64) (c2 k2 : Nat) : wl G c k v c2 k2 = if c2 = c then (if k2 = k then v else G c k2) else G c2 k2 := by
  unfold wl va_up vp_updL
  by_cases h : c2 = c
  · subst h; simp
  · simp [h]
theorem wq_at (P : Nat → Nat → Option Nat) (c k : Nat) (v : Option Nat) (c2 k2 : Nat) : wq P c k v c2 k2 = if c2 = c then (if k2 = k then v else P c k2) else P c2 k2 := by
  unfold wq va_up
  by_cases h : c2 = c
  · subst h; simp
  · simp [h]
abbrev WP (d : Nat) (M : ab_M) (Q : ab_Q) (pc : Nat) (L : ab_Lo) (st : List Value) (h : ab_H) (cs sl : Nat) : Prop := ab_wp ab_MT d M Q pc L st h cs sl
section WX
variable {d : Nat} {M : ab_M} {Q : ab_Q} {pc e x y cs sl : Nat} {L L2 : ab_Lo} {r : List Value} {n : Nat} {S : Nat → ab_Sh} {I : Nat → Nat → Int32} {G : Nat → Nat → Int64} {P : Nat → Nat → Option Nat} {h : ab_H} {ts : List Nat}
theorem wx_one {t : ab_T} {st : List Value} (hs : ab_step M pc L st h cs sl = ab_go t) (k : ab_lfp (ab_call ab_MT d) M Q t) : WP d M Q pc L st h cs sl := ab_mk_ (by
  rw [hs]
  refine ⟨trivial, fun q hq _ => ?_⟩
  rcases List.mem_singleton.mp hq with rfl
  exact k)
theorem wx_chk {t : ab_T} {g : Prop} {st : List Value} (hs : ab_step M pc L st h cs sl = ab_gc g t) (hg : g) (k : ab_lfp (ab_call ab_MT d) M Q t) : WP d M Q pc L st h cs sl := ab_mk_ (by
  rw [hs]
  refine ⟨hg, fun q hq _ => ?_⟩
  rcases List.mem_singleton.mp hq with rfl
  exact k)
theorem wx_brs {t1 t2 : ab_T} {g : Prop} {st : List Value} (hs : ab_step M pc L st h cs sl = ab_br g t1 t2) (k1 : g → ab_lfp (ab_call ab_MT d) M Q t1) (k2 : ¬ g → ab_lfp (ab_call ab_MT d) M Q t2) : WP d M Q pc L st h cs sl := ab_mk_ (by
  rw [hs]
  refine ⟨trivial, fun q hq hg => ?_⟩
  rcases List.mem_cons.mp hq with rfl | hq
  · exact k1 hg
  · rcases List.mem_singleton.mp hq with rfl
    exact k2 hg)
theorem wx_iload {i : Nat} {v : Int32} {st : List Value} (hf : ab_find pc (ab_mo M) = some (.iload i, 2, x, y, ts)) (he : pc + 2 = e) (hl : L[i]? = some (some (.int v))) (k : WP d M Q e L (.int v :: st) h cs sl) : WP d M Q pc L st h cs sl := by
  subst he
  exact wx_one (by unfold ab_step; rw [hf]; show ab_li L i _ = _; unfold ab_li; rw [hl]) k
theorem wx_iload_n {i : Fin 4} {v : Int32} {st : List Value} (hf : ab_find pc (ab_mo M) = some (.iload_n i, 1, x, y, ts)) (he : pc + 1 = e) (hl : L[i.val]? = some (some (.int v))) (k : WP d M Q e L (.int v :: st) h cs sl) : WP d M Q pc L st h cs sl := by
  subst he
  exact wx_one (by unfold ab_step; rw [hf]; show ab_li L i.val _ = _; unfold ab_li; rw [hl]) k
theorem wx_lload {i : Nat} {v : Int64} {st : List Value} (hf : ab_find pc (ab_mo M) = some (.lload i, 2, x, y, ts)) (he : pc + 2 = e) (hl : L[i]? = some (some (.long v))) (k : WP d M Q e L (.long v :: st) h cs sl) : WP d M Q pc L st h cs sl := by
  subst he
  exact wx_one (by unfold ab_step; rw [hf]; show ab_ll L i _ = _; unfold ab_ll; rw [hl]) k
theorem wx_lload_n {i : Fin 4} {v : Int64} {st : List Value} (hf : ab_find pc (ab_mo M) = some (.lload_n i, 1, x, y, ts)) (he : pc + 1 = e) (hl : L[i.val]? = some (some (.long v))) (k : WP d M Q e L (.long v :: st) h cs sl) : WP d M Q pc L st h cs sl := by
  subst he
  exact wx_one (by unfold ab_step; rw [hf]; show ab_ll L i.val _ = _; unfold ab_ll; rw [hl]) k
theorem wx_aload {i : Nat} {v : Nat} {st : List Value} (hf : ab_find pc (ab_mo M) = some (.aload i, 2, x, y, ts)) (he : pc + 2 = e) (hl : L[i]? = some (some (.ref v))) (k : WP d M Q e L (.ref v :: st) h cs sl) : WP d M Q pc L st h cs sl := by
  subst he
  exact wx_one (by unfold ab_step; rw [hf]; show ab_lr L i _ = _; unfold ab_lr; rw [hl]) k
theorem wx_aload_n {i : Fin 4} {v : Nat} {st : List Value} (hf : ab_find pc (ab_mo M) = some (.aload_n i, 1, x, y, ts)) (he : pc + 1 = e) (hl : L[i.val]? = some (some (.ref v))) (k : WP d M Q e L (.ref v :: st) h cs sl) : WP d M Q pc L st h cs sl := by
  subst he
  exact wx_one (by unfold ab_step; rw [hf]; show ab_lr L i.val _ = _; unfold ab_lr; rw [hl]) k
theorem wx_istore {i : Nat} {v : Int32} (hf : ab_find pc (ab_mo M) = some (.istore i, 2, x, y, ts)) (he : pc + 2 = e) (hg : i < ab_ml M) (hL : ab_s1 L i (.int v) = L2) (k : WP d M Q e L2 r h cs sl) : WP d M Q pc L (.int v :: r) h cs sl := by
  subst he
  subst hL
  exact wx_chk (by unfold ab_step; rw [hf]; try rfl) hg k
theorem wx_istore_n {i : Fin 4} {v : Int32} (hf : ab_find pc (ab_mo M) = some (.istore_n i, 1, x, y, ts)) (he : pc + 1 = e) (hg : i.val < ab_ml M) (hL : ab_s1 L i.val (.int v) = L2) (k : WP d M Q e L2 r h cs sl) : WP d M Q pc L (.int v :: r) h cs sl := by
  subst he
  subst hL
  exact wx_chk (by unfold ab_step; rw [hf]; try rfl) hg k
theorem wx_lstore {i : Nat} {v : Int64} (hf : ab_find pc (ab_mo M) = some (.lstore i, 2, x, y, ts)) (he : pc + 2 = e) (hg : i + 1 < ab_ml M) (hL : ab_s2 L i (.long v) = L2) (k : WP d M Q e L2 r h cs sl) : WP d M Q pc L (.long v :: r) h cs sl := by
  subst he
  subst hL
  exact wx_chk (by unfold ab_step; rw [hf]; try rfl) hg k
theorem wx_lstore_n {i : Fin 4} {v : Int64} (hf : ab_find pc (ab_mo M) = some (.lstore_n i, 1, x, y, ts)) (he : pc + 1 = e) (hg : i.val + 1 < ab_ml M) (hL : ab_s2 L i.val (.long v) = L2) (k : WP d M Q e L2 r h cs sl) : WP d M Q pc L (.long v :: r) h cs sl := by
  subst he
  subst hL
  exact wx_chk (by unfold ab_step; rw [hf]; try rfl) hg k
theorem wx_astore {i : Nat} {v : Nat} (hf : ab_find pc (ab_mo M) = some (.astore i, 2, x, y, ts)) (he : pc + 2 = e) (hg : v < 1000000 ∧ i < ab_ml M) (hL : ab_s1 L i (.ref v) = L2) (k : WP d M Q e L2 r h cs sl) : WP d M Q pc L (.ref v :: r) h cs sl := by
  subst he
  subst hL
  exact wx_chk (by unfold ab_step; rw [hf]; try rfl) hg k
theorem wx_astore_n {i : Fin 4} {v : Nat} (hf : ab_find pc (ab_mo M) = some (.astore_n i, 1, x, y, ts)) (he : pc + 1 = e) (hg : v < 1000000 ∧ i.val < ab_ml M) (hL : ab_s1 L i.val (.ref v) = L2) (k : WP d M Q e L2 r h cs sl) : WP d M Q pc L (.ref v :: r) h cs sl := by
  subst he
  subst hL
  exact wx_chk (by unfold ab_step; rw [hf]; try rfl) hg k
theorem wx_iinc {i : Nat} {m : Int} {v : Int32} {st : List Value} (hf : ab_find pc (ab_mo M) = some (.iinc i m, 3, x, y, ts)) (he : pc + 3 = e) (hl : L[i]? = some (some (.int v))) (hg : i < ab_ml M) (hL : ab_s1 L i (.int (v + Int32.ofInt m)) = L2) (k : WP d M Q e L2 st h cs sl) : WP d M Q pc L st h cs sl := by
  subst he
  subst hL
  exact wx_chk (by unfold ab_step; rw [hf]; show ab_li L i _ = _; unfold ab_li; rw [hl]) hg k
theorem wx_iconst {m : Int} {v : Int32} {st : List Value} (hf : ab_find pc (ab_mo M) = some (.iconst m, 1, x, y, ts)) (he : pc + 1 = e) (hv : Int32.ofInt m = v) (k : WP d M Q e L (.int v :: st) h cs sl) : WP d M Q pc L st h cs sl := by
  subst he
  subst hv
  exact wx_one (by unfold ab_step; rw [hf]; try rfl) k
theorem wx_bipush {m : Int} {v : Int32} {st : List Value} (hf : ab_find pc (ab_mo M) = some (.bipush m, 2, x, y, ts)) (he : pc + 2 = e) (hv : (Int8.ofInt m).toInt32 = v) (k : WP d M Q e L (.int v :: st) h cs sl) : WP d M Q pc L st h cs sl := by
  subst he
  subst hv
  exact wx_one (by unfold ab_step; rw [hf]; try rfl) k
theorem wx_sipush {m : Int} {v : Int32} {st : List Value} (hf : ab_find pc (ab_mo M) = some (.sipush m, 3, x, y, ts)) (he : pc + 3 = e) (hv : (Int16.ofInt m).toInt32 = v) (k : WP d M Q e L (.int v :: st) h cs sl) : WP d M Q pc L st h cs sl := by
  subst he
  subst hv
  exact wx_one (by unfold ab_step; rw [hf]; try rfl) k
theorem wx_lconst {m : Fin 2} {v : Int64} {st : List Value} (hf : ab_find pc (ab_mo M) = some (.lconst m, 1, x, y, ts)) (he : pc + 1 = e) (hv : Int64.ofNat m.val = v) (k : WP d M Q e L (.long v :: st) h cs sl) : WP d M Q pc L st h cs sl := by
  subst he
  subst hv
  exact wx_one (by unfold ab_step; rw [hf]; try rfl) k
theorem wx_ldc {m z : Nat} {v : Int32} {st : List Value} (hf : ab_find pc (ab_mo M) = some (.ldc m, 2, x, y, [z])) (he : pc + 2 = e) (hv : Int32.ofNat x = v) (k : WP d M Q e L (.int v :: st) h cs sl) : WP d M Q pc L st h cs sl := by
  subst he
  subst hv
  exact wx_one (by unfold ab_step; rw [hf]; try rfl) k
theorem wx_ldcs {m z z2 : Nat} {st : List Value} (hf : ab_find pc (ab_mo M) = some (.ldc m, 2, x, y, [z, z2])) (he : pc + 2 = e) (k : WP d M Q e L (.ref x :: st) h cs sl) : WP d M Q pc L st h cs sl := by
  subst he
  exact wx_one (by unfold ab_step; rw [hf]; try rfl) k
theorem wx_ldcw {m : Nat} {v : Int32} {st : List Value} (hf : ab_find pc (ab_mo M) = some (.ldc_w m, 3, x, y, ts)) (he : pc + 3 = e) (hv : Int32.ofNat x = v) (k : WP d M Q e L (.int v :: st) h cs sl) : WP d M Q pc L st h cs sl := by
  subst he
  subst hv
  exact wx_one (by unfold ab_step; rw [hf]; try rfl) k
theorem wx_ldc2 {m : Nat} {v : Int64} {st : List Value} (hf : ab_find pc (ab_mo M) = some (.ldc2_w m, 3, x, y, ts)) (he : pc + 3 = e) (hv : Int64.ofNat x = v) (k : WP d M Q e L (.long v :: st) h cs sl) : WP d M Q pc L st h cs sl := by
  subst he
  subst hv
  exact wx_one (by unfold ab_step; rw [hf]; try rfl) k
theorem wx_gets {m z : Nat} {st : List Value} (hf : ab_find pc (ab_mo M) = some (.getstatic m, 3, x, y, [z])) (he : pc + 3 = e) (k : WP d M Q e L (.int 1 :: st) h cs sl) : WP d M Q pc L st h cs sl := by
  subst he
  exact wx_one (by unfold ab_step; rw [hf]; try rfl) k
theorem wx_gets2 {m z z2 : Nat} {st : List Value} (hf : ab_find pc (ab_mo M) = some (.getstatic m, 3, x, y, [z, z2])) (he : pc + 3 = e) (k : WP d M Q e L (.ref 1000020 :: st) h cs sl) : WP d M Q pc L st h cs sl := by
  subst he
  exact wx_one (by unfold ab_step; rw [hf]; try rfl) k
theorem wx_geti {m z c : Nat} (hf : ab_find pc (ab_mo M) = some (.getfield m, 3, x, y, [z])) (he : pc + 3 = e) (hS : S c = .inl x) (k : WP d M Q e L (.int (I c y) :: r) (n, S, I, G, P) cs sl) : WP d M Q pc L (.ref c :: r) (n, S, I, G, P) cs sl := by
  subst he
  exact wx_chk (by unfold ab_step; rw [hf]; try rfl) hS k
theorem wx_getr {m z z2 c v : Nat} (hf : ab_find pc (ab_mo M) = some (.getfield m, 3, x, y, [z, z2])) (he : pc + 3 = e) (hS : S c = .inl x) (hP : P c y = some v) (k : WP d M Q e L (.ref v :: r) (n, S, I, G, P) cs sl) : WP d M Q pc L (.ref c :: r) (n, S, I, G, P) cs sl := by
  subst he
  refine wx_chk (by unfold ab_step; rw [hf]; try rfl) hS ?_
  show WP d M Q (pc + 3) L (ab_rf (P c y) :: r) (n, S, I, G, P) cs sl
  rw [hP]
  exact k
theorem wx_puti {m z c : Nat} {v : Int32} (hf : ab_find pc (ab_mo M) = some (.putfield m, 3, x, y, [z])) (he : pc + 3 = e) (hS : S c = .inl x) (hc : c < 1000000) (k : WP d M Q e L r (n, S, wr I c y v, G, P) cs sl) : WP d M Q pc L (.int v :: .ref c :: r) (n, S, I, G, P) cs sl := by
  subst he
  exact wx_chk (g := S c = .inl x ∧ c < 1000000 ∧ narrow .int (.int v) = .int v) (by unfold ab_step; rw [hf]; try rfl) ⟨hS, hc, rfl⟩ k
theorem wx_putz {m z z2 c : Nat} {v : Int32} (hf : ab_find pc (ab_mo M) = some (.putfield m, 3, x, y, [z, z2])) (he : pc + 3 = e) (hS : S c = .inl x) (hc : c < 1000000) (hv : v = 0 ∨ v = 1) (k : WP d M Q e L r (n, S, wr I c y v, G, P) cs sl) : WP d M Q pc L (.int v :: .ref c :: r) (n, S, I, G, P) cs sl := by
  subst he
  exact wx_chk (g := S c = .inl x ∧ c < 1000000 ∧ (v = 0 ∨ v = 1)) (by unfold ab_step; rw [hf]; try rfl) ⟨hS, hc, hv⟩ k
theorem wx_putr {m z z2 z3 c v : Nat} (hf : ab_find pc (ab_mo M) = some (.putfield m, 3, x, y, [z, z2, z3])) (he : pc + 3 = e) (hS : S c = .inl x) (hc : c < 1000000) (hv : v < 1000000) (k : WP d M Q e L r (n, S, I, G, wq P c y (some v)) cs sl) : WP d M Q pc L (.ref v :: .ref c :: r) (n, S, I, G, P) cs sl := by
  subst he
  exact wx_chk (g := S c = .inl x ∧ c < 1000000 ∧ v < 1000000) (by unfold ab_step; rw [hf]; try rfl) ⟨hS, hc, hv⟩ k
theorem wx_alen {c N : Nat} {ty : FieldType} {v : Int32} (hf : ab_find pc (ab_mo M) = some (.arraylength, 1, x, y, ts)) (he : pc + 1 = e) (hS : S c = .inr (ty, N)) (hg : ty = .int ∨ ty = .byte ∨ ty = .boolean ∨ ty = .long) (hv : Int32.ofNat N = v) (k : WP d M Q e L (.int v :: r) (n, S, I, G, P) cs sl) : WP d M Q pc L (.ref c :: r) (n, S, I, G, P) cs sl := by
  subst he
  subst hv
  refine wx_chk (t := (pc + 1, L, .int (Int32.ofNat N) :: r, (n, S, I, G, P), cs, sl)) (by unfold ab_step; rw [hf]; show (match S c with | .inr (ty, n) => _ | _ => _) = _; rw [hS]) hg k
theorem wx_iald {c N : Nat} {j : Int32} (hf : ab_find pc (ab_mo M) = some (.iaload, 1, x, y, ts)) (he : pc + 1 = e) (hS : S c = .inr (.int, N)) (hg : vp_in j N) (k : WP d M Q e L (.int (I c j.toNatClampNeg) :: r) (n, S, I, G, P) cs sl) : WP d M Q pc L (.int j :: .ref c :: r) (n, S, I, G, P) cs sl := by
  subst he
  refine wx_chk (t := (pc + 1, L, .int (I c j.toNatClampNeg) :: r, (n, S, I, G, P), cs, sl)) (by unfold ab_step; rw [hf]; show (match S c with | .inr (.int, n) => _ | _ => _) = _; rw [hS]) hg k
theorem wx_bald {c N : Nat} {j : Int32} (hf : ab_find pc (ab_mo M) = some (.baload, 1, x, y, ts)) (he : pc + 1 = e) (hS : S c = .inr (.byte, N)) (hg : vp_in j N) (k : WP d M Q e L (.int (I c j.toNatClampNeg) :: r) (n, S, I, G, P) cs sl) : WP d M Q pc L (.int j :: .ref c :: r) (n, S, I, G, P) cs sl := by
  subst he
  refine wx_chk (t := (pc + 1, L, .int (I c j.toNatClampNeg) :: r, (n, S, I, G, P), cs, sl)) (by unfold ab_step; rw [hf]; show (match S c with | .inr (.byte, n) => _ | .inr (.boolean, n) => _ | _ => _) = _; rw [hS]) hg k
theorem wx_zald {c N : Nat} {j : Int32} (hf : ab_find pc (ab_mo M) = some (.baload, 1, x, y, ts)) (he : pc + 1 = e) (hS : S c = .inr (.boolean, N)) (hg : vp_in j N) (k : WP d M Q e L (.int (I c j.toNatClampNeg) :: r) (n, S, I, G, P) cs sl) : WP d M Q pc L (.int j :: .ref c :: r) (n, S, I, G, P) cs sl := by
  subst he
  refine wx_chk (t := (pc + 1, L, .int (I c j.toNatClampNeg) :: r, (n, S, I, G, P), cs, sl)) (by unfold ab_step; rw [hf]; show (match S c with | .inr (.byte, n) => _ | .inr (.boolean, n) => _ | _ => _) = _; rw [hS]) hg k
theorem wx_lald {c N : Nat} {j : Int32} (hf : ab_find pc (ab_mo M) = some (.laload, 1, x, y, ts)) (he : pc + 1 = e) (hS : S c = .inr (.long, N)) (hg : vp_in j N) (k : WP d M Q e L (.long (G c j.toNatClampNeg) :: r) (n, S, I, G, P) cs sl) : WP d M Q pc L (.int j :: .ref c :: r) (n, S, I, G, P) cs sl := by
  subst he
  refine wx_chk (t := (pc + 1, L, .long (G c j.toNatClampNeg) :: r, (n, S, I, G, P), cs, sl)) (by unfold ab_step; rw [hf]; show (match S c with | .inr (.long, n) => _ | _ => _) = _; rw [hS]) hg k
theorem wx_iast {c N : Nat} {j : Int32} {v : Int32} (hf : ab_find pc (ab_mo M) = some (.iastore, 1, x, y, ts)) (he : pc + 1 = e) (hS : S c = .inr (.int, N)) (hc : c < 1000000) (hg : vp_in j N) (k : WP d M Q e L r (n, S, wr I c j.toNatClampNeg v, G, P) cs sl) : WP d M Q pc L (.int v :: .int j :: .ref c :: r) (n, S, I, G, P) cs sl := by
  subst he
  refine wx_chk (g := c < 1000000 ∧ vp_in j N) (t := (pc + 1, L, r, (n, S, wr I c j.toNatClampNeg v, G, P), cs, sl)) (by unfold ab_step; rw [hf]; show (match S c with | .inr (.int, n) => _ | _ => _) = _; rw [hS]; try rfl) ⟨hc, hg⟩ k
theorem wx_bast {c N : Nat} {j : Int32} {v : Int32} (hf : ab_find pc (ab_mo M) = some (.bastore, 1, x, y, ts)) (he : pc + 1 = e) (hS : S c = .inr (.byte, N)) (hc : c < 1000000) (hg : vp_in j N) (k : WP d M Q e L r (n, S, wr I c j.toNatClampNeg (vp_nar .byte v), G, P) cs sl) : WP d M Q pc L (.int v :: .int j :: .ref c :: r) (n, S, I, G, P) cs sl := by
  subst he
  refine wx_chk (g := c < 1000000 ∧ vp_in j N) (t := (pc + 1, L, r, (n, S, wr I c j.toNatClampNeg (vp_nar .byte v), G, P), cs, sl)) (by unfold ab_step; rw [hf]; show (match S c with | .inr (.byte, n) => _ | .inr (.boolean, n) => _ | _ => _) = _; rw [hS]; try rfl) ⟨hc, hg⟩ k
theorem wx_zast {c N : Nat} {j : Int32} {v : Int32} (hf : ab_find pc (ab_mo M) = some (.bastore, 1, x, y, ts)) (he : pc + 1 = e) (hS : S c = .inr (.boolean, N)) (hc : c < 1000000) (hg : vp_in j N) (k : WP d M Q e L r (n, S, wr I c j.toNatClampNeg (vp_nar .boolean v), G, P) cs sl) : WP d M Q pc L (.int v :: .int j :: .ref c :: r) (n, S, I, G, P) cs sl := by
  subst he
  refine wx_chk (g := c < 1000000 ∧ vp_in j N) (t := (pc + 1, L, r, (n, S, wr I c j.toNatClampNeg (vp_nar .boolean v), G, P), cs, sl)) (by unfold ab_step; rw [hf]; show (match S c with | .inr (.byte, n) => _ | .inr (.boolean, n) => _ | _ => _) = _; rw [hS]; try rfl) ⟨hc, hg⟩ k
theorem wx_last {c N : Nat} {j : Int32} {v : Int64} (hf : ab_find pc (ab_mo M) = some (.lastore, 1, x, y, ts)) (he : pc + 1 = e) (hS : S c = .inr (.long, N)) (hc : c < 1000000) (hg : vp_in j N) (k : WP d M Q e L r (n, S, I, wl G c j.toNatClampNeg v, P) cs sl) : WP d M Q pc L (.long v :: .int j :: .ref c :: r) (n, S, I, G, P) cs sl := by
  subst he
  refine wx_chk (g := c < 1000000 ∧ vp_in j N) (t := (pc + 1, L, r, (n, S, I, wl G c j.toNatClampNeg v, P), cs, sl)) (by unfold ab_step; rw [hf]; show (match S c with | .inr (.long, n) => _ | _ => _) = _; rw [hS]; try rfl) ⟨hc, hg⟩ k
theorem wx_iadd {a b : Int32} (hf : ab_find pc (ab_mo M) = some (.iadd, 1, x, y, ts)) (he : pc + 1 = e) (k : WP d M Q e L (.int (a + b) :: r) h cs sl) : WP d M Q pc L (.int b :: .int a :: r) h cs sl := by
  subst he
  exact wx_one (by unfold ab_step; rw [hf]; try rfl) k
theorem wx_isub {a b : Int32} (hf : ab_find pc (ab_mo M) = some (.isub, 1, x, y, ts)) (he : pc + 1 = e) (k : WP d M Q e L (.int (a - b) :: r) h cs sl) : WP d M Q pc L (.int b :: .int a :: r) h cs sl := by
  subst he
  exact wx_one (by unfold ab_step; rw [hf]; try rfl) k
theorem wx_imul {a b : Int32} (hf : ab_find pc (ab_mo M) = some (.imul, 1, x, y, ts)) (he : pc + 1 = e) (k : WP d M Q e L (.int (a * b) :: r) h cs sl) : WP d M Q pc L (.int b :: .int a :: r) h cs sl := by
  subst he
  exact wx_one (by unfold ab_step; rw [hf]; try rfl) k
theorem wx_iand {a b : Int32} (hf : ab_find pc (ab_mo M) = some (.iand, 1, x, y, ts)) (he : pc + 1 = e) (k : WP d M Q e L (.int (a &&& b) :: r) h cs sl) : WP d M Q pc L (.int b :: .int a :: r) h cs sl := by
  subst he
  exact wx_one (by unfold ab_step; rw [hf]; try rfl) k
theorem wx_ior {a b : Int32} (hf : ab_find pc (ab_mo M) = some (.ior, 1, x, y, ts)) (he : pc + 1 = e) (k : WP d M Q e L (.int (a ||| b) :: r) h cs sl) : WP d M Q pc L (.int b :: .int a :: r) h cs sl := by
  subst he
  exact wx_one (by unfold ab_step; rw [hf]; try rfl) k
theorem wx_ixor {a b : Int32} (hf : ab_find pc (ab_mo M) = some (.ixor, 1, x, y, ts)) (he : pc + 1 = e) (k : WP d M Q e L (.int (a ^^^ b) :: r) h cs sl) : WP d M Q pc L (.int b :: .int a :: r) h cs sl := by
  subst he
  exact wx_one (by unfold ab_step; rw [hf]; try rfl) k
theorem wx_ishl {a b : Int32} (hf : ab_find pc (ab_mo M) = some (.ishl, 1, x, y, ts)) (he : pc + 1 = e) (k : WP d M Q e L (.int (a <<< (b &&& 31)) :: r) h cs sl) : WP d M Q pc L (.int b :: .int a :: r) h cs sl := by
  subst he
  exact wx_one (by unfold ab_step; rw [hf]; try rfl) k
theorem wx_ishr {a b : Int32} (hf : ab_find pc (ab_mo M) = some (.ishr, 1, x, y, ts)) (he : pc + 1 = e) (k : WP d M Q e L (.int (a >>> (b &&& 31)) :: r) h cs sl) : WP d M Q pc L (.int b :: .int a :: r) h cs sl := by
  subst he
  exact wx_one (by unfold ab_step; rw [hf]; try rfl) k
theorem wx_iushr {a b : Int32} (hf : ab_find pc (ab_mo M) = some (.iushr, 1, x, y, ts)) (he : pc + 1 = e) (k : WP d M Q e L (.int ((a.toUInt32 >>> (b.toUInt32 &&& Int32.toUInt32 31)).toInt32) :: r) h cs sl) : WP d M Q pc L (.int b :: .int a :: r) h cs sl := by
  subst he
  exact wx_one (by unfold ab_step; rw [hf]; try rfl) k
theorem wx_idiv {a b : Int32} (hf : ab_find pc (ab_mo M) = some (.idiv, 1, x, y, ts)) (he : pc + 1 = e) (hg : ¬ b = 0) (k : WP d M Q e L (.int (a / b) :: r) h cs sl) : WP d M Q pc L (.int b :: .int a :: r) h cs sl := by
  subst he
  exact wx_chk (by unfold ab_step; rw [hf]; try rfl) hg k
theorem wx_irem {a b : Int32} (hf : ab_find pc (ab_mo M) = some (.irem, 1, x, y, ts)) (he : pc + 1 = e) (hg : ¬ b = 0) (k : WP d M Q e L (.int (a - a / b * b) :: r) h cs sl) : WP d M Q pc L (.int b :: .int a :: r) h cs sl := by
  subst he
  exact wx_chk (by unfold ab_step; rw [hf]; try rfl) hg k
theorem wx_ladd {a b : Int64} (hf : ab_find pc (ab_mo M) = some (.ladd, 1, x, y, ts)) (he : pc + 1 = e) (k : WP d M Q e L (.long (a + b) :: r) h cs sl) : WP d M Q pc L (.long b :: .long a :: r) h cs sl := by
  subst he
  exact wx_one (by unfold ab_step; rw [hf]; try rfl) k
theorem wx_lmul {a b : Int64} (hf : ab_find pc (ab_mo M) = some (.lmul, 1, x, y, ts)) (he : pc + 1 = e) (k : WP d M Q e L (.long (a * b) :: r) h cs sl) : WP d M Q pc L (.long b :: .long a :: r) h cs sl := by
  subst he
  exact wx_one (by unfold ab_step; rw [hf]; try rfl) k
theorem wx_ldiv {a b : Int64} (hf : ab_find pc (ab_mo M) = some (.ldiv, 1, x, y, ts)) (he : pc + 1 = e) (hg : ¬ b = 0) (k : WP d M Q e L (.long (a / b) :: r) h cs sl) : WP d M Q pc L (.long b :: .long a :: r) h cs sl := by
  subst he
  exact wx_chk (by unfold ab_step; rw [hf]; try rfl) hg k
theorem wx_lrem {a b : Int64} (hf : ab_find pc (ab_mo M) = some (.lrem, 1, x, y, ts)) (he : pc + 1 = e) (hg : ¬ b = 0) (k : WP d M Q e L (.long (a - a / b * b) :: r) h cs sl) : WP d M Q pc L (.long b :: .long a :: r) h cs sl := by
  subst he
  exact wx_chk (by unfold ab_step; rw [hf]; try rfl) hg k
theorem wx_lcmp {a b : Int64} (hf : ab_find pc (ab_mo M) = some (.lcmp, 1, x, y, ts)) (he : pc + 1 = e) (k : WP d M Q e L (.int (lg_cmp a b) :: r) h cs sl) : WP d M Q pc L (.long b :: .long a :: r) h cs sl := by
  subst he
  exact wx_one (by unfold ab_step; rw [hf]; try rfl) k
theorem wx_i2l {a : Int32} (hf : ab_find pc (ab_mo M) = some (.i2l, 1, x, y, ts)) (he : pc + 1 = e) (k : WP d M Q e L (.long (a.toInt64) :: r) h cs sl) : WP d M Q pc L (.int a :: r) h cs sl := by
  subst he
  exact wx_one (by unfold ab_step; rw [hf]; try rfl) k
theorem wx_l2i {a : Int64} (hf : ab_find pc (ab_mo M) = some (.l2i, 1, x, y, ts)) (he : pc + 1 = e) (k : WP d M Q e L (.int (a.toInt32) :: r) h cs sl) : WP d M Q pc L (.long a :: r) h cs sl := by
  subst he
  exact wx_one (by unfold ab_step; rw [hf]; try rfl) k
theorem wx_i2b {a : Int32} (hf : ab_find pc (ab_mo M) = some (.i2b, 1, x, y, ts)) (he : pc + 1 = e) (k : WP d M Q e L (.int (a.toInt8.toInt32) :: r) h cs sl) : WP d M Q pc L (.int a :: r) h cs sl := by
  subst he
  exact wx_one (by unfold ab_step; rw [hf]; try rfl) k
theorem wx_i2c {a : Int32} (hf : ab_find pc (ab_mo M) = some (.i2c, 1, x, y, ts)) (he : pc + 1 = e) (k : WP d M Q e L (.int ((a.toUInt32 % 65536).toInt32) :: r) h cs sl) : WP d M Q pc L (.int a :: r) h cs sl := by
  subst he
  exact wx_one (by unfold ab_step; rw [hf]; try rfl) k
theorem wx_if_eq {a : Int32} {off : Int} (hf : ab_find pc (ab_mo M) = some (.ifCond .eq off, 3, x, y, ts)) (he : pc + 3 = e) (k1 : a = 0 → WP d M Q x L r h cs sl) (k2 : ¬ a = 0 → WP d M Q e L r h cs sl) : WP d M Q pc L (.int a :: r) h cs sl := by
  subst he
  exact wx_brs (by unfold ab_step; rw [hf]; try rfl) k1 (fun z => (k2 z))
theorem wx_ic_eq {a b : Int32} {off : Int} (hf : ab_find pc (ab_mo M) = some (.if_icmp .eq off, 3, x, y, ts)) (he : pc + 3 = e) (k1 : a = b → WP d M Q x L r h cs sl) (k2 : ¬ a = b → WP d M Q e L r h cs sl) : WP d M Q pc L (.int b :: .int a :: r) h cs sl := by
  subst he
  exact wx_brs (by unfold ab_step; rw [hf]; try rfl) k1 (fun z => (k2 z))
theorem wx_if_ne {a : Int32} {off : Int} (hf : ab_find pc (ab_mo M) = some (.ifCond .ne off, 3, x, y, ts)) (he : pc + 3 = e) (k1 : ¬ a = 0 → WP d M Q x L r h cs sl) (k2 : a = 0 → WP d M Q e L r h cs sl) : WP d M Q pc L (.int a :: r) h cs sl := by
  subst he
  exact wx_brs (by unfold ab_step; rw [hf]; try rfl) k1 (fun z => (k2 (Classical.not_not.mp z)))
theorem wx_ic_ne {a b : Int32} {off : Int} (hf : ab_find pc (ab_mo M) = some (.if_icmp .ne off, 3, x, y, ts)) (he : pc + 3 = e) (k1 : ¬ a = b → WP d M Q x L r h cs sl) (k2 : a = b → WP d M Q e L r h cs sl) : WP d M Q pc L (.int b :: .int a :: r) h cs sl := by
  subst he
  exact wx_brs (by unfold ab_step; rw [hf]; try rfl) k1 (fun z => (k2 (Classical.not_not.mp z)))
theorem wx_if_lt {a : Int32} {off : Int} (hf : ab_find pc (ab_mo M) = some (.ifCond .lt off, 3, x, y, ts)) (he : pc + 3 = e) (k1 : a < 0 → WP d M Q x L r h cs sl) (k2 : ¬ a < 0 → WP d M Q e L r h cs sl) : WP d M Q pc L (.int a :: r) h cs sl := by
  subst he
  exact wx_brs (by unfold ab_step; rw [hf]; try rfl) k1 (fun z => (k2 z))
theorem wx_ic_lt {a b : Int32} {off : Int} (hf : ab_find pc (ab_mo M) = some (.if_icmp .lt off, 3, x, y, ts)) (he : pc + 3 = e) (k1 : a < b → WP d M Q x L r h cs sl) (k2 : ¬ a < b → WP d M Q e L r h cs sl) : WP d M Q pc L (.int b :: .int a :: r) h cs sl := by
  subst he
  exact wx_brs (by unfold ab_step; rw [hf]; try rfl) k1 (fun z => (k2 z))
theorem wx_if_ge {a : Int32} {off : Int} (hf : ab_find pc (ab_mo M) = some (.ifCond .ge off, 3, x, y, ts)) (he : pc + 3 = e) (k1 : 0 ≤ a → WP d M Q x L r h cs sl) (k2 : ¬ 0 ≤ a → WP d M Q e L r h cs sl) : WP d M Q pc L (.int a :: r) h cs sl := by
  subst he
  exact wx_brs (by unfold ab_step; rw [hf]; try rfl) k1 (fun z => (k2 z))
theorem wx_ic_ge {a b : Int32} {off : Int} (hf : ab_find pc (ab_mo M) = some (.if_icmp .ge off, 3, x, y, ts)) (he : pc + 3 = e) (k1 : b ≤ a → WP d M Q x L r h cs sl) (k2 : ¬ b ≤ a → WP d M Q e L r h cs sl) : WP d M Q pc L (.int b :: .int a :: r) h cs sl := by
  subst he
  exact wx_brs (by unfold ab_step; rw [hf]; try rfl) k1 (fun z => (k2 z))
theorem wx_if_gt {a : Int32} {off : Int} (hf : ab_find pc (ab_mo M) = some (.ifCond .gt off, 3, x, y, ts)) (he : pc + 3 = e) (k1 : 0 < a → WP d M Q x L r h cs sl) (k2 : ¬ 0 < a → WP d M Q e L r h cs sl) : WP d M Q pc L (.int a :: r) h cs sl := by
  subst he
  exact wx_brs (by unfold ab_step; rw [hf]; try rfl) k1 (fun z => (k2 z))
theorem wx_ic_gt {a b : Int32} {off : Int} (hf : ab_find pc (ab_mo M) = some (.if_icmp .gt off, 3, x, y, ts)) (he : pc + 3 = e) (k1 : b < a → WP d M Q x L r h cs sl) (k2 : ¬ b < a → WP d M Q e L r h cs sl) : WP d M Q pc L (.int b :: .int a :: r) h cs sl := by
  subst he
  exact wx_brs (by unfold ab_step; rw [hf]; try rfl) k1 (fun z => (k2 z))
theorem wx_if_le {a : Int32} {off : Int} (hf : ab_find pc (ab_mo M) = some (.ifCond .le off, 3, x, y, ts)) (he : pc + 3 = e) (k1 : a ≤ 0 → WP d M Q x L r h cs sl) (k2 : ¬ a ≤ 0 → WP d M Q e L r h cs sl) : WP d M Q pc L (.int a :: r) h cs sl := by
  subst he
  exact wx_brs (by unfold ab_step; rw [hf]; try rfl) k1 (fun z => (k2 z))
theorem wx_ic_le {a b : Int32} {off : Int} (hf : ab_find pc (ab_mo M) = some (.if_icmp .le off, 3, x, y, ts)) (he : pc + 3 = e) (k1 : a ≤ b → WP d M Q x L r h cs sl) (k2 : ¬ a ≤ b → WP d M Q e L r h cs sl) : WP d M Q pc L (.int b :: .int a :: r) h cs sl := by
  subst he
  exact wx_brs (by unfold ab_step; rw [hf]; try rfl) k1 (fun z => (k2 z))
theorem wx_goto {off : Int} {st : List Value} (hf : ab_find pc (ab_mo M) = some (.goto off, 3, x, y, ts)) (k : WP d M Q x L st h cs sl) : WP d M Q pc L st h cs sl := wx_one (by unfold ab_step; rw [hf]; try rfl) k
theorem wx_sw {a : Int32} {df lo hi : Int} {offs : Array Int} {len : Nat} (hf : ab_find pc (ab_mo M) = some (.tableswitch df lo hi offs, len, x, y, ts)) (k0 : (a.toInt < lo ∨ hi < a.toInt) → WP d M Q x L r h cs sl) (k : ∀ q ∈ ab_sw a lo L r h cs sl 0 ts, q.1 → ab_lfp (ab_call ab_MT d) M Q q.2) : WP d M Q pc L (.int a :: r) h cs sl := ab_mk_ (by
  unfold ab_step
  rw [hf]
  refine ⟨trivial, fun q hq hg => ?_⟩
  rcases List.mem_cons.mp hq with rfl | hq
  · exact k0 hg
  · exact k q hq hg)
theorem wx_dup {v : Value} (hf : ab_find pc (ab_mo M) = some (.dup, 1, x, y, ts)) (he : pc + 1 = e) (hg : v.category = 1) (k : WP d M Q e L (v :: v :: r) h cs sl) : WP d M Q pc L (v :: r) h cs sl := by
  subst he
  exact wx_chk (by unfold ab_step; rw [hf]; try rfl) hg k
theorem wx_dup2 {v w : Value} (hf : ab_find pc (ab_mo M) = some (.dup2, 1, x, y, ts)) (he : pc + 1 = e) (hg : v.category = 1 ∧ w.category = 1) (k : WP d M Q e L (v :: w :: v :: w :: r) h cs sl) : WP d M Q pc L (v :: w :: r) h cs sl := by
  subst he
  exact wx_chk (by unfold ab_step; rw [hf]; try rfl) hg k
theorem wx_pop {v : Value} (hf : ab_find pc (ab_mo M) = some (.pop, 1, x, y, ts)) (he : pc + 1 = e) (hg : v.category = 1) (k : WP d M Q e L r h cs sl) : WP d M Q pc L (v :: r) h cs sl := by
  subst he
  exact wx_chk (by unfold ab_step; rw [hf]; try rfl) hg k
theorem wx_obj {m z c : Nat} (hf : ab_find pc (ab_mo M) = some (.invokespecial m, 3, x, y, [z])) (he : pc + 3 = e) (hg : c < 1000000 ∧ (r.map fun v => v.category).sum ≤ 8) (k : WP d M Q e L r h cs sl) : WP d M Q pc L (.ref c :: r) h cs sl := by
  subst he
  exact wx_chk (by unfold ab_step; rw [hf]; try rfl) hg k
theorem wx_new {m z : Nat} {st : List Value} (hf : ab_find pc (ab_mo M) = some (.new m, 3, x, y, [z])) (he : pc + 3 = e) (hg : n < 600000 ∧ cs + 1 ≤ ab_mc M ∧ sl + y ≤ ab_ms M) (k : WP d M Q e L (.ref n :: st) (ab_nw (n, S, I, G, P) (.inl x)) (cs + 1) (sl + y)) : WP d M Q pc L st (n, S, I, G, P) cs sl := by
  subst he
  exact wx_chk (by unfold ab_step; rw [hf]; try rfl) hg k
theorem wx_newa {a : ArrayType} {v : Int32} (hf : ab_find pc (ab_mo M) = some (.newarray a, 2, x, y, ts)) (he : pc + 2 = e) (hg : n < 600000 ∧ ¬ v < 0 ∧ v.toNatClampNeg ≤ 100000 ∧ cs + 1 ≤ ab_mc M ∧ sl + v.toNatClampNeg ≤ ab_ms M) (k : WP d M Q e L (.ref n :: r) (ab_nw (n, S, I, G, P) (.inr (ab_aty a, v.toNatClampNeg))) (cs + 1) (sl + v.toNatClampNeg)) : WP d M Q pc L (.int v :: r) (n, S, I, G, P) cs sl := by
  subst he
  exact wx_chk (by unfold ab_step; rw [hf]; try rfl) hg k
theorem wx_iret {v : Int32} {ty : FieldType} (hf : ab_find pc (ab_mo M) = some (.ireturn, 1, x, y, ts)) (hr : ab_mr M = some ty) (hn : narrow ty (.int v) = .int v) (hc : cs ≤ ab_mc M ∧ sl ≤ ab_ms M) (hq : Q (some (.int v)) h) : WP d M Q pc L [.int v] h cs sl := ab_mk_ (by
  unfold ab_step
  rw [hf]
  show ab_all _ _ _ _ _ _ _ (match ab_mr M with | some ty => _ | none => _)
  rw [hr]
  exact ⟨⟨hn, hc⟩, hq⟩)
theorem wx_lret {v : Int64} (hf : ab_find pc (ab_mo M) = some (.lreturn, 1, x, y, ts)) (hr : ab_mr M = some .long) (hc : cs ≤ ab_mc M ∧ sl ≤ ab_ms M) (hq : Q (some (.long v)) h) : WP d M Q pc L [.long v] h cs sl := ab_mk_ (by
  unfold ab_step
  rw [hf]
  show ab_all _ _ _ _ _ _ _ (match ab_mr M with | some .long => _ | _ => _)
  rw [hr]
  exact ⟨hc, hq⟩)
theorem wx_aret {v : Nat} {nm : String} (hf : ab_find pc (ab_mo M) = some (.areturn, 1, x, y, ts)) (hr : ab_mr M = some (.object nm)) (hv : v < 1000000) (hc : cs ≤ ab_mc M ∧ sl ≤ ab_ms M) (hq : Q (some (.ref v)) h) : WP d M Q pc L [.ref v] h cs sl := ab_mk_ (by
  unfold ab_step
  rw [hf]
  show ab_all _ _ _ _ _ _ _ (match ab_mr M with | some (.object _) => _ | _ => _)
  rw [hr]
  exact ⟨⟨hv, hc⟩, hq⟩)
theorem wx_ret (hf : ab_find pc (ab_mo M) = some (.return_, 1, x, y, ts)) (hr : ab_mr M = none) (hc : cs ≤ ab_mc M ∧ sl ≤ ab_ms M) (hq : Q none h) : WP d M Q pc L [] h cs sl := ab_mk_ (by
  unfold ab_step
  rw [hf]
  show ab_all _ _ _ _ _ _ _ (match ab_mr M with | none => _ | _ => _)
  rw [hr]
  exact ⟨hc, hq⟩)
theorem wx_cs0 {m z : Nat} {t : List Nat} {mc ms : Nat} (hf : ab_find pc (ab_mo M) = some (.invokestatic m, 3, x, y, z :: 0 :: t)) (he : pc + 3 = e) (hw : (r.map fun v => v.category).sum ≤ 8) (hm : cs + mc ≤ ab_mc M ∧ sl + ms ≤ ab_ms M) (k : ab_call ab_MT d x [] h mc ms (fun v h2 => WP d M Q e L (v.toList ++ r) h2 (cs + mc) (sl + ms))) : WP d M Q pc L (r) h cs sl := ab_mk_ (by
  subst he
  unfold ab_step
  rw [hf]
  exact ⟨⟨by simp, hw⟩, mc, ms, hm.1, hm.2, k⟩)
theorem wx_cv0 {c m z : Nat} {t : List Nat} {mc ms : Nat} (hf : ab_find pc (ab_mo M) = some (.invokevirtual m, 3, x, y, z :: 0 :: t)) (he : pc + 3 = e) (hS : ab_S h c = .inl y) (hw : (r.map fun v => v.category).sum ≤ 8) (hm : cs + mc ≤ ab_mc M ∧ sl + ms ≤ ab_ms M) (k : ab_call ab_MT d x [.ref c] h mc ms (fun v h2 => WP d M Q e L (v.toList ++ r) h2 (cs + mc) (sl + ms))) : WP d M Q pc L (.ref c :: r) h cs sl := ab_mk_ (by
  subst he
  unfold ab_step
  rw [hf]
  exact ⟨⟨by simp, hS, hw⟩, mc, ms, hm.1, hm.2, k⟩)
theorem wx_ci0 {c m z : Nat} {t : List Nat} {mc ms : Nat} (hf : ab_find pc (ab_mo M) = some (.invokespecial m, 3, x, y, z :: 0 :: t)) (he : pc + 3 = e) (hS : c < 1000000) (hw : (r.map fun v => v.category).sum ≤ 8) (hm : cs + mc ≤ ab_mc M ∧ sl + ms ≤ ab_ms M) (k : ab_call ab_MT d x [.ref c] h mc ms (fun v h2 => WP d M Q e L (v.toList ++ r) h2 (cs + mc) (sl + ms))) : WP d M Q pc L (.ref c :: r) h cs sl := ab_mk_ (by
  subst he
  unfold ab_step
  rw [hf]
  exact ⟨⟨by simp, hS, hw⟩, mc, ms, hm.1, hm.2, k⟩)
theorem wx_cs1 {a1 : Value} {m z : Nat} {t : List Nat} {mc ms : Nat} (hf : ab_find pc (ab_mo M) = some (.invokestatic m, 3, x, y, z :: 1 :: t)) (he : pc + 3 = e) (hw : (r.map fun v => v.category).sum ≤ 8) (hm : cs + mc ≤ ab_mc M ∧ sl + ms ≤ ab_ms M) (k : ab_call ab_MT d x [a1] h mc ms (fun v h2 => WP d M Q e L (v.toList ++ r) h2 (cs + mc) (sl + ms))) : WP d M Q pc L (a1 :: r) h cs sl := ab_mk_ (by
  subst he
  unfold ab_step
  rw [hf]
  exact ⟨⟨by simp, hw⟩, mc, ms, hm.1, hm.2, k⟩)
theorem wx_cv1 {a1 : Value} {c m z : Nat} {t : List Nat} {mc ms : Nat} (hf : ab_find pc (ab_mo M) = some (.invokevirtual m, 3, x, y, z :: 1 :: t)) (he : pc + 3 = e) (hS : ab_S h c = .inl y) (hw : (r.map fun v => v.category).sum ≤ 8) (hm : cs + mc ≤ ab_mc M ∧ sl + ms ≤ ab_ms M) (k : ab_call ab_MT d x [.ref c, a1] h mc ms (fun v h2 => WP d M Q e L (v.toList ++ r) h2 (cs + mc) (sl + ms))) : WP d M Q pc L (a1 :: .ref c :: r) h cs sl := ab_mk_ (by
  subst he
  unfold ab_step
  rw [hf]
  exact ⟨⟨by simp, hS, hw⟩, mc, ms, hm.1, hm.2, k⟩)
theorem wx_ci1 {a1 : Value} {c m z : Nat} {t : List Nat} {mc ms : Nat} (hf : ab_find pc (ab_mo M) = some (.invokespecial m, 3, x, y, z :: 1 :: t)) (he : pc + 3 = e) (hS : c < 1000000) (hw : (r.map fun v => v.category).sum ≤ 8) (hm : cs + mc ≤ ab_mc M ∧ sl + ms ≤ ab_ms M) (k : ab_call ab_MT d x [.ref c, a1] h mc ms (fun v h2 => WP d M Q e L (v.toList ++ r) h2 (cs + mc) (sl + ms))) : WP d M Q pc L (a1 :: .ref c :: r) h cs sl := ab_mk_ (by
  subst he
  unfold ab_step
  rw [hf]
  exact ⟨⟨by simp, hS, hw⟩, mc, ms, hm.1, hm.2, k⟩)
theorem wx_cs2 {a1 a2 : Value} {m z : Nat} {t : List Nat} {mc ms : Nat} (hf : ab_find pc (ab_mo M) = some (.invokestatic m, 3, x, y, z :: 2 :: t)) (he : pc + 3 = e) (hw : (r.map fun v => v.category).sum ≤ 8) (hm : cs + mc ≤ ab_mc M ∧ sl + ms ≤ ab_ms M) (k : ab_call ab_MT d x [a1, a2] h mc ms (fun v h2 => WP d M Q e L (v.toList ++ r) h2 (cs + mc) (sl + ms))) : WP d M Q pc L (a2 :: a1 :: r) h cs sl := ab_mk_ (by
  subst he
  unfold ab_step
  rw [hf]
  exact ⟨⟨by simp, hw⟩, mc, ms, hm.1, hm.2, k⟩)
theorem wx_cv2 {a1 a2 : Value} {c m z : Nat} {t : List Nat} {mc ms : Nat} (hf : ab_find pc (ab_mo M) = some (.invokevirtual m, 3, x, y, z :: 2 :: t)) (he : pc + 3 = e) (hS : ab_S h c = .inl y) (hw : (r.map fun v => v.category).sum ≤ 8) (hm : cs + mc ≤ ab_mc M ∧ sl + ms ≤ ab_ms M) (k : ab_call ab_MT d x [.ref c, a1, a2] h mc ms (fun v h2 => WP d M Q e L (v.toList ++ r) h2 (cs + mc) (sl + ms))) : WP d M Q pc L (a2 :: a1 :: .ref c :: r) h cs sl := ab_mk_ (by
  subst he
  unfold ab_step
  rw [hf]
  exact ⟨⟨by simp, hS, hw⟩, mc, ms, hm.1, hm.2, k⟩)
theorem wx_ci2 {a1 a2 : Value} {c m z : Nat} {t : List Nat} {mc ms : Nat} (hf : ab_find pc (ab_mo M) = some (.invokespecial m, 3, x, y, z :: 2 :: t)) (he : pc + 3 = e) (hS : c < 1000000) (hw : (r.map fun v => v.category).sum ≤ 8) (hm : cs + mc ≤ ab_mc M ∧ sl + ms ≤ ab_ms M) (k : ab_call ab_MT d x [.ref c, a1, a2] h mc ms (fun v h2 => WP d M Q e L (v.toList ++ r) h2 (cs + mc) (sl + ms))) : WP d M Q pc L (a2 :: a1 :: .ref c :: r) h cs sl := ab_mk_ (by
  subst he
  unfold ab_step
  rw [hf]
  exact ⟨⟨by simp, hS, hw⟩, mc, ms, hm.1, hm.2, k⟩)
theorem wx_cs3 {a1 a2 a3 : Value} {m z : Nat} {t : List Nat} {mc ms : Nat} (hf : ab_find pc (ab_mo M) = some (.invokestatic m, 3, x, y, z :: 3 :: t)) (he : pc + 3 = e) (hw : (r.map fun v => v.category).sum ≤ 8) (hm : cs + mc ≤ ab_mc M ∧ sl + ms ≤ ab_ms M) (k : ab_call ab_MT d x [a1, a2, a3] h mc ms (fun v h2 => WP d M Q e L (v.toList ++ r) h2 (cs + mc) (sl + ms))) : WP d M Q pc L (a3 :: a2 :: a1 :: r) h cs sl := ab_mk_ (by
  subst he
  unfold ab_step
  rw [hf]
  exact ⟨⟨by simp, hw⟩, mc, ms, hm.1, hm.2, k⟩)
theorem wx_cv3 {a1 a2 a3 : Value} {c m z : Nat} {t : List Nat} {mc ms : Nat} (hf : ab_find pc (ab_mo M) = some (.invokevirtual m, 3, x, y, z :: 3 :: t)) (he : pc + 3 = e) (hS : ab_S h c = .inl y) (hw : (r.map fun v => v.category).sum ≤ 8) (hm : cs + mc ≤ ab_mc M ∧ sl + ms ≤ ab_ms M) (k : ab_call ab_MT d x [.ref c, a1, a2, a3] h mc ms (fun v h2 => WP d M Q e L (v.toList ++ r) h2 (cs + mc) (sl + ms))) : WP d M Q pc L (a3 :: a2 :: a1 :: .ref c :: r) h cs sl := ab_mk_ (by
  subst he
  unfold ab_step
  rw [hf]
  exact ⟨⟨by simp, hS, hw⟩, mc, ms, hm.1, hm.2, k⟩)
theorem wx_ci3 {a1 a2 a3 : Value} {c m z : Nat} {t : List Nat} {mc ms : Nat} (hf : ab_find pc (ab_mo M) = some (.invokespecial m, 3, x, y, z :: 3 :: t)) (he : pc + 3 = e) (hS : c < 1000000) (hw : (r.map fun v => v.category).sum ≤ 8) (hm : cs + mc ≤ ab_mc M ∧ sl + ms ≤ ab_ms M) (k : ab_call ab_MT d x [.ref c, a1, a2, a3] h mc ms (fun v h2 => WP d M Q e L (v.toList ++ r) h2 (cs + mc) (sl + ms))) : WP d M Q pc L (a3 :: a2 :: a1 :: .ref c :: r) h cs sl := ab_mk_ (by
  subst he
  unfold ab_step
  rw [hf]
  exact ⟨⟨by simp, hS, hw⟩, mc, ms, hm.1, hm.2, k⟩)
theorem wx_cs4 {a1 a2 a3 a4 : Value} {m z : Nat} {t : List Nat} {mc ms : Nat} (hf : ab_find pc (ab_mo M) = some (.invokestatic m, 3, x, y, z :: 4 :: t)) (he : pc + 3 = e) (hw : (r.map fun v => v.category).sum ≤ 8) (hm : cs + mc ≤ ab_mc M ∧ sl + ms ≤ ab_ms M) (k : ab_call ab_MT d x [a1, a2, a3, a4] h mc ms (fun v h2 => WP d M Q e L (v.toList ++ r) h2 (cs + mc) (sl + ms))) : WP d M Q pc L (a4 :: a3 :: a2 :: a1 :: r) h cs sl := ab_mk_ (by
  subst he
  unfold ab_step
  rw [hf]
  exact ⟨⟨by simp, hw⟩, mc, ms, hm.1, hm.2, k⟩)
theorem wx_cv4 {a1 a2 a3 a4 : Value} {c m z : Nat} {t : List Nat} {mc ms : Nat} (hf : ab_find pc (ab_mo M) = some (.invokevirtual m, 3, x, y, z :: 4 :: t)) (he : pc + 3 = e) (hS : ab_S h c = .inl y) (hw : (r.map fun v => v.category).sum ≤ 8) (hm : cs + mc ≤ ab_mc M ∧ sl + ms ≤ ab_ms M) (k : ab_call ab_MT d x [.ref c, a1, a2, a3, a4] h mc ms (fun v h2 => WP d M Q e L (v.toList ++ r) h2 (cs + mc) (sl + ms))) : WP d M Q pc L (a4 :: a3 :: a2 :: a1 :: .ref c :: r) h cs sl := ab_mk_ (by
  subst he
  unfold ab_step
  rw [hf]
  exact ⟨⟨by simp, hS, hw⟩, mc, ms, hm.1, hm.2, k⟩)
theorem wx_ci4 {a1 a2 a3 a4 : Value} {c m z : Nat} {t : List Nat} {mc ms : Nat} (hf : ab_find pc (ab_mo M) = some (.invokespecial m, 3, x, y, z :: 4 :: t)) (he : pc + 3 = e) (hS : c < 1000000) (hw : (r.map fun v => v.category).sum ≤ 8) (hm : cs + mc ≤ ab_mc M ∧ sl + ms ≤ ab_ms M) (k : ab_call ab_MT d x [.ref c, a1, a2, a3, a4] h mc ms (fun v h2 => WP d M Q e L (v.toList ++ r) h2 (cs + mc) (sl + ms))) : WP d M Q pc L (a4 :: a3 :: a2 :: a1 :: .ref c :: r) h cs sl := ab_mk_ (by
  subst he
  unfold ab_step
  rw [hf]
  exact ⟨⟨by simp, hS, hw⟩, mc, ms, hm.1, hm.2, k⟩)
theorem wx_cs5 {a1 a2 a3 a4 a5 : Value} {m z : Nat} {t : List Nat} {mc ms : Nat} (hf : ab_find pc (ab_mo M) = some (.invokestatic m, 3, x, y, z :: 5 :: t)) (he : pc + 3 = e) (hw : (r.map fun v => v.category).sum ≤ 8) (hm : cs + mc ≤ ab_mc M ∧ sl + ms ≤ ab_ms M) (k : ab_call ab_MT d x [a1, a2, a3, a4, a5] h mc ms (fun v h2 => WP d M Q e L (v.toList ++ r) h2 (cs + mc) (sl + ms))) : WP d M Q pc L (a5 :: a4 :: a3 :: a2 :: a1 :: r) h cs sl := ab_mk_ (by
  subst he
  unfold ab_step
  rw [hf]
  exact ⟨⟨by simp, hw⟩, mc, ms, hm.1, hm.2, k⟩)
theorem wx_cv5 {a1 a2 a3 a4 a5 : Value} {c m z : Nat} {t : List Nat} {mc ms : Nat} (hf : ab_find pc (ab_mo M) = some (.invokevirtual m, 3, x, y, z :: 5 :: t)) (he : pc + 3 = e) (hS : ab_S h c = .inl y) (hw : (r.map fun v => v.category).sum ≤ 8) (hm : cs + mc ≤ ab_mc M ∧ sl + ms ≤ ab_ms M) (k : ab_call ab_MT d x [.ref c, a1, a2, a3, a4, a5] h mc ms (fun v h2 => WP d M Q e L (v.toList ++ r) h2 (cs + mc) (sl + ms))) : WP d M Q pc L (a5 :: a4 :: a3 :: a2 :: a1 :: .ref c :: r) h cs sl := ab_mk_ (by
  subst he
  unfold ab_step
  rw [hf]
  exact ⟨⟨by simp, hS, hw⟩, mc, ms, hm.1, hm.2, k⟩)
theorem wx_ci5 {a1 a2 a3 a4 a5 : Value} {c m z : Nat} {t : List Nat} {mc ms : Nat} (hf : ab_find pc (ab_mo M) = some (.invokespecial m, 3, x, y, z :: 5 :: t)) (he : pc + 3 = e) (hS : c < 1000000) (hw : (r.map fun v => v.category).sum ≤ 8) (hm : cs + mc ≤ ab_mc M ∧ sl + ms ≤ ab_ms M) (k : ab_call ab_MT d x [.ref c, a1, a2, a3, a4, a5] h mc ms (fun v h2 => WP d M Q e L (v.toList ++ r) h2 (cs + mc) (sl + ms))) : WP d M Q pc L (a5 :: a4 :: a3 :: a2 :: a1 :: .ref c :: r) h cs sl := ab_mk_ (by
  subst he
  unfold ab_step
  rw [hf]
  exact ⟨⟨by simp, hS, hw⟩, mc, ms, hm.1, hm.2, k⟩)
theorem wx_cs6 {a1 a2 a3 a4 a5 a6 : Value} {m z : Nat} {t : List Nat} {mc ms : Nat} (hf : ab_find pc (ab_mo M) = some (.invokestatic m, 3, x, y, z :: 6 :: t)) (he : pc + 3 = e) (hw : (r.map fun v => v.category).sum ≤ 8) (hm : cs + mc ≤ ab_mc M ∧ sl + ms ≤ ab_ms M) (k : ab_call ab_MT d x [a1, a2, a3, a4, a5, a6] h mc ms (fun v h2 => WP d M Q e L (v.toList ++ r) h2 (cs + mc) (sl + ms))) : WP d M Q pc L (a6 :: a5 :: a4 :: a3 :: a2 :: a1 :: r) h cs sl := ab_mk_ (by
  subst he
  unfold ab_step
  rw [hf]
  exact ⟨⟨by simp, hw⟩, mc, ms, hm.1, hm.2, k⟩)
theorem wx_cv6 {a1 a2 a3 a4 a5 a6 : Value} {c m z : Nat} {t : List Nat} {mc ms : Nat} (hf : ab_find pc (ab_mo M) = some (.invokevirtual m, 3, x, y, z :: 6 :: t)) (he : pc + 3 = e) (hS : ab_S h c = .inl y) (hw : (r.map fun v => v.category).sum ≤ 8) (hm : cs + mc ≤ ab_mc M ∧ sl + ms ≤ ab_ms M) (k : ab_call ab_MT d x [.ref c, a1, a2, a3, a4, a5, a6] h mc ms (fun v h2 => WP d M Q e L (v.toList ++ r) h2 (cs + mc) (sl + ms))) : WP d M Q pc L (a6 :: a5 :: a4 :: a3 :: a2 :: a1 :: .ref c :: r) h cs sl := ab_mk_ (by
  subst he
  unfold ab_step
  rw [hf]
  exact ⟨⟨by simp, hS, hw⟩, mc, ms, hm.1, hm.2, k⟩)
theorem wx_ci6 {a1 a2 a3 a4 a5 a6 : Value} {c m z : Nat} {t : List Nat} {mc ms : Nat} (hf : ab_find pc (ab_mo M) = some (.invokespecial m, 3, x, y, z :: 6 :: t)) (he : pc + 3 = e) (hS : c < 1000000) (hw : (r.map fun v => v.category).sum ≤ 8) (hm : cs + mc ≤ ab_mc M ∧ sl + ms ≤ ab_ms M) (k : ab_call ab_MT d x [.ref c, a1, a2, a3, a4, a5, a6] h mc ms (fun v h2 => WP d M Q e L (v.toList ++ r) h2 (cs + mc) (sl + ms))) : WP d M Q pc L (a6 :: a5 :: a4 :: a3 :: a2 :: a1 :: .ref c :: r) h cs sl := ab_mk_ (by
  subst he
  unfold ab_step
  rw [hf]
  exact ⟨⟨by simp, hS, hw⟩, mc, ms, hm.1, hm.2, k⟩)
theorem wx_cs7 {a1 a2 a3 a4 a5 a6 a7 : Value} {m z : Nat} {t : List Nat} {mc ms : Nat} (hf : ab_find pc (ab_mo M) = some (.invokestatic m, 3, x, y, z :: 7 :: t)) (he : pc + 3 = e) (hw : (r.map fun v => v.category).sum ≤ 8) (hm : cs + mc ≤ ab_mc M ∧ sl + ms ≤ ab_ms M) (k : ab_call ab_MT d x [a1, a2, a3, a4, a5, a6, a7] h mc ms (fun v h2 => WP d M Q e L (v.toList ++ r) h2 (cs + mc) (sl + ms))) : WP d M Q pc L (a7 :: a6 :: a5 :: a4 :: a3 :: a2 :: a1 :: r) h cs sl := ab_mk_ (by
  subst he
  unfold ab_step
  rw [hf]
  exact ⟨⟨by simp, hw⟩, mc, ms, hm.1, hm.2, k⟩)
theorem wx_cv7 {a1 a2 a3 a4 a5 a6 a7 : Value} {c m z : Nat} {t : List Nat} {mc ms : Nat} (hf : ab_find pc (ab_mo M) = some (.invokevirtual m, 3, x, y, z :: 7 :: t)) (he : pc + 3 = e) (hS : ab_S h c = .inl y) (hw : (r.map fun v => v.category).sum ≤ 8) (hm : cs + mc ≤ ab_mc M ∧ sl + ms ≤ ab_ms M) (k : ab_call ab_MT d x [.ref c, a1, a2, a3, a4, a5, a6, a7] h mc ms (fun v h2 => WP d M Q e L (v.toList ++ r) h2 (cs + mc) (sl + ms))) : WP d M Q pc L (a7 :: a6 :: a5 :: a4 :: a3 :: a2 :: a1 :: .ref c :: r) h cs sl := ab_mk_ (by
  subst he
  unfold ab_step
  rw [hf]
  exact ⟨⟨by simp, hS, hw⟩, mc, ms, hm.1, hm.2, k⟩)
theorem wx_ci7 {a1 a2 a3 a4 a5 a6 a7 : Value} {c m z : Nat} {t : List Nat} {mc ms : Nat} (hf : ab_find pc (ab_mo M) = some (.invokespecial m, 3, x, y, z :: 7 :: t)) (he : pc + 3 = e) (hS : c < 1000000) (hw : (r.map fun v => v.category).sum ≤ 8) (hm : cs + mc ≤ ab_mc M ∧ sl + ms ≤ ab_ms M) (k : ab_call ab_MT d x [.ref c, a1, a2, a3, a4, a5, a6, a7] h mc ms (fun v h2 => WP d M Q e L (v.toList ++ r) h2 (cs + mc) (sl + ms))) : WP d M Q pc L (a7 :: a6 :: a5 :: a4 :: a3 :: a2 :: a1 :: .ref c :: r) h cs sl := ab_mk_ (by
  subst he
  unfold ab_step
  rw [hf]
  exact ⟨⟨by simp, hS, hw⟩, mc, ms, hm.1, hm.2, k⟩)
end WX
/-- into a method of the table -/
theorem wx_in {d k : Nat} {M : ab_M} {As : List Value} {h : ab_H} {mc ms : Nat} {Q : ab_Q} (hM : ab_MT[k]? = some M) (hc : ab_mc M = mc) (hs : ab_ms M = ms) (hl : (ab_en As).length ≤ ab_ml M) (w : WP d M Q 0 (ab_ent As (ab_ml M)) [] h 0 0) : ab_call ab_MT (d + 1) k As h mc ms Q := ⟨M, hM, hc, hs, hl, w⟩

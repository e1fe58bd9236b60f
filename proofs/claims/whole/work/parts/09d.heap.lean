/-! instructions that read and write the heap -/
theorem ab_lyE {ci : Nat} (h : ci < 12) : ∀ w ∈ u_ws (ab_cnm ci) (ab_fd ci) (ab_nf ci), w ∈ ab_TB := by
  have key : ∀ {l : List Cond}, (∀ w ∈ l, w ∈ lw_tbl ∧ goodWord w = true) → ∀ w ∈ l, w ∈ ab_TB := fun h w hw => List.mem_filter.mpr (h w hw)
  match ci, h with
  | 0, _ => exact key ab_ly0
  | 1, _ => exact key ab_ly1
  | 2, _ => exact key ab_ly2
  | 3, _ => exact key ab_ly3
  | 4, _ => exact key ab_ly4
  | 5, _ => exact key ab_ly5
  | 6, _ => exact key ab_ly6
  | 7, _ => exact key ab_ly7
  | 8, _ => exact key ab_ly8
  | 9, _ => exact key ab_ly9
  | 10, _ => exact key ab_ly10
  | 11, _ => exact key ab_ly11
  | n + 12, h => omega
theorem ab_insE {ci : Nat} (h : ci < 12) : Cond.instantiable (ab_cnm ci) (ab_nf ci) ∈ ab_TB ∧ Cond.initialized (ab_cnm ci) ∈ ab_TB := by
  have key : ∀ {z z2 : Nat} {w w2 : Cond}, (ab_at z w = true ∧ ab_at z2 w2 = true) → w ∈ ab_TB ∧ w2 ∈ ab_TB := fun h => ⟨ab_at_in h.1, ab_at_in h.2⟩
  match ci, h with
  | 0, _ => exact key ab_ins0
  | 1, _ => exact key ab_ins1
  | 2, _ => exact key ab_ins2
  | 3, _ => exact key ab_ins3
  | 4, _ => exact key ab_ins4
  | 5, _ => exact key ab_ins5
  | 6, _ => exact key ab_ins6
  | 7, _ => exact key ab_ins7
  | 8, _ => exact key ab_ins8
  | 9, _ => exact key ab_ins9
  | 10, _ => exact key ab_ins10
  | 11, _ => exact key ab_ins11
  | n + 12, h => omega
theorem ab_E_obj {g : ab_W} {h : ab_H} {c ci : Nat} (hc : ab_S h c = .inl ci) : ab_E g h c = .inr (ci, (List.range (ab_nf ci)).map (fun k => ab_cv g (ab_fv h ci c k))) := by
  unfold ab_E; rw [hc]
theorem ab_own {g : ab_W} {h : ab_H} {H : Heap} {c ci : Nat} (hP : va_P (ab_D g) ab_cls (ab_ws g h) H) (hl : c < h.1) (hc : ab_S h c = .inl ci) : ci < 12 := by
  obtain ⟨r, q1, -⟩ := hP c _ (by rw [ab_ws_at hl, ab_E_obj hc])
  have := (List.getElem?_eq_some_iff.mp q1).1
  simpa [ab_cls] using this
theorem ab_fs_at {g : ab_W} {h : ab_H} {c ci k : Nat} (hk : k < ab_nf ci) : ((List.range (ab_nf ci)).map (fun k => ab_cv g (ab_fv h ci c k)))[k]? = some (ab_cv g (ab_fv h ci c k)) := by
  rw [List.getElem?_map, List.getElem?_range hk]
  rfl
section ABH
variable {p : Program} {l : Launch} {e : Env} {R : Room} {s : State} {m : MethodId} {args : Array Value} {below : List Frame} {meth : Method} {c : Code} {H : Heap} {locs : List Loc} {cs sl pc : Nat} {Qw : State → Prop} {ls : Array Slot} {g : ab_W} {M : ab_M} {h h2 : ab_H} {ci k idx c0 n : Nat} {v : Value} {r : List Value}
theorem ab_putf (hx : p.tables.exec = Jvm.exec) (hb : c.code = ab_mb M) (hown : s.vm.findClass (ab_my M).cls = some m.cls) (hts : ∀ w ∈ ab_TB, w.before args s = true) (hF : ab_F g s) (hnm : (ab_my M).name = "<init>" → meth.name = "<init>") (hS : va_S (ab_A g) s.heap H locs) (hR : ab_Rel g h H) (h12 : ci < 12) (hk : k < ab_nf ci)
    (hlink : Cond.fieldLink (ab_my M).cls idx (ab_fd ci k).1 (ab_fd ci k).2.1 (ab_fd ci k).2.2.1 ∈ ab_TB) (hfin : (ab_fd ci k).2.2.2 = false ∨ ((ab_my M).name = "<init>" ∧ (ab_fd ci k).1 = (ab_my M).cls)) (hc : ab_S h c0 = .inl ci) (hn : narrow (ab_ty ci k) v = v) (hfit : fits (ab_ty ci k) v = true) (hd : decode (ab_mb M) pc = .ok (.putfield idx, 3))
    (h2n : h2.1 = h.1) (h2s : ab_Sp g h2) (h2E : ab_E g h2 c0 = .inr (ci, ((List.range (ab_nf ci)).map (fun j => ab_cv g (ab_fv h ci c0 j))).set k v)) (h2o : ∀ q, q ≠ c0 → ab_E g h2 q = ab_E g h q)
    (kk : ∀ (H1 : Heap) (locs1 : List Loc), va_S (ab_A g) s.heap H1 locs1 → ab_Rel g h2 H1 → W p l e R s m args below meth c H1 locs1 cs sl Qw (F0 m (pc + 3) ls r)) : W p l e R s m args below meth c H locs cs sl Qw (F0 m pc ls (v :: .ref (ab_B g + c0) :: r)) := by
  obtain ⟨hP, hz, hsp⟩ := hR
  have hK := hF.1
  have hlt : c0 < h.1 := by
    rcases ab_inl hsp hc (by omega) with q | ⟨q, -⟩
    · exact q
    · omega
  have he : (ab_ws g h)[c0]? = some (ab_B g + c0, .inr (ci, (List.range (ab_nf ci)).map (fun j => ab_cv g (ab_fv h ci c0 j)))) := by rw [ab_ws_at hlt, ab_E_obj hc]
  have hD := ab_ws_D g h
  have hcl := ab_clsE h12
  have hin := ab_lyE h12
  have hap := va_apart (own := (ab_my M).cls) hts hin (ab_ty ci) (ab_tyE h12) (ab_nmE h12) hK hcl
  obtain ⟨r0, h1, cell, q1, q2, q3, q4⟩ := hP c0 _ he
  have hr : r0 = (ab_cnm ci, ab_fd ci, ab_nf ci) := Option.some.inj (h1.symm.trans hcl)
  subst hr
  obtain ⟨hSl, hfc, kC, hkC, hkind⟩ := hK.1 ci _ hcl
  obtain ⟨cf, kf, fi, f, hi, hsl⟩ := hSl k hk
  have hst := (u_facts hfc hkC (u_lays hts hin hk) hi).1
  have hlen : k < ((List.range (ab_nf ci)).map (fun j => ab_cv g (ab_fv h ci c0 j))).length := by simpa using hk
  have fin : ∀ (H' : Heap), H'[ab_B g + c0]? = some (cell.setSlot (f.slot) v) → H'.size = H.size → (∀ q, q ≠ ab_B g + c0 → H'[q]? = H[q]?) → W p l e R s m args below meth c H' (locs ++ [⟨ab_B g + c0, f.slot⟩]) cs sl Qw (F0 m (pc + 3) ls r) := by
    intro H' e1 e2 e3
    rw [hsl] at e1 ⊢
    have hP2 := hP.set (e := .inr (ci, ((List.range (ab_nf ci)).map (fun j => ab_cv g (ab_fv h ci c0 j))).set k v)) (H1 := H') hD he ⟨_, hcl, t_OB.to (V := updV (vp_V _) k v) ⟨_, e1, q2, q3, t_set q4 hap hk v⟩ (fun j _ => vp_updV_set hlen v j)⟩ e3
    rw [ab_ws_set h2n hlt h2E h2o] at hP2
    exact kk H' _ (hS.put e2 e3 (Nat.le_add_right _ _)) ⟨hP2, by rw [e2, hz, h2n], h2s⟩
  have hlay := hts _ (hin _ (u_in_lay hk))
  unfold u_lay at hlay
  by_cases hf : (ab_fd ci k).2.2.2 = true
  · rw [if_pos hf] at hlay
    rcases hfin with q | ⟨w1, w2⟩
    · rw [hf] at q; cases q
    · have hcf : m.cls = cf := by
        obtain ⟨_, _, c', _, _, _, -, -, hf', -, -, -, hown2, -⟩ := Cond.laysFinal_spec hlay
        have e1 : c' = cf := by have := hi.symm.trans hf'; simp at this; exact this.1.symm
        rw [w2] at hown2
        rw [← e1]; exact Option.some.inj (hown.symm.trans hown2)
      have h6 := u_fits hfc hkC hkind (Or.inr hlay) hi (ab_tyE h12 k hk) hn hfit
      exact W.putFinK hx hb hown (hts _ hlink) hi hst hcf (hnm w1) (by rw [q2]; exact h6) q1 q3 (by rw [hsl]; exact k2_hasslot (q4 k hk)) rfl rfl hd fin
  · rw [if_neg hf] at hlay
    have h6 := u_store hfc hkC hkind hlay hi (ab_tyE h12 k hk) hn hfit
    exact W.putK hx hb (f := f) ⟨hown, hts _ hlink, ⟨_, _, _, hi⟩, hst⟩ (by rw [q2]; exact h6) q1 q3 (by rw [hsl]; exact k2_hasslot (q4 k hk)) rfl rfl hd fin
theorem ab_E_i {ty : FieldType} (hc : ab_S h c0 = .inr (ty, n)) (ht : ty ≠ .long) : ab_E g h c0 = .inl (ab_cA g ty, n, .inl (ab_i h c0)) := by
  unfold ab_E; rw [hc]
  cases ty <;> first | rfl | exact absurd rfl ht
theorem ab_E_l (hc : ab_S h c0 = .inr (.long, n)) : ab_E g h c0 = .inl (ab_cA g .long, n, .inr (.inl (ab_l h c0))) := by
  unfold ab_E; rw [hc]
/-- the world behind a store into an array of ints of some kind -/
theorem ab_ast {ty : FieldType} {H1 : Heap} {j : Nat} {z : Int32} (hR : ab_Rel g h H) (hlt : c0 < h.1) (hc : ab_S h c0 = .inr (ty, n)) (ht : ty ≠ .long) (e1 : H1[ab_B g + c0]? = some ((arrV (ab_cA g ty) n (fun j => .int (ab_i h c0 j))).setSlot j (.int z))) (e2 : H1.size = H.size) (e3 : ∀ q, q ≠ ab_B g + c0 → H1[q]? = H[q]?) : ab_Rel g (ab_ui h c0 j z) H1 := by
  obtain ⟨hP, hz, hsp⟩ := hR
  have h6 := hsp.2.1
  have he : (ab_ws g h)[c0]? = some (ab_B g + c0, .inl (ab_cA g ty, n, .inl (ab_i h c0))) := by rw [ab_ws_at hlt, ab_E_i hc ht]
  have hE : ab_E g (ab_ui h c0 j z) c0 = .inl (ab_cA g ty, n, .inl (upd (ab_i h c0) j z)) := by
    have := ab_E_i (g := g) (h := ab_ui h c0 j z) (c0 := c0) (n := n) hc ht
    rw [this]
    simp [ab_ui, ab_i, va_up]
  have hP2 := hP.set (e := .inl (ab_cA g ty, n, .inl (upd (ab_i h c0) j z))) (ab_ws_D g h) he (by
    show H1[ab_B g + c0]? = some (vp_cell _ _)
    rw [e1, vp_cell_i, arrV_store]
    congr 2
    funext q
    by_cases hq : q = j
    · subst hq; simp [updV, upd]
    · simp [updV, upd, hq]) e3
  rw [ab_ws_set (h := h) (h2 := ab_ui h c0 j z) rfl hlt hE (fun q hq => ab_E_ui hq)] at hP2
  exact ⟨hP2, by rw [e2, hz]; rfl, hsp.ui (by omega)⟩
theorem ab_astl {H1 : Heap} {j : Nat} {z : Int64} (hR : ab_Rel g h H) (hlt : c0 < h.1) (hc : ab_S h c0 = .inr (.long, n)) (e1 : H1[ab_B g + c0]? = some ((arrV (ab_cA g .long) n (fun j => .long (ab_l h c0 j))).setSlot j (.long z))) (e2 : H1.size = H.size) (e3 : ∀ q, q ≠ ab_B g + c0 → H1[q]? = H[q]?) : ab_Rel g (ab_ul h c0 j z) H1 := by
  obtain ⟨hP, hz, hsp⟩ := hR
  have he : (ab_ws g h)[c0]? = some (ab_B g + c0, .inl (ab_cA g .long, n, .inr (.inl (ab_l h c0)))) := by rw [ab_ws_at hlt, ab_E_l hc]
  have hE : ab_E g (ab_ul h c0 j z) c0 = .inl (ab_cA g .long, n, .inr (.inl (vp_updL (ab_l h c0) j z))) := by
    have := ab_E_l (g := g) (h := ab_ul h c0 j z) (c0 := c0) (n := n) hc
    rw [this]
    simp [ab_ul, ab_l, va_up]
  have hP2 := hP.set (e := .inl (ab_cA g .long, n, .inr (.inl (vp_updL (ab_l h c0) j z)))) (ab_ws_D g h) he (by
    show H1[ab_B g + c0]? = some (vp_cell _ _)
    rw [e1, vp_cell_l, arrV_store]
    congr 2
    funext q
    by_cases hq : q = j
    · subst hq; simp [updV, vp_updL]
    · simp [updV, vp_updL, hq]) e3
  rw [ab_ws_set (h := h) (h2 := ab_ul h c0 j z) rfl hlt hE (fun q hq => ab_E_ul hq)] at hP2
  exact ⟨hP2, by rw [e2, hz]; rfl, hsp.ul⟩
/-- the world behind a new cell -/
theorem ab_new {q : ab_Sh} {z : va_E} {H1 : Heap} (hR : ab_Rel g h H) (hl : h.1 < 600000) (hE : ab_E g (ab_nw h q) h.1 = z) (e1 : va_at (ab_D g) ab_cls (ab_B g + h.1, z) H1) (e2 : H1.size = H.size + 1) (e3 : ∀ q, q < H.size → H1[q]? = H[q]?) : ab_Rel g (ab_nw h q) H1 := by
  obtain ⟨hP, hz, hsp⟩ := hR
  have hP2 : va_P (ab_D g) ab_cls (ab_ws g h ++ [(ab_B g + h.1, z)]) H1 := (hP.kept (fun k x hx => e3 _ (hP k x hx).lt)).app (fun k x hx => by
    have hk : k < 1 := (List.getElem?_eq_some_iff.mp hx).1
    rw [show k = 0 by omega] at hx
    cases hx
    exact e1)
  rw [ab_ws_new hE] at hP2
  exact ⟨hP2, by rw [e2, hz]; show _ = ab_B g + (h.1 + 1); omega, hsp.nw hl⟩
theorem ab_S_put {H0 H1 : Heap} (hS : va_S (ab_A g) H0 H locs) (hR : H.size = ab_B g + h.1) (e2 : H1.size = H.size + 1) (e3 : ∀ q, q < H.size → H1[q]? = H[q]?) : va_S (ab_A g) H0 H1 locs := ⟨Nat.le_trans hS.1 (by omega), fun q h1 h2 => (e3 q (Nat.lt_of_lt_of_le h1 hS.1)).trans (hS.2.1 q h1 h2), hS.2.2⟩
end ABH

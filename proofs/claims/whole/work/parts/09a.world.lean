/-! the abstract heap beside the machine's heap -/
/-- base address, the script's address, length, ints; the addresses of two texts and of their bytes; a value that is passed on unread; classes, slots, array classes -/
abbrev ab_W : Type := Nat × Nat × Nat × (Nat → Int32) × (Nat → Nat) × (Nat → Nat) × Value × va_G × (FieldType → ClassId)
abbrev ab_B (g : ab_W) : Nat := g.1
abbrev ab_ax (g : ab_W) : Nat := g.2.1
abbrev ab_Lx (g : ab_W) : Nat := g.2.2.1
abbrev ab_xs (g : ab_W) : Nat → Int32 := g.2.2.2.1
abbrev ab_aK (g : ab_W) : Nat → Nat := g.2.2.2.2.1
abbrev ab_aV (g : ab_W) : Nat → Nat := g.2.2.2.2.2.1
abbrev ab_vf (g : ab_W) : Value := g.2.2.2.2.2.2.1
abbrev ab_D (g : ab_W) : va_G := g.2.2.2.2.2.2.2.1
abbrev ab_cA (g : ab_W) : FieldType → ClassId := g.2.2.2.2.2.2.2.2
abbrev ab_A (g : ab_W) : Nat → Prop := fun q => ab_B g ≤ q
def ab_rv (g : ab_W) (i : Nat) : Value := if i < 1000000 then .ref (ab_B g + i) else if i = 1000000 then .ref (ab_ax g) else if i = 1000020 then ab_vf g else if i < 1000010 then .ref (ab_aK g (i - 1000001)) else .ref (ab_aV g (i - 1000011))
def ab_cv (g : ab_W) : Value → Value
  | .ref i => ab_rv g i
  | v => v
def ab_w0 : List Int32 := [99, 104, 117, 114, 99, 104, 32, 114, 111, 97, 100, 32, 114, 101, 108, 105, 99, 32, 112, 105, 108, 103, 114, 105, 109, 32, 100, 114, 97, 119, 115, 32, 104, 101, 97, 108, 115, 32, 103, 105, 118, 101, 115, 32, 108, 101, 97, 118, 101, 32, 99, 97, 117, 103, 104, 116, 32, 115, 101, 101, 100, 32, 116, 114, 117, 101, 32, 99, 111, 112, 121, 32, 105, 102, 32, 116, 104, 101, 110, 32, 101, 108, 115, 101, 32, 114, 101, 108, 105, 99, 115, 32, 119, 111, 110, 100, 101, 114, 115, 32, 102, 97, 114, 32, 110, 101, 101, 100, 32, 103, 105, 102, 116, 32, 110, 105, 103, 104, 116, 115, 32, 119, 97, 116, 99, 104, 32, 121, 101, 97, 114, 115, 32, 116, 114, 117, 116, 104, 32]
def ab_w1 : List Int32 := [59, 61, 43, 45, 42, 47, 60, 40, 41]
def ab_spS (n : Nat) (a : Nat) : ab_Sh := if a = 1000000 then .inr (.int, n) else if a = 1000001 then .inl 90 else if a = 1000002 then .inl 90 else if a = 1000011 then .inr (.byte, 139) else if a = 1000012 then .inr (.byte, 9) else .inl 999
def ab_spI (xs : Nat → Int32) (a : Nat) : Nat → Int32 := if a = 1000000 then xs else if a = 1000011 then (fun j => ab_w0.getD j 0) else if a = 1000012 then (fun j => ab_w1.getD j 0) else fun _ => 0
def ab_spP (a : Nat) : Nat → Option Nat := if a = 1000001 then (fun k => if k = 0 then some 1000011 else none) else if a = 1000002 then (fun k => if k = 0 then some 1000012 else none) else fun _ => none
def ab_Sp (g : ab_W) (h : ab_H) : Prop := (∀ a, h.1 ≤ a → a < 1000000 → ab_S h a = .inl 999) ∧ h.1 ≤ 600000 ∧ ∀ a, 1000000 ≤ a → ab_S h a = ab_spS (ab_Lx g) a ∧ ab_i h a = ab_spI (ab_xs g) a ∧ ab_p h a = ab_spP a
def ab_fv (h : ab_H) (ci c k : Nat) : Value := match ab_isR (ab_ty ci k) with
  | true => ab_rf (ab_p h c k)
  | false => .int (ab_i h c k)
def ab_E (g : ab_W) (h : ab_H) (c : Nat) : va_E := match ab_S h c with
  | .inl ci => .inr (ci, (List.range (ab_nf ci)).map (fun k => ab_cv g (ab_fv h ci c k)))
  | .inr (ty, n) => .inl (ab_cA g ty, n, match ty with
    | .long => .inr (.inl (ab_l h c))
    | _ => .inl (ab_i h c))
def ab_ws (g : ab_W) (h : ab_H) : va_W := (List.range h.1).map (fun c => (ab_B g + c, ab_E g h c))
def ab_Rel (g : ab_W) (h : ab_H) (H : Heap) : Prop := va_P (ab_D g) ab_cls (ab_ws g h) H ∧ H.size = ab_B g + h.1 ∧ ab_Sp g h
def ab_tys (g : ab_W) : List (ClassId × FieldType) := [(ab_cA g .int, .int), (ab_cA g .byte, .byte), (ab_cA g .boolean, .boolean), (ab_cA g .long, .long)]
def ab_TB : List Cond := lw_tbl.filter goodWord
def ab_tx0 : String := "church road relic pilgrim draws heals gives leave caught seed true copy if then else relics wonders far need gift nights watch years truth "
def ab_tx1 : String := ";=+-*/<()"
/-- what is known of a state at a method's start, but the heap from the base on -/
def ab_F (g : ab_W) (s : State) : Prop := va_K (ab_D g) ab_cls (ab_tys g) s ∧ (∀ (a : String) (i : Nat) (y : MethodName) (ho : String), Cond.methodLinkNest a i y ho ∈ lw_tbl → va_Nw (.methodLinkNest a i y ho) s) ∧ vk_R RX8 25 ab_tx0 (ab_aK g 0) s ∧ vk_R RX8 88 ab_tx1 (ab_aK g 1) s ∧ vk_S 2 [139, 9] [ab_w0, ab_w1] (ab_aK g) (ab_aV g) (ab_A g) s s.heap ∧ va_X (ab_ax g) (ab_Lx g) (ab_xs g) s s.heap ∧ ab_ax g < ab_B g ∧ va_Z "java/lang/String" "COMPACT_STRINGS" "Z" (.int 1) (ab_A g) s s.heap ∧ va_Z "jdk/internal/util/Preconditions" "SIOOBE_FORMATTER" "Ljava/util/function/BiFunction;" (ab_vf g) (ab_A g) s s.heap ∧ (ab_vf g = .null ∨ ∃ a, ab_vf g = .ref a) ∧ ab_B g ≤ s.heap.size
theorem ab_F.same {g : ab_W} {u U : State} (hv : u.vm = U.vm) (hh : u.heap = U.heap) (h : ab_F g u) : ab_F g U := by
  obtain ⟨h1, h2, h3, h4, h5, h6, h7, h8, h9, h10, h11⟩ := h
  have ha : u.vm.Alike U.vm := by rw [hv]; exact Vm.Alike.refl _
  refine ⟨va_K.moved ha h1, fun a i y ho hm => va_Nw.same rfl hv (h2 a i y ho hm), vk_R.same hv.symm h3, vk_R.same hv.symm h4, ?_, ?_, h7, ?_, ?_, h10, by rw [← hh]; exact h11⟩
  · rw [← hh]; exact vk_S.moved ha h5
  · rw [← hh]; exact va_X.moved ha h6
  · rw [← hh]; exact va_Z.moved ha h8
  · rw [← hh]; exact va_Z.moved ha h9
theorem ab_F.warm {g : ab_W} {s U : State} {H : Heap} {locs : List Loc} (hU : U.heap = H) (hW : s.WarmedH U.vm) (hS : va_S (ab_A g) s.heap H locs) (h : ab_F g s) : ab_F g U := by
  obtain ⟨h1, h2, h3, h4, h5, h6, h7, h8, h9, h10, h11⟩ := h
  subst hU
  refine ⟨va_K.moved hW.alike h1, fun a i y ho hm => va_Nw.warmM hW (h2 a i y ho hm), vk_R.warm hW h3, vk_R.warm hW h4, (vk_S.moved hW.alike h5).kept hS.2.1, ?_, h7, (va_Z.moved hW.alike h8).kept hS.2.1, (va_Z.moved hW.alike h9).kept hS.2.1, h10, Nat.le_trans h11 hS.1⟩
  exact (va_X.moved hW.alike h6).kept (hS.2.1 _ (Nat.lt_of_lt_of_le h7 h11) (Nat.not_le.mpr h7))
theorem ab_rv_lt {g : ab_W} {i : Nat} (h : i < 1000000) : ab_rv g i = .ref (ab_B g + i) := by
  unfold ab_rv; rw [if_pos h]
theorem ab_rv_ref {g : ab_W} (hv : ab_vf g = .null ∨ ∃ a, ab_vf g = .ref a) (i : Nat) : ab_rv g i = .null ∨ ∃ a, ab_rv g i = .ref a := by
  unfold ab_rv
  split
  · exact Or.inr ⟨_, rfl⟩
  · split
    · exact Or.inr ⟨_, rfl⟩
    · split
      · exact hv
      · split
        · exact Or.inr ⟨_, rfl⟩
        · exact Or.inr ⟨_, rfl⟩
theorem ab_cv_cat {g : ab_W} (hv : ab_vf g = .null ∨ ∃ a, ab_vf g = .ref a) (v : Value) : (ab_cv g v).category = v.category := by
  cases v with
  | ref i =>
    show (ab_rv g i).category = 1
    rcases ab_rv_ref hv i with h | ⟨a, h⟩ <;> rw [h] <;> rfl
  | _ => rfl
theorem ab_cats {g : ab_W} (hv : ab_vf g = .null ∨ ∃ a, ab_vf g = .ref a) (l : List Value) : ((l.map (ab_cv g)).map fun v => v.category) = l.map fun v => v.category := by
  rw [List.map_map]
  exact List.map_congr_left (fun v _ => ab_cv_cat hv v)
theorem ab_ws_at {g : ab_W} {h : ab_H} {c : Nat} (hc : c < h.1) : (ab_ws g h)[c]? = some (ab_B g + c, ab_E g h c) := by
  unfold ab_ws
  rw [List.getElem?_map, List.getElem?_range hc]
  rfl
theorem ab_ws_inv {g : ab_W} {h : ab_H} {c : Nat} {q : Nat × va_E} (hq : (ab_ws g h)[c]? = some q) : c < h.1 ∧ q = (ab_B g + c, ab_E g h c) := by
  have hl : c < (ab_ws g h).length := (List.getElem?_eq_some_iff.mp hq).1
  have hc : c < h.1 := by simpa [ab_ws] using hl
  rw [ab_ws_at hc] at hq
  exact ⟨hc, (Option.some.inj hq).symm⟩
theorem ab_ws_D (g : ab_W) (h : ab_H) : va_D (ab_A g) (ab_ws g h) := by
  refine ⟨fun i j p q hi hj hpq => ?_, fun k q hk => ?_⟩
  · obtain ⟨-, rfl⟩ := ab_ws_inv hi
    obtain ⟨-, rfl⟩ := ab_ws_inv hj
    have : ab_B g + i = ab_B g + j := hpq
    omega
  · obtain ⟨-, rfl⟩ := ab_ws_inv hk
    exact Nat.le_add_right _ _
theorem ab_ws_set {g : ab_W} {h h2 : ab_H} {c : Nat} {v : va_E} (hn : h2.1 = h.1) (hc : c < h.1) (hE : ab_E g h2 c = v) (ho : ∀ q, q ≠ c → ab_E g h2 q = ab_E g h q) : (ab_ws g h).set c (ab_B g + c, v) = ab_ws g h2 := by
  apply List.ext_getElem?
  intro i
  by_cases hi : i < h.1
  · rw [ab_ws_at (h := h2) (by rw [hn]; exact hi)]
    by_cases hic : i = c
    · subst hic
      rw [List.getElem?_set_self (by simpa [ab_ws] using hi), hE]
    · rw [List.getElem?_set_ne (fun z => hic z.symm), ab_ws_at hi, ho i hic]
  · rw [List.getElem?_eq_none (by simp [ab_ws]; omega), List.getElem?_eq_none (by simp [ab_ws]; omega)]
theorem ab_ws_new {g : ab_W} {h : ab_H} {q : ab_Sh} {v : va_E} (hE : ab_E g (ab_nw h q) h.1 = v) : ab_ws g h ++ [(ab_B g + h.1, v)] = ab_ws g (ab_nw h q) := by
  have ho : ∀ c, c < h.1 → ab_E g (ab_nw h q) c = ab_E g h c := by
    intro c hc
    have hne : ¬ c = h.1 := by omega
    simp [ab_E, ab_nw, va_up, hne, ab_fv, ab_S, ab_i, ab_l, ab_p]
  unfold ab_ws
  show _ = List.map _ (List.range (h.1 + 1))
  rw [List.range_succ, List.map_append, List.map_cons, List.map_nil, hE]
  congr 1
  refine List.map_congr_left (fun c hc => ?_)
  rw [ho c (List.mem_range.mp hc)]
theorem ab_E_ui {g : ab_W} {h : ab_H} {c k q : Nat} {v : Int32} (hq : q ≠ c) : ab_E g (ab_ui h c k v) q = ab_E g h q := by
  simp [ab_E, ab_ui, va_up, hq, ab_fv, ab_S, ab_i, ab_l, ab_p]
theorem ab_E_ul {g : ab_W} {h : ab_H} {c k q : Nat} {v : Int64} (hq : q ≠ c) : ab_E g (ab_ul h c k v) q = ab_E g h q := by
  simp [ab_E, ab_ul, va_up, hq, ab_fv, ab_S, ab_i, ab_l, ab_p]
theorem ab_E_up {g : ab_W} {h : ab_H} {c k q : Nat} {v : Option Nat} (hq : q ≠ c) : ab_E g (ab_up h c k v) q = ab_E g h q := by
  simp [ab_E, ab_up, va_up, hq, ab_fv, ab_S, ab_i, ab_l, ab_p]
theorem ab_Sp.ui {g : ab_W} {h : ab_H} (hs : ab_Sp g h) {c k : Nat} {v : Int32} (hc : c < 1000000) : ab_Sp g (ab_ui h c k v) := by
  refine ⟨hs.1, hs.2.1, fun a ha => ⟨(hs.2.2 a ha).1, ?_, (hs.2.2 a ha).2.2⟩⟩
  rw [← (hs.2.2 a ha).2.1]
  have : ¬ a = c := by omega
  simp [ab_ui, ab_i, va_up, this]
theorem ab_Sp.ul {g : ab_W} {h : ab_H} (hs : ab_Sp g h) {c k : Nat} {v : Int64} : ab_Sp g (ab_ul h c k v) := hs
theorem ab_Sp.up {g : ab_W} {h : ab_H} (hs : ab_Sp g h) {c k : Nat} {v : Option Nat} (hc : c < 1000000) : ab_Sp g (ab_up h c k v) := by
  refine ⟨hs.1, hs.2.1, fun a ha => ⟨(hs.2.2 a ha).1, (hs.2.2 a ha).2.1, ?_⟩⟩
  rw [← (hs.2.2 a ha).2.2]
  have : ¬ a = c := by omega
  simp [ab_up, ab_p, va_up, this]
theorem ab_Sp.nw {g : ab_W} {h : ab_H} (hs : ab_Sp g h) {q : ab_Sh} (hc : h.1 < 600000) : ab_Sp g (ab_nw h q) := by
  refine ⟨fun a ha hb => ?_, hc, fun a ha => ?_⟩
  · have h1 : h.1 + 1 ≤ a := ha
    have : ¬ a = h.1 := by omega
    rw [← hs.1 a (by omega) hb]
    simp [ab_nw, ab_S, va_up, this]
  · have : ¬ a = h.1 := by omega
    obtain ⟨q1, q2, q3⟩ := hs.2.2 a ha
    refine ⟨?_, ?_, ?_⟩
    · rw [← q1]; simp [ab_nw, ab_S, va_up, this]
    · rw [← q2]; simp [ab_nw, ab_i, va_up, this]
    · rw [← q3]; simp [ab_nw, ab_p, va_up, this]
theorem ab_inl {g : ab_W} {h : ab_H} (hs : ab_Sp g h) {c ci : Nat} (hc : ab_S h c = .inl ci) (h9 : ci ≠ 999) : c < h.1 ∨ (ci = 90 ∧ (c = 1000001 ∨ c = 1000002)) := by
  by_cases h1 : c < h.1
  · exact Or.inl h1
  · by_cases h2 : c < 1000000
    · rw [hs.1 c (by omega) h2] at hc
      cases hc
      exact absurd rfl h9
    · right
      rw [(hs.2.2 c (by omega)).1] at hc
      unfold ab_spS at hc
      repeat' split at hc
      all_goals first | (cases hc; done) | (cases hc; exact ⟨rfl, Or.inl ‹_›⟩) | (cases hc; exact ⟨rfl, Or.inr ‹_›⟩) | (cases hc; exact absurd rfl h9)
theorem ab_inr {g : ab_W} {h : ab_H} (hs : ab_Sp g h) {c n : Nat} {ty : FieldType} (hc : ab_S h c = .inr (ty, n)) : c < h.1 ∨ (c = 1000000 ∧ ty = .int ∧ n = ab_Lx g) ∨ (c = 1000011 ∧ ty = .byte ∧ n = 139) ∨ (c = 1000012 ∧ ty = .byte ∧ n = 9) := by
  by_cases h1 : c < h.1
  · exact Or.inl h1
  · by_cases h2 : c < 1000000
    · rw [hs.1 c (by omega) h2] at hc
      cases hc
    · right
      rw [(hs.2.2 c (by omega)).1] at hc
      unfold ab_spS at hc
      repeat' split at hc
      all_goals first | (cases hc; done) | (cases hc; exact Or.inl ⟨‹_›, rfl, rfl⟩) | (cases hc; exact Or.inr (Or.inl ⟨‹_›, rfl, rfl⟩)) | (cases hc; exact Or.inr (Or.inr ⟨‹_›, rfl, rfl⟩))
theorem ab_clsE {ci : Nat} (h : ci < 12) : ab_cls[ci]? = some (ab_cnm ci, ab_fd ci, ab_nf ci) := by
  match ci, h with
  | 0, _ => rfl
  | 1, _ => rfl
  | 2, _ => rfl
  | 3, _ => rfl
  | 4, _ => rfl
  | 5, _ => rfl
  | 6, _ => rfl
  | 7, _ => rfl
  | 8, _ => rfl
  | 9, _ => rfl
  | 10, _ => rfl
  | 11, _ => rfl
  | n + 12, h => omega
theorem ab_tyE {ci : Nat} (h : ci < 12) : ∀ k, k < ab_nf ci → parseFieldDescriptor (ab_fd ci k).2.2.1 = some (ab_ty ci k) := by
  match ci, h with
  | 0, _ => exact tyX0_ok
  | 1, _ => exact tyX1_ok
  | 2, _ => exact tyX2_ok
  | 3, _ => exact tyX3_ok
  | 4, _ => exact tyX4_ok
  | 5, _ => exact tyX5_ok
  | 6, _ => exact tyX6_ok
  | 7, _ => exact tyX7_ok
  | 8, _ => exact tyX8_ok
  | 9, _ => exact tyX9_ok
  | 10, _ => exact tyX10_ok
  | 11, _ => exact tyX11_ok
  | n + 12, h => omega
theorem ab_nmE {ci : Nat} (h : ci < 12) : ∀ a, a < ab_nf ci → ∀ b, b < ab_nf ci → a ≠ b → (ab_fd ci a).2.1 ≠ (ab_fd ci b).2.1 := by
  match ci, h with
  | 0, _ => exact nmX0
  | 1, _ => exact nmX1
  | 2, _ => exact nmX2
  | 3, _ => exact nmX3
  | 4, _ => exact nmX4
  | 5, _ => exact nmX5
  | 6, _ => exact nmX6
  | 7, _ => exact nmX7
  | 8, _ => exact nmX8
  | 9, _ => exact nmX9
  | 10, _ => exact nmX10
  | 11, _ => exact nmX11
  | n + 12, h => omega

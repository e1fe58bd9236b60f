/-! what an instruction asks, taken apart; the locals -/
section ABV
variable {C : ab_C} {M : ab_M} {Q : ab_Q} {h : ab_H} {cs sl : Nat} {X : ab_T → Prop}
theorem abv_go {t : ab_T} (hs : ab_all C M Q h cs sl X (ab_go t)) : X t := hs.2 (True, t) List.mem_cons_self trivial
theorem abv_gc {g : Prop} {t : ab_T} (hs : ab_all C M Q h cs sl X (ab_gc g t)) : g ∧ X t := ⟨hs.1, hs.2 (True, t) List.mem_cons_self trivial⟩
theorem abv_br {g : Prop} {t1 t2 : ab_T} (hs : ab_all C M Q h cs sl X (ab_br g t1 t2)) : (g → X t1) ∧ (¬ g → X t2) := ⟨hs.2 (g, t1) List.mem_cons_self, hs.2 (¬ g, t2) (List.mem_cons_of_mem _ List.mem_cons_self)⟩
theorem abv_no (hs : ab_all C M Q h cs sl X ab_no) : False := hs.1
theorem abv_pi {st : List Value} {k : Int32 → List Value → ab_R} (hs : ab_all C M Q h cs sl X (ab_pi st k)) : ∃ v r, st = .int v :: r ∧ ab_all C M Q h cs sl X (k v r) := by
  unfold ab_pi at hs
  split at hs
  · exact ⟨_, _, rfl, hs⟩
  · exact (abv_no hs).elim
theorem abv_pl {st : List Value} {k : Int64 → List Value → ab_R} (hs : ab_all C M Q h cs sl X (ab_pl st k)) : ∃ v r, st = .long v :: r ∧ ab_all C M Q h cs sl X (k v r) := by
  unfold ab_pl at hs
  split at hs
  · exact ⟨_, _, rfl, hs⟩
  · exact (abv_no hs).elim
theorem abv_pr {st : List Value} {k : Nat → List Value → ab_R} (hs : ab_all C M Q h cs sl X (ab_pr st k)) : ∃ v r, st = .ref v :: r ∧ ab_all C M Q h cs sl X (k v r) := by
  unfold ab_pr at hs
  split at hs
  · exact ⟨_, _, rfl, hs⟩
  · exact (abv_no hs).elim
theorem abv_li {L : ab_Lo} {i : Nat} {k : Int32 → ab_R} (hs : ab_all C M Q h cs sl X (ab_li L i k)) : ∃ v, L[i]? = some (some (.int v)) ∧ ab_all C M Q h cs sl X (k v) := by
  unfold ab_li at hs
  split at hs
  · exact ⟨_, ‹_›, hs⟩
  · exact (abv_no hs).elim
theorem abv_ll {L : ab_Lo} {i : Nat} {k : Int64 → ab_R} (hs : ab_all C M Q h cs sl X (ab_ll L i k)) : ∃ v, L[i]? = some (some (.long v)) ∧ ab_all C M Q h cs sl X (k v) := by
  unfold ab_ll at hs
  split at hs
  · exact ⟨_, ‹_›, hs⟩
  · exact (abv_no hs).elim
theorem abv_lr {L : ab_Lo} {i : Nat} {k : Nat → ab_R} (hs : ab_all C M Q h cs sl X (ab_lr L i k)) : ∃ v, L[i]? = some (some (.ref v)) ∧ ab_all C M Q h cs sl X (k v) := by
  unfold ab_lr at hs
  split at hs
  · exact ⟨_, ‹_›, hs⟩
  · exact (abv_no hs).elim
end ABV
theorem ab_find_mem : ∀ (l : List ab_I) (pc : Nat) (q : Instr × Nat × Nat × Nat × List Nat), ab_find pc l = some q → (pc, q) ∈ l
  | [], _, _, h => by simp [ab_find] at h
  | a :: t, pc, q, h => by
    unfold ab_find at h
    split at h
    · rename_i hb
      have e := Nat.eq_of_beq_eq_true hb
      cases h
      rw [e]
      exact List.mem_cons_self
    · exact List.mem_cons_of_mem _ (ab_find_mem t pc q h)
theorem ab_s1_ex (q : Option Value) (t : ab_Lo) (i : Nat) (v : Value) : ∃ q', ab_s1 (q :: t) (i + 1) v = q' :: ab_s1 t i v ∧ (q' = none ∨ (q' = q ∧ ¬ (i = 0 ∧ ∃ x, q = some x ∧ x.category = 2))) := by
  cases i with
  | zero =>
    cases q with
    | none => exact ⟨none, rfl, Or.inl rfl⟩
    | some w => cases w <;> first | exact ⟨none, rfl, Or.inl rfl⟩ | exact ⟨_, rfl, Or.inr ⟨rfl, fun z => by obtain ⟨-, x, hx, hc⟩ := z; cases hx; simp [Value.category] at hc⟩⟩
  | succ i =>
    cases q with
    | none => exact ⟨none, rfl, Or.inl rfl⟩
    | some w => cases w <;> exact ⟨_, rfl, Or.inr ⟨rfl, fun z => by omega⟩⟩
theorem ab_s2_ex (q : Option Value) (t : ab_Lo) (i : Nat) (v : Value) : ∃ q', ab_s2 (q :: t) (i + 1) v = q' :: ab_s2 t i v ∧ (q' = none ∨ (q' = q ∧ ¬ (i = 0 ∧ ∃ x, q = some x ∧ x.category = 2))) := by
  cases i with
  | zero =>
    cases q with
    | none => exact ⟨none, by cases t <;> rfl, Or.inl rfl⟩
    | some w =>
      rcases lv_cat w with hw | hw
      · refine ⟨some w, ?_, Or.inr ⟨rfl, fun z => ?_⟩⟩
        · cases w <;> first | (cases t <;> rfl) | (simp [Value.category] at hw)
        · obtain ⟨-, x, hx, hc⟩ := z
          cases hx
          omega
      · refine ⟨none, ?_, Or.inl rfl⟩
        cases w <;> first | (simp [Value.category] at hw; done) | (cases t <;> rfl)
  | succ i =>
    cases q with
    | none => exact ⟨none, by cases t <;> rfl, Or.inl rfl⟩
    | some w => exact ⟨some w, by cases w <;> cases t <;> rfl, Or.inr ⟨rfl, fun z => by omega⟩⟩
theorem ab_s1_get : ∀ (L : ab_Lo) (i : Nat) (v : Value) (j : Nat) (w : Value), (ab_s1 L i v)[j]? = some (some w) → (j = i ∧ w = v) ∨ (j ≠ i ∧ L[j]? = some (some w) ∧ ¬ (j + 1 = i ∧ w.category = 2))
  | [], i, v, j, w, h => by simp [ab_s1] at h
  | q :: t, 0, v, j, w, h => by
    cases j with
    | zero =>
      have h : some (some v) = some (some w) := h
      cases h
      exact Or.inl ⟨rfl, rfl⟩
    | succ j => exact Or.inr ⟨by omega, h, by omega⟩
  | q :: t, i + 1, v, j, w, h => by
    obtain ⟨q', e, hq⟩ := ab_s1_ex q t i v
    rw [e] at h
    cases j with
    | zero =>
      have h : some q' = some (some w) := h
      cases h
      rcases hq with hq | ⟨hq, hn⟩
      · cases hq
      · refine Or.inr ⟨by omega, by rw [← hq]; rfl, fun z => hn ⟨by omega, w, hq.symm, z.2⟩⟩
    | succ j =>
      have h : (ab_s1 t i v)[j]? = some (some w) := h
      rcases ab_s1_get t i v j w h with ⟨h1, h2⟩ | ⟨h1, h2, h3⟩
      · exact Or.inl ⟨by omega, h2⟩
      · exact Or.inr ⟨by omega, h2, fun z => h3 ⟨by omega, z.2⟩⟩
theorem ab_s2_get : ∀ (L : ab_Lo) (i : Nat) (v : Value) (j : Nat) (w : Value), (ab_s2 L i v)[j]? = some (some w) → (j = i ∧ w = v) ∨ (j ≠ i ∧ j ≠ i + 1 ∧ L[j]? = some (some w) ∧ ¬ (j + 1 = i ∧ w.category = 2))
  | [], i, v, j, w, h => by simp [ab_s2] at h
  | [q], 0, v, j, w, h => by
    cases j with
    | zero =>
      have h : some (some v) = some (some w) := h
      cases h
      exact Or.inl ⟨rfl, rfl⟩
    | succ j =>
      have h : ([] : ab_Lo)[j]? = some (some w) := h
      simp at h
  | q :: q2 :: t, 0, v, j, w, h => by
    match j, h with
    | 0, h =>
      have h : some (some v) = some (some w) := h
      cases h
      exact Or.inl ⟨rfl, rfl⟩
    | 1, h =>
      have h : some none = some (some w) := h
      cases h
    | j + 2, h => exact Or.inr ⟨by omega, by omega, h, by omega⟩
  | q :: t, i + 1, v, j, w, h => by
    obtain ⟨q', e, hq⟩ := ab_s2_ex q t i v
    rw [e] at h
    cases j with
    | zero =>
      have h : some q' = some (some w) := h
      cases h
      rcases hq with hq | ⟨hq, hn⟩
      · cases hq
      · refine Or.inr ⟨by omega, by omega, by rw [← hq]; rfl, fun z => hn ⟨by omega, w, hq.symm, z.2⟩⟩
    | succ j =>
      have h : (ab_s2 t i v)[j]? = some (some w) := h
      rcases ab_s2_get t i v j w h with ⟨h1, h2⟩ | ⟨h1, h0, h2, h3⟩
      · exact Or.inl ⟨by omega, h2⟩
      · exact Or.inr ⟨by omega, by omega, h2, fun z => h3 ⟨by omega, z.2⟩⟩
def ab_LR (g : ab_W) (ls : Array Slot) (nL : Nat) (L : ab_Lo) : Prop := ls.size = nL ∧ lv_wf ls ∧ ∀ (i : Nat) (v : Value), L[i]? = some (some v) → ls[i]? = some (Slot.val (ab_cv g v))
def ab_as (g : ab_W) (L : ab_Lo) : List (Nat × Value) := (List.range L.length).filterMap (fun i => match L[i]? with
  | some (some v) => some (i, ab_cv g v)
  | _ => none)
theorem ab_as_mem {g : ab_W} {L : ab_Lo} {i : Nat} {v : Value} (h : L[i]? = some (some v)) : (i, ab_cv g v) ∈ ab_as g L := by
  refine List.mem_filterMap.mpr ⟨i, List.mem_range.mpr (List.getElem?_eq_some_iff.mp h).1, ?_⟩
  rw [h]
theorem ab_as_inv {g : ab_W} {L : ab_Lo} {q : Nat × Value} (h : q ∈ ab_as g L) : ∃ v, L[q.1]? = some (some v) ∧ q.2 = ab_cv g v := by
  obtain ⟨i, -, hi⟩ := List.mem_filterMap.mp h
  split at hi
  · rename_i v hv
    cases hi
    exact ⟨v, hv, rfl⟩
  · cases hi
theorem ab_as_has {g : ab_W} {ls : Array Slot} {nL : Nat} {L : ab_Lo} (h : ab_LR g ls nL L) : lv_has ls nL (ab_as g L) := by
  refine ⟨h.1, h.2.1, fun q hq => ?_⟩
  obtain ⟨v, h1, h2⟩ := ab_as_inv hq
  rw [h2]
  exact h.2.2 _ _ h1
theorem ab_LR.s1 {g : ab_W} {ls : Array Slot} {nL : Nat} {L : ab_Lo} {i : Nat} {v w : Value} (hv : ab_vf g = .null ∨ ∃ a, ab_vf g = .ref a) (hw : ab_cv g v = w) (h : lv_has ls nL ((i, w) :: (ab_as g L).filter (fun q => !(q.1 == i) && !(q.1 + 1 == i && q.2.category == 2)))) : ab_LR g ls nL (ab_s1 L i v) := by
  subst hw
  refine ⟨h.1, h.2.1, fun j w hj => ?_⟩
  rcases ab_s1_get L i v j w hj with ⟨rfl, rfl⟩ | ⟨h1, h2, h3⟩
  · exact h.2.2 (j, ab_cv g w) List.mem_cons_self
  · refine h.2.2 (j, ab_cv g w) (List.mem_cons_of_mem _ (List.mem_filter.mpr ⟨ab_as_mem h2, ?_⟩))
    have e := ab_cv_cat hv w
    simp only [e]
    by_cases a : j + 1 = i
    · have hc : ¬ w.category = 2 := fun z => h3 ⟨a, z⟩
      simp [h1, hc]
    · simp [h1, a]
theorem ab_LR.s2 {g : ab_W} {ls : Array Slot} {nL : Nat} {L : ab_Lo} {i : Nat} {v w : Value} (hv : ab_vf g = .null ∨ ∃ a, ab_vf g = .ref a) (hw : ab_cv g v = w) (h : lv_has ls nL ((i, w) :: (ab_as g L).filter (fun q => !(q.1 == i) && (!(q.1 == i + 1) && !(q.1 + 1 == i && q.2.category == 2))))) : ab_LR g ls nL (ab_s2 L i v) := by
  subst hw
  refine ⟨h.1, h.2.1, fun j w hj => ?_⟩
  rcases ab_s2_get L i v j w hj with ⟨rfl, rfl⟩ | ⟨h1, h0, h2, h3⟩
  · exact h.2.2 (j, ab_cv g w) List.mem_cons_self
  · refine h.2.2 (j, ab_cv g w) (List.mem_cons_of_mem _ (List.mem_filter.mpr ⟨ab_as_mem h2, ?_⟩))
    have e := ab_cv_cat hv w
    simp only [e]
    by_cases a : j + 1 = i
    · have hc : ¬ w.category = 2 := fun z => h3 ⟨a, z⟩
      simp [h1, h0, hc]
    · simp [h1, h0, a]
theorem ab_en_get {g : ab_W} (hv : ab_vf g = .null ∨ ∃ a, ab_vf g = .ref a) : ∀ (As : List Value) (b i : Nat) (v : Value), (ab_en As)[i]? = some (some v) → (b + i, ab_cv g v) ∈ lv_args b (As.map (ab_cv g))
  | [], b, i, v, h => by simp [ab_en] at h
  | a :: t, b, i, v, h => by
    have hc := ab_cv_cat hv a
    rcases lv_cat a with h1 | h1
    · have e : ab_en (a :: t) = some a :: ab_en t := by
        show (match a.category with | 2 => _ | _ => _) = _
        rw [h1]
        rfl
      rw [e] at h
      show _ ∈ (b, ab_cv g a) :: lv_args (if (ab_cv g a).category = 2 then b + 2 else b + 1) (t.map (ab_cv g))
      rw [hc, h1, if_neg (by decide)]
      cases i with
      | zero =>
        have h : some (some a) = some (some v) := h
        cases h
        exact List.mem_cons_self
      | succ i =>
        have := ab_en_get hv t (b + 1) i v h
        rw [show b + (i + 1) = b + 1 + i by omega]
        exact List.mem_cons_of_mem _ this
    · have e : ab_en (a :: t) = some a :: none :: ab_en t := by
        show (match a.category with | 2 => _ | _ => _) = _
        rw [h1]
        rfl
      rw [e] at h
      show _ ∈ (b, ab_cv g a) :: lv_args (if (ab_cv g a).category = 2 then b + 2 else b + 1) (t.map (ab_cv g))
      rw [hc, h1, if_pos rfl]
      match i, h with
      | 0, h =>
        have h : some (some a) = some (some v) := h
        cases h
        exact List.mem_cons_self
      | 1, h =>
        have h : some none = some (some v) := h
        cases h
      | i + 2, h =>
        have := ab_en_get hv t (b + 2) i v h
        rw [show b + (i + 2) = b + 2 + i by omega]
        exact List.mem_cons_of_mem _ this
theorem ab_en_len {g : ab_W} (hv : ab_vf g = .null ∨ ∃ a, ab_vf g = .ref a) : ∀ (As : List Value), (lg_sl (As.map (ab_cv g))).length = (ab_en As).length
  | [] => rfl
  | a :: t => by
    have hc := ab_cv_cat hv a
    have ih := ab_en_len hv t
    rcases lv_cat a with h1 | h1
    · have e : ab_en (a :: t) = some a :: ab_en t := by
        show (match a.category with | 2 => _ | _ => _) = _
        rw [h1]
        rfl
      rw [e]
      unfold lg_sl at ih ⊢
      simp only [List.map_cons, List.flatMap_cons, List.length_append, ih]
      rw [hc, h1]
      simp; omega
    · have e : ab_en (a :: t) = some a :: none :: ab_en t := by
        show (match a.category with | 2 => _ | _ => _) = _
        rw [h1]
        rfl
      rw [e]
      unfold lg_sl at ih ⊢
      simp only [List.map_cons, List.flatMap_cons, List.length_append, ih]
      rw [hc, h1]
      simp; omega
theorem ab_LR.entry {g : ab_W} (hv : ab_vf g = .null ∨ ∃ a, ab_vf g = .ref a) {As : List Value} {n : Nat} (hn : (ab_en As).length ≤ n) : ab_LR g (lg_sl (As.map (ab_cv g)) ++ List.replicate (n - (lg_sl (As.map (ab_cv g))).length) Slot.unset).toArray n (ab_ent As n) := by
  have h := lv_entry (As.map (ab_cv g)) (n := n) (by rw [ab_en_len hv]; exact hn)
  refine ⟨h.1, h.2.1, fun i v hi => ?_⟩
  have hi2 : (ab_en As)[i]? = some (some v) := by
    unfold ab_ent at hi
    by_cases hl : i < (ab_en As).length
    · rwa [List.getElem?_append_left hl] at hi
    · rw [List.getElem?_append_right (by omega), List.getElem?_replicate] at hi
      split at hi <;> cases hi
  have := ab_en_get hv As 0 i v hi2
  rw [Nat.zero_add] at this
  exact h.2.2 (i, ab_cv g v) this

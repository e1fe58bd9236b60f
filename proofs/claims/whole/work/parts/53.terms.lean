/-! what a text tells, by its tokens -/
def opK (k : Nat) : Nat := if k = 43 then 2 else if k = 45 then 3 else if k = 42 then 4 else 5
/-- a fault (none: 0), where it goes on, the steps -/
abbrev res : Type := Nat × Nat × rpn
def bnd (r : res) (k : Nat → rpn → res) : res := if r.1 = 0 then k r.2.1 r.2.2 else r
theorem bnd_0 {r : res} {k : Nat → rpn → res} (h : r.1 = 0) : bnd r k = k r.2.1 r.2.2 := if_pos h
theorem bnd_1 {r : res} {k : Nat → rpn → res} (h : ¬ r.1 = 0) : bnd r k = r := if_neg h
def tkR (b : Nat → Nat) (n k t : Nat) (c : rpn) : res := if kd b n t = k then (if 400 ≤ t then (2, t, c) else (0, t + 1, c)) else (1, t, c)
def wtC (w : Nat) (c : rpn) : rpn := if w = 0 then c else c ++ [(opK w, nI 0)]
/-- mode 0: a unit; mode 1: what follows one, a sign w waiting -/
def ex (b : Nat → Nat) (n : Nat) : Nat → Nat → Nat → Nat → Nat → rpn → res
  | 0, _, _, _, t, c => (2, t, c)
  | f + 1, m, w, d, t, c =>
    if m = 0 then
      (if kd b n t = 40 then
        (if 6 ≤ d ∨ 400 ≤ t then (2, t, c) else bnd (ex b n f 0 0 (d + 1) (t + 1) c) (fun t1 c1 => bnd (ex b n f 1 0 (d + 1) t1 c1) (fun t2 c2 => tkR b n 41 t2 c2)))
      else if kd b n t = 25 then (if 400 ≤ t then (2, t, c) else (0, t + 1, c ++ [(0, nI (nuT b n t))]))
      else if 15 ≤ kd b n t ∧ kd b n t < 24 then (if 400 ≤ t then (2, t, c) else (0, t + 1, c ++ [(1, nI (kd b n t - 15))]))
      else (1, t, c))
    else
      (if kd b n t = 42 ∨ kd b n t = 47 then
        (if 400 ≤ t then (2, t, c) else bnd (ex b n f 0 0 d (t + 1) c) (fun t1 c1 => ex b n f 1 w d t1 (c1 ++ [(opK (kd b n t), nI 0)])))
      else if kd b n t = 43 ∨ kd b n t = 45 then
        (if 400 ≤ t then (2, t, wtC w c) else bnd (ex b n f 0 0 d (t + 1) (wtC w c)) (fun t1 c1 => ex b n f 1 (kd b n t) d t1 c1))
      else (0, t, wtC w c))
def sumS (b : Nat → Nat) (n t : Nat) : res := bnd (ex b n 402 0 0 0 t []) (fun t1 c1 => ex b n 402 1 0 0 t1 c1)
theorem gdT.s {b : Nat → Nat} {n t : Nat} (h : gdT b n t) (h1 : kd b n t ≠ 26) (h2 : kd b n t ≠ 27) : gdT b n (t + 1) := fun j hj => if z : j = t then (by rw [z]; exact ⟨h1, h2⟩) else h j (by omega)
theorem wtC_len (w : Nat) (c : rpn) : (wtC w c).length ≤ c.length + (if w = 0 then 0 else 1) := by
  unfold wtC; split
  · exact Nat.le_refl _
  · rw [List.length_append]; exact Nat.le_refl _
/-- how far it goes -/
theorem ex_far (b : Nat → Nat) (n : Nat) : ∀ (f m w d t : Nat) (c : rpn), t ≤ 400 → gdT b n t → (402 ≤ f + t) → t ≤ (ex b n f m w d t c).2.1 ∧ (ex b n f m w d t c).2.1 ≤ 400 ∧ gdT b n (ex b n f m w d t c).2.1 ∧ ((ex b n f m w d t c).1 = 0 → m = 0 → t < (ex b n f m w d t c).2.1) ∧ ((ex b n f m w d t c).1 = 0 → (ex b n f m w d t c).2.2.length + t ≤ c.length + (ex b n f m w d t c).2.1 + (if w = 0 ∨ m = 0 then 0 else 1)) ∧ (ex b n f m w d t c).1 ≤ 2 := by
  intro f
  induction f with
  | zero => intro m w d t c h1 _ h2; omega
  | succ f ih =>
    intro m w d t c ht hg hf
    have ih0 := fun w d c (h : t + 1 ≤ 400) (g : gdT b n (t + 1)) => ih 0 w d (t + 1) c h g (by omega)
    rw [ex]
    split
    · rename_i hm
      split
      · rename_i hk
        have hg1 := hg.s (by omega) (by omega)
        split
        · exact ⟨Nat.le_refl _, ht, hg, fun z => absurd z (show ¬ 2 = 0 by decide), fun z => absurd z (show ¬ 2 = 0 by decide), Nat.le_refl _⟩
        · rename_i hc
          obtain ⟨a1, a2, a3, a4, a5, a6⟩ := ih 0 0 (d + 1) (t + 1) c (by omega) hg1 (by omega)
          by_cases z1 : (ex b n f 0 0 (d + 1) (t + 1) c).1 = 0
          · rw [bnd_0 z1]
            obtain ⟨b1, b2, b3, b4, b5, b6⟩ := ih 1 0 (d + 1) (ex b n f 0 0 (d + 1) (t + 1) c).2.1 (ex b n f 0 0 (d + 1) (t + 1) c).2.2 a2 a3 (by omega)
            by_cases z2 : (ex b n f 1 0 (d + 1) (ex b n f 0 0 (d + 1) (t + 1) c).2.1 (ex b n f 0 0 (d + 1) (t + 1) c).2.2).1 = 0
            · rw [bnd_0 z2]
              have a5 := a5 z1
              have b5 := b5 z2
              rw [if_pos (Or.inl rfl)] at a5 b5
              unfold tkR
              split
              · rename_i hk2
                split
                · exact ⟨Nat.le_trans (Nat.le_of_succ_le a1) b1, b2, b3, fun z => absurd z (show ¬ 2 = 0 by decide), fun z => absurd z (show ¬ 2 = 0 by decide), Nat.le_refl _⟩
                · refine ⟨by show t ≤ _ + 1; omega, by show _ + 1 ≤ 400; omega, b3.s (by omega) (by omega), fun _ _ => by show t < _ + 1; omega, fun _ => ?_, Nat.zero_le _⟩
                  dsimp only
                  omega
              · exact ⟨Nat.le_trans (Nat.le_of_succ_le a1) b1, b2, b3, fun z => absurd z (show ¬ 1 = 0 by decide), fun z => absurd z (show ¬ 1 = 0 by decide), (by decide : 1 ≤ 2)⟩
            · rw [bnd_1 z2]
              exact ⟨by omega, b2, b3, fun z => absurd z z2, fun z => absurd z z2, b6⟩
          · rw [bnd_1 z1]
            exact ⟨by omega, a2, a3, fun z => absurd z z1, fun z => absurd z z1, a6⟩
      · split
        · rename_i hk
          split
          · exact ⟨Nat.le_refl _, ht, hg, fun z => absurd z (show ¬ 2 = 0 by decide), fun z => absurd z (show ¬ 2 = 0 by decide), Nat.le_refl _⟩
          · refine ⟨Nat.le_succ _, by show t + 1 ≤ 400; omega, hg.s (by omega) (by omega), fun _ _ => Nat.lt_succ_self _, fun _ => ?_, Nat.zero_le _⟩
            show (c ++ [_]).length + t ≤ c.length + (t + 1) + _
            rw [List.length_append]; show c.length + 1 + t ≤ _; omega
        · split
          · rename_i hk
            split
            · exact ⟨Nat.le_refl _, ht, hg, fun z => absurd z (show ¬ 2 = 0 by decide), fun z => absurd z (show ¬ 2 = 0 by decide), Nat.le_refl _⟩
            · refine ⟨Nat.le_succ _, by show t + 1 ≤ 400; omega, hg.s (by omega) (by omega), fun _ _ => Nat.lt_succ_self _, fun _ => ?_, Nat.zero_le _⟩
              show (c ++ [_]).length + t ≤ c.length + (t + 1) + _
              rw [List.length_append]; show c.length + 1 + t ≤ _; omega
          · exact ⟨Nat.le_refl _, ht, hg, fun z => absurd z (show ¬ 1 = 0 by decide), fun z => absurd z (show ¬ 1 = 0 by decide), (by decide : 1 ≤ 2)⟩
    · rename_i hm
      split
      · rename_i hk
        have hg1 := hg.s (by omega) (by omega)
        split
        · exact ⟨Nat.le_refl _, ht, hg, fun z => absurd z (show ¬ 2 = 0 by decide), fun z => absurd z (show ¬ 2 = 0 by decide), Nat.le_refl _⟩
        · rename_i hc
          obtain ⟨a1, a2, a3, a4, a5, a6⟩ := ih 0 0 d (t + 1) c (by omega) hg1 (by omega)
          by_cases z1 : (ex b n f 0 0 d (t + 1) c).1 = 0
          · rw [bnd_0 z1]
            have a5 := a5 z1
            rw [if_pos (Or.inl rfl)] at a5
            obtain ⟨b1, b2, b3, b4, b5, b6⟩ := ih 1 w d (ex b n f 0 0 d (t + 1) c).2.1 ((ex b n f 0 0 d (t + 1) c).2.2 ++ [(opK (kd b n t), nI 0)]) a2 a3 (by omega)
            refine ⟨by omega, b2, b3, fun _ z => absurd z hm, fun z => ?_, b6⟩
            have b5 := b5 z
            rw [List.length_append] at b5
            have e1 : [(opK (kd b n t), nI 0)].length = 1 := rfl
            by_cases zw : w = 0
            · rw [if_pos (Or.inl zw)] at b5 ⊢; omega
            · rw [if_neg (by omega)] at b5 ⊢; omega
          · rw [bnd_1 z1]
            exact ⟨by omega, a2, a3, fun z => absurd z z1, fun z => absurd z z1, a6⟩
      · split
        · rename_i hk
          have hg1 := hg.s (by omega) (by omega)
          have hwl := wtC_len w c
          split
          · exact ⟨Nat.le_refl _, ht, hg, fun z => absurd z (show ¬ 2 = 0 by decide), fun z => absurd z (show ¬ 2 = 0 by decide), Nat.le_refl _⟩
          · rename_i hc
            obtain ⟨a1, a2, a3, a4, a5, a6⟩ := ih 0 0 d (t + 1) (wtC w c) (by omega) hg1 (by omega)
            by_cases z1 : (ex b n f 0 0 d (t + 1) (wtC w c)).1 = 0
            · rw [bnd_0 z1]
              have a5 := a5 z1
              rw [if_pos (Or.inl rfl)] at a5
              obtain ⟨b1, b2, b3, b4, b5, b6⟩ := ih 1 (kd b n t) d (ex b n f 0 0 d (t + 1) (wtC w c)).2.1 (ex b n f 0 0 d (t + 1) (wtC w c)).2.2 a2 a3 (by omega)
              refine ⟨by omega, b2, b3, fun _ z => absurd z hm, fun z => ?_, b6⟩
              have b5 := b5 z
              rw [if_neg (by omega)] at b5
              by_cases zw : w = 0
              · rw [if_pos zw] at hwl; rw [if_pos (Or.inl zw)]; omega
              · rw [if_neg zw] at hwl; rw [if_neg (by omega)]; omega
            · rw [bnd_1 z1]
              exact ⟨by omega, a2, a3, fun z => absurd z z1, fun z => absurd z z1, a6⟩
        · refine ⟨Nat.le_refl _, ht, hg, fun _ z => absurd z hm, fun _ => ?_, Nat.zero_le _⟩
          have hwl := wtC_len w c
          show (wtC w c).length + t ≤ c.length + t + _
          by_cases zw : w = 0
          · rw [if_pos zw] at hwl; rw [if_pos (Or.inl zw)]; omega
          · rw [if_neg zw] at hwl; rw [if_neg (by omega)]; omega
/-- steps that go from a height to another, never above 16 -/
def rwg : rpn → Nat → Nat → Prop
  | [], h, e => h = e
  | q :: p, h, e => if q.1 < 2 then h < 16 ∧ (q.1 = 1 → ∃ j, j < 9 ∧ q.2 = nI j) ∧ rwg p (h + 1) e else q.1 ≤ 5 ∧ 2 ≤ h ∧ rwg p (h - 1) e
theorem rwg.ap : ∀ {p q : rpn} {h e e2 : Nat}, rwg p h e → rwg q e e2 → rwg (p ++ q) h e2
  | [], q, h, e, e2, h1, h2 => by rw [rwg] at h1; subst h1; exact h2
  | x :: p, q, h, e, e2, h1, h2 => by
    rw [List.cons_append]
    rw [rwg] at h1 ⊢
    by_cases z : x.1 < 2
    · rw [if_pos z] at h1 ⊢; exact ⟨h1.1, h1.2.1, rwg.ap h1.2.2 h2⟩
    · rw [if_neg z] at h1 ⊢; exact ⟨h1.1, h1.2.1, rwg.ap h1.2.2 h2⟩
theorem rwg.wf : ∀ {p : rpn} {h : Nat}, rwg p h 1 → rwf p h
  | [], h, h1 => h1
  | x :: p, h, h1 => by
    rw [rwg] at h1
    rw [rwf]
    by_cases z : x.1 < 2
    · rw [if_pos z] at h1 ⊢; exact ⟨h1.1, h1.2.1, rwg.wf h1.2.2⟩
    · rw [if_neg z] at h1 ⊢; exact ⟨h1.1, h1.2.1, rwg.wf h1.2.2⟩
theorem opK_ge (k : Nat) : ¬ opK k < 2 ∧ opK k ≤ 5 := by unfold opK; split <;> (try split) <;> (try split) <;> omega
theorem rwg_op (k h : Nat) (v : Int32) (hh : 2 ≤ h) : rwg [(opK k, v)] h (h - 1) := by
  rw [rwg, if_neg (opK_ge k).1]; exact ⟨(opK_ge k).2, hh, rfl⟩
theorem ex_wf (b : Nat → Nat) (n : Nat) : ∀ (f m w d t : Nat) (c : rpn), (ex b n f m w d t c).1 = 0 → d ≤ 6 → ∃ p, (ex b n f m w d t c).2.2 = c ++ p ∧ ∀ h, (if m = 0 then h + 2 * (6 - d) + 1 ≤ 16 → rwg p h (h + 1) else if w = 0 then h + 2 + 2 * (6 - d) + 1 ≤ 16 → rwg p (h + 1) (h + 1) else h + 2 + 2 * (6 - d) + 1 ≤ 16 → rwg p (h + 2) (h + 1)) := by
  intro f
  induction f with
  | zero => intro m w d t c h; exact absurd h (show ¬ 2 = 0 by decide)
  | succ f ih =>
    intro m w d t c hz hd
    rw [ex] at hz ⊢
    by_cases hm : m = 0
    · rw [if_pos hm] at hz ⊢
      by_cases hk : kd b n t = 40
      · rw [if_pos hk] at hz ⊢
        by_cases hc : 6 ≤ d ∨ 400 ≤ t
        · rw [if_pos hc] at hz; exact absurd hz (show ¬ 2 = 0 by decide)
        · rw [if_neg hc] at hz ⊢
          by_cases z1 : (ex b n f 0 0 (d + 1) (t + 1) c).1 = 0
          · rw [bnd_0 z1] at hz ⊢
            by_cases z2 : (ex b n f 1 0 (d + 1) (ex b n f 0 0 (d + 1) (t + 1) c).2.1 (ex b n f 0 0 (d + 1) (t + 1) c).2.2).1 = 0
            · rw [bnd_0 z2] at hz ⊢
              obtain ⟨p1, e1, g1⟩ := ih 0 0 (d + 1) (t + 1) c z1 (by omega)
              obtain ⟨p2, e2, g2⟩ := ih 1 0 (d + 1) _ _ z2 (by omega)
              refine ⟨p1 ++ p2, ?_, fun h => ?_⟩
              · have e3 : (tkR b n 41 (ex b n f 1 0 (d + 1) (ex b n f 0 0 (d + 1) (t + 1) c).2.1 (ex b n f 0 0 (d + 1) (t + 1) c).2.2).2.1 (ex b n f 1 0 (d + 1) (ex b n f 0 0 (d + 1) (t + 1) c).2.1 (ex b n f 0 0 (d + 1) (t + 1) c).2.2).2.2).2.2 = (ex b n f 1 0 (d + 1) (ex b n f 0 0 (d + 1) (t + 1) c).2.1 (ex b n f 0 0 (d + 1) (t + 1) c).2.2).2.2 := by
                  unfold tkR; split
                  · split <;> rfl
                  · rfl
                rw [e3, e2, e1, List.append_assoc]
              · rw [if_pos hm]
                intro hh
                have g1 := g1 h
                have g2 := g2 h
                rw [if_pos rfl] at g1
                rw [if_neg (by decide), if_pos rfl] at g2
                exact (g1 (by omega)).ap (g2 (by omega))
            · rw [bnd_1 z2] at hz; exact absurd hz z2
          · rw [bnd_1 z1] at hz; exact absurd hz z1
      · rw [if_neg hk] at hz ⊢
        by_cases hk2 : kd b n t = 25
        · rw [if_pos hk2] at hz ⊢
          by_cases hc : 400 ≤ t
          · rw [if_pos hc] at hz; exact absurd hz (show ¬ 2 = 0 by decide)
          · rw [if_neg hc]
            refine ⟨_, rfl, fun h => ?_⟩
            rw [if_pos hm]
            intro hh
            rw [rwg, if_pos (show 0 < 2 by decide)]
            exact ⟨by omega, fun z => absurd z (show ¬ 0 = 1 by decide), rfl⟩
        · rw [if_neg hk2] at hz ⊢
          by_cases hk3 : 15 ≤ kd b n t ∧ kd b n t < 24
          · rw [if_pos hk3] at hz ⊢
            by_cases hc : 400 ≤ t
            · rw [if_pos hc] at hz; exact absurd hz (show ¬ 2 = 0 by decide)
            · rw [if_neg hc]
              refine ⟨_, rfl, fun h => ?_⟩
              rw [if_pos hm]
              intro hh
              rw [rwg, if_pos (show 1 < 2 by decide)]
              exact ⟨by omega, fun _ => ⟨kd b n t - 15, by omega, rfl⟩, rfl⟩
          · rw [if_neg hk3] at hz; exact absurd hz (show ¬ 1 = 0 by decide)
    · rw [if_neg hm] at hz ⊢
      by_cases hk : kd b n t = 42 ∨ kd b n t = 47
      · rw [if_pos hk] at hz ⊢
        by_cases hc : 400 ≤ t
        · rw [if_pos hc] at hz; exact absurd hz (show ¬ 2 = 0 by decide)
        · rw [if_neg hc] at hz ⊢
          by_cases z1 : (ex b n f 0 0 d (t + 1) c).1 = 0
          · rw [bnd_0 z1] at hz ⊢
            obtain ⟨p1, e1, g1⟩ := ih 0 0 d (t + 1) c z1 hd
            obtain ⟨p2, e2, g2⟩ := ih 1 w d _ _ hz hd
            refine ⟨p1 ++ [(opK (kd b n t), nI 0)] ++ p2, ?_, fun h => ?_⟩
            · rw [e2, e1]; simp only [List.append_assoc]
            · rw [if_neg hm]
              by_cases hw : w = 0
              · rw [if_pos hw]
                intro hh
                have g1 := g1 (h + 1)
                have g2 := g2 h
                rw [if_pos rfl] at g1
                rw [if_neg (by decide), if_pos hw] at g2
                exact ((g1 (by omega)).ap (rwg_op _ (h + 1 + 1) _ (by omega))).ap (g2 (by omega))
              · rw [if_neg hw]
                intro hh
                have g1 := g1 (h + 2)
                have g2 := g2 h
                rw [if_pos rfl] at g1
                rw [if_neg (by decide), if_neg hw] at g2
                exact ((g1 (by omega)).ap (rwg_op _ (h + 2 + 1) _ (by omega))).ap (g2 (by omega))
          · rw [bnd_1 z1] at hz; exact absurd hz z1
      · rw [if_neg hk] at hz ⊢
        have hwt : ∃ p0, wtC w c = c ++ p0 ∧ ∀ h, if w = 0 then rwg p0 (h + 1) (h + 1) else rwg p0 (h + 2) (h + 1) := by
          unfold wtC
          by_cases hw : w = 0
          · refine ⟨[], by rw [if_pos hw, List.append_nil], fun h => ?_⟩
            rw [if_pos hw]; rfl
          · refine ⟨[(opK w, nI 0)], by rw [if_neg hw], fun h => ?_⟩
            rw [if_neg hw]; exact rwg_op _ (h + 2) _ (by omega)
        obtain ⟨p0, e0, g0⟩ := hwt
        by_cases hk2 : kd b n t = 43 ∨ kd b n t = 45
        · rw [if_pos hk2] at hz ⊢
          by_cases hc : 400 ≤ t
          · rw [if_pos hc] at hz; exact absurd hz (show ¬ 2 = 0 by decide)
          · rw [if_neg hc] at hz ⊢
            by_cases z1 : (ex b n f 0 0 d (t + 1) (wtC w c)).1 = 0
            · rw [bnd_0 z1] at hz ⊢
              obtain ⟨p1, e1, g1⟩ := ih 0 0 d (t + 1) _ z1 hd
              obtain ⟨p2, e2, g2⟩ := ih 1 (kd b n t) d _ _ hz hd
              refine ⟨p0 ++ p1 ++ p2, ?_, fun h => ?_⟩
              · rw [e2, e1, e0]; simp only [List.append_assoc]
              · rw [if_neg hm]
                have g0 := g0 h
                have g1 := g1 (h + 1)
                have g2 := g2 h
                rw [if_pos rfl] at g1
                rw [if_neg (by decide), if_neg (by omega)] at g2
                by_cases hw : w = 0
                · rw [if_pos hw] at g0 ⊢
                  intro hh
                  exact (g0.ap (g1 (by omega))).ap (g2 (by omega))
                · rw [if_neg hw] at g0 ⊢
                  intro hh
                  exact (g0.ap (g1 (by omega))).ap (g2 (by omega))
            · rw [bnd_1 z1] at hz; exact absurd hz z1
        · rw [if_neg hk2]
          refine ⟨p0, e0, fun h => ?_⟩
          rw [if_neg hm]
          have g0 := g0 h
          by_cases hw : w = 0
          · rw [if_pos hw] at g0 ⊢; exact fun _ => g0
          · rw [if_neg hw] at g0 ⊢; exact fun _ => g0
theorem sum_wf {b : Nat → Nat} {n t : Nat} (h : (sumS b n t).1 = 0) : ∀ g, g ≤ 1 → rwg (sumS b n t).2.2 g (g + 1) := by
  unfold sumS at h ⊢
  by_cases z1 : (ex b n 402 0 0 0 t []).1 = 0
  · rw [bnd_0 z1] at h ⊢
    obtain ⟨p1, e1, g1⟩ := ex_wf b n 402 0 0 0 t [] z1 (by omega)
    obtain ⟨p2, e2, g2⟩ := ex_wf b n 402 1 0 0 _ _ h (by omega)
    intro g hg
    have g1 := g1 g
    have g2 := g2 g
    rw [if_pos rfl] at g1
    rw [if_neg (by decide), if_pos rfl] at g2
    rw [e2, e1, List.nil_append]
    exact (g1 (by omega)).ap (g2 (by omega))
  · rw [bnd_1 z1] at h; exact absurd h z1
theorem sum_far {b : Nat → Nat} {n t : Nat} (ht : t ≤ 400) (hg : gdT b n t) : t ≤ (sumS b n t).2.1 ∧ (sumS b n t).2.1 ≤ 400 ∧ gdT b n (sumS b n t).2.1 ∧ ((sumS b n t).1 = 0 → t < (sumS b n t).2.1 ∧ (sumS b n t).2.2.length + t ≤ (sumS b n t).2.1) ∧ (sumS b n t).1 ≤ 2 := by
  obtain ⟨a1, a2, a3, a4, a5, a6⟩ := ex_far b n 402 0 0 0 t [] ht hg (by omega)
  unfold sumS
  by_cases z1 : (ex b n 402 0 0 0 t []).1 = 0
  · rw [bnd_0 z1]
    obtain ⟨b1, b2, b3, b4, b5, b6⟩ := ex_far b n 402 1 0 0 _ (ex b n 402 0 0 0 t []).2.2 a2 a3 (by omega)
    refine ⟨by omega, b2, b3, fun z => ?_, b6⟩
    have a5 := a5 z1
    have b5 := b5 z
    have a4 := a4 z1 rfl
    rw [if_pos (Or.inl rfl)] at a5 b5
    have e : ([] : rpn).length = 0 := rfl
    omega
  · rw [bnd_1 z1]
    exact ⟨a1, a2, a3, fun z => absurd z z1, a6⟩

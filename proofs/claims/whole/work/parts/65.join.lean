/-! the class: a text cleared; roads joined -/
def fwS (F : Nat → Nat → Int32) : Nat → Nat → Nat → Int32
  | 0, a, b => F a b
  | c + 1, a, b => if fwS F c a c + fwS F c c b < fwS F c a b then fwS F c a c + fwS F c c b else fwS F c a b
/-- lengths of roads -/
def lnF (F : Nat → Nat → Int32) : Prop := ∀ a b, a < 6 → b < 6 → ∃ v, v ≤ 999 ∧ F a b = nI v ∧ (a = b → v = 0)
theorem fw_in {F : Nat → Nat → Int32} (hF : lnF F) : ∀ c, c ≤ 6 → lnF (fwS F c)
  | 0, _ => hF
  | c + 1, hc => by
    have ih := fw_in hF c (by omega)
    intro a b ha hb
    obtain ⟨v1, h1, h2, _⟩ := ih a c ha (by omega)
    obtain ⟨v2, h3, h4, _⟩ := ih c b (by omega) hb
    obtain ⟨v, h5, h6, h7⟩ := ih a b ha hb
    rw [fwS, h2, h4, h6, nI_add]
    by_cases z : nI (v1 + v2) < nI v
    · rw [if_pos z]
      have := (nI_ltI (by omega) (by omega)).mp z
      exact ⟨v1 + v2, by omega, rfl, fun e => by have := h7 e; omega⟩
    · rw [if_neg z]; exact ⟨v, h5, rfl, h7⟩
theorem fw_row {F : Nat → Nat → Int32} (hF : lnF F) {c a : Nat} (hc : c < 6) (ha : a < 6) : fwS F (c + 1) a c = fwS F c a c := by
  obtain ⟨v2, h3, h4, h5⟩ := fw_in hF c (by omega) c c hc hc
  obtain ⟨v, h6, h7, h8⟩ := fw_in hF c (by omega) a c ha hc
  rw [fwS, h4, h7, h5 rfl, nI_add, Nat.add_zero, if_neg (by rw [nI_ltI (by omega) (by omega)]; omega)]
theorem fw_col {F : Nat → Nat → Int32} (hF : lnF F) {c b : Nat} (hc : c < 6) (hb : b < 6) : fwS F (c + 1) c b = fwS F c c b := by
  obtain ⟨v2, h3, h4, h5⟩ := fw_in hF c (by omega) c c hc hc
  obtain ⟨v, h6, h7, h8⟩ := fw_in hF c (by omega) c b hc hb
  rw [fwS, h4, h7, h5 rfl, nI_add, Nat.zero_add, if_neg (by rw [nI_ltI (by omega) (by omega)]; omega)]
/-- in the middle of a pass by c, at a and b -/
def jfS (F : Nat → Nat → Int32) (c f t a b : Nat) : Int32 := if a < f ∨ (a = f ∧ b < t) then fwS F (c + 1) a b else fwS F c a b
theorem jf_row {F : Nat → Nat → Int32} (hF : lnF F) {c f t a : Nat} (hc : c < 6) (ha : a < 6) : jfS F c f t a c = fwS F c a c := by
  unfold jfS; rw [fw_row hF hc ha]; split <;> rfl
theorem jf_col {F : Nat → Nat → Int32} (hF : lnF F) {c f t b : Nat} (hc : c < 6) (hb : b < 6) : jfS F c f t c b = fwS F c c b := by
  unfold jfS; rw [fw_col hF hc hb]; split <;> rfl
theorem jf_at {F : Nat → Nat → Int32} {c f t : Nat} : jfS F c f t f t = fwS F c f t := by
  unfold jfS; rw [if_neg (by omega)]
theorem jf_ne {F : Nat → Nat → Int32} {c f t a b : Nat} (h : ¬ (a = f ∧ b = t)) : jfS F c f (t + 1) a b = jfS F c f t a b := by
  unfold jfS
  by_cases z : a < f ∨ (a = f ∧ b < t)
  · rw [if_pos z, if_pos (by omega)]
  · rw [if_neg z, if_neg (by omega)]
theorem jf_eq {F : Nat → Nat → Int32} {c f t : Nat} : jfS F c f (t + 1) f t = fwS F (c + 1) f t := by
  unfold jfS; rw [if_pos (by omega)]
theorem jf_end {F : Nat → Nat → Int32} {c f C a b : Nat} (hb : b < C) : jfS F c (f + 1) 0 a b = jfS F c f C a b := by
  unfold jfS
  by_cases z : a < f ∨ (a = f ∧ b < C)
  · rw [if_pos z, if_pos (by omega)]
  · rw [if_neg z, if_neg (by omega)]
theorem jf_done {F : Nat → Nat → Int32} {c C a b : Nat} (ha : a < C) : jfS F c C 0 a b = fwS F (c + 1) a b := by
  unfold jfS; rw [if_pos (by omega)]
set_option maxHeartbeats 4000000 in
theorem c_X7_joinRoads_1 {d Lx t rt u : Nat} {I : Nat → Nat → Int32} {G : Nat → Nat → Int64} {Q : ab_Q} {C : Nat} {F : Nat → Nat → Int32} (hC : I 1 10 = nI C) (hC6 : C ≤ 6) (hF : lnF F) (hI : ∀ a b, a < C → b < C → I 11 (a * 6 + b) = F a b) (hq : ∀ I2, (∀ q, q ≠ 11 → I2 q = I q) → (∀ a b, a < C → b < C → I2 11 (a * 6 + b) = fwS F C a b) → Q none (hp Lx t rt u I2 G)) : ab_call ab_MT (d + 2) 115 [.ref 1] (hp Lx t rt u I G) 0 0 Q := by
  have inner : ∀ c f, c < C → f < C → (∀ I2, (∀ q, q ≠ 11 → I2 q = I q) → (∀ a b, a < C → b < C → I2 11 (a * 6 + b) = jfS F c f C a b) → ∀ x3 x4, WP (d + 1) mX7_joinRoads Q 75 [some (.ref 1), some (.int (nI c)), some (.int (nI f)), x3, x4] [] (hp Lx t rt u I2 G) 0 0) → ∀ (m t_ : Nat) (I2 : Nat → Nat → Int32) (x4 : Option Value), t_ ≤ C → C - t_ < m → (∀ q, q ≠ 11 → I2 q = I q) → (∀ a b, a < C → b < C → I2 11 (a * 6 + b) = jfS F c f t_ a b) → WP (d + 1) mX7_joinRoads Q 22 [some (.ref 1), some (.int (nI c)), some (.int (nI f)), some (.int (nI t_)), x4] [] (hp Lx t rt u I2 G) 0 0 := by
    intro c f hc hf go m
    induction m with
    | zero => intro t_ I2 x4 h1 h2; omega
    | succ m ih =>
      intro t_ I2 x4 h1 h2 g2 j2
      refine wx_iload_n rfl (e := 23) rfl rfl ?_
      refine wx_aload_n rfl (e := 24) rfl rfl ?_
      refine wx_geti rfl (e := 27) rfl rfl ?_
      rw [g2 1 (by decide), hC]
      refine wn_ic_ge rfl (e := 30) rfl (by omega) (by omega) (fun c_27 => ?_) (fun c_27 => ?_)
      · have et : t_ = C := by omega
        subst et
        exact go I2 g2 j2 _ _
      · refine wx_aload_n rfl (e := 31) rfl rfl ?_
        refine wx_iload_n rfl (e := 32) rfl rfl ?_
        refine wx_iload_n rfl (e := 33) rfl rfl ?_
        refine wx_cv2 (mc := 0) (ms := 0) rfl (e := 36) rfl rfl (Nat.le_of_ble_eq_true rfl) ⟨by decide, by decide⟩ ?_
        refine c_X7_far (o := 1) (by decide) (n := C) (by rw [g2 1 (by decide)]; exact hC) (by omega) (by omega) hC6 ?_
        show WP _ _ _ _ _ (.int (I2 11 (f * 6 + c)) :: _) _ _ _
        rw [j2 _ _ (by omega) (by omega)]
        rw [jf_row hF (by omega) (by omega)]
        refine wx_aload_n rfl (e := 37) rfl rfl ?_
        refine wx_iload_n rfl (e := 38) rfl rfl ?_
        refine wx_iload_n rfl (e := 39) rfl rfl ?_
        refine wx_cv2 (mc := 0) (ms := 0) rfl (e := 42) rfl rfl (Nat.le_of_ble_eq_true rfl) ⟨by decide, by decide⟩ ?_
        refine c_X7_far (o := 1) (by decide) (n := C) (by rw [g2 1 (by decide)]; exact hC) (by omega) (by omega) hC6 ?_
        show WP _ _ _ _ _ (.int (I2 11 (c * 6 + t_)) :: _) _ _ _
        rw [j2 _ _ (by omega) (by omega)]
        rw [jf_col hF (by omega) (by omega)]
        refine wx_iadd rfl (e := 43) rfl ?_
        refine wx_istore (L2 := [_, _, _, _, _]) rfl (e := 45) rfl (by decide) rfl ?_
        refine wx_iload rfl (e := 47) rfl rfl ?_
        refine wx_aload_n rfl (e := 48) rfl rfl ?_
        refine wx_iload_n rfl (e := 49) rfl rfl ?_
        refine wx_iload_n rfl (e := 50) rfl rfl ?_
        refine wx_cv2 (mc := 0) (ms := 0) rfl (e := 53) rfl rfl (Nat.le_of_ble_eq_true rfl) ⟨by decide, by decide⟩ ?_
        refine c_X7_far (o := 1) (by decide) (n := C) (by rw [g2 1 (by decide)]; exact hC) (by omega) (by omega) hC6 ?_
        show WP _ _ _ _ _ (.int (I2 11 (f * 6 + t_)) :: _) _ _ _
        rw [j2 _ _ (by omega) (by omega)]
        rw [jf_at]
        refine wx_ic_ge rfl (e := 56) rfl (fun c_53 => ?_) (fun c_53 => ?_)
        · refine wn_iinc (m := 1) (L2 := [_, _, _, _, _]) rfl (e := 72) rfl rfl (by decide) rfl ?_
          refine wx_goto rfl ?_
          refine ih (t_ + 1) I2 _ (by omega) (by omega) g2 (fun a b ha hb => ?_)
          by_cases zz : a = f ∧ b = t_
          · rw [zz.1, zz.2, jf_eq, fwS, if_neg (Int32.not_lt.mpr c_53), j2 f t_ (by omega) (by omega), jf_at]
          · rw [jf_ne zz]; exact j2 a b ha hb
        · refine wx_aload_n rfl (e := 57) rfl rfl ?_
          refine wx_getr rfl (e := 60) rfl rfl rfl ?_
          refine wx_iload_n rfl (e := 61) rfl rfl ?_
          refine wx_bipush (v := (nI 6)) rfl (e := 63) rfl (by decide) ?_
          refine wn_imul rfl (e := 64) rfl ?_
          refine wx_iload_n rfl (e := 65) rfl rfl ?_
          refine wn_iadd rfl (e := 66) rfl ?_
          refine wx_iload rfl (e := 68) rfl rfl ?_
          refine wn_iast rfl (e := 69) rfl rfl (by decide) (by omega) (by decide) ?_
          refine wn_iinc (m := 1) (L2 := [_, _, _, _, _]) rfl (e := 72) rfl rfl (by decide) rfl ?_
          refine wx_goto rfl ?_
          refine ih (t_ + 1) _ _ (by omega) (by omega) (fun q h => by rw [wr_other _ _ _ _ h]; exact g2 q h) (fun a b ha hb => ?_)
          by_cases zz : a = f ∧ b = t_
          · rw [zz.1, zz.2, wr_eq, jf_eq, fwS, if_pos (Int32.not_le.mp c_53)]
          · rw [jf_ne zz, wr_ne _ _ _ _ (by omega)]; exact j2 a b ha hb
  have mid : ∀ c, c < C → (∀ I2, (∀ q, q ≠ 11 → I2 q = I q) → (∀ a b, a < C → b < C → I2 11 (a * 6 + b) = jfS F c C 0 a b) → ∀ x2 x3 x4, WP (d + 1) mX7_joinRoads Q 81 [some (.ref 1), some (.int (nI c)), x2, x3, x4] [] (hp Lx t rt u I2 G) 0 0) → ∀ (m f : Nat) (I2 : Nat → Nat → Int32) (x3 x4 : Option Value), f ≤ C → C - f < m → (∀ q, q ≠ 11 → I2 q = I q) → (∀ a b, a < C → b < C → I2 11 (a * 6 + b) = jfS F c f 0 a b) → WP (d + 1) mX7_joinRoads Q 12 [some (.ref 1), some (.int (nI c)), some (.int (nI f)), x3, x4] [] (hp Lx t rt u I2 G) 0 0 := by
    intro c hc go m
    induction m with
    | zero => intro f I2 x3 x4 h1 h2; omega
    | succ m ih =>
      intro f I2 x3 x4 h1 h2 g2 j2
      refine wx_iload_n rfl (e := 13) rfl rfl ?_
      refine wx_aload_n rfl (e := 14) rfl rfl ?_
      refine wx_geti rfl (e := 17) rfl rfl ?_
      rw [g2 1 (by decide), hC]
      refine wn_ic_ge rfl (e := 20) rfl (by omega) (by omega) (fun c_17 => ?_) (fun c_17 => ?_)
      · have ef : f = C := by omega
        subst ef
        exact go I2 g2 j2 _ _ _
      · refine wx_iconst (v := (nI 0)) rfl (e := 21) rfl (by decide) ?_
        refine wx_istore_n (L2 := [_, _, _, _, _]) rfl (e := 22) rfl (by decide) rfl ?_
        refine inner c f (by omega) (by omega) (fun I3 g3 j3 y3 y4 => ?_) (C + 1) 0 I2 _ (by omega) (by omega) g2 j2
        refine wn_iinc (m := 1) (L2 := [_, _, _, _, _]) rfl (e := 78) rfl rfl (by decide) rfl ?_
        refine wx_goto rfl ?_
        exact ih (f + 1) I3 _ _ (by omega) (by omega) g3 (fun a b ha hb => by rw [jf_end hb]; exact j3 a b ha hb)
  have out : ∀ (m c : Nat) (I2 : Nat → Nat → Int32) (x2 x3 x4 : Option Value), c ≤ C → C - c < m → (∀ q, q ≠ 11 → I2 q = I q) → (∀ a b, a < C → b < C → I2 11 (a * 6 + b) = fwS F c a b) → WP (d + 1) mX7_joinRoads Q 2 [some (.ref 1), some (.int (nI c)), x2, x3, x4] [] (hp Lx t rt u I2 G) 0 0 := by
    intro m
    induction m with
    | zero => intro c I2 x2 x3 x4 h1 h2; omega
    | succ m ih =>
      intro c I2 x2 x3 x4 h1 h2 g2 j2
      refine wx_iload_n rfl (e := 3) rfl rfl ?_
      refine wx_aload_n rfl (e := 4) rfl rfl ?_
      refine wx_geti rfl (e := 7) rfl rfl ?_
      rw [g2 1 (by decide), hC]
      refine wn_ic_ge rfl (e := 10) rfl (by omega) (by omega) (fun c_7 => ?_) (fun c_7 => ?_)
      · refine wx_ret rfl rfl ⟨by decide, by decide⟩ ?_
        have ec : c = C := by omega
        subst ec
        exact hq I2 g2 j2
      · refine wx_iconst (v := (nI 0)) rfl (e := 11) rfl (by decide) ?_
        refine wx_istore_n (L2 := [_, _, _, _, _]) rfl (e := 12) rfl (by decide) rfl ?_
        refine mid c (by omega) (fun I3 g3 j3 y2 y3 y4 => ?_) (C + 1) 0 I2 _ _ (by omega) (by omega) g2 (fun a b ha hb => by unfold jfS; rw [if_neg (by omega)]; exact j2 a b ha hb)
        refine wn_iinc (m := 1) (L2 := [_, _, _, _, _]) rfl (e := 84) rfl rfl (by decide) rfl ?_
        refine wx_goto rfl ?_
        exact ih (c + 1) I3 _ _ _ (by omega) (by omega) g3 (fun a b ha hb => by rw [j3 a b ha hb, jf_done ha])
  refine wx_in (M := mX7_joinRoads) rfl rfl rfl (Nat.le_of_ble_eq_true rfl) ?_
  refine wx_iconst (v := (nI 0)) rfl (e := 1) rfl (by decide) ?_
  refine wx_istore_n (L2 := [_, _, _, _, _]) rfl (e := 2) rfl (by decide) rfl ?_
  exact out (C + 1) 0 I _ _ _ (by omega) (by omega) (fun _ _ => rfl) hI
set_option maxHeartbeats 4000000 in
theorem c_X7_joinRoads_16 {d Lx t rt u : Nat} {I : Nat → Nat → Int32} {G : Nat → Nat → Int64} {Q : ab_Q} {C : Nat} {F : Nat → Nat → Int32} (hC : I 16 10 = nI C) (hC6 : C ≤ 6) (hF : lnF F) (hI : ∀ a b, a < C → b < C → I 26 (a * 6 + b) = F a b) (hq : ∀ I2, (∀ q, q ≠ 26 → I2 q = I q) → (∀ a b, a < C → b < C → I2 26 (a * 6 + b) = fwS F C a b) → Q none (hp Lx t rt u I2 G)) : ab_call ab_MT (d + 2) 115 [.ref 16] (hp Lx t rt u I G) 0 0 Q := by
  have inner : ∀ c f, c < C → f < C → (∀ I2, (∀ q, q ≠ 26 → I2 q = I q) → (∀ a b, a < C → b < C → I2 26 (a * 6 + b) = jfS F c f C a b) → ∀ x3 x4, WP (d + 1) mX7_joinRoads Q 75 [some (.ref 16), some (.int (nI c)), some (.int (nI f)), x3, x4] [] (hp Lx t rt u I2 G) 0 0) → ∀ (m t_ : Nat) (I2 : Nat → Nat → Int32) (x4 : Option Value), t_ ≤ C → C - t_ < m → (∀ q, q ≠ 26 → I2 q = I q) → (∀ a b, a < C → b < C → I2 26 (a * 6 + b) = jfS F c f t_ a b) → WP (d + 1) mX7_joinRoads Q 22 [some (.ref 16), some (.int (nI c)), some (.int (nI f)), some (.int (nI t_)), x4] [] (hp Lx t rt u I2 G) 0 0 := by
    intro c f hc hf go m
    induction m with
    | zero => intro t_ I2 x4 h1 h2; omega
    | succ m ih =>
      intro t_ I2 x4 h1 h2 g2 j2
      refine wx_iload_n rfl (e := 23) rfl rfl ?_
      refine wx_aload_n rfl (e := 24) rfl rfl ?_
      refine wx_geti rfl (e := 27) rfl rfl ?_
      rw [g2 16 (by decide), hC]
      refine wn_ic_ge rfl (e := 30) rfl (by omega) (by omega) (fun c_27 => ?_) (fun c_27 => ?_)
      · have et : t_ = C := by omega
        subst et
        exact go I2 g2 j2 _ _
      · refine wx_aload_n rfl (e := 31) rfl rfl ?_
        refine wx_iload_n rfl (e := 32) rfl rfl ?_
        refine wx_iload_n rfl (e := 33) rfl rfl ?_
        refine wx_cv2 (mc := 0) (ms := 0) rfl (e := 36) rfl rfl (Nat.le_of_ble_eq_true rfl) ⟨by decide, by decide⟩ ?_
        refine c_X7_far (o := 16) (by decide) (n := C) (by rw [g2 16 (by decide)]; exact hC) (by omega) (by omega) hC6 ?_
        show WP _ _ _ _ _ (.int (I2 26 (f * 6 + c)) :: _) _ _ _
        rw [j2 _ _ (by omega) (by omega)]
        rw [jf_row hF (by omega) (by omega)]
        refine wx_aload_n rfl (e := 37) rfl rfl ?_
        refine wx_iload_n rfl (e := 38) rfl rfl ?_
        refine wx_iload_n rfl (e := 39) rfl rfl ?_
        refine wx_cv2 (mc := 0) (ms := 0) rfl (e := 42) rfl rfl (Nat.le_of_ble_eq_true rfl) ⟨by decide, by decide⟩ ?_
        refine c_X7_far (o := 16) (by decide) (n := C) (by rw [g2 16 (by decide)]; exact hC) (by omega) (by omega) hC6 ?_
        show WP _ _ _ _ _ (.int (I2 26 (c * 6 + t_)) :: _) _ _ _
        rw [j2 _ _ (by omega) (by omega)]
        rw [jf_col hF (by omega) (by omega)]
        refine wx_iadd rfl (e := 43) rfl ?_
        refine wx_istore (L2 := [_, _, _, _, _]) rfl (e := 45) rfl (by decide) rfl ?_
        refine wx_iload rfl (e := 47) rfl rfl ?_
        refine wx_aload_n rfl (e := 48) rfl rfl ?_
        refine wx_iload_n rfl (e := 49) rfl rfl ?_
        refine wx_iload_n rfl (e := 50) rfl rfl ?_
        refine wx_cv2 (mc := 0) (ms := 0) rfl (e := 53) rfl rfl (Nat.le_of_ble_eq_true rfl) ⟨by decide, by decide⟩ ?_
        refine c_X7_far (o := 16) (by decide) (n := C) (by rw [g2 16 (by decide)]; exact hC) (by omega) (by omega) hC6 ?_
        show WP _ _ _ _ _ (.int (I2 26 (f * 6 + t_)) :: _) _ _ _
        rw [j2 _ _ (by omega) (by omega)]
        rw [jf_at]
        refine wx_ic_ge rfl (e := 56) rfl (fun c_53 => ?_) (fun c_53 => ?_)
        · refine wn_iinc (m := 1) (L2 := [_, _, _, _, _]) rfl (e := 72) rfl rfl (by decide) rfl ?_
          refine wx_goto rfl ?_
          refine ih (t_ + 1) I2 _ (by omega) (by omega) g2 (fun a b ha hb => ?_)
          by_cases zz : a = f ∧ b = t_
          · rw [zz.1, zz.2, jf_eq, fwS, if_neg (Int32.not_lt.mpr c_53), j2 f t_ (by omega) (by omega), jf_at]
          · rw [jf_ne zz]; exact j2 a b ha hb
        · refine wx_aload_n rfl (e := 57) rfl rfl ?_
          refine wx_getr rfl (e := 60) rfl rfl rfl ?_
          refine wx_iload_n rfl (e := 61) rfl rfl ?_
          refine wx_bipush (v := (nI 6)) rfl (e := 63) rfl (by decide) ?_
          refine wn_imul rfl (e := 64) rfl ?_
          refine wx_iload_n rfl (e := 65) rfl rfl ?_
          refine wn_iadd rfl (e := 66) rfl ?_
          refine wx_iload rfl (e := 68) rfl rfl ?_
          refine wn_iast rfl (e := 69) rfl rfl (by decide) (by omega) (by decide) ?_
          refine wn_iinc (m := 1) (L2 := [_, _, _, _, _]) rfl (e := 72) rfl rfl (by decide) rfl ?_
          refine wx_goto rfl ?_
          refine ih (t_ + 1) _ _ (by omega) (by omega) (fun q h => by rw [wr_other _ _ _ _ h]; exact g2 q h) (fun a b ha hb => ?_)
          by_cases zz : a = f ∧ b = t_
          · rw [zz.1, zz.2, wr_eq, jf_eq, fwS, if_pos (Int32.not_le.mp c_53)]
          · rw [jf_ne zz, wr_ne _ _ _ _ (by omega)]; exact j2 a b ha hb
  have mid : ∀ c, c < C → (∀ I2, (∀ q, q ≠ 26 → I2 q = I q) → (∀ a b, a < C → b < C → I2 26 (a * 6 + b) = jfS F c C 0 a b) → ∀ x2 x3 x4, WP (d + 1) mX7_joinRoads Q 81 [some (.ref 16), some (.int (nI c)), x2, x3, x4] [] (hp Lx t rt u I2 G) 0 0) → ∀ (m f : Nat) (I2 : Nat → Nat → Int32) (x3 x4 : Option Value), f ≤ C → C - f < m → (∀ q, q ≠ 26 → I2 q = I q) → (∀ a b, a < C → b < C → I2 26 (a * 6 + b) = jfS F c f 0 a b) → WP (d + 1) mX7_joinRoads Q 12 [some (.ref 16), some (.int (nI c)), some (.int (nI f)), x3, x4] [] (hp Lx t rt u I2 G) 0 0 := by
    intro c hc go m
    induction m with
    | zero => intro f I2 x3 x4 h1 h2; omega
    | succ m ih =>
      intro f I2 x3 x4 h1 h2 g2 j2
      refine wx_iload_n rfl (e := 13) rfl rfl ?_
      refine wx_aload_n rfl (e := 14) rfl rfl ?_
      refine wx_geti rfl (e := 17) rfl rfl ?_
      rw [g2 16 (by decide), hC]
      refine wn_ic_ge rfl (e := 20) rfl (by omega) (by omega) (fun c_17 => ?_) (fun c_17 => ?_)
      · have ef : f = C := by omega
        subst ef
        exact go I2 g2 j2 _ _ _
      · refine wx_iconst (v := (nI 0)) rfl (e := 21) rfl (by decide) ?_
        refine wx_istore_n (L2 := [_, _, _, _, _]) rfl (e := 22) rfl (by decide) rfl ?_
        refine inner c f (by omega) (by omega) (fun I3 g3 j3 y3 y4 => ?_) (C + 1) 0 I2 _ (by omega) (by omega) g2 j2
        refine wn_iinc (m := 1) (L2 := [_, _, _, _, _]) rfl (e := 78) rfl rfl (by decide) rfl ?_
        refine wx_goto rfl ?_
        exact ih (f + 1) I3 _ _ (by omega) (by omega) g3 (fun a b ha hb => by rw [jf_end hb]; exact j3 a b ha hb)
  have out : ∀ (m c : Nat) (I2 : Nat → Nat → Int32) (x2 x3 x4 : Option Value), c ≤ C → C - c < m → (∀ q, q ≠ 26 → I2 q = I q) → (∀ a b, a < C → b < C → I2 26 (a * 6 + b) = fwS F c a b) → WP (d + 1) mX7_joinRoads Q 2 [some (.ref 16), some (.int (nI c)), x2, x3, x4] [] (hp Lx t rt u I2 G) 0 0 := by
    intro m
    induction m with
    | zero => intro c I2 x2 x3 x4 h1 h2; omega
    | succ m ih =>
      intro c I2 x2 x3 x4 h1 h2 g2 j2
      refine wx_iload_n rfl (e := 3) rfl rfl ?_
      refine wx_aload_n rfl (e := 4) rfl rfl ?_
      refine wx_geti rfl (e := 7) rfl rfl ?_
      rw [g2 16 (by decide), hC]
      refine wn_ic_ge rfl (e := 10) rfl (by omega) (by omega) (fun c_7 => ?_) (fun c_7 => ?_)
      · refine wx_ret rfl rfl ⟨by decide, by decide⟩ ?_
        have ec : c = C := by omega
        subst ec
        exact hq I2 g2 j2
      · refine wx_iconst (v := (nI 0)) rfl (e := 11) rfl (by decide) ?_
        refine wx_istore_n (L2 := [_, _, _, _, _]) rfl (e := 12) rfl (by decide) rfl ?_
        refine mid c (by omega) (fun I3 g3 j3 y2 y3 y4 => ?_) (C + 1) 0 I2 _ _ (by omega) (by omega) g2 (fun a b ha hb => by unfold jfS; rw [if_neg (by omega)]; exact j2 a b ha hb)
        refine wn_iinc (m := 1) (L2 := [_, _, _, _, _]) rfl (e := 84) rfl rfl (by decide) rfl ?_
        refine wx_goto rfl ?_
        exact ih (c + 1) I3 _ _ _ (by omega) (by omega) g3 (fun a b ha hb => by rw [j3 a b ha hb, jf_done ha])
  refine wx_in (M := mX7_joinRoads) rfl rfl rfl (Nat.le_of_ble_eq_true rfl) ?_
  refine wx_iconst (v := (nI 0)) rfl (e := 1) rfl (by decide) ?_
  refine wx_istore_n (L2 := [_, _, _, _, _]) rfl (e := 2) rfl (by decide) rfl ?_
  exact out (C + 1) 0 I _ _ _ (by omega) (by omega) (fun _ _ => rfl) hI
theorem c_X7_joinRoads {d Lx t rt u : Nat} {I : Nat → Nat → Int32} {G : Nat → Nat → Int64} {Q : ab_Q} {o : Nat} (ho : o = 1 ∨ o = 16) {C : Nat} {F : Nat → Nat → Int32} (hC : I o 10 = nI C) (hC6 : C ≤ 6) (hF : lnF F) (hI : ∀ a b, a < C → b < C → I (o + 10) (a * 6 + b) = F a b) (hq : ∀ I2, (∀ q, q ≠ (o + 10) → I2 q = I q) → (∀ a b, a < C → b < C → I2 (o + 10) (a * 6 + b) = fwS F C a b) → Q none (hp Lx t rt u I2 G)) : ab_call ab_MT (d + 2) 115 [.ref o] (hp Lx t rt u I G) 0 0 Q := by
  rcases ho with rfl | rfl
  · exact c_X7_joinRoads_1 hC hC6 hF hI hq
  · exact c_X7_joinRoads_16 hC hC6 hF hI hq

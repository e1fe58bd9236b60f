/-! the law's start: out of a run of the abstract machine -/
def ab_h0 (L : Nat) (xs : Nat → Int32) : ab_H := (0, fun a => if a < 1000000 then .inl 999 else ab_spS L a, ab_spI xs, fun _ _ => 0, ab_spP)
theorem ab_h0_Sp (g : ab_W) : ab_Sp g (ab_h0 (ab_Lx g) (ab_xs g)) := by
  refine ⟨fun a _ h => ?_, Nat.zero_le _, fun a h => ⟨?_, rfl, rfl⟩⟩
  · show (if a < 1000000 then _ else _) = _
    rw [if_pos h]
  · show (if a < 1000000 then _ else _) = _
    rw [if_neg (by omega)]
theorem ab_arr_of {args : Array Value} {s : State} {ty : FieldType} (h : (Cond.arrayClass ty).before args s = true) (hty : ty = .int ∨ ty = .byte ∨ ty = .boolean ∨ ty = .long) : ∃ cA : ClassId, ArrOfT s cA ty ∧ va_RA s cA ty := by
  obtain ⟨cA, kA, comp, h1, h2, h3⟩ := Cond.arrayClass_spec h
  refine ⟨cA, fun n z => ⟨fun k h => (by cases h), kA, h2, comp, h3⟩, ?_⟩
  rcases hty with rfl | rfl | rfl | rfl <;> exact h1
def ab_tm (i : Nat) : Term := .string "SaintTheft$Tokens" (if i = 0 then 25 else 88)
set_option maxRecDepth 100000 in
theorem ab_gv1 : ∀ i, i < 2 → (Cond.exactly (ab_tm i) "java/lang/String" ∈ flatC (Jvm.Cond.and given_1 narrow_1) ∧ Cond.eq (.field (ab_tm i) "java/lang/String" "coder" "B") (.int 0) ∈ flatC (Jvm.Cond.and given_1 narrow_1) ∧ Cond.arrayOf (.field (ab_tm i) "java/lang/String" "value" "[B") .byte ∈ flatC (Jvm.Cond.and given_1 narrow_1) ∧ Cond.eq (.length (.field (ab_tm i) "java/lang/String" "value" "[B")) (.int (Int32.ofNat (([139, 9] : List Nat).getD i 0))) ∈ flatC (Jvm.Cond.and given_1 narrow_1)) := by decide +kernel
set_option maxRecDepth 100000 in
theorem ab_gv2 : ∀ i, i < 2 → ∀ j, j < ([139, 9] : List Nat).getD i 0 → Cond.eq (.elem (.field (ab_tm i) "java/lang/String" "value" "[B") (.int (Int32.ofNat j))) (.int (([ab_w0, ab_w1].getD i []).getD j 0)) ∈ flatC (Jvm.Cond.and given_1 narrow_1) := by decide +kernel
set_option maxRecDepth 100000 in
theorem ab_gv3 : (Cond.not (Cond.eq (ab_tm 0) (ab_tm 1)) ∈ flatC (Jvm.Cond.and given_1 narrow_1) ∨ Cond.not (Cond.eq (ab_tm 1) (ab_tm 0)) ∈ flatC (Jvm.Cond.and given_1 narrow_1)) ∧ Cond.eq (.static "java/lang/String" "COMPACT_STRINGS" "Z") (.int 1) ∈ flatC (Jvm.Cond.and given_1 narrow_1) ∧ Cond.isRef (.static "jdk/internal/util/Preconditions" "SIOOBE_FORMATTER" "Ljava/util/function/BiFunction;") ∈ flatC (Jvm.Cond.and given_1 narrow_1) := by decide +kernel
theorem ab_kn {args : Array Value} {s : State} (hts : ∀ w ∈ ab_TB, w.before args s = true) : ∃ (dC : Nat → ClassId) (dI : Nat → Nat → Nat), ∀ (k : Nat) (q : vw_C), ab_cls[k]? = some q → u_Kn s q.1 q.2.1 q.2.2 (dC k) (dI k) := by
  have h0 : ∀ k : Nat, ∃ q : ClassId × (Nat → Nat), k < 12 → u_Kn s (ab_cnm k) (ab_fd k) (ab_nf k) q.1 q.2 := by
    intro k
    by_cases hk : k < 12
    · obtain ⟨cC, iS, h⟩ := u_known (C := ab_cnm k) (T := ab_fd k) (N := ab_nf k) (n := ab_nf k) hts (ab_lyE hk) (hts _ (ab_insE hk).1)
      exact ⟨(cC, iS), fun _ => h⟩
    · exact ⟨(0, fun _ => 0), fun h => absurd h hk⟩
  obtain ⟨f, hf⟩ := Classical.axiomOfChoice h0
  refine ⟨fun k => (f k).1, fun k => (f k).2, fun k q hq => ?_⟩
  have hk : k < 12 := by
    have := (List.getElem?_eq_some_iff.mp hq).1
    simpa [ab_cls] using this
  rw [ab_clsE hk] at hq
  cases hq
  exact hf k hk
set_option maxHeartbeats 4000000 in
theorem ab_start_open (hwp : ∀ (L : Nat) (xs : Nat → Int32), L ≤ 3072 → WP 100 mL_law (fun r _ => r = some (.int 1)) 0 [some (.ref 1000000), none, none, none] [] (ab_h0 L xs) 0 0)
    {p : Program} {e : Env} {s : State} {m : MethodId} {below : List Frame} {meth : Method} {c : Code} (l : Launch) {b L : Nat} {xs : Nat → Int32} (hL : L ≤ 3072) (C0 : lw_At p s m meth c b L xs) : W p l e room_1 s m #[Value.ref b] below meth c s.heap [] 0 0 (lw_Z below #[Value.ref b] s) (entryFrame m ([Value.ref b] : List Value).toArray 4) := by
  obtain ⟨hx, hb, hr, hml, hown, hts, hX, hbl, hlocks, hgv⟩ := id C0
  have hgf := flat_of_before _ hgv
  have htb : ∀ w ∈ ab_TB, w.before #[Value.ref b] s = true := fun w hw => hts w (List.mem_filter.mp hw).1
  have hA : ∀ a : Nat, a < s.heap.size → ¬ (fun q : Nat => s.heap.size ≤ q) a := fun a h => Nat.not_le.mpr h
  obtain ⟨dC, dI, hKc⟩ := ab_kn htb
  obtain ⟨cI, hI1, hI2⟩ := ab_arr_of (htb _ (ab_at_in ab_arr_int)) (Or.inl rfl)
  obtain ⟨cB, hB1, hB2⟩ := ab_arr_of (htb _ (ab_at_in ab_arr_byte)) (Or.inr (Or.inl rfl))
  obtain ⟨cZ, hZ1, hZ2⟩ := ab_arr_of (htb _ (ab_at_in ab_arr_boolean)) (Or.inr (Or.inr (Or.inl rfl)))
  obtain ⟨cL, hL1, hL2⟩ := ab_arr_of (htb _ (ab_at_in ab_arr_long)) (Or.inr (Or.inr (Or.inr rfl)))
  obtain ⟨adK, adV, hVS, hVe⟩ := vk_Sof (args := #[Value.ref b]) (s := s) (N := 2) (tm := ab_tm) (len := [139, 9]) (byt := [ab_w0, ab_w1]) (A := fun q : Nat => s.heap.size ≤ q)
    (fun i hi => by match i, hi with | 0, _ => decide | 1, _ => decide)
    (fun i hi => hgf _ (ab_gv1 i hi).1) (fun i hi => hgf _ (ab_gv1 i hi).2.1) (fun i hi => hgf _ (ab_gv1 i hi).2.2.1) (fun i hi => hgf _ (ab_gv1 i hi).2.2.2) (fun i hi j hj => hgf _ (ab_gv2 i hi j hj))
    (fun i j hi hj hij => by
      match i, j, hi, hj, hij with
      | 0, 0, _, _, h => exact absurd rfl h
      | 1, 1, _, _, h => exact absurd rfl h
      | 0, 1, _, _, _ => exact ab_gv3.1.imp (hgf _) (hgf _)
      | 1, 0, _, _, _ => exact ab_gv3.1.symm.imp (hgf _) (hgf _)) hA
  have hcs := va_Zof (A := fun q : Nat => s.heap.size ≤ q) (hts _ (ab_atN_in ab_st_cs.1)) (htb _ (ab_at_in ab_st_cs.2)) (va_eqi (hgf _ ab_gv3.2.1)) hA
  have hfm := va_Zqof (A := fun q : Nat => s.heap.size ≤ q) (hts _ (ab_atN_in ab_st_fm.1)) (htb _ (ab_at_in ab_st_fm.2)) (hgf _ ab_gv3.2.2) hA
  obtain ⟨vf, hvf, hvz⟩ : ∃ vf : Value, (vf = .null ∨ ∃ a, vf = .ref a) ∧ va_Z "jdk/internal/util/Preconditions" "SIOOBE_FORMATTER" "Ljava/util/function/BiFunction;" vf (fun q : Nat => s.heap.size ≤ q) s s.heap := by
    rcases hfm with h | ⟨t, h⟩
    · exact ⟨_, Or.inl rfl, h⟩
    · exact ⟨_, Or.inr ⟨t, rfl⟩, h⟩
  let g : ab_W := (s.heap.size, b, L, xs, adK, adV, vf, (dC, dI), fun ty => match ty with
    | .byte => cB
    | .boolean => cZ
    | .long => cL
    | _ => cI)
  have hF : ab_F g s := by
    refine ⟨⟨hKc, fun k q hq => ?_⟩, fun a i y ho hm => va_Nw.of rfl (hts _ hm), vk_R.of (hts _ (ab_atN_in ab_sr0)) (hVe 0 (by decide)), vk_R.of (hts _ (ab_atN_in ab_sr1)) (hVe 1 (by decide)), hVS, hX, hbl, hcs, hvz, hvf, Nat.le_refl _⟩
    match k, hq with
    | 0, hq => cases hq; exact ⟨hI1, hI2⟩
    | 1, hq => cases hq; exact ⟨hB1, hB2⟩
    | 2, hq => cases hq; exact ⟨hZ1, hZ2⟩
    | 3, hq => cases hq; exact ⟨hL1, hL2⟩
    | k + 4, hq => simp [ab_tys] at hq
  have hR : ab_Rel g (ab_h0 L xs) s.heap := ⟨fun k q hq => by
    obtain ⟨h1, -⟩ := ab_ws_inv hq
    exact absurd h1 (Nat.not_lt_zero _), rfl, ab_h0_Sp g⟩
  have hsnd := ab_sound (g := g) (l := l) 100 mL_law _ _ ckL_law (hwp L xs hL)
  rw [lg_entry_eq]
  refine hsnd p e room_1 s m _ below meth c s.heap [] _ _ ⟨hx, hb, hml, hown, htb, hF, ⟨by decide, by decide, by decide, by decide⟩, fun h => absurd h (by decide)⟩ va_S.rf hR (ab_LR.entry (g := g) (As := [.ref 1000000]) (n := 4) hvf (by decide)) ?_
  intro pc ls H locs r h cs sl hret hcs hsl hS hR2 hQ
  subst hQ
  refine W.widen hcs hsl ?_
  refine va_forget (fun q hq => hS.2.2 q hq) ?_
  exact lw_ret hx hb hr hlocks hret.1

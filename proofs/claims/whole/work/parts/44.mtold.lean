/-! the model: beliefs, what was told, records, the tape -/
theorem by_k (b : BitVec 32) (k : Nat) (hk : k ≤ 24) : BitVec.signExtend 8 (b.sshiftRight k) = BitVec.signExtend 8 (b >>> k) := by
  rw [BitVec.signExtend_eq_setWidth_of_le _ (by omega), BitVec.signExtend_eq_setWidth_of_le _ (by omega)]
  ext i hi
  simp only [BitVec.getElem_setWidth, BitVec.getLsbD_sshiftRight, BitVec.getLsbD_ushiftRight]
  have h1 : ¬ (32 ≤ i) := by omega
  have h2 : k + i < 32 := by omega
  simp [h1, h2]
theorem by_24 (w : Int32) : (w >>> (nI 24 &&& 31)).toInt8.toInt32 = byS w 24 := by
  unfold byS
  congr 1
  apply Int8.toBitVec_inj.mp
  exact by_k w.toBitVec 24 (by omega)
theorem by_16 (w : Int32) : (w >>> (nI 16 &&& 31)).toInt8.toInt32 = byS w 16 := by
  unfold byS
  congr 1
  apply Int8.toBitVec_inj.mp
  exact by_k w.toBitVec 16 (by omega)
theorem by_8 (w : Int32) : (w >>> (nI 8 &&& 31)).toInt8.toInt32 = byS w 8 := by
  unfold byS
  congr 1
  apply Int8.toBitVec_inj.mp
  exact by_k w.toBitVec 8 (by omega)
theorem by_0 (w : Int32) : (w >>> (nI 0 &&& 31)).toInt8.toInt32 = byS w 0 := by
  unfold byS
  congr 1
  apply Int8.toBitVec_inj.mp
  exact by_k w.toBitVec 0 (by omega)
def upN (y z : Nat) : Nat := if y + z = 0 then 1 else y / Nat.gcd (y + z) y
def loN (y z : Nat) : Nat := if y + z = 0 then 2 else (y + z) / Nat.gcd (y + z) y
set_option maxHeartbeats 1000000 in
theorem c_X11_fillsBelief {d Lx t rt u : Nat} {I : Nat → Nat → Int32} {G : Nat → Nat → Int64} {Q : ab_Q} {lv : Nat} {T : tx} (hM : MT lv I T) {r : rw_} (hNr : NR I r) (hL : lok T r) {e a n k : Nat} (he : e < tR T) (ha : a < tP T) (hn : n ≤ 4) (hk : k ≤ 4) (hq : ∀ I2, fmq I I2 → I2 55 59 = nI (upN (rwN (hN T r e a (nI 1)) k n) (rwN (hN T r e a (nI 0)) k n)) → I2 55 60 = nI (loN (rwN (hN T r e a (nI 1)) k n) (rwN (hN T r e a (nI 0)) k n)) → Q none (hp Lx t rt u I2 G)) : ab_call ab_MT (d + 4) 285 [.ref 55, .int (nI e), .int (nI a), .int (nI n), .int (nI k)] (hp Lx t rt u I G) 0 0 Q := by
  obtain ⟨hlv, ⟨hC6, hR6, hP5, hH, hTf, hFn, hLx⟩, m18, m65, m69, m72, m76, m71, m89, m73, mL⟩ := id hM
  obtain ⟨hce, hre⟩ := hL.ch hM.2.1 he
  have loop : ∀ (U L Y Z : Nat) (I4 : Nat → Nat → Int32), 0 < L → U < 2 ^ 31 → L < 2 ^ 31 → I4 55 59 = nI U → I4 55 60 = nI L → (∀ I5, fmq I4 I5 → I5 55 59 = nI (U / Nat.gcd U L) → I5 55 60 = nI (L / Nat.gcd U L) → Q none (hp Lx t rt u I5 G)) → ∀ (f x y : Nat), y < f → x < 2 ^ 31 → y < 2 ^ 31 → Nat.gcd x y = Nat.gcd U L → ∀ z9, WP (d + 3) mX11_fillsBelief Q 85 [some (.ref 55), some (.int (nI e)), some (.int (nI a)), some (.int (nI n)), some (.int (nI k)), some (.int (nI Y)), some (.int (nI Z)), some (.int (nI x)), some (.int (nI y)), z9] [] (hp Lx t rt u I4 G) 0 0 := by
    intro U L Y Z I4 hL0 hU2 hL2 e9 e0 hk2 f
    induction f with
    | zero => intro x y h1; omega
    | succ f ih =>
      intro x y h1 h2 h3 hg z9
      refine wx_iload rfl (e := 87) rfl rfl ?_
      refine wn_if_eq rfl (e := 90) rfl (by omega) (fun c_87 => ?_) (fun c_87 => ?_)
      · have hg2 : x = Nat.gcd U L := by rw [← hg, c_87, Nat.gcd_zero_right]
        have hgp : 0 < Nat.gcd U L := Nat.gcd_pos_of_pos_right _ hL0
        have hgl : Nat.gcd U L ≤ L := Nat.gcd_le_right _ hL0
        subst hg2
        refine wx_aload_n rfl (e := 109) rfl rfl ?_
        refine wx_dup rfl (e := 110) rfl rfl ?_
        refine wx_geti rfl (e := 113) rfl rfl ?_
        rw [e9]
        refine wx_iload rfl (e := 115) rfl rfl ?_
        refine wx_idiv rfl (e := 116) rfl (fun z => absurd ((nI_eq (b := 0) (by omega) (by omega)).mp z) (by omega)) ?_
        rw [pk_div (by omega) hgp (by omega)]
        refine wx_puti rfl (e := 119) rfl rfl (by decide) ?_
        refine wx_aload_n rfl (e := 120) rfl rfl ?_
        refine wx_dup rfl (e := 121) rfl rfl ?_
        refine wx_geti rfl (e := 124) rfl rfl ?_
        rw [wr_ne _ _ _ _ (by decide), e0]
        refine wx_iload rfl (e := 126) rfl rfl ?_
        refine wx_idiv rfl (e := 127) rfl (fun z => absurd ((nI_eq (b := 0) (by omega) (by omega)).mp z) (by omega)) ?_
        rw [pk_div (by omega) hgp (by omega)]
        refine wx_puti rfl (e := 130) rfl rfl (by decide) ?_
        refine wx_ret rfl rfl ⟨by decide, by decide⟩ ?_
        exact hk2 _ ((fmq.w5 _ (by omega)).tr (fmq.w5 _ (by omega))) (by rw [wr_ne _ _ _ _ (by decide), wr_eq]) (by rw [wr_eq])
      · refine wx_iload rfl (e := 92) rfl rfl ?_
        refine wx_iload rfl (e := 94) rfl rfl ?_
        refine wx_irem rfl (e := 95) rfl (fun z => absurd ((nI_eq (b := 0) (by omega) (by omega)).mp z) (by omega)) ?_
        rw [pk_rem (by omega) (by omega) (by omega)]
        have hlt := Nat.mod_lt x (show 0 < y by omega)
        refine wx_istore (L2 := [_, _, _, _, _, _, _, _, _, _]) rfl (e := 97) rfl (by decide) rfl ?_
        refine wx_iload rfl (e := 99) rfl rfl ?_
        refine wx_istore (L2 := [_, _, _, _, _, _, _, _, _, _]) rfl (e := 101) rfl (by decide) rfl ?_
        refine wx_iload rfl (e := 103) rfl rfl ?_
        refine wx_istore (L2 := [_, _, _, _, _, _, _, _, _, _]) rfl (e := 105) rfl (by decide) rfl ?_
        refine wx_goto rfl ?_
        exact ih y (x % y) (by omega) (by omega) (by omega) (by rw [← hg, Nat.gcd_comm x y, Nat.gcd_rec y x, Nat.gcd_comm]) _
  refine wx_in (M := mX11_fillsBelief) rfl rfl rfl (Nat.le_of_ble_eq_true rfl) ?_
  refine wx_aload_n rfl (e := 1) rfl rfl ?_
  refine wx_cv0 (mc := 0) (ms := 0) rfl (e := 4) rfl rfl (Nat.le_of_ble_eq_true rfl) ⟨by decide, by decide⟩ ?_
  refine c_cp hM hNr (fun I2 f2 T2 N2 R2 h54 => ?_)
  refine wx_aload_n rfl (e := 5) rfl rfl ?_
  refine wx_iload_n rfl (e := 6) rfl rfl ?_
  refine wx_iload_n rfl (e := 7) rfl rfl ?_
  refine wx_iconst (v := (nI 1)) rfl (e := 8) rfl (by decide) ?_
  refine wx_cv3 (mc := 0) (ms := 0) rfl (e := 11) rfl rfl (Nat.le_of_ble_eq_true rfl) ⟨by decide, by decide⟩ ?_
  refine c_X11_healsBy T2 R2 hL.2.1 (by omega) ha hce hre (fun I3 f3 => ?_)
  obtain ⟨hh3, eh3⟩ := heal_n T r e a (nI 1)
  rw [eh3]
  refine wx_iload_n rfl (e := 12) rfl rfl ?_
  refine wx_iload rfl (e := 14) rfl rfl ?_
  refine wx_cs3 (mc := 0) (ms := 0) rfl (e := 17) rfl (Nat.le_of_ble_eq_true rfl) ⟨by decide, by decide⟩ ?_
  refine c_X11_rowOdds hh3 (by omega) (by omega) ?_
  have hY := rw_b (k := k) hh3 (show n ≤ 4 by omega)
  refine wx_istore (L2 := [_, _, _, _, _, _, _, _, _, _]) rfl (e := 19) rfl (by decide) rfl ?_
  refine wx_aload_n rfl (e := 20) rfl rfl ?_
  refine wx_iload_n rfl (e := 21) rfl rfl ?_
  refine wx_iload_n rfl (e := 22) rfl rfl ?_
  refine wx_iconst (v := (nI 0)) rfl (e := 23) rfl (by decide) ?_
  refine wx_cv3 (mc := 0) (ms := 0) rfl (e := 26) rfl rfl (Nat.le_of_ble_eq_true rfl) ⟨by decide, by decide⟩ ?_
  refine c_X11_healsBy (f3.T T2) (f3.R R2) hL.2.1 (by omega) ha hce hre (fun I4 f4 => ?_)
  obtain ⟨hh4, eh4⟩ := heal_n T r e a (nI 0)
  rw [eh4]
  refine wx_iload_n rfl (e := 27) rfl rfl ?_
  refine wx_iload rfl (e := 29) rfl rfl ?_
  refine wx_cs3 (mc := 0) (ms := 0) rfl (e := 32) rfl (Nat.le_of_ble_eq_true rfl) ⟨by decide, by decide⟩ ?_
  refine c_X11_rowOdds hh4 (by omega) (by omega) ?_
  have hZ := rw_b (k := k) hh4 (show n ≤ 4 by omega)
  refine wx_istore (L2 := [_, _, _, _, _, _, _, _, _, _]) rfl (e := 34) rfl (by decide) rfl ?_
  refine wx_aload_n rfl (e := 35) rfl rfl ?_
  refine wx_iload rfl (e := 37) rfl rfl ?_
  refine wx_iload rfl (e := 39) rfl rfl ?_
  refine wn_iadd rfl (e := 40) rfl ?_
  refine wn_if_ne rfl (e := 43) rfl (by omega) (fun c_40 => ?_) (fun c_40 => ?_)
  · refine wx_iload rfl (e := 49) rfl rfl ?_
    refine wx_puti rfl (e := 52) rfl rfl (by decide) ?_
    refine wx_aload_n rfl (e := 53) rfl rfl ?_
    refine wx_iload rfl (e := 55) rfl rfl ?_
    refine wx_iload rfl (e := 57) rfl rfl ?_
    refine wn_iadd rfl (e := 58) rfl ?_
    refine wn_if_ne rfl (e := 61) rfl (by omega) (fun c_58 => ?_) (fun c_58 => absurd c_58 (by omega))
    refine wx_iload rfl (e := 67) rfl rfl ?_
    refine wx_iload rfl (e := 69) rfl rfl ?_
    refine wn_iadd rfl (e := 70) rfl ?_
    refine wx_puti rfl (e := 73) rfl rfl (by decide) ?_
    refine wx_aload_n rfl (e := 74) rfl rfl ?_
    refine wx_geti rfl (e := 77) rfl rfl ?_
    rw [wr_ne _ _ _ _ (by decide), wr_eq]
    refine wx_istore (L2 := [_, _, _, _, _, _, _, _, _, _]) rfl (e := 79) rfl (by decide) rfl ?_
    refine wx_aload_n rfl (e := 80) rfl rfl ?_
    refine wx_geti rfl (e := 83) rfl rfl ?_
    rw [wr_eq]
    refine wx_istore (L2 := [_, _, _, _, _, _, _, _, _, _]) rfl (e := 85) rfl (by decide) rfl ?_
    refine loop (rwN (hN T r e a (nI 1)) k n) ((rwN (hN T r e a (nI 1)) k n) + (rwN (hN T r e a (nI 0)) k n)) _ _ _ (by omega) (by omega) (by omega) (by rw [wr_ne _ _ _ _ (by decide), wr_eq]) (by rw [wr_eq]) (fun I5 f5 a5 b5 => hq I5 (f2.tr (f3.q.tr (f4.q.tr ((fmq.w5 _ (by omega)).tr ((fmq.w5 _ (by omega)).tr f5))))) ?_ ?_) ((rwN (hN T r e a (nI 1)) k n) + (rwN (hN T r e a (nI 0)) k n) + 1) (rwN (hN T r e a (nI 1)) k n) ((rwN (hN T r e a (nI 1)) k n) + (rwN (hN T r e a (nI 0)) k n)) (by omega) (by omega) (by omega) rfl _
    · rw [a5]; unfold upN; rw [if_neg c_40, Nat.gcd_comm]
    · rw [b5]; unfold loN; rw [if_neg c_40, Nat.gcd_comm]
  · refine wx_iconst (v := (nI 1)) rfl (e := 44) rfl (by decide) ?_
    refine wx_goto rfl ?_
    refine wx_puti rfl (e := 52) rfl rfl (by decide) ?_
    refine wx_aload_n rfl (e := 53) rfl rfl ?_
    refine wx_iload rfl (e := 55) rfl rfl ?_
    refine wx_iload rfl (e := 57) rfl rfl ?_
    refine wn_iadd rfl (e := 58) rfl ?_
    refine wn_if_ne rfl (e := 61) rfl (by omega) (fun c_58 => absurd c_58 (by omega)) (fun c_58 => ?_)
    refine wx_iconst (v := (nI 2)) rfl (e := 62) rfl (by decide) ?_
    refine wx_goto rfl ?_
    refine wx_puti rfl (e := 73) rfl rfl (by decide) ?_
    refine wx_aload_n rfl (e := 74) rfl rfl ?_
    refine wx_geti rfl (e := 77) rfl rfl ?_
    rw [wr_ne _ _ _ _ (by decide), wr_eq]
    refine wx_istore (L2 := [_, _, _, _, _, _, _, _, _, _]) rfl (e := 79) rfl (by decide) rfl ?_
    refine wx_aload_n rfl (e := 80) rfl rfl ?_
    refine wx_geti rfl (e := 83) rfl rfl ?_
    rw [wr_eq]
    refine wx_istore (L2 := [_, _, _, _, _, _, _, _, _, _]) rfl (e := 85) rfl (by decide) rfl ?_
    refine loop 1 2 _ _ _ (by decide) (by decide) (by decide) (by rw [wr_ne _ _ _ _ (by decide), wr_eq]) (by rw [wr_eq]) (fun I5 f5 a5 b5 => hq I5 (f2.tr (f3.q.tr (f4.q.tr ((fmq.w5 _ (by omega)).tr ((fmq.w5 _ (by omega)).tr f5))))) ?_ ?_) 3 1 2 (by decide) (by decide) (by decide) rfl _
    · rw [a5]; unfold upN; rw [if_pos c_40]; rfl
    · rw [b5]; unfold loN; rw [if_pos c_40]; rfl
theorem c_X11_bits {d : Nat} {h : ab_H} {Q : ab_Q} {f : Nat → Bool} (hq : Q (some (.int (nI (cnF f)))) h) : ab_call ab_MT (d + 1) 291 [.int (nI (bsF f))] h 0 0 Q := by
  have loop : ∀ (m : Nat) (i : Nat), i ≤ 6 → 6 - i < m → WP d mX11_bits Q 4 [some (.int (nI (bsF f))), some (.int (nI (ctN f i))), some (.int (nI i))] [] h 0 0 := by
    intro m
    induction m with
    | zero => intro i hi hm; omega
    | succ m ih =>
      intro i hi hm
      refine wx_iload_n rfl (e := 5) rfl rfl ?_
      refine wx_bipush (v := (nI 6)) rfl (e := 7) rfl (by decide) ?_
      refine wn_ic_ge rfl (e := 10) rfl (by omega) (by omega) (fun c_7 => ?_) (fun c_7 => ?_)
      · refine wx_iload_n rfl (e := 25) rfl rfl ?_
        refine wx_iret rfl rfl rfl ⟨by decide, by decide⟩ ?_
        have ei : i = 6 := by omega
        subst ei
        rw [ctN_6]
        exact hq
      · refine wx_iload_n rfl (e := 11) rfl rfl ?_
        refine wx_iload_n rfl (e := 12) rfl rfl ?_
        refine wx_iload_n rfl (e := 13) rfl rfl ?_
        refine wx_ishr rfl (e := 14) rfl ?_
        refine wx_iconst (v := (nI 1)) rfl (e := 15) rfl (by decide) ?_
        refine wx_iand rfl (e := 16) rfl ?_
        rw [sr_ok f (by omega)]
        have hG : nI (ctN f (i + 1)) = nI (ctN f i) + b1 (f i) := by
          rw [ctN]
          cases f i
          · exact (nI_add _ 0).symm
          · exact (nI_add _ 1).symm
        refine wx_iadd rfl (e := 17) rfl ?_
        refine wx_istore_n (L2 := [_, _, _]) rfl (e := 18) rfl (by decide) rfl ?_
        refine wn_iinc (m := 1) (L2 := [_, _, _]) rfl (e := 21) rfl rfl (by decide) rfl ?_
        refine wx_goto rfl ?_
        have hh := ih (i + 1) (by omega) (by omega)
        rw [hG] at hh
        exact hh
  refine wx_in (M := mX11_bits) rfl rfl rfl (Nat.le_of_ble_eq_true rfl) ?_
  refine wx_iconst (v := (nI 0)) rfl (e := 1) rfl (by decide) ?_
  refine wx_istore_n (L2 := [_, _, _]) rfl (e := 2) rfl (by decide) rfl ?_
  refine wx_iconst (v := (nI 0)) rfl (e := 3) rfl (by decide) ?_
  refine wx_istore_n (L2 := [_, _, _]) rfl (e := 4) rfl (by decide) rfl ?_
  exact loop 7 0 (by omega) (by omega)
theorem c_X11_sumNow {d Lx t rt u : Nat} {I : Nat → Nat → Int32} {G : Nat → Nat → Int64} {Q : ab_Q} {r : rw_} (hN : NR I r) {b : Nat} (hb : b ≤ 40) (hq : Q (some (.int (sm_ r b 6))) (hp Lx t rt u I G)) : ab_call ab_MT (d + 1) 296 [.ref 55, .int (nI b)] (hp Lx t rt u I G) 0 0 Q := by
  have loop : ∀ (m : Nat) (i : Nat), i ≤ 6 → 6 - i < m → WP d mX11_sumNow Q 4 [some (.ref 55), some (.int (nI b)), some (.int (sm_ r b i)), some (.int (nI (b + i)))] [] (hp Lx t rt u I G) 0 0 := by
    intro m
    induction m with
    | zero => intro i hi hm; omega
    | succ m ih =>
      intro i hi hm
      refine wx_iload_n rfl (e := 5) rfl rfl ?_
      refine wx_iload_n rfl (e := 6) rfl rfl ?_
      refine wx_bipush (v := (nI 6)) rfl (e := 8) rfl (by decide) ?_
      refine wn_iadd rfl (e := 9) rfl ?_
      refine wn_ic_ge rfl (e := 12) rfl (by omega) (by omega) (fun c_9 => ?_) (fun c_9 => ?_)
      · refine wx_iload_n rfl (e := 28) rfl rfl ?_
        refine wx_iret rfl rfl rfl ⟨by decide, by decide⟩ ?_
        have ei : i = 6 := by omega
        subst ei
        exact hq
      · refine wx_iload_n rfl (e := 13) rfl rfl ?_
        refine wx_aload_n rfl (e := 14) rfl rfl ?_
        refine wx_getr rfl (e := 17) rfl rfl rfl ?_
        refine wx_iload_n rfl (e := 18) rfl rfl ?_
        refine wn_iald rfl (e := 19) rfl rfl (by omega) (by decide) ?_
        rw [hN _ (by omega)]
        refine wx_iadd rfl (e := 20) rfl ?_
        refine wx_istore_n (L2 := [_, _, _, _]) rfl (e := 21) rfl (by decide) rfl ?_
        refine wn_iinc (m := 1) (L2 := [_, _, _, _]) rfl (e := 24) rfl rfl (by decide) rfl ?_
        refine wx_goto rfl ?_
        exact ih (i + 1) (by omega) (by omega)
  refine wx_in (M := mX11_sumNow) rfl rfl rfl (Nat.le_of_ble_eq_true rfl) ?_
  refine wx_iconst (v := (nI 0)) rfl (e := 1) rfl (by decide) ?_
  refine wx_istore_n (L2 := [_, _, _, _]) rfl (e := 2) rfl (by decide) rfl ?_
  refine wx_iload_n rfl (e := 3) rfl rfl ?_
  refine wx_istore_n (L2 := [_, _, _, _]) rfl (e := 4) rfl (by decide) rfl ?_
  exact loop 7 0 (by omega) (by omega)
theorem b1_inj {a b : Bool} (h : b1 a = b1 b) : a = b := by
  revert h; cases a <;> cases b <;> decide
theorem rlF_no {R : Nat} {tp : Nat → Nat} {tw : Nat → Bool} {wf : Nat → Nat → Bool} {e : Nat} (h : R ≤ e) : ∀ k, rlF R tp tw wf k e = false
  | 0 => by rw [rlF]; exact decide_eq_false (by omega)
  | k + 1 => by rw [rlF]; dsimp only; rw [rlF_no h k, Bool.false_and]
set_option maxHeartbeats 2000000 in
theorem c_X11_whoseBits {d Lx t rt u : Nat} {I : Nat → Nat → Int32} {G : Nat → Nat → Int64} {Q : ab_Q} {lv : Nat} {T : tx} (hM : MT lv I T) {r : rw_} (hN : NR I r) (hL : lok T r) {tp : Nat → Nat} {tw : Nat → Bool} {mt k : Nat} (hD : ND I tp tw mt) (htp : ∀ j, j < mt → tp j < 5) (hk : k ≤ mt) (hq : ∀ I2, fmq I I2 → (∀ j, j < 5 → ∀ e, e < 6 → I2 93 (6 * j + e) = b1 (wdF T r j e)) → Q (some (.int (nI (bsF ((rlF (tR T) tp tw (wdF T r)) k))))) (hp Lx t rt u I2 G)) : ab_call ab_MT (d + 7) 290 [.ref 55, .int (nI k)] (hp Lx t rt u I G) 0 0 Q := by
  obtain ⟨hlv, ⟨hC6, hR6, hP5, hH, hTf, hFn, hLx⟩, m18, m65, m69, m72, m76, m71, m89, m73, mL⟩ := id hM
  have hmt := hD.1
  refine wx_in (M := mX11_whoseBits) rfl rfl rfl (Nat.le_of_ble_eq_true rfl) ?_
  refine wx_aload_n rfl (e := 1) rfl rfl ?_
  refine wx_cv0 (mc := 0) (ms := 0) rfl (e := 4) rfl rfl (Nat.le_of_ble_eq_true rfl) ⟨by decide, by decide⟩ ?_
  refine c_cp hM hN (fun I1 f1 T1 N1 R1 h54 => ?_)
  refine wx_aload_n rfl (e := 5) rfl rfl ?_
  refine wx_cv0 (mc := 0) (ms := 0) rfl (e := 8) rfl rfl (Nat.le_of_ble_eq_true rfl) ⟨by decide, by decide⟩ ?_
  refine c_X11_yearGoes T1 R1 hL.2.1 (fun I2 f2y R2 w2 => ?_)
  rw [h54] at w2
  have f2 := f1.tr f2y.q
  have w2 : (∀ j, j < 5 → ∀ e, e < 6 → I2 93 (6 * j + e) = b1 (wdF T r j e)) := w2
  have inner : ∀ e, e < tR T → (∀ x5, WP (d + 6) mX11_whoseBits Q 73 [some (.ref 55), some (.int (nI k)), some (.int (nI (btN ((rlF (tR T) tp tw (wdF T r)) k) e))), some (.int (nI e)), some (.int (b1 ((rlF (tR T) tp tw (wdF T r)) k e))), x5] [] (hp Lx t rt u I2 G) 0 0) → ∀ (m i : Nat), i ≤ k → k - i < m → WP (d + 6) mX11_whoseBits Q 31 [some (.ref 55), some (.int (nI k)), some (.int (nI (btN ((rlF (tR T) tp tw (wdF T r)) k) e))), some (.int (nI e)), some (.int (b1 ((rlF (tR T) tp tw (wdF T r)) i e))), some (.int (nI i))] [] (hp Lx t rt u I2 G) 0 0 := by
    intro e he go m
    induction m with
    | zero => intro i h1 h2; omega
    | succ m ih =>
      intro i h1 h2
      refine wx_iload rfl (e := 33) rfl rfl ?_
      refine wx_iload_n rfl (e := 34) rfl rfl ?_
      refine wn_ic_ge rfl (e := 37) rfl (by omega) (by omega) (fun c_34 => ?_) (fun c_34 => ?_)
      · have ei : i = k := by omega
        subst ei
        exact go _
      · refine wx_aload_n rfl (e := 38) rfl rfl ?_
        refine wx_getr rfl (e := 41) rfl rfl rfl ?_
        refine wx_bipush (v := (nI 6)) rfl (e := 43) rfl (by decide) ?_
        refine wx_aload_n rfl (e := 44) rfl rfl ?_
        refine wx_getr rfl (e := 47) rfl rfl rfl ?_
        refine wx_iload rfl (e := 49) rfl rfl ?_
        refine wn_iald rfl (e := 50) rfl rfl (by omega) (by decide) ?_
        rw [f2.c (by omega), (hD.2.2 i (by omega)).1]
        have htpi := htp i (by omega)
        refine wn_imul rfl (e := 51) rfl ?_
        refine wx_iload_n rfl (e := 52) rfl rfl ?_
        refine wn_iadd rfl (e := 53) rfl ?_
        refine wn_zald rfl (e := 54) rfl rfl (by omega) (by decide) ?_
        rw [w2 _ (by omega) e (by omega)]
        refine wx_aload_n rfl (e := 55) rfl rfl ?_
        refine wx_getr rfl (e := 58) rfl rfl rfl ?_
        refine wx_iload rfl (e := 60) rfl rfl ?_
        refine wn_zald rfl (e := 61) rfl rfl (by omega) (by decide) ?_
        rw [f2.c (by omega), (hD.2.2 i (by omega)).2]
        refine wx_ic_eq rfl (e := 64) rfl (fun c_61 => ?_) (fun c_61 => ?_)
        · have hG : (rlF (tR T) tp tw (wdF T r)) (i + 1) e = (rlF (tR T) tp tw (wdF T r)) i e := by
            have z : wdF T r (tp i) e = tw i := b1_inj c_61
            rw [rlF]; dsimp only; rw [z]; cases tw i <;> simp
          refine wn_iinc (m := 1) (L2 := [_, _, _, _, _, _]) rfl (e := 70) rfl rfl (by decide) rfl ?_
          refine wx_goto rfl ?_
          have hh := ih (i + 1) (by omega) (by omega)
          rw [hG] at hh
          exact hh
        · have hG : (rlF (tR T) tp tw (wdF T r)) (i + 1) e = false := by
            have z : ¬ wdF T r (tp i) e = tw i := fun z => c_61 (congrArg b1 z)
            rw [rlF]; dsimp only; revert z; cases tw i <;> cases wdF T r (tp i) e <;> simp
          refine wx_iconst (v := (nI 0)) rfl (e := 65) rfl (by decide) ?_
          refine wx_istore (L2 := [_, _, _, _, _, _]) rfl (e := 67) rfl (by decide) rfl ?_
          refine wn_iinc (m := 1) (L2 := [_, _, _, _, _, _]) rfl (e := 70) rfl rfl (by decide) rfl ?_
          refine wx_goto rfl ?_
          have hh := ih (i + 1) (by omega) (by omega)
          rw [hG] at hh
          exact hh
  have outer : ∀ (m e : Nat), e ≤ tR T → tR T - e < m → ∀ x4 x5, WP (d + 6) mX11_whoseBits Q 12 [some (.ref 55), some (.int (nI k)), some (.int (nI (btN ((rlF (tR T) tp tw (wdF T r)) k) e))), some (.int (nI e)), x4, x5] [] (hp Lx t rt u I2 G) 0 0 := by
    intro m
    induction m with
    | zero => intro e h1 h2; omega
    | succ m ih =>
      intro e h1 h2 x4 x5
      refine wx_iload_n rfl (e := 13) rfl rfl ?_
      refine wx_aload_n rfl (e := 14) rfl rfl ?_
      refine wx_getr rfl (e := 17) rfl rfl rfl ?_
      refine wx_aload_n rfl (e := 18) rfl rfl ?_
      refine wx_geti rfl (e := 21) rfl rfl ?_
      rw [f2.2 18 (by decide) (by decide) (by decide) (by decide), m18]
      refine wn_iald rfl (e := 22) rfl rfl (by omega) (by decide) ?_
      rw [f2.c (by omega), m69]
      refine wn_ic_ge rfl (e := 25) rfl (by omega) (by omega) (fun c_22 => ?_) (fun c_22 => ?_)
      · refine wx_iload_n rfl (e := 91) rfl rfl ?_
        refine wx_iret rfl rfl rfl ⟨by decide, by decide⟩ ?_
        have ee : e = tR T := by omega
        subst ee
        rw [btN_R hR6 (fun e h1 h2 => rlF_no h1 k)]
        exact hq I2 f2 w2
      · refine wx_iconst (v := (nI 1)) rfl (e := 26) rfl (by decide) ?_
        refine wx_istore (L2 := [_, _, _, _, _, _]) rfl (e := 28) rfl (by decide) rfl ?_
        refine wx_iconst (v := (nI 0)) rfl (e := 29) rfl (by decide) ?_
        refine wx_istore (L2 := [_, _, _, _, _, _]) rfl (e := 31) rfl (by decide) rfl ?_
        have h1e : nI 1 = b1 ((rlF (tR T) tp tw (wdF T r)) 0 e) := by show _ = b1 (decide (e < tR T)); rw [decide_eq_true (by omega)]; rfl
        rw [h1e]
        refine inner e (by omega) (fun x => ?_) (k + 1) 0 (by omega) (by omega)
        refine wx_iload rfl (e := 75) rfl rfl ?_
        refine wx_if_eq rfl (e := 78) rfl (fun c_75 => ?_) (fun c_75 => ?_)
        · have hG : btN ((rlF (tR T) tp tw (wdF T r)) k) (e + 1) = btN ((rlF (tR T) tp tw (wdF T r)) k) e := by rw [btN, if_neg (by rw [b1_0.mp c_75]; decide)]; rfl
          refine wn_iinc (m := 1) (L2 := [_, _, _, _, _, _]) rfl (e := 87) rfl rfl (by decide) rfl ?_
          refine wx_goto rfl ?_
          have hh := fun x4 x5 => ih (e + 1) (by omega) (by omega) x4 x5
          rw [hG] at hh
          exact hh _ _
        · have hG : btN ((rlF (tR T) tp tw (wdF T r)) k) (e + 1) = btN ((rlF (tR T) tp tw (wdF T r)) k) e + 2 ^ e := by rw [btN, if_pos (b1_n0.mp c_75)]
          refine wx_iload_n rfl (e := 79) rfl rfl ?_
          refine wx_iconst (v := (nI 1)) rfl (e := 80) rfl (by decide) ?_
          refine wx_iload_n rfl (e := 81) rfl rfl ?_
          refine wx_ishl rfl (e := 82) rfl ?_
          refine wx_ior rfl (e := 83) rfl ?_
          rw [or6 e (by omega) _ (btN_lt _ e)]
          refine wx_istore_n (L2 := [_, _, _, _, _, _]) rfl (e := 84) rfl (by decide) rfl ?_
          refine wn_iinc (m := 1) (L2 := [_, _, _, _, _, _]) rfl (e := 87) rfl rfl (by decide) rfl ?_
          refine wx_goto rfl ?_
          have hh := fun x4 x5 => ih (e + 1) (by omega) (by omega) x4 x5
          rw [hG] at hh
          exact hh _ _
  refine wx_iconst (v := (nI 0)) rfl (e := 9) rfl (by decide) ?_
  refine wx_istore_n (L2 := [_, _, _, _, _, _]) rfl (e := 10) rfl (by decide) rfl ?_
  refine wx_iconst (v := (nI 0)) rfl (e := 11) rfl (by decide) ?_
  refine wx_istore_n (L2 := [_, _, _, _, _, _]) rfl (e := 12) rfl (by decide) rfl ?_
  exact outer (tR T + 1) 0 (by omega) (by omega) _ _
/-- but for the row, what can be undone -/
def fmr (I I2 : Nat → Nat → Int32) : Prop := (∀ q, q ≠ 55 → q ≠ 90 → q ≠ 94 → I2 q = I q) ∧ ∀ k, k ≠ 57 → I2 55 k = I 55 k
set_option maxHeartbeats 1000000 in
theorem c_X11_records {d Lx t rt u : Nat} {I : Nat → Nat → Int32} {G : Nat → Nat → Int64} {Q : ab_Q} {r r2 : rw_} {H : Nat → rw_} {m : Nat} (hN : NR I r) (hR : MR I r2) (hH : NH I H m) (hq : ∀ I2, fmr I I2 → NR I2 r2 → NH I2 (psh r H) (min 40 (m + 1)) → Q none (hp Lx t rt u I2 G)) : ab_call ab_MT (d + 2) 251 [.ref 55] (hp Lx t rt u I G) 0 0 Q := by
  obtain ⟨hm, em, hh⟩ := id hH
  have loop2 : ∀ (n : Nat) (q : Nat), q < 40 → min 40 (m + 1) = q + 1 → ∀ (i : Nat) (I2 : Nat → Nat → Int32), i ≤ 49 → 49 - i < n → (∀ q, q ≠ 55 → q ≠ 94 → I2 q = I q) → (∀ k, k ≠ 57 → I2 55 k = I 55 k) → I2 55 57 = nI q → (∀ j, j < q → ∀ k, k < 49 → I2 94 (49 * (q - 1 - j) + k) = H j k) → (∀ k, k < i → I2 94 (49 * q + k) = r k) → WP (d + 1) mX11_records Q 51 [some (.ref 55), some (.int (nI i))] [] (hp Lx t rt u I2 G) 0 0 := by
    intro n
    induction n with
    | zero => intro q hq40 hmin i I2 hi hn f2 k2 e5 h2 g2; omega
    | succ n ih0 =>
      intro q hq40 hmin i I2 hi hn f2 k2 e5 h2 g2
      have ih := ih0 q hq40 hmin
      refine wx_iload_n rfl (e := 52) rfl rfl ?_
      refine wx_bipush (v := (nI 49)) rfl (e := 54) rfl (by decide) ?_
      refine wn_ic_ge rfl (e := 57) rfl (by omega) (by omega) (fun c_54 => ?_) (fun c_54 => ?_)
      · refine wx_aload_n rfl (e := 84) rfl rfl ?_
        refine wx_dup rfl (e := 85) rfl rfl ?_
        refine wx_geti rfl (e := 88) rfl rfl ?_
        rw [e5]
        refine wx_iconst (v := (nI 1)) rfl (e := 89) rfl (by decide) ?_
        refine wn_iadd rfl (e := 90) rfl ?_
        refine wx_puti rfl (e := 93) rfl rfl (by decide) ?_
        refine wx_aload_n rfl (e := 94) rfl rfl ?_
        refine wx_cv0 (mc := 0) (ms := 0) rfl (e := 97) rfl rfl (Nat.le_of_ble_eq_true rfl) ⟨by decide, by decide⟩ ?_
        refine c_X11_keepsRow (fun I3 f3 g3 => ?_)
        refine wx_ret rfl rfl ⟨by decide, by decide⟩ ?_
        have ei : i = 49 := by omega
        subst ei
        refine hq I3 ⟨fun q a b c => by rw [f3 q b, wr_other _ _ _ _ a]; exact f2 q a c, fun k hk => by rw [f3 55 (by decide), wr_ne _ _ _ _ hk]; exact k2 k hk⟩ (fun k hk => ?_) ?_
        · rw [g3 k hk, wr_other _ _ _ _ (by decide), f2 91 (by decide) (by decide)]; exact hR k hk
        · rw [hmin]
          refine ⟨by omega, by rw [f3 55 (by decide), wr_eq], fun j hj k hk => ?_⟩
          rw [f3 94 (by decide), wr_other _ _ _ _ (by decide)]
          unfold psh
          by_cases z : j = 0
          · subst z; rw [if_pos rfl, show 49 * (q + 1 - 1 - 0) + k = 49 * q + k by omega]; exact g2 k hk
          · rw [if_neg z, ← h2 (j - 1) (by omega) k hk]; congr 1; congr 1; omega
      · refine wx_aload_n rfl (e := 58) rfl rfl ?_
        refine wx_getr rfl (e := 61) rfl rfl rfl ?_
        refine wx_bipush (v := (nI 49)) rfl (e := 63) rfl (by decide) ?_
        refine wx_aload_n rfl (e := 64) rfl rfl ?_
        refine wx_geti rfl (e := 67) rfl rfl ?_
        rw [e5]
        refine wn_imul rfl (e := 68) rfl ?_
        refine wx_iload_n rfl (e := 69) rfl rfl ?_
        refine wn_iadd rfl (e := 70) rfl ?_
        refine wx_aload_n rfl (e := 71) rfl rfl ?_
        refine wx_getr rfl (e := 74) rfl rfl rfl ?_
        refine wx_iload_n rfl (e := 75) rfl rfl ?_
        refine wn_iald rfl (e := 76) rfl rfl (by omega) (by decide) ?_
        rw [f2 90 (by decide) (by decide), hN _ (by omega)]
        refine wn_iast rfl (e := 77) rfl rfl (by decide) (by omega) (by decide) ?_
        refine wn_iinc (m := 1) (L2 := [_, _]) rfl (e := 80) rfl rfl (by decide) rfl ?_
        refine wx_goto rfl ?_
        refine ih (i + 1) _ (by omega) (by omega) (fun q a b => by rw [wr_other _ _ _ _ b]; exact f2 q a b) (fun k hk => by rw [wr_other _ _ _ _ (by decide)]; exact k2 k hk) (by rw [wr_other _ _ _ _ (by decide)]; exact e5) (fun j hj k hk => by rw [wr_ne _ _ _ _ (by omega)]; exact h2 j hj k hk) (fun k hk => ?_)
        by_cases z : k = i
        · rw [z, wr_eq]
        · rw [wr_ne _ _ _ _ (by omega)]; exact g2 k (by omega)
  have tail : ∀ (q : Nat), q < 40 → min 40 (m + 1) = q + 1 → ∀ (I2 : Nat → Nat → Int32) x1, (∀ q, q ≠ 55 → q ≠ 94 → I2 q = I q) → (∀ k, k ≠ 57 → I2 55 k = I 55 k) → I2 55 57 = nI q → (∀ j, j < q → ∀ k, k < 49 → I2 94 (49 * (q - 1 - j) + k) = H j k) → WP (d + 1) mX11_records Q 49 [some (.ref 55), x1] [] (hp Lx t rt u I2 G) 0 0 := by
    intro q hq40 hmin I2 x1 f2 k2 e5 h2
    refine wx_iconst (v := (nI 0)) rfl (e := 50) rfl (by decide) ?_
    refine wx_istore_n (L2 := [_, _]) rfl (e := 51) rfl (by decide) rfl ?_
    exact loop2 50 q hq40 hmin 0 I2 (by omega) (by omega) f2 k2 e5 h2 (fun k hk => absurd hk (Nat.not_lt_zero _))
  have loop1 : m = 40 → ∀ (n : Nat) (i : Nat) (I2 : Nat → Nat → Int32), i ≤ 1911 → 1911 - i < n → (∀ q, q ≠ 94 → I2 q = I q) → (∀ k, I2 94 k = if k < i then I 94 (k + 49) else I 94 k) → WP (d + 1) mX11_records Q 11 [some (.ref 55), some (.int (nI i))] [] (hp Lx t rt u I2 G) 0 0 := by
    intro hm40 n
    induction n with
    | zero => intro i I2 hi hn f2 g2; omega
    | succ n ih =>
      intro i I2 hi hn f2 g2
      refine wx_iload_n rfl (e := 12) rfl rfl ?_
      refine wx_sipush (v := (nI 1911)) rfl (e := 15) rfl (by decide) ?_
      refine wn_ic_ge rfl (e := 18) rfl (by omega) (by omega) (fun c_15 => ?_) (fun c_15 => ?_)
      · refine wx_aload_n rfl (e := 40) rfl rfl ?_
        refine wx_dup rfl (e := 41) rfl rfl ?_
        refine wx_geti rfl (e := 44) rfl rfl ?_
        rw [f2 55 (by decide), em]
        refine wx_iconst (v := (nI 1)) rfl (e := 45) rfl (by decide) ?_
        refine wn_isub rfl (e := 46) rfl (by omega) ?_
        refine wx_puti rfl (e := 49) rfl rfl (by decide) ?_
        refine tail 39 (by decide) (by omega) _ _ (fun q a b => by rw [wr_other _ _ _ _ a]; exact f2 q b) (fun k hk => by rw [wr_ne _ _ _ _ hk, f2 55 (by decide)]) (by rw [wr_eq, hm40]) (fun j hj k hk => ?_)
        rw [wr_other _ _ _ _ (by decide), g2, if_pos (by omega), ← hh j (by omega) k hk]
        congr 1; omega
      · refine wx_aload_n rfl (e := 19) rfl rfl ?_
        refine wx_getr rfl (e := 22) rfl rfl rfl ?_
        refine wx_iload_n rfl (e := 23) rfl rfl ?_
        refine wx_aload_n rfl (e := 24) rfl rfl ?_
        refine wx_getr rfl (e := 27) rfl rfl rfl ?_
        refine wx_iload_n rfl (e := 28) rfl rfl ?_
        refine wx_bipush (v := (nI 49)) rfl (e := 30) rfl (by decide) ?_
        refine wn_iadd rfl (e := 31) rfl ?_
        refine wn_iald rfl (e := 32) rfl rfl (by omega) (by decide) ?_
        rw [g2 (i + 49), if_neg (by omega)]
        refine wn_iast rfl (e := 33) rfl rfl (by decide) (by omega) (by decide) ?_
        refine wn_iinc (m := 1) (L2 := [_, _]) rfl (e := 36) rfl rfl (by decide) rfl ?_
        refine wx_goto rfl ?_
        refine ih (i + 1) _ (by omega) (by omega) (fun q b => by rw [wr_other _ _ _ _ b]; exact f2 q b) (fun k => ?_)
        rw [wr_at, if_pos rfl]
        by_cases z : k = i
        · rw [if_pos z, if_pos (by omega), z]
        · rw [if_neg z, g2 k]
          by_cases z2 : k < i
          · rw [if_pos z2, if_pos (by omega)]
          · rw [if_neg z2, if_neg (by omega)]
  refine wx_in (M := mX11_records) rfl rfl rfl (Nat.le_of_ble_eq_true rfl) ?_
  refine wx_aload_n rfl (e := 1) rfl rfl ?_
  refine wx_geti rfl (e := 4) rfl rfl ?_
  rw [em]
  refine wx_bipush (v := (nI 40)) rfl (e := 6) rfl (by decide) ?_
  refine wn_ic_ne rfl (e := 9) rfl (by omega) (by omega) (fun c_6 => ?_) (fun c_6 => ?_)
  · exact tail m (by omega) (by omega) I _ (fun _ _ _ => rfl) (fun _ _ => rfl) em hh
  · refine wx_iconst (v := (nI 0)) rfl (e := 10) rfl (by decide) ?_
    refine wx_istore_n (L2 := [_, _]) rfl (e := 11) rfl (by decide) rfl ?_
    exact loop1 c_6 1912 0 I (by omega) (by omega) (fun _ _ => rfl) (fun k => by rw [if_neg (by omega)])
theorem NP.app {I : Nat → Nat → Int32} {B : Nat → Int32} {n i : Nat} {w v : Int32} (hi : i < 4) (hn : n + 4 ≤ 2000) (h : NP I (apB B n w) (n + i)) (hv : v = byS w (24 - 8 * i)) : NP (wr (wr I 56 (n + i) (vp_nar .byte v)) 55 2 (nI (n + i + 1))) (apB B n w) (n + i + 1) := by
  refine ⟨by omega, by rw [wr_eq], fun j hj => ?_⟩
  rw [wr_other _ _ _ _ (by decide), wr_at, if_pos rfl]
  by_cases z : j = n + i
  · rw [if_pos z, z, hv]; unfold apB; rw [if_neg (by omega), show n + i - n = i by omega]; exact pk_vb _
  · rw [if_neg z]; exact h.2.2 j (by omega)
def fmt (I I2 : Nat → Nat → Int32) : Prop := (∀ q, q ≠ 55 → q ≠ 56 → I2 q = I q) ∧ ∀ k, k ≠ 2 → I2 55 k = I 55 k
theorem fmt.rf {I : Nat → Nat → Int32} : fmt I I := ⟨fun _ _ _ => rfl, fun _ _ => rfl⟩
theorem fmt.tr {I I2 I3 : Nat → Nat → Int32} (h1 : fmt I I2) (h2 : fmt I2 I3) : fmt I I3 := ⟨fun q a b => (h2.1 q a b).trans (h1.1 q a b), fun k a => (h2.2 k a).trans (h1.2 k a)⟩
theorem fmt.w {I : Nat → Nat → Int32} (j : Nat) (v w : Int32) : fmt I (wr (wr I 56 j v) 55 2 w) := ⟨fun q a b => by rw [wr_other _ _ _ _ a, wr_other _ _ _ _ b], fun k hk => by rw [wr_ne _ _ _ _ hk, wr_other _ _ _ _ (by decide)]⟩
theorem c_X11_put {d Lx t rt u : Nat} {I : Nat → Nat → Int32} {G : Nat → Nat → Int64} {Q : ab_Q} {B : Nat → Int32} {n : Nat} {w : Int32} (hT : NP I B n) (hn : n + 4 ≤ 2000) (hq : ∀ I2, fmt I I2 → NP I2 (apB B n w) (n + 4) → Q none (hp Lx t rt u I2 G)) : ab_call ab_MT (d + 1) 184 [.ref 55, .int w] (hp Lx t rt u I G) 0 0 Q := by
  have l4 : ∀ (I2 : Nat → Nat → Int32) (v : Int32), fmt I I2 → NP I2 (apB B n w) (n + 4) → v < 0 → WP d mX11_put Q 3 [some (.ref 55), some (.int w), some (.int v)] [] (hp Lx t rt u I2 G) 0 0 := by
    intro I2 v f2 h2 hv
    refine wx_iload_n rfl (e := 4) rfl rfl ?_
    refine wx_if_lt rfl (e := 7) rfl (fun c_4 => ?_) (fun c_4 => absurd hv c_4)
    refine wx_ret rfl rfl ⟨by decide, by decide⟩ ?_
    exact hq I2 f2 h2
  have l3 : ∀ (I2 : Nat → Nat → Int32), fmt I I2 → NP I2 (apB B n w) (n + 3) → WP d mX11_put Q 3 [some (.ref 55), some (.int w), some (.int (nI 0))] [] (hp Lx t rt u I2 G) 0 0 := by
    intro I2 f2 h2
    have h2n := h2.1
    refine wx_iload_n rfl (e := 4) rfl rfl ?_
    refine wx_if_lt rfl (e := 7) rfl (fun c_4 => absurd c_4 (by decide)) (fun c_4 => ?_)
    refine wx_aload_n rfl (e := 8) rfl rfl ?_
    refine wx_getr rfl (e := 11) rfl rfl rfl ?_
    refine wx_aload_n rfl (e := 12) rfl rfl ?_
    refine wx_geti rfl (e := 15) rfl rfl ?_
    rw [h2.2.1]
    refine wx_iload_n rfl (e := 16) rfl rfl ?_
    refine wx_iload_n rfl (e := 17) rfl rfl ?_
    refine wx_ishr rfl (e := 18) rfl ?_
    refine wx_i2b rfl (e := 19) rfl ?_
    refine wn_bast rfl (e := 20) rfl rfl (by decide) (by omega) (by decide) ?_
    refine wx_aload_n rfl (e := 21) rfl rfl ?_
    refine wx_dup rfl (e := 22) rfl rfl ?_
    refine wx_geti rfl (e := 25) rfl rfl ?_
    rw [wr_other _ _ _ _ (by decide), h2.2.1]
    refine wx_iconst (v := (nI 1)) rfl (e := 26) rfl (by decide) ?_
    refine wn_iadd rfl (e := 27) rfl ?_
    refine wx_puti rfl (e := 30) rfl rfl (by decide) ?_
    refine wx_iinc (L2 := [_, _, _]) rfl (e := 33) rfl rfl (by decide) rfl ?_
    refine wx_goto rfl ?_
    exact l4 _ _ (f2.tr (fmt.w _ _ _)) (h2.app (by omega) hn (by_0 w)) (by decide)
  have l2 : ∀ (I2 : Nat → Nat → Int32), fmt I I2 → NP I2 (apB B n w) (n + 2) → WP d mX11_put Q 3 [some (.ref 55), some (.int w), some (.int (nI 8))] [] (hp Lx t rt u I2 G) 0 0 := by
    intro I2 f2 h2
    have h2n := h2.1
    refine wx_iload_n rfl (e := 4) rfl rfl ?_
    refine wn_if_lt rfl (e := 7) rfl (by omega) ?_
    refine wx_aload_n rfl (e := 8) rfl rfl ?_
    refine wx_getr rfl (e := 11) rfl rfl rfl ?_
    refine wx_aload_n rfl (e := 12) rfl rfl ?_
    refine wx_geti rfl (e := 15) rfl rfl ?_
    rw [h2.2.1]
    refine wx_iload_n rfl (e := 16) rfl rfl ?_
    refine wx_iload_n rfl (e := 17) rfl rfl ?_
    refine wx_ishr rfl (e := 18) rfl ?_
    refine wx_i2b rfl (e := 19) rfl ?_
    refine wn_bast rfl (e := 20) rfl rfl (by decide) (by omega) (by decide) ?_
    refine wx_aload_n rfl (e := 21) rfl rfl ?_
    refine wx_dup rfl (e := 22) rfl rfl ?_
    refine wx_geti rfl (e := 25) rfl rfl ?_
    rw [wr_other _ _ _ _ (by decide), h2.2.1]
    refine wx_iconst (v := (nI 1)) rfl (e := 26) rfl (by decide) ?_
    refine wn_iadd rfl (e := 27) rfl ?_
    refine wx_puti rfl (e := 30) rfl rfl (by decide) ?_
    refine wn_idec (m := 7) (L2 := [_, _, _]) rfl (e := 33) rfl rfl (by omega) (by decide) rfl ?_
    refine wx_goto rfl ?_
    exact l3 _ (f2.tr (fmt.w _ _ _)) (h2.app (by omega) hn (by_8 w))
  have l1 : ∀ (I2 : Nat → Nat → Int32), fmt I I2 → NP I2 (apB B n w) (n + 1) → WP d mX11_put Q 3 [some (.ref 55), some (.int w), some (.int (nI 16))] [] (hp Lx t rt u I2 G) 0 0 := by
    intro I2 f2 h2
    have h2n := h2.1
    refine wx_iload_n rfl (e := 4) rfl rfl ?_
    refine wn_if_lt rfl (e := 7) rfl (by omega) ?_
    refine wx_aload_n rfl (e := 8) rfl rfl ?_
    refine wx_getr rfl (e := 11) rfl rfl rfl ?_
    refine wx_aload_n rfl (e := 12) rfl rfl ?_
    refine wx_geti rfl (e := 15) rfl rfl ?_
    rw [h2.2.1]
    refine wx_iload_n rfl (e := 16) rfl rfl ?_
    refine wx_iload_n rfl (e := 17) rfl rfl ?_
    refine wx_ishr rfl (e := 18) rfl ?_
    refine wx_i2b rfl (e := 19) rfl ?_
    refine wn_bast rfl (e := 20) rfl rfl (by decide) (by omega) (by decide) ?_
    refine wx_aload_n rfl (e := 21) rfl rfl ?_
    refine wx_dup rfl (e := 22) rfl rfl ?_
    refine wx_geti rfl (e := 25) rfl rfl ?_
    rw [wr_other _ _ _ _ (by decide), h2.2.1]
    refine wx_iconst (v := (nI 1)) rfl (e := 26) rfl (by decide) ?_
    refine wn_iadd rfl (e := 27) rfl ?_
    refine wx_puti rfl (e := 30) rfl rfl (by decide) ?_
    refine wn_idec (m := 7) (L2 := [_, _, _]) rfl (e := 33) rfl rfl (by omega) (by decide) rfl ?_
    refine wx_goto rfl ?_
    exact l2 _ (f2.tr (fmt.w _ _ _)) (h2.app (by omega) hn (by_16 w))
  have l0 : ∀ (I2 : Nat → Nat → Int32), fmt I I2 → NP I2 (apB B n w) (n + 0) → WP d mX11_put Q 3 [some (.ref 55), some (.int w), some (.int (nI 24))] [] (hp Lx t rt u I2 G) 0 0 := by
    intro I2 f2 h2
    have h2n := h2.1
    refine wx_iload_n rfl (e := 4) rfl rfl ?_
    refine wn_if_lt rfl (e := 7) rfl (by omega) ?_
    refine wx_aload_n rfl (e := 8) rfl rfl ?_
    refine wx_getr rfl (e := 11) rfl rfl rfl ?_
    refine wx_aload_n rfl (e := 12) rfl rfl ?_
    refine wx_geti rfl (e := 15) rfl rfl ?_
    rw [h2.2.1]
    refine wx_iload_n rfl (e := 16) rfl rfl ?_
    refine wx_iload_n rfl (e := 17) rfl rfl ?_
    refine wx_ishr rfl (e := 18) rfl ?_
    refine wx_i2b rfl (e := 19) rfl ?_
    refine wn_bast rfl (e := 20) rfl rfl (by decide) (by omega) (by decide) ?_
    refine wx_aload_n rfl (e := 21) rfl rfl ?_
    refine wx_dup rfl (e := 22) rfl rfl ?_
    refine wx_geti rfl (e := 25) rfl rfl ?_
    rw [wr_other _ _ _ _ (by decide), h2.2.1]
    refine wx_iconst (v := (nI 1)) rfl (e := 26) rfl (by decide) ?_
    refine wn_iadd rfl (e := 27) rfl ?_
    refine wx_puti rfl (e := 30) rfl rfl (by decide) ?_
    refine wn_idec (m := 7) (L2 := [_, _, _]) rfl (e := 33) rfl rfl (by omega) (by decide) rfl ?_
    refine wx_goto rfl ?_
    exact l1 _ (f2.tr (fmt.w _ _ _)) (h2.app (by omega) hn (by_24 w))
  refine wx_in (M := mX11_put) rfl rfl rfl (Nat.le_of_ble_eq_true rfl) ?_
  refine wx_bipush (v := (nI 24)) rfl (e := 2) rfl (by decide) ?_
  refine wx_istore_n (L2 := [_, _, _]) rfl (e := 3) rfl (by decide) rfl ?_
  exact l0 I fmt.rf ⟨by omega, hT.2.1, fun j hj => by unfold apB; rw [if_pos (by omega)]; exact hT.2.2 j (by omega)⟩

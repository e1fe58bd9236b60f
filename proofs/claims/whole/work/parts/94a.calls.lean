/-! the law: a call of each kind -/
set_option maxRecDepth 100000 in
set_option maxHeartbeats 8000000 in
theorem lwc_0 {Lx t rt lv n i : Nat} {xs : Nat → Int32} {s : gs} {I : Nat → Nat → Int32} {G : Nat → Nat → Int64} {Q : ab_Q} (hLx : Lx ≤ 3072) (hi : i + 6 ≤ Lx) (hn : n ≤ 512) (H : LI xs t lv n s I G) (next : ∀ t2 rt2 lv2 s2 I2 G2, LI xs t2 lv2 (n + 1) s2 I2 G2 → WP 100 mL_law Q 1470 [some (.ref 1000000), some (.ref 0), some (.ref 55), some (.int (nI i))] [] (hp Lx t2 rt2 t2 I2 G2) 99 19447) : WP 100 mL_law Q 208 [some (.ref 1000000), some (.ref 0), some (.ref 55), some (.int (nI i))] [] (hp Lx t rt t I G) 99 19447 := by
  obtain ⟨hC, hI, hML, hg, hCW, hWm, hs⟩ := id H
  have ht := hC.1.1
  have hT := hC.1.2.1
  have hx : ∀ k, I 1000000 k = xs k := fun k => by rw [hs 1000000 (by decide)]; rfl
  refine wx_aload_n rfl (e := 209) rfl rfl ?_
  refine wx_aload_n rfl (e := 210) rfl rfl ?_
  refine wx_iload_n rfl (e := 211) rfl rfl ?_
  refine wx_iconst (v := (nI 1)) rfl (e := 212) rfl (by decide) ?_
  refine wn_iadd rfl (e := 213) rfl ?_
  refine wn_iald rfl (e := 214) rfl rfl (by omega) (by omega) ?_
  rw [hx]
  refine wx_aload_n rfl (e := 215) rfl rfl ?_
  refine wx_iload_n rfl (e := 216) rfl rfl ?_
  refine wx_iconst (v := (nI 2)) rfl (e := 217) rfl (by decide) ?_
  refine wn_iadd rfl (e := 218) rfl ?_
  refine wn_iald rfl (e := 219) rfl rfl (by omega) (by omega) ?_
  rw [hx]
  refine wx_aload_n rfl (e := 220) rfl rfl ?_
  refine wx_iload_n rfl (e := 221) rfl rfl ?_
  refine wx_iconst (v := (nI 3)) rfl (e := 222) rfl (by decide) ?_
  refine wn_iadd rfl (e := 223) rfl ?_
  refine wn_iald rfl (e := 224) rfl rfl (by omega) (by omega) ?_
  rw [hx]
  refine wx_aload_n rfl (e := 225) rfl rfl ?_
  refine wx_iload_n rfl (e := 226) rfl rfl ?_
  refine wx_iconst (v := (nI 4)) rfl (e := 227) rfl (by decide) ?_
  refine wn_iadd rfl (e := 228) rfl ?_
  refine wn_iald rfl (e := 229) rfl rfl (by omega) (by omega) ?_
  rw [hx]
  refine wx_aload_n rfl (e := 230) rfl rfl ?_
  refine wx_iload_n rfl (e := 231) rfl rfl ?_
  refine wx_iconst (v := (nI 5)) rfl (e := 232) rfl (by decide) ?_
  refine wn_iadd rfl (e := 233) rfl ?_
  refine wn_iald rfl (e := 234) rfl rfl (by omega) (by omega) ?_
  rw [hx]
  refine wx_cv5 (mc := 0) (ms := 0) rfl (e := 237) rfl rfl (Nat.le_of_ble_eq_true rfl) ⟨by decide, by decide⟩ ?_
  refine c_X10_feed hC hg (fun I2 A2 C2 => ?_)
  have hx2 : ∀ k, I2 1000000 k = xs k := fun k => by rw [A2 1000000 (by decide)]; exact hx k
  refine wx_aload_n rfl (e := 238) rfl rfl ?_
  refine wx_aload_n rfl (e := 239) rfl rfl ?_
  refine wx_iload_n rfl (e := 240) rfl rfl ?_
  refine wx_iconst (v := (nI 1)) rfl (e := 241) rfl (by decide) ?_
  refine wn_iadd rfl (e := 242) rfl ?_
  refine wn_iald rfl (e := 243) rfl rfl (by omega) (by omega) ?_
  rw [hx2]
  refine wx_aload_n rfl (e := 244) rfl rfl ?_
  refine wx_iload_n rfl (e := 245) rfl rfl ?_
  refine wx_iconst (v := (nI 2)) rfl (e := 246) rfl (by decide) ?_
  refine wn_iadd rfl (e := 247) rfl ?_
  refine wn_iald rfl (e := 248) rfl rfl (by omega) (by omega) ?_
  rw [hx2]
  refine wx_aload_n rfl (e := 249) rfl rfl ?_
  refine wx_iload_n rfl (e := 250) rfl rfl ?_
  refine wx_iconst (v := (nI 3)) rfl (e := 251) rfl (by decide) ?_
  refine wn_iadd rfl (e := 252) rfl ?_
  refine wn_iald rfl (e := 253) rfl rfl (by omega) (by omega) ?_
  rw [hx2]
  refine wx_aload_n rfl (e := 254) rfl rfl ?_
  refine wx_iload_n rfl (e := 255) rfl rfl ?_
  refine wx_iconst (v := (nI 4)) rfl (e := 256) rfl (by decide) ?_
  refine wn_iadd rfl (e := 257) rfl ?_
  refine wn_iald rfl (e := 258) rfl rfl (by omega) (by omega) ?_
  rw [hx2]
  refine wx_aload_n rfl (e := 259) rfl rfl ?_
  refine wx_iload_n rfl (e := 260) rfl rfl ?_
  refine wx_iconst (v := (nI 5)) rfl (e := 261) rfl (by decide) ?_
  refine wn_iadd rfl (e := 262) rfl ?_
  refine wn_iald rfl (e := 263) rfl rfl (by omega) (by omega) ?_
  rw [hx2]
  refine wx_cv5 (mc := 0) (ms := 0) rfl (e := 266) rfl rfl (Nat.le_of_ble_eq_true rfl) ⟨by decide, by decide⟩ ?_
  refine c_X11_feed (hI.up A2) hg (fun I3 B3 M3 => ?_)
  refine wx_ic_eq rfl (e := 269) rfl (fun c_266 => ?_) (fun c_266 => absurd rfl c_266)
  exact next t rt lv _ I3 G (H.act C2 A2 B3 M3 (ok_feed hg _ _ _ _ _) (gT_tFeed s _ _ _ _ _))
set_option maxRecDepth 100000 in
set_option maxHeartbeats 8000000 in
theorem lwc_1 {Lx t rt lv n i : Nat} {xs : Nat → Int32} {s : gs} {I : Nat → Nat → Int32} {G : Nat → Nat → Int64} {Q : ab_Q} (hLx : Lx ≤ 3072) (hi : i + 6 ≤ Lx) (hn : n ≤ 512) (H : LI xs t lv n s I G) (next : ∀ t2 rt2 lv2 s2 I2 G2, LI xs t2 lv2 (n + 1) s2 I2 G2 → WP 100 mL_law Q 1470 [some (.ref 1000000), some (.ref 0), some (.ref 55), some (.int (nI i))] [] (hp Lx t2 rt2 t2 I2 G2) 99 19447) : WP 100 mL_law Q 271 [some (.ref 1000000), some (.ref 0), some (.ref 55), some (.int (nI i))] [] (hp Lx t rt t I G) 99 19447 := by
  obtain ⟨hC, hI, hML, hg, hCW, hWm, hs⟩ := id H
  have ht := hC.1.1
  have hT := hC.1.2.1
  have hx : ∀ k, I 1000000 k = xs k := fun k => by rw [hs 1000000 (by decide)]; rfl
  refine wx_aload_n rfl (e := 272) rfl rfl ?_
  refine wx_aload_n rfl (e := 273) rfl rfl ?_
  refine wx_iload_n rfl (e := 274) rfl rfl ?_
  refine wx_iconst (v := (nI 1)) rfl (e := 275) rfl (by decide) ?_
  refine wn_iadd rfl (e := 276) rfl ?_
  refine wn_iald rfl (e := 277) rfl rfl (by omega) (by omega) ?_
  rw [hx]
  refine wx_cv1 (mc := 0) (ms := 0) rfl (e := 280) rfl rfl (Nat.le_of_ble_eq_true rfl) ⟨by decide, by decide⟩ ?_
  refine c_X10_back hC hg (fun I2 A2 C2 => ?_)
  have hx2 : ∀ k, I2 1000000 k = xs k := fun k => by rw [A2 1000000 (by decide)]; exact hx k
  refine wx_aload_n rfl (e := 281) rfl rfl ?_
  refine wx_aload_n rfl (e := 282) rfl rfl ?_
  refine wx_iload_n rfl (e := 283) rfl rfl ?_
  refine wx_iconst (v := (nI 1)) rfl (e := 284) rfl (by decide) ?_
  refine wn_iadd rfl (e := 285) rfl ?_
  refine wn_iald rfl (e := 286) rfl rfl (by omega) (by omega) ?_
  rw [hx2]
  refine wx_cv1 (mc := 0) (ms := 0) rfl (e := 289) rfl rfl (Nat.le_of_ble_eq_true rfl) ⟨by decide, by decide⟩ ?_
  refine c_X11_back (hI.up A2) hg (fun I3 B3 M3 => ?_)
  refine wx_ic_eq rfl (e := 292) rfl (fun c_289 => ?_) (fun c_289 => absurd rfl c_289)
  exact next t rt lv _ I3 G (H.act C2 A2 B3 M3 (ok_back hg _) (gT_tBack s _))
set_option maxRecDepth 100000 in
set_option maxHeartbeats 8000000 in
theorem lwc_2 {Lx t rt lv n i : Nat} {xs : Nat → Int32} {s : gs} {I : Nat → Nat → Int32} {G : Nat → Nat → Int64} {Q : ab_Q} (hLx : Lx ≤ 3072) (hi : i + 6 ≤ Lx) (hn : n ≤ 512) (H : LI xs t lv n s I G) (next : ∀ t2 rt2 lv2 s2 I2 G2, LI xs t2 lv2 (n + 1) s2 I2 G2 → WP 100 mL_law Q 1470 [some (.ref 1000000), some (.ref 0), some (.ref 55), some (.int (nI i))] [] (hp Lx t2 rt2 t2 I2 G2) 99 19447) : WP 100 mL_law Q 294 [some (.ref 1000000), some (.ref 0), some (.ref 55), some (.int (nI i))] [] (hp Lx t rt t I G) 99 19447 := by
  obtain ⟨hC, hI, hML, hg, hCW, hWm, hs⟩ := id H
  have ht := hC.1.1
  have hT := hC.1.2.1
  have hx : ∀ k, I 1000000 k = xs k := fun k => by rw [hs 1000000 (by decide)]; rfl
  refine wx_aload_n rfl (e := 295) rfl rfl ?_
  refine wx_cv0 (mc := 0) (ms := 0) rfl (e := 298) rfl rfl (Nat.le_of_ble_eq_true rfl) ⟨by decide, by decide⟩ ?_
  refine c_X10_read hC hCW hs (fun t2 rt2 I2 G2 A2 g2 C2 => ?_)
  have hx2 : ∀ k, I2 1000000 k = xs k := fun k => by rw [A2 1000000 (by decide)]; exact hx k
  refine wx_aload_n rfl (e := 299) rfl rfl ?_
  refine wx_cv0 (mc := 0) (ms := 0) rfl (e := 302) rfl rfl (Nat.le_of_ble_eq_true rfl) ⟨by decide, by decide⟩ ?_
  refine c_X11_read (hI.up A2) (hML.kept (fun q y1 y2 => A2 q (by omega))) (fun k hk => by rw [g2 62 (by decide)]; exact hWm k hk) (fun lv3 I3 G3 B3 g3 M3 L3 => ?_)
  refine wx_ic_eq rfl (e := 305) rfl (fun c_302 => ?_) (fun c_302 => absurd rfl c_302)
  exact next t2 rt2 lv3 _ I3 G3 (H.rd C2 A2 g2 B3 g3 M3 L3)
set_option maxRecDepth 100000 in
set_option maxHeartbeats 8000000 in
theorem lwc_3 {Lx t rt lv n i : Nat} {xs : Nat → Int32} {s : gs} {I : Nat → Nat → Int32} {G : Nat → Nat → Int64} {Q : ab_Q} (hLx : Lx ≤ 3072) (hi : i + 6 ≤ Lx) (hn : n ≤ 512) (H : LI xs t lv n s I G) (next : ∀ t2 rt2 lv2 s2 I2 G2, LI xs t2 lv2 (n + 1) s2 I2 G2 → WP 100 mL_law Q 1470 [some (.ref 1000000), some (.ref 0), some (.ref 55), some (.int (nI i))] [] (hp Lx t2 rt2 t2 I2 G2) 99 19447) : WP 100 mL_law Q 307 [some (.ref 1000000), some (.ref 0), some (.ref 55), some (.int (nI i))] [] (hp Lx t rt t I G) 99 19447 := by
  obtain ⟨hC, hI, hML, hg, hCW, hWm, hs⟩ := id H
  have ht := hC.1.1
  have hT := hC.1.2.1
  have hx : ∀ k, I 1000000 k = xs k := fun k => by rw [hs 1000000 (by decide)]; rfl
  refine wx_aload_n rfl (e := 308) rfl rfl ?_
  refine wx_cv0 (mc := 0) (ms := 0) rfl (e := 311) rfl rfl (Nat.le_of_ble_eq_true rfl) ⟨by decide, by decide⟩ ?_
  refine c_X10_place hC hg (fun I2 f2 => ?_)
  have A2 := f2.up ht
  have hx2 : ∀ k, I2 1000000 k = xs k := fun k => by rw [A2 1000000 (by decide)]; exact hx k
  refine wx_aload_n rfl (e := 312) rfl rfl ?_
  refine wx_cv0 (mc := 0) (ms := 0) rfl (e := 315) rfl rfl (Nat.le_of_ble_eq_true rfl) ⟨by decide, by decide⟩ ?_
  refine c_X11_place (hI.up A2) hg (fun I3 f3 => ?_)
  refine wx_ic_eq rfl (e := 318) rfl (fun c_315 => ?_) (fun c_315 => absurd rfl c_315)
  exact next t rt lv s I3 G (H.ask (hC.q f2) A2 f3)
set_option maxRecDepth 100000 in
set_option maxHeartbeats 8000000 in
theorem lwc_4 {Lx t rt lv n i : Nat} {xs : Nat → Int32} {s : gs} {I : Nat → Nat → Int32} {G : Nat → Nat → Int64} {Q : ab_Q} (hLx : Lx ≤ 3072) (hi : i + 6 ≤ Lx) (hn : n ≤ 512) (H : LI xs t lv n s I G) (next : ∀ t2 rt2 lv2 s2 I2 G2, LI xs t2 lv2 (n + 1) s2 I2 G2 → WP 100 mL_law Q 1470 [some (.ref 1000000), some (.ref 0), some (.ref 55), some (.int (nI i))] [] (hp Lx t2 rt2 t2 I2 G2) 99 19447) : WP 100 mL_law Q 320 [some (.ref 1000000), some (.ref 0), some (.ref 55), some (.int (nI i))] [] (hp Lx t rt t I G) 99 19447 := by
  obtain ⟨hC, hI, hML, hg, hCW, hWm, hs⟩ := id H
  have ht := hC.1.1
  have hT := hC.1.2.1
  have hx : ∀ k, I 1000000 k = xs k := fun k => by rw [hs 1000000 (by decide)]; rfl
  refine wx_aload_n rfl (e := 321) rfl rfl ?_
  refine wx_aload_n rfl (e := 322) rfl rfl ?_
  refine wx_iload_n rfl (e := 323) rfl rfl ?_
  refine wx_iconst (v := (nI 1)) rfl (e := 324) rfl (by decide) ?_
  refine wn_iadd rfl (e := 325) rfl ?_
  refine wn_iald rfl (e := 326) rfl rfl (by omega) (by omega) ?_
  rw [hx]
  refine wx_aload_n rfl (e := 327) rfl rfl ?_
  refine wx_iload_n rfl (e := 328) rfl rfl ?_
  refine wx_iconst (v := (nI 2)) rfl (e := 329) rfl (by decide) ?_
  refine wn_iadd rfl (e := 330) rfl ?_
  refine wn_iald rfl (e := 331) rfl rfl (by omega) (by omega) ?_
  rw [hx]
  refine wx_cv2 (mc := 0) (ms := 0) rfl (e := 334) rfl rfl (Nat.le_of_ble_eq_true rfl) ⟨by decide, by decide⟩ ?_
  refine c_X10_church hC hg (fun I2 f2 => ?_)
  have A2 := f2.up ht
  have hx2 : ∀ k, I2 1000000 k = xs k := fun k => by rw [A2 1000000 (by decide)]; exact hx k
  refine wx_aload_n rfl (e := 335) rfl rfl ?_
  refine wx_aload_n rfl (e := 336) rfl rfl ?_
  refine wx_iload_n rfl (e := 337) rfl rfl ?_
  refine wx_iconst (v := (nI 1)) rfl (e := 338) rfl (by decide) ?_
  refine wn_iadd rfl (e := 339) rfl ?_
  refine wn_iald rfl (e := 340) rfl rfl (by omega) (by omega) ?_
  rw [hx2]
  refine wx_aload_n rfl (e := 341) rfl rfl ?_
  refine wx_iload_n rfl (e := 342) rfl rfl ?_
  refine wx_iconst (v := (nI 2)) rfl (e := 343) rfl (by decide) ?_
  refine wn_iadd rfl (e := 344) rfl ?_
  refine wn_iald rfl (e := 345) rfl rfl (by omega) (by omega) ?_
  rw [hx2]
  refine wx_cv2 (mc := 0) (ms := 0) rfl (e := 348) rfl rfl (Nat.le_of_ble_eq_true rfl) ⟨by decide, by decide⟩ ?_
  refine c_X11_church (hI.up A2) hg (fun I3 f3 => ?_)
  refine wx_ic_eq rfl (e := 351) rfl (fun c_348 => ?_) (fun c_348 => absurd rfl c_348)
  exact next t rt lv s I3 G (H.ask (hC.q f2) A2 f3)
set_option maxRecDepth 100000 in
set_option maxHeartbeats 8000000 in
theorem lwc_5 {Lx t rt lv n i : Nat} {xs : Nat → Int32} {s : gs} {I : Nat → Nat → Int32} {G : Nat → Nat → Int64} {Q : ab_Q} (hLx : Lx ≤ 3072) (hi : i + 6 ≤ Lx) (hn : n ≤ 512) (H : LI xs t lv n s I G) (next : ∀ t2 rt2 lv2 s2 I2 G2, LI xs t2 lv2 (n + 1) s2 I2 G2 → WP 100 mL_law Q 1470 [some (.ref 1000000), some (.ref 0), some (.ref 55), some (.int (nI i))] [] (hp Lx t2 rt2 t2 I2 G2) 99 19447) : WP 100 mL_law Q 353 [some (.ref 1000000), some (.ref 0), some (.ref 55), some (.int (nI i))] [] (hp Lx t rt t I G) 99 19447 := by
  obtain ⟨hC, hI, hML, hg, hCW, hWm, hs⟩ := id H
  have ht := hC.1.1
  have hT := hC.1.2.1
  have hx : ∀ k, I 1000000 k = xs k := fun k => by rw [hs 1000000 (by decide)]; rfl
  refine wx_aload_n rfl (e := 354) rfl rfl ?_
  refine wx_aload_n rfl (e := 355) rfl rfl ?_
  refine wx_iload_n rfl (e := 356) rfl rfl ?_
  refine wx_iconst (v := (nI 1)) rfl (e := 357) rfl (by decide) ?_
  refine wn_iadd rfl (e := 358) rfl ?_
  refine wn_iald rfl (e := 359) rfl rfl (by omega) (by omega) ?_
  rw [hx]
  refine wx_aload_n rfl (e := 360) rfl rfl ?_
  refine wx_iload_n rfl (e := 361) rfl rfl ?_
  refine wx_iconst (v := (nI 2)) rfl (e := 362) rfl (by decide) ?_
  refine wn_iadd rfl (e := 363) rfl ?_
  refine wn_iald rfl (e := 364) rfl rfl (by omega) (by omega) ?_
  rw [hx]
  refine wx_cv2 (mc := 0) (ms := 0) rfl (e := 367) rfl rfl (Nat.le_of_ble_eq_true rfl) ⟨by decide, by decide⟩ ?_
  refine c_X10_relic hC hg (fun I2 f2 => ?_)
  have A2 := f2.up ht
  have hx2 : ∀ k, I2 1000000 k = xs k := fun k => by rw [A2 1000000 (by decide)]; exact hx k
  refine wx_aload_n rfl (e := 368) rfl rfl ?_
  refine wx_aload_n rfl (e := 369) rfl rfl ?_
  refine wx_iload_n rfl (e := 370) rfl rfl ?_
  refine wx_iconst (v := (nI 1)) rfl (e := 371) rfl (by decide) ?_
  refine wn_iadd rfl (e := 372) rfl ?_
  refine wn_iald rfl (e := 373) rfl rfl (by omega) (by omega) ?_
  rw [hx2]
  refine wx_aload_n rfl (e := 374) rfl rfl ?_
  refine wx_iload_n rfl (e := 375) rfl rfl ?_
  refine wx_iconst (v := (nI 2)) rfl (e := 376) rfl (by decide) ?_
  refine wn_iadd rfl (e := 377) rfl ?_
  refine wn_iald rfl (e := 378) rfl rfl (by omega) (by omega) ?_
  rw [hx2]
  refine wx_cv2 (mc := 0) (ms := 0) rfl (e := 381) rfl rfl (Nat.le_of_ble_eq_true rfl) ⟨by decide, by decide⟩ ?_
  refine c_X11_relic (hI.up A2) hg (fun I3 f3 => ?_)
  refine wx_ic_eq rfl (e := 384) rfl (fun c_381 => ?_) (fun c_381 => absurd rfl c_381)
  exact next t rt lv s I3 G (H.ask (hC.q f2) A2 f3)
set_option maxRecDepth 100000 in
set_option maxHeartbeats 8000000 in
theorem lwc_6 {Lx t rt lv n i : Nat} {xs : Nat → Int32} {s : gs} {I : Nat → Nat → Int32} {G : Nat → Nat → Int64} {Q : ab_Q} (hLx : Lx ≤ 3072) (hi : i + 6 ≤ Lx) (hn : n ≤ 512) (H : LI xs t lv n s I G) (next : ∀ t2 rt2 lv2 s2 I2 G2, LI xs t2 lv2 (n + 1) s2 I2 G2 → WP 100 mL_law Q 1470 [some (.ref 1000000), some (.ref 0), some (.ref 55), some (.int (nI i))] [] (hp Lx t2 rt2 t2 I2 G2) 99 19447) : WP 100 mL_law Q 386 [some (.ref 1000000), some (.ref 0), some (.ref 55), some (.int (nI i))] [] (hp Lx t rt t I G) 99 19447 := by
  obtain ⟨hC, hI, hML, hg, hCW, hWm, hs⟩ := id H
  have ht := hC.1.1
  have hT := hC.1.2.1
  have hx : ∀ k, I 1000000 k = xs k := fun k => by rw [hs 1000000 (by decide)]; rfl
  refine wx_aload_n rfl (e := 387) rfl rfl ?_
  refine wx_aload_n rfl (e := 388) rfl rfl ?_
  refine wx_iload_n rfl (e := 389) rfl rfl ?_
  refine wx_iconst (v := (nI 1)) rfl (e := 390) rfl (by decide) ?_
  refine wn_iadd rfl (e := 391) rfl ?_
  refine wn_iald rfl (e := 392) rfl rfl (by omega) (by omega) ?_
  rw [hx]
  refine wx_aload_n rfl (e := 393) rfl rfl ?_
  refine wx_iload_n rfl (e := 394) rfl rfl ?_
  refine wx_iconst (v := (nI 2)) rfl (e := 395) rfl (by decide) ?_
  refine wn_iadd rfl (e := 396) rfl ?_
  refine wn_iald rfl (e := 397) rfl rfl (by omega) (by omega) ?_
  rw [hx]
  refine wx_cv2 (mc := 0) (ms := 0) rfl (e := 400) rfl rfl (Nat.le_of_ble_eq_true rfl) ⟨by decide, by decide⟩ ?_
  refine c_X10_pilgrim hC hg (fun I2 f2 => ?_)
  have A2 := f2.up ht
  have hx2 : ∀ k, I2 1000000 k = xs k := fun k => by rw [A2 1000000 (by decide)]; exact hx k
  refine wx_aload_n rfl (e := 401) rfl rfl ?_
  refine wx_aload_n rfl (e := 402) rfl rfl ?_
  refine wx_iload_n rfl (e := 403) rfl rfl ?_
  refine wx_iconst (v := (nI 1)) rfl (e := 404) rfl (by decide) ?_
  refine wn_iadd rfl (e := 405) rfl ?_
  refine wn_iald rfl (e := 406) rfl rfl (by omega) (by omega) ?_
  rw [hx2]
  refine wx_aload_n rfl (e := 407) rfl rfl ?_
  refine wx_iload_n rfl (e := 408) rfl rfl ?_
  refine wx_iconst (v := (nI 2)) rfl (e := 409) rfl (by decide) ?_
  refine wn_iadd rfl (e := 410) rfl ?_
  refine wn_iald rfl (e := 411) rfl rfl (by omega) (by omega) ?_
  rw [hx2]
  refine wx_cv2 (mc := 0) (ms := 0) rfl (e := 414) rfl rfl (Nat.le_of_ble_eq_true rfl) ⟨by decide, by decide⟩ ?_
  refine c_X11_pilgrim (hI.up A2) hg (fun I3 f3 => ?_)
  refine wx_ic_eq rfl (e := 417) rfl (fun c_414 => ?_) (fun c_414 => absurd rfl c_414)
  exact next t rt lv s I3 G (H.ask (hC.q f2) A2 f3)
set_option maxRecDepth 100000 in
set_option maxHeartbeats 8000000 in
theorem lwc_7 {Lx t rt lv n i : Nat} {xs : Nat → Int32} {s : gs} {I : Nat → Nat → Int32} {G : Nat → Nat → Int64} {Q : ab_Q} (hLx : Lx ≤ 3072) (hi : i + 6 ≤ Lx) (hn : n ≤ 512) (H : LI xs t lv n s I G) (next : ∀ t2 rt2 lv2 s2 I2 G2, LI xs t2 lv2 (n + 1) s2 I2 G2 → WP 100 mL_law Q 1470 [some (.ref 1000000), some (.ref 0), some (.ref 55), some (.int (nI i))] [] (hp Lx t2 rt2 t2 I2 G2) 99 19447) : WP 100 mL_law Q 419 [some (.ref 1000000), some (.ref 0), some (.ref 55), some (.int (nI i))] [] (hp Lx t rt t I G) 99 19447 := by
  obtain ⟨hC, hI, hML, hg, hCW, hWm, hs⟩ := id H
  have ht := hC.1.1
  have hT := hC.1.2.1
  have hx : ∀ k, I 1000000 k = xs k := fun k => by rw [hs 1000000 (by decide)]; rfl
  refine wx_aload_n rfl (e := 420) rfl rfl ?_
  refine wx_aload_n rfl (e := 421) rfl rfl ?_
  refine wx_iload_n rfl (e := 422) rfl rfl ?_
  refine wx_iconst (v := (nI 1)) rfl (e := 423) rfl (by decide) ?_
  refine wn_iadd rfl (e := 424) rfl ?_
  refine wn_iald rfl (e := 425) rfl rfl (by omega) (by omega) ?_
  rw [hx]
  refine wx_aload_n rfl (e := 426) rfl rfl ?_
  refine wx_iload_n rfl (e := 427) rfl rfl ?_
  refine wx_iconst (v := (nI 2)) rfl (e := 428) rfl (by decide) ?_
  refine wn_iadd rfl (e := 429) rfl ?_
  refine wn_iald rfl (e := 430) rfl rfl (by omega) (by omega) ?_
  rw [hx]
  refine wx_aload_n rfl (e := 431) rfl rfl ?_
  refine wx_iload_n rfl (e := 432) rfl rfl ?_
  refine wx_iconst (v := (nI 3)) rfl (e := 433) rfl (by decide) ?_
  refine wn_iadd rfl (e := 434) rfl ?_
  refine wn_iald rfl (e := 435) rfl rfl (by omega) (by omega) ?_
  rw [hx]
  refine wx_cv3 (mc := 0) (ms := 0) rfl (e := 438) rfl rfl (Nat.le_of_ble_eq_true rfl) ⟨by decide, by decide⟩ ?_
  refine c_X10_tells hC hg (fun I2 f2 => ?_)
  have A2 := f2.up ht
  have hx2 : ∀ k, I2 1000000 k = xs k := fun k => by rw [A2 1000000 (by decide)]; exact hx k
  refine wx_aload_n rfl (e := 439) rfl rfl ?_
  refine wx_aload_n rfl (e := 440) rfl rfl ?_
  refine wx_iload_n rfl (e := 441) rfl rfl ?_
  refine wx_iconst (v := (nI 1)) rfl (e := 442) rfl (by decide) ?_
  refine wn_iadd rfl (e := 443) rfl ?_
  refine wn_iald rfl (e := 444) rfl rfl (by omega) (by omega) ?_
  rw [hx2]
  refine wx_aload_n rfl (e := 445) rfl rfl ?_
  refine wx_iload_n rfl (e := 446) rfl rfl ?_
  refine wx_iconst (v := (nI 2)) rfl (e := 447) rfl (by decide) ?_
  refine wn_iadd rfl (e := 448) rfl ?_
  refine wn_iald rfl (e := 449) rfl rfl (by omega) (by omega) ?_
  rw [hx2]
  refine wx_aload_n rfl (e := 450) rfl rfl ?_
  refine wx_iload_n rfl (e := 451) rfl rfl ?_
  refine wx_iconst (v := (nI 3)) rfl (e := 452) rfl (by decide) ?_
  refine wn_iadd rfl (e := 453) rfl ?_
  refine wn_iald rfl (e := 454) rfl rfl (by omega) (by omega) ?_
  rw [hx2]
  refine wx_cv3 (mc := 0) (ms := 0) rfl (e := 457) rfl rfl (Nat.le_of_ble_eq_true rfl) ⟨by decide, by decide⟩ ?_
  refine c_X11_tells (hI.up A2) hg (fun I3 f3 => ?_)
  refine wx_ic_eq rfl (e := 460) rfl (fun c_457 => ?_) (fun c_457 => absurd rfl c_457)
  exact next t rt lv s I3 G (H.ask (hC.q f2) A2 f3)
set_option maxRecDepth 100000 in
set_option maxHeartbeats 8000000 in
theorem lwc_8 {Lx t rt lv n i : Nat} {xs : Nat → Int32} {s : gs} {I : Nat → Nat → Int32} {G : Nat → Nat → Int64} {Q : ab_Q} (hLx : Lx ≤ 3072) (hi : i + 6 ≤ Lx) (hn : n ≤ 512) (H : LI xs t lv n s I G) (next : ∀ t2 rt2 lv2 s2 I2 G2, LI xs t2 lv2 (n + 1) s2 I2 G2 → WP 100 mL_law Q 1470 [some (.ref 1000000), some (.ref 0), some (.ref 55), some (.int (nI i))] [] (hp Lx t2 rt2 t2 I2 G2) 99 19447) : WP 100 mL_law Q 462 [some (.ref 1000000), some (.ref 0), some (.ref 55), some (.int (nI i))] [] (hp Lx t rt t I G) 99 19447 := by
  obtain ⟨hC, hI, hML, hg, hCW, hWm, hs⟩ := id H
  have ht := hC.1.1
  have hT := hC.1.2.1
  have hx : ∀ k, I 1000000 k = xs k := fun k => by rw [hs 1000000 (by decide)]; rfl
  refine wx_aload_n rfl (e := 463) rfl rfl ?_
  refine wx_aload_n rfl (e := 464) rfl rfl ?_
  refine wx_iload_n rfl (e := 465) rfl rfl ?_
  refine wx_iconst (v := (nI 1)) rfl (e := 466) rfl (by decide) ?_
  refine wn_iadd rfl (e := 467) rfl ?_
  refine wn_iald rfl (e := 468) rfl rfl (by omega) (by omega) ?_
  rw [hx]
  refine wx_aload_n rfl (e := 469) rfl rfl ?_
  refine wx_iload_n rfl (e := 470) rfl rfl ?_
  refine wx_iconst (v := (nI 2)) rfl (e := 471) rfl (by decide) ?_
  refine wn_iadd rfl (e := 472) rfl ?_
  refine wn_iald rfl (e := 473) rfl rfl (by omega) (by omega) ?_
  rw [hx]
  refine wx_cv2 (mc := 0) (ms := 0) rfl (e := 476) rfl rfl (Nat.le_of_ble_eq_true rfl) ⟨by decide, by decide⟩ ?_
  refine c_X10_heals hC hg (fun I2 f2 => ?_)
  have A2 := f2.up ht
  have hx2 : ∀ k, I2 1000000 k = xs k := fun k => by rw [A2 1000000 (by decide)]; exact hx k
  refine wx_aload_n rfl (e := 477) rfl rfl ?_
  refine wx_aload_n rfl (e := 478) rfl rfl ?_
  refine wx_iload_n rfl (e := 479) rfl rfl ?_
  refine wx_iconst (v := (nI 1)) rfl (e := 480) rfl (by decide) ?_
  refine wn_iadd rfl (e := 481) rfl ?_
  refine wn_iald rfl (e := 482) rfl rfl (by omega) (by omega) ?_
  rw [hx2]
  refine wx_aload_n rfl (e := 483) rfl rfl ?_
  refine wx_iload_n rfl (e := 484) rfl rfl ?_
  refine wx_iconst (v := (nI 2)) rfl (e := 485) rfl (by decide) ?_
  refine wn_iadd rfl (e := 486) rfl ?_
  refine wn_iald rfl (e := 487) rfl rfl (by omega) (by omega) ?_
  rw [hx2]
  refine wx_cv2 (mc := 0) (ms := 0) rfl (e := 490) rfl rfl (Nat.le_of_ble_eq_true rfl) ⟨by decide, by decide⟩ ?_
  refine c_X11_heals (hI.up A2) hg (fun I3 f3 => ?_)
  refine wx_ic_eq rfl (e := 493) rfl (fun c_490 => ?_) (fun c_490 => absurd rfl c_490)
  exact next t rt lv s I3 G (H.ask (hC.q f2) A2 f3)
set_option maxRecDepth 100000 in
set_option maxHeartbeats 8000000 in
theorem lwc_9 {Lx t rt lv n i : Nat} {xs : Nat → Int32} {s : gs} {I : Nat → Nat → Int32} {G : Nat → Nat → Int64} {Q : ab_Q} (hLx : Lx ≤ 3072) (hi : i + 6 ≤ Lx) (hn : n ≤ 512) (H : LI xs t lv n s I G) (next : ∀ t2 rt2 lv2 s2 I2 G2, LI xs t2 lv2 (n + 1) s2 I2 G2 → WP 100 mL_law Q 1470 [some (.ref 1000000), some (.ref 0), some (.ref 55), some (.int (nI i))] [] (hp Lx t2 rt2 t2 I2 G2) 99 19447) : WP 100 mL_law Q 495 [some (.ref 1000000), some (.ref 0), some (.ref 55), some (.int (nI i))] [] (hp Lx t rt t I G) 99 19447 := by
  obtain ⟨hC, hI, hML, hg, hCW, hWm, hs⟩ := id H
  have ht := hC.1.1
  have hT := hC.1.2.1
  have hx : ∀ k, I 1000000 k = xs k := fun k => by rw [hs 1000000 (by decide)]; rfl
  refine wx_aload_n rfl (e := 496) rfl rfl ?_
  refine wx_aload_n rfl (e := 497) rfl rfl ?_
  refine wx_iload_n rfl (e := 498) rfl rfl ?_
  refine wx_iconst (v := (nI 1)) rfl (e := 499) rfl (by decide) ?_
  refine wn_iadd rfl (e := 500) rfl ?_
  refine wn_iald rfl (e := 501) rfl rfl (by omega) (by omega) ?_
  rw [hx]
  refine wx_aload_n rfl (e := 502) rfl rfl ?_
  refine wx_iload_n rfl (e := 503) rfl rfl ?_
  refine wx_iconst (v := (nI 2)) rfl (e := 504) rfl (by decide) ?_
  refine wn_iadd rfl (e := 505) rfl ?_
  refine wn_iald rfl (e := 506) rfl rfl (by omega) (by omega) ?_
  rw [hx]
  refine wx_aload_n rfl (e := 507) rfl rfl ?_
  refine wx_iload_n rfl (e := 508) rfl rfl ?_
  refine wx_iconst (v := (nI 3)) rfl (e := 509) rfl (by decide) ?_
  refine wn_iadd rfl (e := 510) rfl ?_
  refine wn_iald rfl (e := 511) rfl rfl (by omega) (by omega) ?_
  rw [hx]
  refine wx_cv3 (mc := 0) (ms := 0) rfl (e := 514) rfl rfl (Nat.le_of_ble_eq_true rfl) ⟨by decide, by decide⟩ ?_
  refine c_X10_steal hC hg (fun I2 A2 C2 => ?_)
  have hx2 : ∀ k, I2 1000000 k = xs k := fun k => by rw [A2 1000000 (by decide)]; exact hx k
  refine wx_aload_n rfl (e := 515) rfl rfl ?_
  refine wx_aload_n rfl (e := 516) rfl rfl ?_
  refine wx_iload_n rfl (e := 517) rfl rfl ?_
  refine wx_iconst (v := (nI 1)) rfl (e := 518) rfl (by decide) ?_
  refine wn_iadd rfl (e := 519) rfl ?_
  refine wn_iald rfl (e := 520) rfl rfl (by omega) (by omega) ?_
  rw [hx2]
  refine wx_aload_n rfl (e := 521) rfl rfl ?_
  refine wx_iload_n rfl (e := 522) rfl rfl ?_
  refine wx_iconst (v := (nI 2)) rfl (e := 523) rfl (by decide) ?_
  refine wn_iadd rfl (e := 524) rfl ?_
  refine wn_iald rfl (e := 525) rfl rfl (by omega) (by omega) ?_
  rw [hx2]
  refine wx_aload_n rfl (e := 526) rfl rfl ?_
  refine wx_iload_n rfl (e := 527) rfl rfl ?_
  refine wx_iconst (v := (nI 3)) rfl (e := 528) rfl (by decide) ?_
  refine wn_iadd rfl (e := 529) rfl ?_
  refine wn_iald rfl (e := 530) rfl rfl (by omega) (by omega) ?_
  rw [hx2]
  refine wx_cv3 (mc := 0) (ms := 0) rfl (e := 533) rfl rfl (Nat.le_of_ble_eq_true rfl) ⟨by decide, by decide⟩ ?_
  refine c_X11_steal (hI.up A2) hg (fun I3 B3 M3 => ?_)
  refine wx_ic_eq rfl (e := 536) rfl (fun c_533 => ?_) (fun c_533 => absurd rfl c_533)
  exact next t rt lv _ I3 G (H.act C2 A2 B3 M3 (ok_steal hT hg _ _ _) (gT_tSteal s _ _ _))
set_option maxRecDepth 100000 in
set_option maxHeartbeats 8000000 in
theorem lwc_10 {Lx t rt lv n i : Nat} {xs : Nat → Int32} {s : gs} {I : Nat → Nat → Int32} {G : Nat → Nat → Int64} {Q : ab_Q} (hLx : Lx ≤ 3072) (hi : i + 6 ≤ Lx) (hn : n ≤ 512) (H : LI xs t lv n s I G) (next : ∀ t2 rt2 lv2 s2 I2 G2, LI xs t2 lv2 (n + 1) s2 I2 G2 → WP 100 mL_law Q 1470 [some (.ref 1000000), some (.ref 0), some (.ref 55), some (.int (nI i))] [] (hp Lx t2 rt2 t2 I2 G2) 99 19447) : WP 100 mL_law Q 538 [some (.ref 1000000), some (.ref 0), some (.ref 55), some (.int (nI i))] [] (hp Lx t rt t I G) 99 19447 := by
  obtain ⟨hC, hI, hML, hg, hCW, hWm, hs⟩ := id H
  have ht := hC.1.1
  have hT := hC.1.2.1
  have hx : ∀ k, I 1000000 k = xs k := fun k => by rw [hs 1000000 (by decide)]; rfl
  refine wx_aload_n rfl (e := 539) rfl rfl ?_
  refine wx_aload_n rfl (e := 540) rfl rfl ?_
  refine wx_iload_n rfl (e := 541) rfl rfl ?_
  refine wx_iconst (v := (nI 1)) rfl (e := 542) rfl (by decide) ?_
  refine wn_iadd rfl (e := 543) rfl ?_
  refine wn_iald rfl (e := 544) rfl rfl (by omega) (by omega) ?_
  rw [hx]
  refine wx_aload_n rfl (e := 545) rfl rfl ?_
  refine wx_iload_n rfl (e := 546) rfl rfl ?_
  refine wx_iconst (v := (nI 2)) rfl (e := 547) rfl (by decide) ?_
  refine wn_iadd rfl (e := 548) rfl ?_
  refine wn_iald rfl (e := 549) rfl rfl (by omega) (by omega) ?_
  rw [hx]
  refine wx_cv2 (mc := 0) (ms := 0) rfl (e := 552) rfl rfl (Nat.le_of_ble_eq_true rfl) ⟨by decide, by decide⟩ ?_
  refine c_X10_swap hC hg (fun I2 A2 C2 => ?_)
  have hx2 : ∀ k, I2 1000000 k = xs k := fun k => by rw [A2 1000000 (by decide)]; exact hx k
  refine wx_aload_n rfl (e := 553) rfl rfl ?_
  refine wx_aload_n rfl (e := 554) rfl rfl ?_
  refine wx_iload_n rfl (e := 555) rfl rfl ?_
  refine wx_iconst (v := (nI 1)) rfl (e := 556) rfl (by decide) ?_
  refine wn_iadd rfl (e := 557) rfl ?_
  refine wn_iald rfl (e := 558) rfl rfl (by omega) (by omega) ?_
  rw [hx2]
  refine wx_aload_n rfl (e := 559) rfl rfl ?_
  refine wx_iload_n rfl (e := 560) rfl rfl ?_
  refine wx_iconst (v := (nI 2)) rfl (e := 561) rfl (by decide) ?_
  refine wn_iadd rfl (e := 562) rfl ?_
  refine wn_iald rfl (e := 563) rfl rfl (by omega) (by omega) ?_
  rw [hx2]
  refine wx_cv2 (mc := 0) (ms := 0) rfl (e := 566) rfl rfl (Nat.le_of_ble_eq_true rfl) ⟨by decide, by decide⟩ ?_
  refine c_X11_swap (hI.up A2) hg (fun I3 B3 M3 => ?_)
  refine wx_ic_eq rfl (e := 569) rfl (fun c_566 => ?_) (fun c_566 => absurd rfl c_566)
  exact next t rt lv _ I3 G (H.act C2 A2 B3 M3 (ok_swap hT hg _ _) (gT_tSwap s _ _))
set_option maxRecDepth 100000 in
set_option maxHeartbeats 8000000 in
theorem lwc_11 {Lx t rt lv n i : Nat} {xs : Nat → Int32} {s : gs} {I : Nat → Nat → Int32} {G : Nat → Nat → Int64} {Q : ab_Q} (hLx : Lx ≤ 3072) (hi : i + 6 ≤ Lx) (hn : n ≤ 512) (H : LI xs t lv n s I G) (next : ∀ t2 rt2 lv2 s2 I2 G2, LI xs t2 lv2 (n + 1) s2 I2 G2 → WP 100 mL_law Q 1470 [some (.ref 1000000), some (.ref 0), some (.ref 55), some (.int (nI i))] [] (hp Lx t2 rt2 t2 I2 G2) 99 19447) : WP 100 mL_law Q 571 [some (.ref 1000000), some (.ref 0), some (.ref 55), some (.int (nI i))] [] (hp Lx t rt t I G) 99 19447 := by
  obtain ⟨hC, hI, hML, hg, hCW, hWm, hs⟩ := id H
  have ht := hC.1.1
  have hT := hC.1.2.1
  have hx : ∀ k, I 1000000 k = xs k := fun k => by rw [hs 1000000 (by decide)]; rfl
  refine wx_aload_n rfl (e := 572) rfl rfl ?_
  refine wx_aload_n rfl (e := 573) rfl rfl ?_
  refine wx_iload_n rfl (e := 574) rfl rfl ?_
  refine wx_iconst (v := (nI 1)) rfl (e := 575) rfl (by decide) ?_
  refine wn_iadd rfl (e := 576) rfl ?_
  refine wn_iald rfl (e := 577) rfl rfl (by omega) (by omega) ?_
  rw [hx]
  refine wx_aload_n rfl (e := 578) rfl rfl ?_
  refine wx_iload_n rfl (e := 579) rfl rfl ?_
  refine wx_iconst (v := (nI 2)) rfl (e := 580) rfl (by decide) ?_
  refine wn_iadd rfl (e := 581) rfl ?_
  refine wn_iald rfl (e := 582) rfl rfl (by omega) (by omega) ?_
  rw [hx]
  refine wx_cv2 (mc := 0) (ms := 0) rfl (e := 585) rfl rfl (Nat.le_of_ble_eq_true rfl) ⟨by decide, by decide⟩ ?_
  refine c_X10_watch hC hg (fun I2 A2 C2 => ?_)
  have hx2 : ∀ k, I2 1000000 k = xs k := fun k => by rw [A2 1000000 (by decide)]; exact hx k
  refine wx_aload_n rfl (e := 586) rfl rfl ?_
  refine wx_aload_n rfl (e := 587) rfl rfl ?_
  refine wx_iload_n rfl (e := 588) rfl rfl ?_
  refine wx_iconst (v := (nI 1)) rfl (e := 589) rfl (by decide) ?_
  refine wn_iadd rfl (e := 590) rfl ?_
  refine wn_iald rfl (e := 591) rfl rfl (by omega) (by omega) ?_
  rw [hx2]
  refine wx_aload_n rfl (e := 592) rfl rfl ?_
  refine wx_iload_n rfl (e := 593) rfl rfl ?_
  refine wx_iconst (v := (nI 2)) rfl (e := 594) rfl (by decide) ?_
  refine wn_iadd rfl (e := 595) rfl ?_
  refine wn_iald rfl (e := 596) rfl rfl (by omega) (by omega) ?_
  rw [hx2]
  refine wx_cv2 (mc := 0) (ms := 0) rfl (e := 599) rfl rfl (Nat.le_of_ble_eq_true rfl) ⟨by decide, by decide⟩ ?_
  refine c_X11_watch (hI.up A2) hg (fun I3 B3 M3 => ?_)
  refine wx_ic_eq rfl (e := 602) rfl (fun c_599 => ?_) (fun c_599 => absurd rfl c_599)
  exact next t rt lv _ I3 G (H.act C2 A2 B3 M3 (ok_watch hT hg _ _) (gT_tWatch s _ _))
set_option maxRecDepth 100000 in
set_option maxHeartbeats 8000000 in
theorem lwc_12 {Lx t rt lv n i : Nat} {xs : Nat → Int32} {s : gs} {I : Nat → Nat → Int32} {G : Nat → Nat → Int64} {Q : ab_Q} (hLx : Lx ≤ 3072) (hi : i + 6 ≤ Lx) (hn : n ≤ 512) (H : LI xs t lv n s I G) (next : ∀ t2 rt2 lv2 s2 I2 G2, LI xs t2 lv2 (n + 1) s2 I2 G2 → WP 100 mL_law Q 1470 [some (.ref 1000000), some (.ref 0), some (.ref 55), some (.int (nI i))] [] (hp Lx t2 rt2 t2 I2 G2) 99 19447) : WP 100 mL_law Q 604 [some (.ref 1000000), some (.ref 0), some (.ref 55), some (.int (nI i))] [] (hp Lx t rt t I G) 99 19447 := by
  obtain ⟨hC, hI, hML, hg, hCW, hWm, hs⟩ := id H
  have ht := hC.1.1
  have hT := hC.1.2.1
  have hx : ∀ k, I 1000000 k = xs k := fun k => by rw [hs 1000000 (by decide)]; rfl
  refine wx_aload_n rfl (e := 605) rfl rfl ?_
  refine wx_aload_n rfl (e := 606) rfl rfl ?_
  refine wx_iload_n rfl (e := 607) rfl rfl ?_
  refine wx_iconst (v := (nI 1)) rfl (e := 608) rfl (by decide) ?_
  refine wn_iadd rfl (e := 609) rfl ?_
  refine wn_iald rfl (e := 610) rfl rfl (by omega) (by omega) ?_
  rw [hx]
  refine wx_cv1 (mc := 0) (ms := 0) rfl (e := 613) rfl rfl (Nat.le_of_ble_eq_true rfl) ⟨by decide, by decide⟩ ?_
  refine c_X10_years hC hg (fun I2 A2 C2 => ?_)
  have hx2 : ∀ k, I2 1000000 k = xs k := fun k => by rw [A2 1000000 (by decide)]; exact hx k
  refine wx_aload_n rfl (e := 614) rfl rfl ?_
  refine wx_aload_n rfl (e := 615) rfl rfl ?_
  refine wx_iload_n rfl (e := 616) rfl rfl ?_
  refine wx_iconst (v := (nI 1)) rfl (e := 617) rfl (by decide) ?_
  refine wn_iadd rfl (e := 618) rfl ?_
  refine wn_iald rfl (e := 619) rfl rfl (by omega) (by omega) ?_
  rw [hx2]
  refine wx_cv1 (mc := 0) (ms := 0) rfl (e := 622) rfl rfl (Nat.le_of_ble_eq_true rfl) ⟨by decide, by decide⟩ ?_
  refine c_X11_years (hI.up A2) hg (fun I3 B3 M3 => ?_)
  refine wx_ic_eq rfl (e := 625) rfl (fun c_622 => ?_) (fun c_622 => absurd rfl c_622)
  exact next t rt lv _ I3 G (H.act C2 A2 B3 M3 (ok_years hT hg _) (gT_tYears s _))
set_option maxRecDepth 100000 in
set_option maxHeartbeats 8000000 in
theorem lwc_13 {Lx t rt lv n i : Nat} {xs : Nat → Int32} {s : gs} {I : Nat → Nat → Int32} {G : Nat → Nat → Int64} {Q : ab_Q} (hLx : Lx ≤ 3072) (hi : i + 6 ≤ Lx) (hn : n ≤ 512) (H : LI xs t lv n s I G) (next : ∀ t2 rt2 lv2 s2 I2 G2, LI xs t2 lv2 (n + 1) s2 I2 G2 → WP 100 mL_law Q 1470 [some (.ref 1000000), some (.ref 0), some (.ref 55), some (.int (nI i))] [] (hp Lx t2 rt2 t2 I2 G2) 99 19447) : WP 100 mL_law Q 627 [some (.ref 1000000), some (.ref 0), some (.ref 55), some (.int (nI i))] [] (hp Lx t rt t I G) 99 19447 := by
  obtain ⟨hC, hI, hML, hg, hCW, hWm, hs⟩ := id H
  have ht := hC.1.1
  have hT := hC.1.2.1
  have hx : ∀ k, I 1000000 k = xs k := fun k => by rw [hs 1000000 (by decide)]; rfl
  refine wx_aload_n rfl (e := 628) rfl rfl ?_
  refine wx_cv0 (mc := 0) (ms := 0) rfl (e := 631) rfl rfl (Nat.le_of_ble_eq_true rfl) ⟨by decide, by decide⟩ ?_
  refine c_X10_undo hC hg (fun I2 A2 C2 => ?_)
  have hx2 : ∀ k, I2 1000000 k = xs k := fun k => by rw [A2 1000000 (by decide)]; exact hx k
  refine wx_aload_n rfl (e := 632) rfl rfl ?_
  refine wx_cv0 (mc := 0) (ms := 0) rfl (e := 635) rfl rfl (Nat.le_of_ble_eq_true rfl) ⟨by decide, by decide⟩ ?_
  refine c_X11_undo (hI.up A2) hg (fun I3 B3 M3 => ?_)
  refine wx_ic_eq rfl (e := 638) rfl (fun c_635 => ?_) (fun c_635 => absurd rfl c_635)
  exact next t rt lv _ I3 G (H.act C2 A2 B3 M3 (ok_undo hg) (gT_tUndo s))
set_option maxRecDepth 100000 in
set_option maxHeartbeats 8000000 in
theorem lwc_14 {Lx t rt lv n i : Nat} {xs : Nat → Int32} {s : gs} {I : Nat → Nat → Int32} {G : Nat → Nat → Int64} {Q : ab_Q} (hLx : Lx ≤ 3072) (hi : i + 6 ≤ Lx) (hn : n ≤ 512) (H : LI xs t lv n s I G) (next : ∀ t2 rt2 lv2 s2 I2 G2, LI xs t2 lv2 (n + 1) s2 I2 G2 → WP 100 mL_law Q 1470 [some (.ref 1000000), some (.ref 0), some (.ref 55), some (.int (nI i))] [] (hp Lx t2 rt2 t2 I2 G2) 99 19447) : WP 100 mL_law Q 640 [some (.ref 1000000), some (.ref 0), some (.ref 55), some (.int (nI i))] [] (hp Lx t rt t I G) 99 19447 := by
  obtain ⟨hC, hI, hML, hg, hCW, hWm, hs⟩ := id H
  have ht := hC.1.1
  have hT := hC.1.2.1
  have hx : ∀ k, I 1000000 k = xs k := fun k => by rw [hs 1000000 (by decide)]; rfl
  refine wx_aload_n rfl (e := 641) rfl rfl ?_
  refine wx_aload_n rfl (e := 642) rfl rfl ?_
  refine wx_iload_n rfl (e := 643) rfl rfl ?_
  refine wx_iconst (v := (nI 1)) rfl (e := 644) rfl (by decide) ?_
  refine wn_iadd rfl (e := 645) rfl ?_
  refine wn_iald rfl (e := 646) rfl rfl (by omega) (by omega) ?_
  rw [hx]
  refine wx_cv1 (mc := 0) (ms := 0) rfl (e := 649) rfl rfl (Nat.le_of_ble_eq_true rfl) ⟨by decide, by decide⟩ ?_
  refine c_X10_goes hC hg (fun I2 f2 => ?_)
  have A2 := f2.up ht
  have hx2 : ∀ k, I2 1000000 k = xs k := fun k => by rw [A2 1000000 (by decide)]; exact hx k
  refine wx_aload_n rfl (e := 650) rfl rfl ?_
  refine wx_aload_n rfl (e := 651) rfl rfl ?_
  refine wx_iload_n rfl (e := 652) rfl rfl ?_
  refine wx_iconst (v := (nI 1)) rfl (e := 653) rfl (by decide) ?_
  refine wn_iadd rfl (e := 654) rfl ?_
  refine wn_iald rfl (e := 655) rfl rfl (by omega) (by omega) ?_
  rw [hx2]
  refine wx_cv1 (mc := 0) (ms := 0) rfl (e := 658) rfl rfl (Nat.le_of_ble_eq_true rfl) ⟨by decide, by decide⟩ ?_
  refine c_X11_goes (hI.up A2) hg (fun I3 f3 => ?_)
  refine wx_ic_eq rfl (e := 661) rfl (fun c_658 => ?_) (fun c_658 => absurd rfl c_658)
  exact next t rt lv s I3 G (H.ask (hC.q f2) A2 f3)
set_option maxRecDepth 100000 in
set_option maxHeartbeats 8000000 in
theorem lwc_15 {Lx t rt lv n i : Nat} {xs : Nat → Int32} {s : gs} {I : Nat → Nat → Int32} {G : Nat → Nat → Int64} {Q : ab_Q} (hLx : Lx ≤ 3072) (hi : i + 6 ≤ Lx) (hn : n ≤ 512) (H : LI xs t lv n s I G) (next : ∀ t2 rt2 lv2 s2 I2 G2, LI xs t2 lv2 (n + 1) s2 I2 G2 → WP 100 mL_law Q 1470 [some (.ref 1000000), some (.ref 0), some (.ref 55), some (.int (nI i))] [] (hp Lx t2 rt2 t2 I2 G2) 99 19447) : WP 100 mL_law Q 663 [some (.ref 1000000), some (.ref 0), some (.ref 55), some (.int (nI i))] [] (hp Lx t rt t I G) 99 19447 := by
  obtain ⟨hC, hI, hML, hg, hCW, hWm, hs⟩ := id H
  have ht := hC.1.1
  have hT := hC.1.2.1
  have hx : ∀ k, I 1000000 k = xs k := fun k => by rw [hs 1000000 (by decide)]; rfl
  refine wx_aload_n rfl (e := 664) rfl rfl ?_
  refine wx_aload_n rfl (e := 665) rfl rfl ?_
  refine wx_iload_n rfl (e := 666) rfl rfl ?_
  refine wx_iconst (v := (nI 1)) rfl (e := 667) rfl (by decide) ?_
  refine wn_iadd rfl (e := 668) rfl ?_
  refine wn_iald rfl (e := 669) rfl rfl (by omega) (by omega) ?_
  rw [hx]
  refine wx_aload_n rfl (e := 670) rfl rfl ?_
  refine wx_iload_n rfl (e := 671) rfl rfl ?_
  refine wx_iconst (v := (nI 2)) rfl (e := 672) rfl (by decide) ?_
  refine wn_iadd rfl (e := 673) rfl ?_
  refine wn_iald rfl (e := 674) rfl rfl (by omega) (by omega) ?_
  rw [hx]
  refine wx_cv2 (mc := 0) (ms := 0) rfl (e := 677) rfl rfl (Nat.le_of_ble_eq_true rfl) ⟨by decide, by decide⟩ ?_
  refine c_X10_theft hC hg (fun I2 f2 => ?_)
  have A2 := f2.up ht
  have hx2 : ∀ k, I2 1000000 k = xs k := fun k => by rw [A2 1000000 (by decide)]; exact hx k
  refine wx_aload_n rfl (e := 678) rfl rfl ?_
  refine wx_aload_n rfl (e := 679) rfl rfl ?_
  refine wx_iload_n rfl (e := 680) rfl rfl ?_
  refine wx_iconst (v := (nI 1)) rfl (e := 681) rfl (by decide) ?_
  refine wn_iadd rfl (e := 682) rfl ?_
  refine wn_iald rfl (e := 683) rfl rfl (by omega) (by omega) ?_
  rw [hx2]
  refine wx_aload_n rfl (e := 684) rfl rfl ?_
  refine wx_iload_n rfl (e := 685) rfl rfl ?_
  refine wx_iconst (v := (nI 2)) rfl (e := 686) rfl (by decide) ?_
  refine wn_iadd rfl (e := 687) rfl ?_
  refine wn_iald rfl (e := 688) rfl rfl (by omega) (by omega) ?_
  rw [hx2]
  refine wx_cv2 (mc := 0) (ms := 0) rfl (e := 691) rfl rfl (Nat.le_of_ble_eq_true rfl) ⟨by decide, by decide⟩ ?_
  refine c_X11_theft (hI.up A2) hg (fun I3 f3 => ?_)
  refine wx_ic_eq rfl (e := 694) rfl (fun c_691 => ?_) (fun c_691 => absurd rfl c_691)
  exact next t rt lv s I3 G (H.ask (hC.q f2) A2 f3)
set_option maxRecDepth 100000 in
set_option maxHeartbeats 8000000 in
theorem lwc_16 {Lx t rt lv n i : Nat} {xs : Nat → Int32} {s : gs} {I : Nat → Nat → Int32} {G : Nat → Nat → Int64} {Q : ab_Q} (hLx : Lx ≤ 3072) (hi : i + 6 ≤ Lx) (hn : n ≤ 512) (H : LI xs t lv n s I G) (next : ∀ t2 rt2 lv2 s2 I2 G2, LI xs t2 lv2 (n + 1) s2 I2 G2 → WP 100 mL_law Q 1470 [some (.ref 1000000), some (.ref 0), some (.ref 55), some (.int (nI i))] [] (hp Lx t2 rt2 t2 I2 G2) 99 19447) : WP 100 mL_law Q 696 [some (.ref 1000000), some (.ref 0), some (.ref 55), some (.int (nI i))] [] (hp Lx t rt t I G) 99 19447 := by
  obtain ⟨hC, hI, hML, hg, hCW, hWm, hs⟩ := id H
  have ht := hC.1.1
  have hT := hC.1.2.1
  have hx : ∀ k, I 1000000 k = xs k := fun k => by rw [hs 1000000 (by decide)]; rfl
  refine wx_aload_n rfl (e := 697) rfl rfl ?_
  refine wx_aload_n rfl (e := 698) rfl rfl ?_
  refine wx_iload_n rfl (e := 699) rfl rfl ?_
  refine wx_iconst (v := (nI 1)) rfl (e := 700) rfl (by decide) ?_
  refine wn_iadd rfl (e := 701) rfl ?_
  refine wn_iald rfl (e := 702) rfl rfl (by omega) (by omega) ?_
  rw [hx]
  refine wx_cv1 (mc := 0) (ms := 0) rfl (e := 705) rfl rfl (Nat.le_of_ble_eq_true rfl) ⟨by decide, by decide⟩ ?_
  refine c_X10_nights hC hg (fun I2 f2 => ?_)
  have A2 := f2.up ht
  have hx2 : ∀ k, I2 1000000 k = xs k := fun k => by rw [A2 1000000 (by decide)]; exact hx k
  refine wx_aload_n rfl (e := 706) rfl rfl ?_
  refine wx_aload_n rfl (e := 707) rfl rfl ?_
  refine wx_iload_n rfl (e := 708) rfl rfl ?_
  refine wx_iconst (v := (nI 1)) rfl (e := 709) rfl (by decide) ?_
  refine wn_iadd rfl (e := 710) rfl ?_
  refine wn_iald rfl (e := 711) rfl rfl (by omega) (by omega) ?_
  rw [hx2]
  refine wx_cv1 (mc := 0) (ms := 0) rfl (e := 714) rfl rfl (Nat.le_of_ble_eq_true rfl) ⟨by decide, by decide⟩ ?_
  refine c_X11_nights (hI.up A2) hg (fun I3 f3 => ?_)
  refine wx_ic_eq rfl (e := 717) rfl (fun c_714 => ?_) (fun c_714 => absurd rfl c_714)
  exact next t rt lv s I3 G (H.ask (hC.q f2) A2 f3)
set_option maxRecDepth 100000 in
set_option maxHeartbeats 8000000 in
theorem lwc_17 {Lx t rt lv n i : Nat} {xs : Nat → Int32} {s : gs} {I : Nat → Nat → Int32} {G : Nat → Nat → Int64} {Q : ab_Q} (hLx : Lx ≤ 3072) (hi : i + 6 ≤ Lx) (hn : n ≤ 512) (H : LI xs t lv n s I G) (next : ∀ t2 rt2 lv2 s2 I2 G2, LI xs t2 lv2 (n + 1) s2 I2 G2 → WP 100 mL_law Q 1470 [some (.ref 1000000), some (.ref 0), some (.ref 55), some (.int (nI i))] [] (hp Lx t2 rt2 t2 I2 G2) 99 19447) : WP 100 mL_law Q 719 [some (.ref 1000000), some (.ref 0), some (.ref 55), some (.int (nI i))] [] (hp Lx t rt t I G) 99 19447 := by
  obtain ⟨hC, hI, hML, hg, hCW, hWm, hs⟩ := id H
  have ht := hC.1.1
  have hT := hC.1.2.1
  have hx : ∀ k, I 1000000 k = xs k := fun k => by rw [hs 1000000 (by decide)]; rfl
  refine wx_aload_n rfl (e := 720) rfl rfl ?_
  refine wx_aload_n rfl (e := 721) rfl rfl ?_
  refine wx_iload_n rfl (e := 722) rfl rfl ?_
  refine wx_iconst (v := (nI 1)) rfl (e := 723) rfl (by decide) ?_
  refine wn_iadd rfl (e := 724) rfl ?_
  refine wn_iald rfl (e := 725) rfl rfl (by omega) (by omega) ?_
  rw [hx]
  refine wx_aload_n rfl (e := 726) rfl rfl ?_
  refine wx_iload_n rfl (e := 727) rfl rfl ?_
  refine wx_iconst (v := (nI 2)) rfl (e := 728) rfl (by decide) ?_
  refine wn_iadd rfl (e := 729) rfl ?_
  refine wn_iald rfl (e := 730) rfl rfl (by omega) (by omega) ?_
  rw [hx]
  refine wx_aload_n rfl (e := 731) rfl rfl ?_
  refine wx_iload_n rfl (e := 732) rfl rfl ?_
  refine wx_iconst (v := (nI 3)) rfl (e := 733) rfl (by decide) ?_
  refine wn_iadd rfl (e := 734) rfl ?_
  refine wn_iald rfl (e := 735) rfl rfl (by omega) (by omega) ?_
  rw [hx]
  refine wx_cv3 (mc := 0) (ms := 0) rfl (e := 738) rfl rfl (Nat.le_of_ble_eq_true rfl) ⟨by decide, by decide⟩ ?_
  refine c_X10_worth hC hg (fun I2 f2 => ?_)
  have A2 := f2.up ht
  have hx2 : ∀ k, I2 1000000 k = xs k := fun k => by rw [A2 1000000 (by decide)]; exact hx k
  refine wx_aload_n rfl (e := 739) rfl rfl ?_
  refine wx_aload_n rfl (e := 740) rfl rfl ?_
  refine wx_iload_n rfl (e := 741) rfl rfl ?_
  refine wx_iconst (v := (nI 1)) rfl (e := 742) rfl (by decide) ?_
  refine wn_iadd rfl (e := 743) rfl ?_
  refine wn_iald rfl (e := 744) rfl rfl (by omega) (by omega) ?_
  rw [hx2]
  refine wx_aload_n rfl (e := 745) rfl rfl ?_
  refine wx_iload_n rfl (e := 746) rfl rfl ?_
  refine wx_iconst (v := (nI 2)) rfl (e := 747) rfl (by decide) ?_
  refine wn_iadd rfl (e := 748) rfl ?_
  refine wn_iald rfl (e := 749) rfl rfl (by omega) (by omega) ?_
  rw [hx2]
  refine wx_aload_n rfl (e := 750) rfl rfl ?_
  refine wx_iload_n rfl (e := 751) rfl rfl ?_
  refine wx_iconst (v := (nI 3)) rfl (e := 752) rfl (by decide) ?_
  refine wn_iadd rfl (e := 753) rfl ?_
  refine wn_iald rfl (e := 754) rfl rfl (by omega) (by omega) ?_
  rw [hx2]
  refine wx_cv3 (mc := 0) (ms := 0) rfl (e := 757) rfl rfl (Nat.le_of_ble_eq_true rfl) ⟨by decide, by decide⟩ ?_
  refine c_X11_worth (hI.up A2) hg (fun I3 f3 => ?_)
  refine wx_ic_eq rfl (e := 760) rfl (fun c_757 => ?_) (fun c_757 => absurd rfl c_757)
  exact next t rt lv s I3 G (H.ask (hC.q f2) A2 f3)
set_option maxRecDepth 100000 in
set_option maxHeartbeats 8000000 in
theorem lwc_18 {Lx t rt lv n i : Nat} {xs : Nat → Int32} {s : gs} {I : Nat → Nat → Int32} {G : Nat → Nat → Int64} {Q : ab_Q} (hLx : Lx ≤ 3072) (hi : i + 6 ≤ Lx) (hn : n ≤ 512) (H : LI xs t lv n s I G) (next : ∀ t2 rt2 lv2 s2 I2 G2, LI xs t2 lv2 (n + 1) s2 I2 G2 → WP 100 mL_law Q 1470 [some (.ref 1000000), some (.ref 0), some (.ref 55), some (.int (nI i))] [] (hp Lx t2 rt2 t2 I2 G2) 99 19447) : WP 100 mL_law Q 762 [some (.ref 1000000), some (.ref 0), some (.ref 55), some (.int (nI i))] [] (hp Lx t rt t I G) 99 19447 := by
  obtain ⟨hC, hI, hML, hg, hCW, hWm, hs⟩ := id H
  have ht := hC.1.1
  have hT := hC.1.2.1
  have hx : ∀ k, I 1000000 k = xs k := fun k => by rw [hs 1000000 (by decide)]; rfl
  refine wx_aload_n rfl (e := 763) rfl rfl ?_
  refine wx_aload_n rfl (e := 764) rfl rfl ?_
  refine wx_iload_n rfl (e := 765) rfl rfl ?_
  refine wx_iconst (v := (nI 1)) rfl (e := 766) rfl (by decide) ?_
  refine wn_iadd rfl (e := 767) rfl ?_
  refine wn_iald rfl (e := 768) rfl rfl (by omega) (by omega) ?_
  rw [hx]
  refine wx_aload_n rfl (e := 769) rfl rfl ?_
  refine wx_iload_n rfl (e := 770) rfl rfl ?_
  refine wx_iconst (v := (nI 2)) rfl (e := 771) rfl (by decide) ?_
  refine wn_iadd rfl (e := 772) rfl ?_
  refine wn_iald rfl (e := 773) rfl rfl (by omega) (by omega) ?_
  rw [hx]
  refine wx_aload_n rfl (e := 774) rfl rfl ?_
  refine wx_iload_n rfl (e := 775) rfl rfl ?_
  refine wx_iconst (v := (nI 3)) rfl (e := 776) rfl (by decide) ?_
  refine wn_iadd rfl (e := 777) rfl ?_
  refine wn_iald rfl (e := 778) rfl rfl (by omega) (by omega) ?_
  rw [hx]
  refine wx_cv3 (mc := 0) (ms := 0) rfl (e := 781) rfl rfl (Nat.le_of_ble_eq_true rfl) ⟨by decide, by decide⟩ ?_
  refine c_X10_guard hC hg (fun I2 f2 => ?_)
  have A2 := f2.up ht
  have hx2 : ∀ k, I2 1000000 k = xs k := fun k => by rw [A2 1000000 (by decide)]; exact hx k
  refine wx_aload_n rfl (e := 782) rfl rfl ?_
  refine wx_aload_n rfl (e := 783) rfl rfl ?_
  refine wx_iload_n rfl (e := 784) rfl rfl ?_
  refine wx_iconst (v := (nI 1)) rfl (e := 785) rfl (by decide) ?_
  refine wn_iadd rfl (e := 786) rfl ?_
  refine wn_iald rfl (e := 787) rfl rfl (by omega) (by omega) ?_
  rw [hx2]
  refine wx_aload_n rfl (e := 788) rfl rfl ?_
  refine wx_iload_n rfl (e := 789) rfl rfl ?_
  refine wx_iconst (v := (nI 2)) rfl (e := 790) rfl (by decide) ?_
  refine wn_iadd rfl (e := 791) rfl ?_
  refine wn_iald rfl (e := 792) rfl rfl (by omega) (by omega) ?_
  rw [hx2]
  refine wx_aload_n rfl (e := 793) rfl rfl ?_
  refine wx_iload_n rfl (e := 794) rfl rfl ?_
  refine wx_iconst (v := (nI 3)) rfl (e := 795) rfl (by decide) ?_
  refine wn_iadd rfl (e := 796) rfl ?_
  refine wn_iald rfl (e := 797) rfl rfl (by omega) (by omega) ?_
  rw [hx2]
  refine wx_cv3 (mc := 0) (ms := 0) rfl (e := 800) rfl rfl (Nat.le_of_ble_eq_true rfl) ⟨by decide, by decide⟩ ?_
  refine c_X11_guard (hI.up A2) hg (fun I3 f3 => ?_)
  refine wx_ic_eq rfl (e := 803) rfl (fun c_800 => ?_) (fun c_800 => absurd rfl c_800)
  exact next t rt lv s I3 G (H.ask (hC.q f2) A2 f3)
set_option maxRecDepth 100000 in
set_option maxHeartbeats 8000000 in
theorem lwc_19 {Lx t rt lv n i : Nat} {xs : Nat → Int32} {s : gs} {I : Nat → Nat → Int32} {G : Nat → Nat → Int64} {Q : ab_Q} (hLx : Lx ≤ 3072) (hi : i + 6 ≤ Lx) (hn : n ≤ 512) (H : LI xs t lv n s I G) (next : ∀ t2 rt2 lv2 s2 I2 G2, LI xs t2 lv2 (n + 1) s2 I2 G2 → WP 100 mL_law Q 1470 [some (.ref 1000000), some (.ref 0), some (.ref 55), some (.int (nI i))] [] (hp Lx t2 rt2 t2 I2 G2) 99 19447) : WP 100 mL_law Q 805 [some (.ref 1000000), some (.ref 0), some (.ref 55), some (.int (nI i))] [] (hp Lx t rt t I G) 99 19447 := by
  obtain ⟨hC, hI, hML, hg, hCW, hWm, hs⟩ := id H
  have ht := hC.1.1
  have hT := hC.1.2.1
  have hx : ∀ k, I 1000000 k = xs k := fun k => by rw [hs 1000000 (by decide)]; rfl
  refine wx_aload_n rfl (e := 806) rfl rfl ?_
  refine wx_aload_n rfl (e := 807) rfl rfl ?_
  refine wx_iload_n rfl (e := 808) rfl rfl ?_
  refine wx_iconst (v := (nI 1)) rfl (e := 809) rfl (by decide) ?_
  refine wn_iadd rfl (e := 810) rfl ?_
  refine wn_iald rfl (e := 811) rfl rfl (by omega) (by omega) ?_
  rw [hx]
  refine wx_aload_n rfl (e := 812) rfl rfl ?_
  refine wx_iload_n rfl (e := 813) rfl rfl ?_
  refine wx_iconst (v := (nI 2)) rfl (e := 814) rfl (by decide) ?_
  refine wn_iadd rfl (e := 815) rfl ?_
  refine wn_iald rfl (e := 816) rfl rfl (by omega) (by omega) ?_
  rw [hx]
  refine wx_cv2 (mc := 0) (ms := 0) rfl (e := 819) rfl rfl (Nat.le_of_ble_eq_true rfl) ⟨by decide, by decide⟩ ?_
  refine c_X10_guards hC hg (fun I2 f2 => ?_)
  have A2 := f2.up ht
  have hx2 : ∀ k, I2 1000000 k = xs k := fun k => by rw [A2 1000000 (by decide)]; exact hx k
  refine wx_aload_n rfl (e := 820) rfl rfl ?_
  refine wx_aload_n rfl (e := 821) rfl rfl ?_
  refine wx_iload_n rfl (e := 822) rfl rfl ?_
  refine wx_iconst (v := (nI 1)) rfl (e := 823) rfl (by decide) ?_
  refine wn_iadd rfl (e := 824) rfl ?_
  refine wn_iald rfl (e := 825) rfl rfl (by omega) (by omega) ?_
  rw [hx2]
  refine wx_aload_n rfl (e := 826) rfl rfl ?_
  refine wx_iload_n rfl (e := 827) rfl rfl ?_
  refine wx_iconst (v := (nI 2)) rfl (e := 828) rfl (by decide) ?_
  refine wn_iadd rfl (e := 829) rfl ?_
  refine wn_iald rfl (e := 830) rfl rfl (by omega) (by omega) ?_
  rw [hx2]
  refine wx_cv2 (mc := 0) (ms := 0) rfl (e := 833) rfl rfl (Nat.le_of_ble_eq_true rfl) ⟨by decide, by decide⟩ ?_
  refine c_X11_guards (hI.up A2) hg (fun I3 f3 => ?_)
  refine wx_ic_eq rfl (e := 836) rfl (fun c_833 => ?_) (fun c_833 => absurd rfl c_833)
  exact next t rt lv s I3 G (H.ask (hC.q f2) A2 f3)

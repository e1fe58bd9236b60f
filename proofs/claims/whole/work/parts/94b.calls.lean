/-! the law: a call of each kind -/
set_option maxRecDepth 100000 in
set_option maxHeartbeats 8000000 in
theorem lwc_20 {Lx t rt lv n i : Nat} {xs : Nat → Int32} {s : gs} {I : Nat → Nat → Int32} {G : Nat → Nat → Int64} {Q : ab_Q} (hLx : Lx ≤ 3072) (hi : i + 6 ≤ Lx) (hn : n ≤ 512) (H : LI xs t lv n s I G) (next : ∀ t2 rt2 lv2 s2 I2 G2, LI xs t2 lv2 (n + 1) s2 I2 G2 → WP 100 mL_law Q 1470 [some (.ref 1000000), some (.ref 0), some (.ref 55), some (.int (nI i))] [] (hp Lx t2 rt2 t2 I2 G2) 99 19447) : WP 100 mL_law Q 838 [some (.ref 1000000), some (.ref 0), some (.ref 55), some (.int (nI i))] [] (hp Lx t rt t I G) 99 19447 := by
  obtain ⟨hC, hI, hML, hg, hCW, hWm, hs⟩ := id H
  have ht := hC.1.1
  have hT := hC.1.2.1
  have hx : ∀ k, I 1000000 k = xs k := fun k => by rw [hs 1000000 (by decide)]; rfl
  refine wx_aload_n rfl (e := 839) rfl rfl ?_
  refine wx_aload_n rfl (e := 840) rfl rfl ?_
  refine wx_iload_n rfl (e := 841) rfl rfl ?_
  refine wx_iconst (v := (nI 1)) rfl (e := 842) rfl (by decide) ?_
  refine wn_iadd rfl (e := 843) rfl ?_
  refine wn_iald rfl (e := 844) rfl rfl (by omega) (by omega) ?_
  rw [hx]
  refine wx_cv1 (mc := 0) (ms := 0) rfl (e := 847) rfl rfl (Nat.le_of_ble_eq_true rfl) ⟨by decide, by decide⟩ ?_
  refine c_X10_weak hC hg (fun I2 f2 => ?_)
  have A2 := f2.up ht
  have hx2 : ∀ k, I2 1000000 k = xs k := fun k => by rw [A2 1000000 (by decide)]; exact hx k
  refine wx_aload_n rfl (e := 848) rfl rfl ?_
  refine wx_aload_n rfl (e := 849) rfl rfl ?_
  refine wx_iload_n rfl (e := 850) rfl rfl ?_
  refine wx_iconst (v := (nI 1)) rfl (e := 851) rfl (by decide) ?_
  refine wn_iadd rfl (e := 852) rfl ?_
  refine wn_iald rfl (e := 853) rfl rfl (by omega) (by omega) ?_
  rw [hx2]
  refine wx_cv1 (mc := 0) (ms := 0) rfl (e := 856) rfl rfl (Nat.le_of_ble_eq_true rfl) ⟨by decide, by decide⟩ ?_
  refine c_X11_weak (hI.up A2) hg (fun I3 f3 => ?_)
  refine wx_ic_eq rfl (e := 859) rfl (fun c_856 => ?_) (fun c_856 => absurd rfl c_856)
  exact next t rt lv s I3 G (H.ask (hC.q f2) A2 f3)
set_option maxRecDepth 100000 in
set_option maxHeartbeats 8000000 in
theorem lwc_21 {Lx t rt lv n i : Nat} {xs : Nat → Int32} {s : gs} {I : Nat → Nat → Int32} {G : Nat → Nat → Int64} {Q : ab_Q} (hLx : Lx ≤ 3072) (hi : i + 6 ≤ Lx) (hn : n ≤ 512) (H : LI xs t lv n s I G) (next : ∀ t2 rt2 lv2 s2 I2 G2, LI xs t2 lv2 (n + 1) s2 I2 G2 → WP 100 mL_law Q 1470 [some (.ref 1000000), some (.ref 0), some (.ref 55), some (.int (nI i))] [] (hp Lx t2 rt2 t2 I2 G2) 99 19447) : WP 100 mL_law Q 861 [some (.ref 1000000), some (.ref 0), some (.ref 55), some (.int (nI i))] [] (hp Lx t rt t I G) 99 19447 := by
  obtain ⟨hC, hI, hML, hg, hCW, hWm, hs⟩ := id H
  have ht := hC.1.1
  have hT := hC.1.2.1
  have hx : ∀ k, I 1000000 k = xs k := fun k => by rw [hs 1000000 (by decide)]; rfl
  refine wx_aload_n rfl (e := 862) rfl rfl ?_
  refine wx_aload_n rfl (e := 863) rfl rfl ?_
  refine wx_iload_n rfl (e := 864) rfl rfl ?_
  refine wx_iconst (v := (nI 1)) rfl (e := 865) rfl (by decide) ?_
  refine wn_iadd rfl (e := 866) rfl ?_
  refine wn_iald rfl (e := 867) rfl rfl (by omega) (by omega) ?_
  rw [hx]
  refine wx_aload_n rfl (e := 868) rfl rfl ?_
  refine wx_iload_n rfl (e := 869) rfl rfl ?_
  refine wx_iconst (v := (nI 2)) rfl (e := 870) rfl (by decide) ?_
  refine wn_iadd rfl (e := 871) rfl ?_
  refine wn_iald rfl (e := 872) rfl rfl (by omega) (by omega) ?_
  rw [hx]
  refine wx_cv2 (mc := 0) (ms := 0) rfl (e := 875) rfl rfl (Nat.le_of_ble_eq_true rfl) ⟨by decide, by decide⟩ ?_
  refine c_X10_barter hC hg (fun I2 f2 => ?_)
  have A2 := f2.up ht
  have hx2 : ∀ k, I2 1000000 k = xs k := fun k => by rw [A2 1000000 (by decide)]; exact hx k
  refine wx_aload_n rfl (e := 876) rfl rfl ?_
  refine wx_aload_n rfl (e := 877) rfl rfl ?_
  refine wx_iload_n rfl (e := 878) rfl rfl ?_
  refine wx_iconst (v := (nI 1)) rfl (e := 879) rfl (by decide) ?_
  refine wn_iadd rfl (e := 880) rfl ?_
  refine wn_iald rfl (e := 881) rfl rfl (by omega) (by omega) ?_
  rw [hx2]
  refine wx_aload_n rfl (e := 882) rfl rfl ?_
  refine wx_iload_n rfl (e := 883) rfl rfl ?_
  refine wx_iconst (v := (nI 2)) rfl (e := 884) rfl (by decide) ?_
  refine wn_iadd rfl (e := 885) rfl ?_
  refine wn_iald rfl (e := 886) rfl rfl (by omega) (by omega) ?_
  rw [hx2]
  refine wx_cv2 (mc := 0) (ms := 0) rfl (e := 889) rfl rfl (Nat.le_of_ble_eq_true rfl) ⟨by decide, by decide⟩ ?_
  refine c_X11_barter (hI.up A2) hg (by omega) (fun I3 f3 => ?_)
  refine wx_ic_eq rfl (e := 892) rfl (fun c_889 => ?_) (fun c_889 => absurd rfl c_889)
  exact next t rt lv s I3 G (H.ask (hC.q f2) A2 f3)
set_option maxRecDepth 100000 in
set_option maxHeartbeats 8000000 in
theorem lwc_22 {Lx t rt lv n i : Nat} {xs : Nat → Int32} {s : gs} {I : Nat → Nat → Int32} {G : Nat → Nat → Int64} {Q : ab_Q} (hLx : Lx ≤ 3072) (hi : i + 6 ≤ Lx) (hn : n ≤ 512) (H : LI xs t lv n s I G) (next : ∀ t2 rt2 lv2 s2 I2 G2, LI xs t2 lv2 (n + 1) s2 I2 G2 → WP 100 mL_law Q 1470 [some (.ref 1000000), some (.ref 0), some (.ref 55), some (.int (nI i))] [] (hp Lx t2 rt2 t2 I2 G2) 99 19447) : WP 100 mL_law Q 894 [some (.ref 1000000), some (.ref 0), some (.ref 55), some (.int (nI i))] [] (hp Lx t rt t I G) 99 19447 := by
  obtain ⟨hC, hI, hML, hg, hCW, hWm, hs⟩ := id H
  have ht := hC.1.1
  have hT := hC.1.2.1
  have hx : ∀ k, I 1000000 k = xs k := fun k => by rw [hs 1000000 (by decide)]; rfl
  refine wx_aload_n rfl (e := 895) rfl rfl ?_
  refine wx_aload_n rfl (e := 896) rfl rfl ?_
  refine wx_iload_n rfl (e := 897) rfl rfl ?_
  refine wx_iconst (v := (nI 1)) rfl (e := 898) rfl (by decide) ?_
  refine wn_iadd rfl (e := 899) rfl ?_
  refine wn_iald rfl (e := 900) rfl rfl (by omega) (by omega) ?_
  rw [hx]
  refine wx_aload_n rfl (e := 901) rfl rfl ?_
  refine wx_iload_n rfl (e := 902) rfl rfl ?_
  refine wx_iconst (v := (nI 2)) rfl (e := 903) rfl (by decide) ?_
  refine wn_iadd rfl (e := 904) rfl ?_
  refine wn_iald rfl (e := 905) rfl rfl (by omega) (by omega) ?_
  rw [hx]
  refine wx_cv2 (mc := 0) (ms := 0) rfl (e := 908) rfl rfl (Nat.le_of_ble_eq_true rfl) ⟨by decide, by decide⟩ ?_
  refine c_X10_took hC hg (fun I2 f2 => ?_)
  have A2 := f2.up ht
  have hx2 : ∀ k, I2 1000000 k = xs k := fun k => by rw [A2 1000000 (by decide)]; exact hx k
  refine wx_aload_n rfl (e := 909) rfl rfl ?_
  refine wx_aload_n rfl (e := 910) rfl rfl ?_
  refine wx_iload_n rfl (e := 911) rfl rfl ?_
  refine wx_iconst (v := (nI 1)) rfl (e := 912) rfl (by decide) ?_
  refine wn_iadd rfl (e := 913) rfl ?_
  refine wn_iald rfl (e := 914) rfl rfl (by omega) (by omega) ?_
  rw [hx2]
  refine wx_aload_n rfl (e := 915) rfl rfl ?_
  refine wx_iload_n rfl (e := 916) rfl rfl ?_
  refine wx_iconst (v := (nI 2)) rfl (e := 917) rfl (by decide) ?_
  refine wn_iadd rfl (e := 918) rfl ?_
  refine wn_iald rfl (e := 919) rfl rfl (by omega) (by omega) ?_
  rw [hx2]
  refine wx_cv2 (mc := 0) (ms := 0) rfl (e := 922) rfl rfl (Nat.le_of_ble_eq_true rfl) ⟨by decide, by decide⟩ ?_
  refine c_X11_took (hI.up A2) hg (fun I3 f3 => ?_)
  refine wx_ic_eq rfl (e := 925) rfl (fun c_922 => ?_) (fun c_922 => absurd rfl c_922)
  exact next t rt lv s I3 G (H.ask (hC.q f2) A2 f3)
set_option maxRecDepth 100000 in
set_option maxHeartbeats 8000000 in
theorem lwc_23 {Lx t rt lv n i : Nat} {xs : Nat → Int32} {s : gs} {I : Nat → Nat → Int32} {G : Nat → Nat → Int64} {Q : ab_Q} (hLx : Lx ≤ 3072) (hi : i + 6 ≤ Lx) (hn : n ≤ 512) (H : LI xs t lv n s I G) (next : ∀ t2 rt2 lv2 s2 I2 G2, LI xs t2 lv2 (n + 1) s2 I2 G2 → WP 100 mL_law Q 1470 [some (.ref 1000000), some (.ref 0), some (.ref 55), some (.int (nI i))] [] (hp Lx t2 rt2 t2 I2 G2) 99 19447) : WP 100 mL_law Q 927 [some (.ref 1000000), some (.ref 0), some (.ref 55), some (.int (nI i))] [] (hp Lx t rt t I G) 99 19447 := by
  obtain ⟨hC, hI, hML, hg, hCW, hWm, hs⟩ := id H
  have ht := hC.1.1
  have hT := hC.1.2.1
  have hx : ∀ k, I 1000000 k = xs k := fun k => by rw [hs 1000000 (by decide)]; rfl
  refine wx_aload_n rfl (e := 928) rfl rfl ?_
  refine wx_aload_n rfl (e := 929) rfl rfl ?_
  refine wx_iload_n rfl (e := 930) rfl rfl ?_
  refine wx_iconst (v := (nI 1)) rfl (e := 931) rfl (by decide) ?_
  refine wn_iadd rfl (e := 932) rfl ?_
  refine wn_iald rfl (e := 933) rfl rfl (by omega) (by omega) ?_
  rw [hx]
  refine wx_aload_n rfl (e := 934) rfl rfl ?_
  refine wx_iload_n rfl (e := 935) rfl rfl ?_
  refine wx_iconst (v := (nI 2)) rfl (e := 936) rfl (by decide) ?_
  refine wn_iadd rfl (e := 937) rfl ?_
  refine wn_iald rfl (e := 938) rfl rfl (by omega) (by omega) ?_
  rw [hx]
  refine wx_cv2 (mc := 0) (ms := 0) rfl (e := 941) rfl rfl (Nat.le_of_ble_eq_true rfl) ⟨by decide, by decide⟩ ?_
  refine c_X10_wonders hC hg (fun I2 f2 => ?_)
  have A2 := f2.up ht
  have hx2 : ∀ k, I2 1000000 k = xs k := fun k => by rw [A2 1000000 (by decide)]; exact hx k
  refine wx_aload_n rfl (e := 942) rfl rfl ?_
  refine wx_aload_n rfl (e := 943) rfl rfl ?_
  refine wx_iload_n rfl (e := 944) rfl rfl ?_
  refine wx_iconst (v := (nI 1)) rfl (e := 945) rfl (by decide) ?_
  refine wn_iadd rfl (e := 946) rfl ?_
  refine wn_iald rfl (e := 947) rfl rfl (by omega) (by omega) ?_
  rw [hx2]
  refine wx_aload_n rfl (e := 948) rfl rfl ?_
  refine wx_iload_n rfl (e := 949) rfl rfl ?_
  refine wx_iconst (v := (nI 2)) rfl (e := 950) rfl (by decide) ?_
  refine wn_iadd rfl (e := 951) rfl ?_
  refine wn_iald rfl (e := 952) rfl rfl (by omega) (by omega) ?_
  rw [hx2]
  refine wx_cv2 (mc := 0) (ms := 0) rfl (e := 955) rfl rfl (Nat.le_of_ble_eq_true rfl) ⟨by decide, by decide⟩ ?_
  refine c_X11_wonders (hI.up A2) hg (fun I3 f3 => ?_)
  refine wx_ic_eq rfl (e := 958) rfl (fun c_955 => ?_) (fun c_955 => absurd rfl c_955)
  exact next t rt lv s I3 G (H.ask (hC.q f2) A2 f3)
set_option maxRecDepth 100000 in
set_option maxHeartbeats 8000000 in
theorem lwc_24 {Lx t rt lv n i : Nat} {xs : Nat → Int32} {s : gs} {I : Nat → Nat → Int32} {G : Nat → Nat → Int64} {Q : ab_Q} (hLx : Lx ≤ 3072) (hi : i + 6 ≤ Lx) (hn : n ≤ 512) (H : LI xs t lv n s I G) (next : ∀ t2 rt2 lv2 s2 I2 G2, LI xs t2 lv2 (n + 1) s2 I2 G2 → WP 100 mL_law Q 1470 [some (.ref 1000000), some (.ref 0), some (.ref 55), some (.int (nI i))] [] (hp Lx t2 rt2 t2 I2 G2) 99 19447) : WP 100 mL_law Q 960 [some (.ref 1000000), some (.ref 0), some (.ref 55), some (.int (nI i))] [] (hp Lx t rt t I G) 99 19447 := by
  obtain ⟨hC, hI, hML, hg, hCW, hWm, hs⟩ := id H
  have ht := hC.1.1
  have hT := hC.1.2.1
  have hx : ∀ k, I 1000000 k = xs k := fun k => by rw [hs 1000000 (by decide)]; rfl
  refine wx_aload_n rfl (e := 961) rfl rfl ?_
  refine wx_aload_n rfl (e := 962) rfl rfl ?_
  refine wx_iload_n rfl (e := 963) rfl rfl ?_
  refine wx_iconst (v := (nI 1)) rfl (e := 964) rfl (by decide) ?_
  refine wn_iadd rfl (e := 965) rfl ?_
  refine wn_iald rfl (e := 966) rfl rfl (by omega) (by omega) ?_
  rw [hx]
  refine wx_aload_n rfl (e := 967) rfl rfl ?_
  refine wx_iload_n rfl (e := 968) rfl rfl ?_
  refine wx_iconst (v := (nI 2)) rfl (e := 969) rfl (by decide) ?_
  refine wn_iadd rfl (e := 970) rfl ?_
  refine wn_iald rfl (e := 971) rfl rfl (by omega) (by omega) ?_
  rw [hx]
  refine wx_cv2 (mc := 0) (ms := 0) rfl (e := 974) rfl rfl (Nat.le_of_ble_eq_true rfl) ⟨by decide, by decide⟩ ?_
  refine c_X10_goesIn hC hg (fun I2 f2 => ?_)
  have A2 := f2.up ht
  have hx2 : ∀ k, I2 1000000 k = xs k := fun k => by rw [A2 1000000 (by decide)]; exact hx k
  refine wx_aload_n rfl (e := 975) rfl rfl ?_
  refine wx_aload_n rfl (e := 976) rfl rfl ?_
  refine wx_iload_n rfl (e := 977) rfl rfl ?_
  refine wx_iconst (v := (nI 1)) rfl (e := 978) rfl (by decide) ?_
  refine wn_iadd rfl (e := 979) rfl ?_
  refine wn_iald rfl (e := 980) rfl rfl (by omega) (by omega) ?_
  rw [hx2]
  refine wx_aload_n rfl (e := 981) rfl rfl ?_
  refine wx_iload_n rfl (e := 982) rfl rfl ?_
  refine wx_iconst (v := (nI 2)) rfl (e := 983) rfl (by decide) ?_
  refine wn_iadd rfl (e := 984) rfl ?_
  refine wn_iald rfl (e := 985) rfl rfl (by omega) (by omega) ?_
  rw [hx2]
  refine wx_cv2 (mc := 0) (ms := 0) rfl (e := 988) rfl rfl (Nat.le_of_ble_eq_true rfl) ⟨by decide, by decide⟩ ?_
  refine c_X11_goesIn (hI.up A2) hg (fun I3 f3 => ?_)
  refine wx_ic_eq rfl (e := 991) rfl (fun c_988 => ?_) (fun c_988 => absurd rfl c_988)
  exact next t rt lv s I3 G (H.ask (hC.q f2) A2 f3)
set_option maxRecDepth 100000 in
set_option maxHeartbeats 8000000 in
theorem lwc_25 {Lx t rt lv n i : Nat} {xs : Nat → Int32} {s : gs} {I : Nat → Nat → Int32} {G : Nat → Nat → Int64} {Q : ab_Q} (hLx : Lx ≤ 3072) (hi : i + 6 ≤ Lx) (hn : n ≤ 512) (H : LI xs t lv n s I G) (next : ∀ t2 rt2 lv2 s2 I2 G2, LI xs t2 lv2 (n + 1) s2 I2 G2 → WP 100 mL_law Q 1470 [some (.ref 1000000), some (.ref 0), some (.ref 55), some (.int (nI i))] [] (hp Lx t2 rt2 t2 I2 G2) 99 19447) : WP 100 mL_law Q 993 [some (.ref 1000000), some (.ref 0), some (.ref 55), some (.int (nI i))] [] (hp Lx t rt t I G) 99 19447 := by
  obtain ⟨hC, hI, hML, hg, hCW, hWm, hs⟩ := id H
  have ht := hC.1.1
  have hT := hC.1.2.1
  have hx : ∀ k, I 1000000 k = xs k := fun k => by rw [hs 1000000 (by decide)]; rfl
  refine wx_aload_n rfl (e := 994) rfl rfl ?_
  refine wx_aload_n rfl (e := 995) rfl rfl ?_
  refine wx_iload_n rfl (e := 996) rfl rfl ?_
  refine wx_iconst (v := (nI 1)) rfl (e := 997) rfl (by decide) ?_
  refine wn_iadd rfl (e := 998) rfl ?_
  refine wn_iald rfl (e := 999) rfl rfl (by omega) (by omega) ?_
  rw [hx]
  refine wx_aload_n rfl (e := 1000) rfl rfl ?_
  refine wx_iload_n rfl (e := 1001) rfl rfl ?_
  refine wx_iconst (v := (nI 2)) rfl (e := 1002) rfl (by decide) ?_
  refine wn_iadd rfl (e := 1003) rfl ?_
  refine wn_iald rfl (e := 1004) rfl rfl (by omega) (by omega) ?_
  rw [hx]
  refine wx_cv2 (mc := 0) (ms := 0) rfl (e := 1007) rfl rfl (Nat.le_of_ble_eq_true rfl) ⟨by decide, by decide⟩ ?_
  refine c_X10_rich hC hg (fun I2 f2 => ?_)
  have A2 := f2.up ht
  have hx2 : ∀ k, I2 1000000 k = xs k := fun k => by rw [A2 1000000 (by decide)]; exact hx k
  refine wx_aload_n rfl (e := 1008) rfl rfl ?_
  refine wx_aload_n rfl (e := 1009) rfl rfl ?_
  refine wx_iload_n rfl (e := 1010) rfl rfl ?_
  refine wx_iconst (v := (nI 1)) rfl (e := 1011) rfl (by decide) ?_
  refine wn_iadd rfl (e := 1012) rfl ?_
  refine wn_iald rfl (e := 1013) rfl rfl (by omega) (by omega) ?_
  rw [hx2]
  refine wx_aload_n rfl (e := 1014) rfl rfl ?_
  refine wx_iload_n rfl (e := 1015) rfl rfl ?_
  refine wx_iconst (v := (nI 2)) rfl (e := 1016) rfl (by decide) ?_
  refine wn_iadd rfl (e := 1017) rfl ?_
  refine wn_iald rfl (e := 1018) rfl rfl (by omega) (by omega) ?_
  rw [hx2]
  refine wx_cv2 (mc := 0) (ms := 0) rfl (e := 1021) rfl rfl (Nat.le_of_ble_eq_true rfl) ⟨by decide, by decide⟩ ?_
  refine c_X11_rich (hI.up A2) hg (by omega) (fun I3 f3 => ?_)
  refine wx_ic_eq rfl (e := 1024) rfl (fun c_1021 => ?_) (fun c_1021 => absurd rfl c_1021)
  exact next t rt lv s I3 G (H.ask (hC.q f2) A2 f3)
set_option maxRecDepth 100000 in
set_option maxHeartbeats 8000000 in
theorem lwc_26 {Lx t rt lv n i : Nat} {xs : Nat → Int32} {s : gs} {I : Nat → Nat → Int32} {G : Nat → Nat → Int64} {Q : ab_Q} (hLx : Lx ≤ 3072) (hi : i + 6 ≤ Lx) (hn : n ≤ 512) (H : LI xs t lv n s I G) (next : ∀ t2 rt2 lv2 s2 I2 G2, LI xs t2 lv2 (n + 1) s2 I2 G2 → WP 100 mL_law Q 1470 [some (.ref 1000000), some (.ref 0), some (.ref 55), some (.int (nI i))] [] (hp Lx t2 rt2 t2 I2 G2) 99 19447) : WP 100 mL_law Q 1026 [some (.ref 1000000), some (.ref 0), some (.ref 55), some (.int (nI i))] [] (hp Lx t rt t I G) 99 19447 := by
  obtain ⟨hC, hI, hML, hg, hCW, hWm, hs⟩ := id H
  have ht := hC.1.1
  have hT := hC.1.2.1
  have hx : ∀ k, I 1000000 k = xs k := fun k => by rw [hs 1000000 (by decide)]; rfl
  refine wx_aload_n rfl (e := 1027) rfl rfl ?_
  refine wx_cv0 (mc := 0) (ms := 0) rfl (e := 1030) rfl rfl (Nat.le_of_ble_eq_true rfl) ⟨by decide, by decide⟩ ?_
  refine c_X10_hub hC hg (fun I2 f2 => ?_)
  have A2 := f2.up ht
  have hx2 : ∀ k, I2 1000000 k = xs k := fun k => by rw [A2 1000000 (by decide)]; exact hx k
  refine wx_aload_n rfl (e := 1031) rfl rfl ?_
  refine wx_cv0 (mc := 0) (ms := 0) rfl (e := 1034) rfl rfl (Nat.le_of_ble_eq_true rfl) ⟨by decide, by decide⟩ ?_
  refine c_X11_hub (hI.up A2) hg (fun I3 f3 => ?_)
  refine wx_ic_eq rfl (e := 1037) rfl (fun c_1034 => ?_) (fun c_1034 => absurd rfl c_1034)
  exact next t rt lv s I3 G (H.ask (hC.q f2) A2 f3)
set_option maxRecDepth 100000 in
set_option maxHeartbeats 8000000 in
theorem lwc_27 {Lx t rt lv n i : Nat} {xs : Nat → Int32} {s : gs} {I : Nat → Nat → Int32} {G : Nat → Nat → Int64} {Q : ab_Q} (hLx : Lx ≤ 3072) (hi : i + 6 ≤ Lx) (hn : n ≤ 512) (H : LI xs t lv n s I G) (next : ∀ t2 rt2 lv2 s2 I2 G2, LI xs t2 lv2 (n + 1) s2 I2 G2 → WP 100 mL_law Q 1470 [some (.ref 1000000), some (.ref 0), some (.ref 55), some (.int (nI i))] [] (hp Lx t2 rt2 t2 I2 G2) 99 19447) : WP 100 mL_law Q 1039 [some (.ref 1000000), some (.ref 0), some (.ref 55), some (.int (nI i))] [] (hp Lx t rt t I G) 99 19447 := by
  obtain ⟨hC, hI, hML, hg, hCW, hWm, hs⟩ := id H
  have ht := hC.1.1
  have hT := hC.1.2.1
  have hx : ∀ k, I 1000000 k = xs k := fun k => by rw [hs 1000000 (by decide)]; rfl
  refine wx_aload_n rfl (e := 1040) rfl rfl ?_
  refine wx_aload_n rfl (e := 1041) rfl rfl ?_
  refine wx_iload_n rfl (e := 1042) rfl rfl ?_
  refine wx_iconst (v := (nI 1)) rfl (e := 1043) rfl (by decide) ?_
  refine wn_iadd rfl (e := 1044) rfl ?_
  refine wn_iald rfl (e := 1045) rfl rfl (by omega) (by omega) ?_
  rw [hx]
  refine wx_cv1 (mc := 0) (ms := 0) rfl (e := 1048) rfl rfl (Nat.le_of_ble_eq_true rfl) ⟨by decide, by decide⟩ ?_
  refine c_X10_crowd hC hg (fun I2 f2 => ?_)
  have A2 := f2.up ht
  have hx2 : ∀ k, I2 1000000 k = xs k := fun k => by rw [A2 1000000 (by decide)]; exact hx k
  refine wx_aload_n rfl (e := 1049) rfl rfl ?_
  refine wx_aload_n rfl (e := 1050) rfl rfl ?_
  refine wx_iload_n rfl (e := 1051) rfl rfl ?_
  refine wx_iconst (v := (nI 1)) rfl (e := 1052) rfl (by decide) ?_
  refine wn_iadd rfl (e := 1053) rfl ?_
  refine wn_iald rfl (e := 1054) rfl rfl (by omega) (by omega) ?_
  rw [hx2]
  refine wx_cv1 (mc := 0) (ms := 0) rfl (e := 1057) rfl rfl (Nat.le_of_ble_eq_true rfl) ⟨by decide, by decide⟩ ?_
  refine c_X11_crowd (hI.up A2) hg (fun I3 f3 => ?_)
  refine wx_ic_eq rfl (e := 1060) rfl (fun c_1057 => ?_) (fun c_1057 => absurd rfl c_1057)
  exact next t rt lv s I3 G (H.ask (hC.q f2) A2 f3)
set_option maxRecDepth 100000 in
set_option maxHeartbeats 8000000 in
theorem lwc_28 {Lx t rt lv n i : Nat} {xs : Nat → Int32} {s : gs} {I : Nat → Nat → Int32} {G : Nat → Nat → Int64} {Q : ab_Q} (hLx : Lx ≤ 3072) (hi : i + 6 ≤ Lx) (hn : n ≤ 512) (H : LI xs t lv n s I G) (next : ∀ t2 rt2 lv2 s2 I2 G2, LI xs t2 lv2 (n + 1) s2 I2 G2 → WP 100 mL_law Q 1470 [some (.ref 1000000), some (.ref 0), some (.ref 55), some (.int (nI i))] [] (hp Lx t2 rt2 t2 I2 G2) 99 19447) : WP 100 mL_law Q 1062 [some (.ref 1000000), some (.ref 0), some (.ref 55), some (.int (nI i))] [] (hp Lx t rt t I G) 99 19447 := by
  obtain ⟨hC, hI, hML, hg, hCW, hWm, hs⟩ := id H
  have ht := hC.1.1
  have hT := hC.1.2.1
  have hx : ∀ k, I 1000000 k = xs k := fun k => by rw [hs 1000000 (by decide)]; rfl
  refine wx_aload_n rfl (e := 1063) rfl rfl ?_
  refine wx_aload_n rfl (e := 1064) rfl rfl ?_
  refine wx_iload_n rfl (e := 1065) rfl rfl ?_
  refine wx_iconst (v := (nI 1)) rfl (e := 1066) rfl (by decide) ?_
  refine wn_iadd rfl (e := 1067) rfl ?_
  refine wn_iald rfl (e := 1068) rfl rfl (by omega) (by omega) ?_
  rw [hx]
  refine wx_aload_n rfl (e := 1069) rfl rfl ?_
  refine wx_iload_n rfl (e := 1070) rfl rfl ?_
  refine wx_iconst (v := (nI 2)) rfl (e := 1071) rfl (by decide) ?_
  refine wn_iadd rfl (e := 1072) rfl ?_
  refine wn_iald rfl (e := 1073) rfl rfl (by omega) (by omega) ?_
  rw [hx]
  refine wx_cv2 (mc := 0) (ms := 0) rfl (e := 1076) rfl rfl (Nat.le_of_ble_eq_true rfl) ⟨by decide, by decide⟩ ?_
  refine c_X10_healed hC hg (fun I2 f2 => ?_)
  have A2 := f2.up ht
  have hx2 : ∀ k, I2 1000000 k = xs k := fun k => by rw [A2 1000000 (by decide)]; exact hx k
  refine wx_aload_n rfl (e := 1077) rfl rfl ?_
  refine wx_aload_n rfl (e := 1078) rfl rfl ?_
  refine wx_iload_n rfl (e := 1079) rfl rfl ?_
  refine wx_iconst (v := (nI 1)) rfl (e := 1080) rfl (by decide) ?_
  refine wn_iadd rfl (e := 1081) rfl ?_
  refine wn_iald rfl (e := 1082) rfl rfl (by omega) (by omega) ?_
  rw [hx2]
  refine wx_aload_n rfl (e := 1083) rfl rfl ?_
  refine wx_iload_n rfl (e := 1084) rfl rfl ?_
  refine wx_iconst (v := (nI 2)) rfl (e := 1085) rfl (by decide) ?_
  refine wn_iadd rfl (e := 1086) rfl ?_
  refine wn_iald rfl (e := 1087) rfl rfl (by omega) (by omega) ?_
  rw [hx2]
  refine wx_cv2 (mc := 0) (ms := 0) rfl (e := 1090) rfl rfl (Nat.le_of_ble_eq_true rfl) ⟨by decide, by decide⟩ ?_
  refine c_X11_healed (hI.up A2) hg (fun I3 f3 => ?_)
  refine wx_ic_eq rfl (e := 1093) rfl (fun c_1090 => ?_) (fun c_1090 => absurd rfl c_1090)
  exact next t rt lv s I3 G (H.ask (hC.q f2) A2 f3)
set_option maxRecDepth 100000 in
set_option maxHeartbeats 8000000 in
theorem lwc_29 {Lx t rt lv n i : Nat} {xs : Nat → Int32} {s : gs} {I : Nat → Nat → Int32} {G : Nat → Nat → Int64} {Q : ab_Q} (hLx : Lx ≤ 3072) (hi : i + 6 ≤ Lx) (hn : n ≤ 512) (H : LI xs t lv n s I G) (next : ∀ t2 rt2 lv2 s2 I2 G2, LI xs t2 lv2 (n + 1) s2 I2 G2 → WP 100 mL_law Q 1470 [some (.ref 1000000), some (.ref 0), some (.ref 55), some (.int (nI i))] [] (hp Lx t2 rt2 t2 I2 G2) 99 19447) : WP 100 mL_law Q 1095 [some (.ref 1000000), some (.ref 0), some (.ref 55), some (.int (nI i))] [] (hp Lx t rt t I G) 99 19447 := by
  obtain ⟨hC, hI, hML, hg, hCW, hWm, hs⟩ := id H
  have ht := hC.1.1
  have hT := hC.1.2.1
  have hx : ∀ k, I 1000000 k = xs k := fun k => by rw [hs 1000000 (by decide)]; rfl
  refine wx_aload_n rfl (e := 1096) rfl rfl ?_
  refine wx_aload_n rfl (e := 1097) rfl rfl ?_
  refine wx_iload_n rfl (e := 1098) rfl rfl ?_
  refine wx_iconst (v := (nI 1)) rfl (e := 1099) rfl (by decide) ?_
  refine wn_iadd rfl (e := 1100) rfl ?_
  refine wn_iald rfl (e := 1101) rfl rfl (by omega) (by omega) ?_
  rw [hx]
  refine wx_cv1 (mc := 0) (ms := 0) rfl (e := 1104) rfl rfl (Nat.le_of_ble_eq_true rfl) ⟨by decide, by decide⟩ ?_
  refine c_X10_famed hC hg (fun I2 f2 => ?_)
  have A2 := f2.up ht
  have hx2 : ∀ k, I2 1000000 k = xs k := fun k => by rw [A2 1000000 (by decide)]; exact hx k
  refine wx_aload_n rfl (e := 1105) rfl rfl ?_
  refine wx_aload_n rfl (e := 1106) rfl rfl ?_
  refine wx_iload_n rfl (e := 1107) rfl rfl ?_
  refine wx_iconst (v := (nI 1)) rfl (e := 1108) rfl (by decide) ?_
  refine wn_iadd rfl (e := 1109) rfl ?_
  refine wn_iald rfl (e := 1110) rfl rfl (by omega) (by omega) ?_
  rw [hx2]
  refine wx_cv1 (mc := 0) (ms := 0) rfl (e := 1113) rfl rfl (Nat.le_of_ble_eq_true rfl) ⟨by decide, by decide⟩ ?_
  refine c_X11_famed (hI.up A2) hg (by omega) (fun I3 f3 => ?_)
  refine wx_ic_eq rfl (e := 1116) rfl (fun c_1113 => ?_) (fun c_1113 => absurd rfl c_1113)
  exact next t rt lv s I3 G (H.ask (hC.q f2) A2 f3)
set_option maxRecDepth 100000 in
set_option maxHeartbeats 8000000 in
theorem lwc_30 {Lx t rt lv n i : Nat} {xs : Nat → Int32} {s : gs} {I : Nat → Nat → Int32} {G : Nat → Nat → Int64} {Q : ab_Q} (hLx : Lx ≤ 3072) (hi : i + 6 ≤ Lx) (hn : n ≤ 512) (H : LI xs t lv n s I G) (next : ∀ t2 rt2 lv2 s2 I2 G2, LI xs t2 lv2 (n + 1) s2 I2 G2 → WP 100 mL_law Q 1470 [some (.ref 1000000), some (.ref 0), some (.ref 55), some (.int (nI i))] [] (hp Lx t2 rt2 t2 I2 G2) 99 19447) : WP 100 mL_law Q 1118 [some (.ref 1000000), some (.ref 0), some (.ref 55), some (.int (nI i))] [] (hp Lx t rt t I G) 99 19447 := by
  obtain ⟨hC, hI, hML, hg, hCW, hWm, hs⟩ := id H
  have ht := hC.1.1
  have hT := hC.1.2.1
  have hx : ∀ k, I 1000000 k = xs k := fun k => by rw [hs 1000000 (by decide)]; rfl
  refine wx_aload_n rfl (e := 1119) rfl rfl ?_
  refine wx_aload_n rfl (e := 1120) rfl rfl ?_
  refine wx_iload_n rfl (e := 1121) rfl rfl ?_
  refine wx_iconst (v := (nI 1)) rfl (e := 1122) rfl (by decide) ?_
  refine wn_iadd rfl (e := 1123) rfl ?_
  refine wn_iald rfl (e := 1124) rfl rfl (by omega) (by omega) ?_
  rw [hx]
  refine wx_aload_n rfl (e := 1125) rfl rfl ?_
  refine wx_iload_n rfl (e := 1126) rfl rfl ?_
  refine wx_iconst (v := (nI 2)) rfl (e := 1127) rfl (by decide) ?_
  refine wn_iadd rfl (e := 1128) rfl ?_
  refine wn_iald rfl (e := 1129) rfl rfl (by omega) (by omega) ?_
  rw [hx]
  refine wx_aload_n rfl (e := 1130) rfl rfl ?_
  refine wx_iload_n rfl (e := 1131) rfl rfl ?_
  refine wx_iconst (v := (nI 3)) rfl (e := 1132) rfl (by decide) ?_
  refine wn_iadd rfl (e := 1133) rfl ?_
  refine wn_iald rfl (e := 1134) rfl rfl (by omega) (by omega) ?_
  rw [hx]
  refine wx_cv3 (mc := 0) (ms := 0) rfl (e := 1137) rfl rfl (Nat.le_of_ble_eq_true rfl) ⟨by decide, by decide⟩ ?_
  refine c_X10_year hC hg (fun I2 f2 => ?_)
  have A2 := f2.up ht
  have hx2 : ∀ k, I2 1000000 k = xs k := fun k => by rw [A2 1000000 (by decide)]; exact hx k
  refine wx_aload_n rfl (e := 1138) rfl rfl ?_
  refine wx_aload_n rfl (e := 1139) rfl rfl ?_
  refine wx_iload_n rfl (e := 1140) rfl rfl ?_
  refine wx_iconst (v := (nI 1)) rfl (e := 1141) rfl (by decide) ?_
  refine wn_iadd rfl (e := 1142) rfl ?_
  refine wn_iald rfl (e := 1143) rfl rfl (by omega) (by omega) ?_
  rw [hx2]
  refine wx_aload_n rfl (e := 1144) rfl rfl ?_
  refine wx_iload_n rfl (e := 1145) rfl rfl ?_
  refine wx_iconst (v := (nI 2)) rfl (e := 1146) rfl (by decide) ?_
  refine wn_iadd rfl (e := 1147) rfl ?_
  refine wn_iald rfl (e := 1148) rfl rfl (by omega) (by omega) ?_
  rw [hx2]
  refine wx_aload_n rfl (e := 1149) rfl rfl ?_
  refine wx_iload_n rfl (e := 1150) rfl rfl ?_
  refine wx_iconst (v := (nI 3)) rfl (e := 1151) rfl (by decide) ?_
  refine wn_iadd rfl (e := 1152) rfl ?_
  refine wn_iald rfl (e := 1153) rfl rfl (by omega) (by omega) ?_
  rw [hx2]
  refine wx_cv3 (mc := 0) (ms := 0) rfl (e := 1156) rfl rfl (Nat.le_of_ble_eq_true rfl) ⟨by decide, by decide⟩ ?_
  refine c_X11_year (hI.up A2) hg (by omega) (fun I3 f3 => ?_)
  refine wx_ic_eq rfl (e := 1159) rfl (fun c_1156 => ?_) (fun c_1156 => absurd rfl c_1156)
  exact next t rt lv s I3 G (H.ask (hC.q f2) A2 f3)
set_option maxRecDepth 100000 in
set_option maxHeartbeats 8000000 in
theorem lwc_31 {Lx t rt lv n i : Nat} {xs : Nat → Int32} {s : gs} {I : Nat → Nat → Int32} {G : Nat → Nat → Int64} {Q : ab_Q} (hLx : Lx ≤ 3072) (hi : i + 6 ≤ Lx) (hn : n ≤ 512) (H : LI xs t lv n s I G) (next : ∀ t2 rt2 lv2 s2 I2 G2, LI xs t2 lv2 (n + 1) s2 I2 G2 → WP 100 mL_law Q 1470 [some (.ref 1000000), some (.ref 0), some (.ref 55), some (.int (nI i))] [] (hp Lx t2 rt2 t2 I2 G2) 99 19447) : WP 100 mL_law Q 1161 [some (.ref 1000000), some (.ref 0), some (.ref 55), some (.int (nI i))] [] (hp Lx t rt t I G) 99 19447 := by
  obtain ⟨hC, hI, hML, hg, hCW, hWm, hs⟩ := id H
  have ht := hC.1.1
  have hT := hC.1.2.1
  have hx : ∀ k, I 1000000 k = xs k := fun k => by rw [hs 1000000 (by decide)]; rfl
  refine wx_aload_n rfl (e := 1162) rfl rfl ?_
  refine wx_aload_n rfl (e := 1163) rfl rfl ?_
  refine wx_iload_n rfl (e := 1164) rfl rfl ?_
  refine wx_iconst (v := (nI 1)) rfl (e := 1165) rfl (by decide) ?_
  refine wn_iadd rfl (e := 1166) rfl ?_
  refine wn_iald rfl (e := 1167) rfl rfl (by omega) (by omega) ?_
  rw [hx]
  refine wx_aload_n rfl (e := 1168) rfl rfl ?_
  refine wx_iload_n rfl (e := 1169) rfl rfl ?_
  refine wx_iconst (v := (nI 2)) rfl (e := 1170) rfl (by decide) ?_
  refine wn_iadd rfl (e := 1171) rfl ?_
  refine wn_iald rfl (e := 1172) rfl rfl (by omega) (by omega) ?_
  rw [hx]
  refine wx_aload_n rfl (e := 1173) rfl rfl ?_
  refine wx_iload_n rfl (e := 1174) rfl rfl ?_
  refine wx_iconst (v := (nI 3)) rfl (e := 1175) rfl (by decide) ?_
  refine wn_iadd rfl (e := 1176) rfl ?_
  refine wn_iald rfl (e := 1177) rfl rfl (by omega) (by omega) ?_
  rw [hx]
  refine wx_aload_n rfl (e := 1178) rfl rfl ?_
  refine wx_iload_n rfl (e := 1179) rfl rfl ?_
  refine wx_iconst (v := (nI 4)) rfl (e := 1180) rfl (by decide) ?_
  refine wn_iadd rfl (e := 1181) rfl ?_
  refine wn_iald rfl (e := 1182) rfl rfl (by omega) (by omega) ?_
  rw [hx]
  refine wx_aload_n rfl (e := 1183) rfl rfl ?_
  refine wx_iload_n rfl (e := 1184) rfl rfl ?_
  refine wx_iconst (v := (nI 5)) rfl (e := 1185) rfl (by decide) ?_
  refine wn_iadd rfl (e := 1186) rfl ?_
  refine wn_iald rfl (e := 1187) rfl rfl (by omega) (by omega) ?_
  rw [hx]
  refine wx_if_eq rfl (e := 1190) rfl (fun c_1187 => ?_) (fun c_1187 => ?_)
  · refine wx_iconst (v := (nI 0)) rfl (e := 1195) rfl (by decide) ?_
    refine wx_cv5 (mc := 0) (ms := 0) rfl (e := 1198) rfl rfl (Nat.le_of_ble_eq_true rfl) ⟨by decide, by decide⟩ ?_
    refine c_X10_belief hC hg (b := false) (fun I2 f2 => ?_)
    have A2 := f2.up ht
    have hx2 : ∀ k, I2 1000000 k = xs k := fun k => by rw [A2 1000000 (by decide)]; exact hx k
    refine wx_aload_n rfl (e := 1199) rfl rfl ?_
    refine wx_aload_n rfl (e := 1200) rfl rfl ?_
    refine wx_iload_n rfl (e := 1201) rfl rfl ?_
    refine wx_iconst (v := (nI 1)) rfl (e := 1202) rfl (by decide) ?_
    refine wn_iadd rfl (e := 1203) rfl ?_
    refine wn_iald rfl (e := 1204) rfl rfl (by omega) (by omega) ?_
    rw [hx2]
    refine wx_aload_n rfl (e := 1205) rfl rfl ?_
    refine wx_iload_n rfl (e := 1206) rfl rfl ?_
    refine wx_iconst (v := (nI 2)) rfl (e := 1207) rfl (by decide) ?_
    refine wn_iadd rfl (e := 1208) rfl ?_
    refine wn_iald rfl (e := 1209) rfl rfl (by omega) (by omega) ?_
    rw [hx2]
    refine wx_aload_n rfl (e := 1210) rfl rfl ?_
    refine wx_iload_n rfl (e := 1211) rfl rfl ?_
    refine wx_iconst (v := (nI 3)) rfl (e := 1212) rfl (by decide) ?_
    refine wn_iadd rfl (e := 1213) rfl ?_
    refine wn_iald rfl (e := 1214) rfl rfl (by omega) (by omega) ?_
    rw [hx2]
    refine wx_aload_n rfl (e := 1215) rfl rfl ?_
    refine wx_iload_n rfl (e := 1216) rfl rfl ?_
    refine wx_iconst (v := (nI 4)) rfl (e := 1217) rfl (by decide) ?_
    refine wn_iadd rfl (e := 1218) rfl ?_
    refine wn_iald rfl (e := 1219) rfl rfl (by omega) (by omega) ?_
    rw [hx2]
    refine wx_aload_n rfl (e := 1220) rfl rfl ?_
    refine wx_iload_n rfl (e := 1221) rfl rfl ?_
    refine wx_iconst (v := (nI 5)) rfl (e := 1222) rfl (by decide) ?_
    refine wn_iadd rfl (e := 1223) rfl ?_
    refine wn_iald rfl (e := 1224) rfl rfl (by omega) (by omega) ?_
    rw [hx2]
    refine wx_if_eq rfl (e := 1227) rfl (fun c_1224 => ?_) (fun c_1224 => absurd c_1187 c_1224)
    refine wx_iconst (v := (nI 0)) rfl (e := 1232) rfl (by decide) ?_
    refine wx_cv5 (mc := 0) (ms := 0) rfl (e := 1235) rfl rfl (Nat.le_of_ble_eq_true rfl) ⟨by decide, by decide⟩ ?_
    refine c_X11_belief (hI.up A2) hg (b := false) (fun I3 f3 => ?_)
    refine wx_ic_eq rfl (e := 1238) rfl (fun c_1235 => ?_) (fun c_1235 => absurd rfl c_1235)
    exact next t rt lv s I3 G (H.ask (hC.q f2) A2 f3)
  · refine wx_iconst (v := (nI 1)) rfl (e := 1191) rfl (by decide) ?_
    refine wx_goto rfl ?_
    refine wx_cv5 (mc := 0) (ms := 0) rfl (e := 1198) rfl rfl (Nat.le_of_ble_eq_true rfl) ⟨by decide, by decide⟩ ?_
    refine c_X10_belief hC hg (b := true) (fun I2 f2 => ?_)
    have A2 := f2.up ht
    have hx2 : ∀ k, I2 1000000 k = xs k := fun k => by rw [A2 1000000 (by decide)]; exact hx k
    refine wx_aload_n rfl (e := 1199) rfl rfl ?_
    refine wx_aload_n rfl (e := 1200) rfl rfl ?_
    refine wx_iload_n rfl (e := 1201) rfl rfl ?_
    refine wx_iconst (v := (nI 1)) rfl (e := 1202) rfl (by decide) ?_
    refine wn_iadd rfl (e := 1203) rfl ?_
    refine wn_iald rfl (e := 1204) rfl rfl (by omega) (by omega) ?_
    rw [hx2]
    refine wx_aload_n rfl (e := 1205) rfl rfl ?_
    refine wx_iload_n rfl (e := 1206) rfl rfl ?_
    refine wx_iconst (v := (nI 2)) rfl (e := 1207) rfl (by decide) ?_
    refine wn_iadd rfl (e := 1208) rfl ?_
    refine wn_iald rfl (e := 1209) rfl rfl (by omega) (by omega) ?_
    rw [hx2]
    refine wx_aload_n rfl (e := 1210) rfl rfl ?_
    refine wx_iload_n rfl (e := 1211) rfl rfl ?_
    refine wx_iconst (v := (nI 3)) rfl (e := 1212) rfl (by decide) ?_
    refine wn_iadd rfl (e := 1213) rfl ?_
    refine wn_iald rfl (e := 1214) rfl rfl (by omega) (by omega) ?_
    rw [hx2]
    refine wx_aload_n rfl (e := 1215) rfl rfl ?_
    refine wx_iload_n rfl (e := 1216) rfl rfl ?_
    refine wx_iconst (v := (nI 4)) rfl (e := 1217) rfl (by decide) ?_
    refine wn_iadd rfl (e := 1218) rfl ?_
    refine wn_iald rfl (e := 1219) rfl rfl (by omega) (by omega) ?_
    rw [hx2]
    refine wx_aload_n rfl (e := 1220) rfl rfl ?_
    refine wx_iload_n rfl (e := 1221) rfl rfl ?_
    refine wx_iconst (v := (nI 5)) rfl (e := 1222) rfl (by decide) ?_
    refine wn_iadd rfl (e := 1223) rfl ?_
    refine wn_iald rfl (e := 1224) rfl rfl (by omega) (by omega) ?_
    rw [hx2]
    refine wx_if_eq rfl (e := 1227) rfl (fun c_1224 => absurd c_1224 c_1187) (fun c_1224 => ?_)
    refine wx_iconst (v := (nI 1)) rfl (e := 1228) rfl (by decide) ?_
    refine wx_goto rfl ?_
    refine wx_cv5 (mc := 0) (ms := 0) rfl (e := 1235) rfl rfl (Nat.le_of_ble_eq_true rfl) ⟨by decide, by decide⟩ ?_
    refine c_X11_belief (hI.up A2) hg (b := true) (fun I3 f3 => ?_)
    refine wx_ic_eq rfl (e := 1238) rfl (fun c_1235 => ?_) (fun c_1235 => absurd rfl c_1235)
    exact next t rt lv s I3 G (H.ask (hC.q f2) A2 f3)
set_option maxRecDepth 100000 in
set_option maxHeartbeats 8000000 in
theorem lwc_32 {Lx t rt lv n i : Nat} {xs : Nat → Int32} {s : gs} {I : Nat → Nat → Int32} {G : Nat → Nat → Int64} {Q : ab_Q} (hLx : Lx ≤ 3072) (hi : i + 6 ≤ Lx) (hn : n ≤ 512) (H : LI xs t lv n s I G) (next : ∀ t2 rt2 lv2 s2 I2 G2, LI xs t2 lv2 (n + 1) s2 I2 G2 → WP 100 mL_law Q 1470 [some (.ref 1000000), some (.ref 0), some (.ref 55), some (.int (nI i))] [] (hp Lx t2 rt2 t2 I2 G2) 99 19447) : WP 100 mL_law Q 1240 [some (.ref 1000000), some (.ref 0), some (.ref 55), some (.int (nI i))] [] (hp Lx t rt t I G) 99 19447 := by
  obtain ⟨hC, hI, hML, hg, hCW, hWm, hs⟩ := id H
  have ht := hC.1.1
  have hT := hC.1.2.1
  have hx : ∀ k, I 1000000 k = xs k := fun k => by rw [hs 1000000 (by decide)]; rfl
  refine wx_aload_n rfl (e := 1241) rfl rfl ?_
  refine wx_aload_n rfl (e := 1242) rfl rfl ?_
  refine wx_iload_n rfl (e := 1243) rfl rfl ?_
  refine wx_iconst (v := (nI 1)) rfl (e := 1244) rfl (by decide) ?_
  refine wn_iadd rfl (e := 1245) rfl ?_
  refine wn_iald rfl (e := 1246) rfl rfl (by omega) (by omega) ?_
  rw [hx]
  refine wx_aload_n rfl (e := 1247) rfl rfl ?_
  refine wx_iload_n rfl (e := 1248) rfl rfl ?_
  refine wx_iconst (v := (nI 2)) rfl (e := 1249) rfl (by decide) ?_
  refine wn_iadd rfl (e := 1250) rfl ?_
  refine wn_iald rfl (e := 1251) rfl rfl (by omega) (by omega) ?_
  rw [hx]
  refine wx_aload_n rfl (e := 1252) rfl rfl ?_
  refine wx_iload_n rfl (e := 1253) rfl rfl ?_
  refine wx_iconst (v := (nI 3)) rfl (e := 1254) rfl (by decide) ?_
  refine wn_iadd rfl (e := 1255) rfl ?_
  refine wn_iald rfl (e := 1256) rfl rfl (by omega) (by omega) ?_
  rw [hx]
  refine wx_cv3 (mc := 0) (ms := 0) rfl (e := 1259) rfl rfl (Nat.le_of_ble_eq_true rfl) ⟨by decide, by decide⟩ ?_
  refine c_X10_certain hC hg (fun I2 f2 => ?_)
  have A2 := f2.up ht
  have hx2 : ∀ k, I2 1000000 k = xs k := fun k => by rw [A2 1000000 (by decide)]; exact hx k
  refine wx_aload_n rfl (e := 1260) rfl rfl ?_
  refine wx_aload_n rfl (e := 1261) rfl rfl ?_
  refine wx_iload_n rfl (e := 1262) rfl rfl ?_
  refine wx_iconst (v := (nI 1)) rfl (e := 1263) rfl (by decide) ?_
  refine wn_iadd rfl (e := 1264) rfl ?_
  refine wn_iald rfl (e := 1265) rfl rfl (by omega) (by omega) ?_
  rw [hx2]
  refine wx_aload_n rfl (e := 1266) rfl rfl ?_
  refine wx_iload_n rfl (e := 1267) rfl rfl ?_
  refine wx_iconst (v := (nI 2)) rfl (e := 1268) rfl (by decide) ?_
  refine wn_iadd rfl (e := 1269) rfl ?_
  refine wn_iald rfl (e := 1270) rfl rfl (by omega) (by omega) ?_
  rw [hx2]
  refine wx_aload_n rfl (e := 1271) rfl rfl ?_
  refine wx_iload_n rfl (e := 1272) rfl rfl ?_
  refine wx_iconst (v := (nI 3)) rfl (e := 1273) rfl (by decide) ?_
  refine wn_iadd rfl (e := 1274) rfl ?_
  refine wn_iald rfl (e := 1275) rfl rfl (by omega) (by omega) ?_
  rw [hx2]
  refine wx_cv3 (mc := 0) (ms := 0) rfl (e := 1278) rfl rfl (Nat.le_of_ble_eq_true rfl) ⟨by decide, by decide⟩ ?_
  refine c_X11_certain (hI.up A2) hg (fun I3 f3 => ?_)
  refine wx_ic_eq rfl (e := 1281) rfl (fun c_1278 => ?_) (fun c_1278 => absurd rfl c_1278)
  exact next t rt lv s I3 G (H.ask (hC.q f2) A2 f3)
set_option maxRecDepth 100000 in
set_option maxHeartbeats 8000000 in
theorem lwc_33 {Lx t rt lv n i : Nat} {xs : Nat → Int32} {s : gs} {I : Nat → Nat → Int32} {G : Nat → Nat → Int64} {Q : ab_Q} (hLx : Lx ≤ 3072) (hi : i + 6 ≤ Lx) (hn : n ≤ 512) (H : LI xs t lv n s I G) (next : ∀ t2 rt2 lv2 s2 I2 G2, LI xs t2 lv2 (n + 1) s2 I2 G2 → WP 100 mL_law Q 1470 [some (.ref 1000000), some (.ref 0), some (.ref 55), some (.int (nI i))] [] (hp Lx t2 rt2 t2 I2 G2) 99 19447) : WP 100 mL_law Q 1283 [some (.ref 1000000), some (.ref 0), some (.ref 55), some (.int (nI i))] [] (hp Lx t rt t I G) 99 19447 := by
  obtain ⟨hC, hI, hML, hg, hCW, hWm, hs⟩ := id H
  have ht := hC.1.1
  have hT := hC.1.2.1
  have hx : ∀ k, I 1000000 k = xs k := fun k => by rw [hs 1000000 (by decide)]; rfl
  refine wx_aload_n rfl (e := 1284) rfl rfl ?_
  refine wx_aload_n rfl (e := 1285) rfl rfl ?_
  refine wx_iload_n rfl (e := 1286) rfl rfl ?_
  refine wx_iconst (v := (nI 1)) rfl (e := 1287) rfl (by decide) ?_
  refine wn_iadd rfl (e := 1288) rfl ?_
  refine wn_iald rfl (e := 1289) rfl rfl (by omega) (by omega) ?_
  rw [hx]
  refine wx_aload_n rfl (e := 1290) rfl rfl ?_
  refine wx_iload_n rfl (e := 1291) rfl rfl ?_
  refine wx_iconst (v := (nI 2)) rfl (e := 1292) rfl (by decide) ?_
  refine wn_iadd rfl (e := 1293) rfl ?_
  refine wn_iald rfl (e := 1294) rfl rfl (by omega) (by omega) ?_
  rw [hx]
  refine wx_if_eq rfl (e := 1297) rfl (fun c_1294 => ?_) (fun c_1294 => ?_)
  · refine wx_iconst (v := (nI 0)) rfl (e := 1302) rfl (by decide) ?_
    refine wx_cv2 (mc := 0) (ms := 0) rfl (e := 1305) rfl rfl (Nat.le_of_ble_eq_true rfl) ⟨by decide, by decide⟩ ?_
    refine c_X10_tell hC hg (w := false) (fun I2 A2 C2 => ?_)
    have hx2 : ∀ k, I2 1000000 k = xs k := fun k => by rw [A2 1000000 (by decide)]; exact hx k
    refine wx_aload_n rfl (e := 1306) rfl rfl ?_
    refine wx_aload_n rfl (e := 1307) rfl rfl ?_
    refine wx_iload_n rfl (e := 1308) rfl rfl ?_
    refine wx_iconst (v := (nI 1)) rfl (e := 1309) rfl (by decide) ?_
    refine wn_iadd rfl (e := 1310) rfl ?_
    refine wn_iald rfl (e := 1311) rfl rfl (by omega) (by omega) ?_
    rw [hx2]
    refine wx_aload_n rfl (e := 1312) rfl rfl ?_
    refine wx_iload_n rfl (e := 1313) rfl rfl ?_
    refine wx_iconst (v := (nI 2)) rfl (e := 1314) rfl (by decide) ?_
    refine wn_iadd rfl (e := 1315) rfl ?_
    refine wn_iald rfl (e := 1316) rfl rfl (by omega) (by omega) ?_
    rw [hx2]
    refine wx_if_eq rfl (e := 1319) rfl (fun c_1316 => ?_) (fun c_1316 => absurd c_1294 c_1316)
    refine wx_iconst (v := (nI 0)) rfl (e := 1324) rfl (by decide) ?_
    refine wx_cv2 (mc := 0) (ms := 0) rfl (e := 1327) rfl rfl (Nat.le_of_ble_eq_true rfl) ⟨by decide, by decide⟩ ?_
    refine c_X11_tell (hI.up A2) hg (w := false) (fun I3 B3 M3 => ?_)
    refine wx_ic_eq rfl (e := 1330) rfl (fun c_1327 => ?_) (fun c_1327 => absurd rfl c_1327)
    exact next t rt lv _ I3 G (H.act C2 A2 B3 M3 (ok_tell hg _ _) (gT_tTell s _ _))
  · refine wx_iconst (v := (nI 1)) rfl (e := 1298) rfl (by decide) ?_
    refine wx_goto rfl ?_
    refine wx_cv2 (mc := 0) (ms := 0) rfl (e := 1305) rfl rfl (Nat.le_of_ble_eq_true rfl) ⟨by decide, by decide⟩ ?_
    refine c_X10_tell hC hg (w := true) (fun I2 A2 C2 => ?_)
    have hx2 : ∀ k, I2 1000000 k = xs k := fun k => by rw [A2 1000000 (by decide)]; exact hx k
    refine wx_aload_n rfl (e := 1306) rfl rfl ?_
    refine wx_aload_n rfl (e := 1307) rfl rfl ?_
    refine wx_iload_n rfl (e := 1308) rfl rfl ?_
    refine wx_iconst (v := (nI 1)) rfl (e := 1309) rfl (by decide) ?_
    refine wn_iadd rfl (e := 1310) rfl ?_
    refine wn_iald rfl (e := 1311) rfl rfl (by omega) (by omega) ?_
    rw [hx2]
    refine wx_aload_n rfl (e := 1312) rfl rfl ?_
    refine wx_iload_n rfl (e := 1313) rfl rfl ?_
    refine wx_iconst (v := (nI 2)) rfl (e := 1314) rfl (by decide) ?_
    refine wn_iadd rfl (e := 1315) rfl ?_
    refine wn_iald rfl (e := 1316) rfl rfl (by omega) (by omega) ?_
    rw [hx2]
    refine wx_if_eq rfl (e := 1319) rfl (fun c_1316 => absurd c_1316 c_1294) (fun c_1316 => ?_)
    refine wx_iconst (v := (nI 1)) rfl (e := 1320) rfl (by decide) ?_
    refine wx_goto rfl ?_
    refine wx_cv2 (mc := 0) (ms := 0) rfl (e := 1327) rfl rfl (Nat.le_of_ble_eq_true rfl) ⟨by decide, by decide⟩ ?_
    refine c_X11_tell (hI.up A2) hg (w := true) (fun I3 B3 M3 => ?_)
    refine wx_ic_eq rfl (e := 1330) rfl (fun c_1327 => ?_) (fun c_1327 => absurd rfl c_1327)
    exact next t rt lv _ I3 G (H.act C2 A2 B3 M3 (ok_tell hg _ _) (gT_tTell s _ _))
set_option maxRecDepth 100000 in
set_option maxHeartbeats 8000000 in
theorem lwc_34 {Lx t rt lv n i : Nat} {xs : Nat → Int32} {s : gs} {I : Nat → Nat → Int32} {G : Nat → Nat → Int64} {Q : ab_Q} (hLx : Lx ≤ 3072) (hi : i + 6 ≤ Lx) (hn : n ≤ 512) (H : LI xs t lv n s I G) (next : ∀ t2 rt2 lv2 s2 I2 G2, LI xs t2 lv2 (n + 1) s2 I2 G2 → WP 100 mL_law Q 1470 [some (.ref 1000000), some (.ref 0), some (.ref 55), some (.int (nI i))] [] (hp Lx t2 rt2 t2 I2 G2) 99 19447) : WP 100 mL_law Q 1332 [some (.ref 1000000), some (.ref 0), some (.ref 55), some (.int (nI i))] [] (hp Lx t rt t I G) 99 19447 := by
  obtain ⟨hC, hI, hML, hg, hCW, hWm, hs⟩ := id H
  have ht := hC.1.1
  have hT := hC.1.2.1
  have hx : ∀ k, I 1000000 k = xs k := fun k => by rw [hs 1000000 (by decide)]; rfl
  refine wx_aload_n rfl (e := 1333) rfl rfl ?_
  refine wx_cv0 (mc := 0) (ms := 0) rfl (e := 1336) rfl rfl (Nat.le_of_ble_eq_true rfl) ⟨by decide, by decide⟩ ?_
  refine c_X10_forget hC hg (fun I2 A2 C2 => ?_)
  have hx2 : ∀ k, I2 1000000 k = xs k := fun k => by rw [A2 1000000 (by decide)]; exact hx k
  refine wx_aload_n rfl (e := 1337) rfl rfl ?_
  refine wx_cv0 (mc := 0) (ms := 0) rfl (e := 1340) rfl rfl (Nat.le_of_ble_eq_true rfl) ⟨by decide, by decide⟩ ?_
  refine c_X11_forget (hI.up A2) hg (fun I3 B3 M3 => ?_)
  refine wx_ic_eq rfl (e := 1343) rfl (fun c_1340 => ?_) (fun c_1340 => absurd rfl c_1340)
  exact next t rt lv _ I3 G (H.act C2 A2 B3 M3 (ok_forget hg) (gT_tForget s))
set_option maxRecDepth 100000 in
set_option maxHeartbeats 8000000 in
theorem lwc_35 {Lx t rt lv n i : Nat} {xs : Nat → Int32} {s : gs} {I : Nat → Nat → Int32} {G : Nat → Nat → Int64} {Q : ab_Q} (hLx : Lx ≤ 3072) (hi : i + 6 ≤ Lx) (hn : n ≤ 512) (H : LI xs t lv n s I G) (next : ∀ t2 rt2 lv2 s2 I2 G2, LI xs t2 lv2 (n + 1) s2 I2 G2 → WP 100 mL_law Q 1470 [some (.ref 1000000), some (.ref 0), some (.ref 55), some (.int (nI i))] [] (hp Lx t2 rt2 t2 I2 G2) 99 19447) : WP 100 mL_law Q 1345 [some (.ref 1000000), some (.ref 0), some (.ref 55), some (.int (nI i))] [] (hp Lx t rt t I G) 99 19447 := by
  obtain ⟨hC, hI, hML, hg, hCW, hWm, hs⟩ := id H
  have ht := hC.1.1
  have hT := hC.1.2.1
  have hx : ∀ k, I 1000000 k = xs k := fun k => by rw [hs 1000000 (by decide)]; rfl
  refine wx_aload_n rfl (e := 1346) rfl rfl ?_
  refine wx_aload_n rfl (e := 1347) rfl rfl ?_
  refine wx_iload_n rfl (e := 1348) rfl rfl ?_
  refine wx_iconst (v := (nI 1)) rfl (e := 1349) rfl (by decide) ?_
  refine wn_iadd rfl (e := 1350) rfl ?_
  refine wn_iald rfl (e := 1351) rfl rfl (by omega) (by omega) ?_
  rw [hx]
  refine wx_aload_n rfl (e := 1352) rfl rfl ?_
  refine wx_iload_n rfl (e := 1353) rfl rfl ?_
  refine wx_iconst (v := (nI 2)) rfl (e := 1354) rfl (by decide) ?_
  refine wn_iadd rfl (e := 1355) rfl ?_
  refine wn_iald rfl (e := 1356) rfl rfl (by omega) (by omega) ?_
  rw [hx]
  refine wx_cv2 (mc := 0) (ms := 0) rfl (e := 1359) rfl rfl (Nat.le_of_ble_eq_true rfl) ⟨by decide, by decide⟩ ?_
  refine c_X10_whose hC hg (fun I2 f2 => ?_)
  have A2 := f2.up ht
  have hx2 : ∀ k, I2 1000000 k = xs k := fun k => by rw [A2 1000000 (by decide)]; exact hx k
  refine wx_aload_n rfl (e := 1360) rfl rfl ?_
  refine wx_aload_n rfl (e := 1361) rfl rfl ?_
  refine wx_iload_n rfl (e := 1362) rfl rfl ?_
  refine wx_iconst (v := (nI 1)) rfl (e := 1363) rfl (by decide) ?_
  refine wn_iadd rfl (e := 1364) rfl ?_
  refine wn_iald rfl (e := 1365) rfl rfl (by omega) (by omega) ?_
  rw [hx2]
  refine wx_aload_n rfl (e := 1366) rfl rfl ?_
  refine wx_iload_n rfl (e := 1367) rfl rfl ?_
  refine wx_iconst (v := (nI 2)) rfl (e := 1368) rfl (by decide) ?_
  refine wn_iadd rfl (e := 1369) rfl ?_
  refine wn_iald rfl (e := 1370) rfl rfl (by omega) (by omega) ?_
  rw [hx2]
  refine wx_cv2 (mc := 0) (ms := 0) rfl (e := 1373) rfl rfl (Nat.le_of_ble_eq_true rfl) ⟨by decide, by decide⟩ ?_
  refine c_X11_whose (hI.up A2) hg (fun I3 f3 => ?_)
  refine wx_ic_eq rfl (e := 1376) rfl (fun c_1373 => ?_) (fun c_1373 => absurd rfl c_1373)
  exact next t rt lv s I3 G (H.ask (hC.q f2) A2 f3)
set_option maxRecDepth 100000 in
set_option maxHeartbeats 8000000 in
theorem lwc_36 {Lx t rt lv n i : Nat} {xs : Nat → Int32} {s : gs} {I : Nat → Nat → Int32} {G : Nat → Nat → Int64} {Q : ab_Q} (hLx : Lx ≤ 3072) (hi : i + 6 ≤ Lx) (hn : n ≤ 512) (H : LI xs t lv n s I G) (next : ∀ t2 rt2 lv2 s2 I2 G2, LI xs t2 lv2 (n + 1) s2 I2 G2 → WP 100 mL_law Q 1470 [some (.ref 1000000), some (.ref 0), some (.ref 55), some (.int (nI i))] [] (hp Lx t2 rt2 t2 I2 G2) 99 19447) : WP 100 mL_law Q 1378 [some (.ref 1000000), some (.ref 0), some (.ref 55), some (.int (nI i))] [] (hp Lx t rt t I G) 99 19447 := by
  obtain ⟨hC, hI, hML, hg, hCW, hWm, hs⟩ := id H
  have ht := hC.1.1
  have hT := hC.1.2.1
  have hx : ∀ k, I 1000000 k = xs k := fun k => by rw [hs 1000000 (by decide)]; rfl
  refine wx_aload_n rfl (e := 1379) rfl rfl ?_
  refine wx_aload_n rfl (e := 1380) rfl rfl ?_
  refine wx_iload_n rfl (e := 1381) rfl rfl ?_
  refine wx_iconst (v := (nI 1)) rfl (e := 1382) rfl (by decide) ?_
  refine wn_iadd rfl (e := 1383) rfl ?_
  refine wn_iald rfl (e := 1384) rfl rfl (by omega) (by omega) ?_
  rw [hx]
  refine wx_cv1 (mc := 0) (ms := 0) rfl (e := 1387) rfl rfl (Nat.le_of_ble_eq_true rfl) ⟨by decide, by decide⟩ ?_
  refine c_X10_ask hC hg (fun I2 f2 => ?_)
  have A2 := f2.up ht
  have hx2 : ∀ k, I2 1000000 k = xs k := fun k => by rw [A2 1000000 (by decide)]; exact hx k
  refine wx_aload_n rfl (e := 1388) rfl rfl ?_
  refine wx_aload_n rfl (e := 1389) rfl rfl ?_
  refine wx_iload_n rfl (e := 1390) rfl rfl ?_
  refine wx_iconst (v := (nI 1)) rfl (e := 1391) rfl (by decide) ?_
  refine wn_iadd rfl (e := 1392) rfl ?_
  refine wn_iald rfl (e := 1393) rfl rfl (by omega) (by omega) ?_
  rw [hx2]
  refine wx_cv1 (mc := 0) (ms := 0) rfl (e := 1396) rfl rfl (Nat.le_of_ble_eq_true rfl) ⟨by decide, by decide⟩ ?_
  refine c_X11_ask (hI.up A2) hg (fun I3 f3 => ?_)
  refine wx_ic_eq rfl (e := 1399) rfl (fun c_1396 => ?_) (fun c_1396 => absurd rfl c_1396)
  exact next t rt lv s I3 G (H.ask (hC.q f2) A2 f3)
set_option maxRecDepth 100000 in
set_option maxHeartbeats 8000000 in
theorem lwc_37 {Lx t rt lv n i : Nat} {xs : Nat → Int32} {s : gs} {I : Nat → Nat → Int32} {G : Nat → Nat → Int64} {Q : ab_Q} (hLx : Lx ≤ 3072) (hi : i + 6 ≤ Lx) (hn : n ≤ 512) (H : LI xs t lv n s I G) (next : ∀ t2 rt2 lv2 s2 I2 G2, LI xs t2 lv2 (n + 1) s2 I2 G2 → WP 100 mL_law Q 1470 [some (.ref 1000000), some (.ref 0), some (.ref 55), some (.int (nI i))] [] (hp Lx t2 rt2 t2 I2 G2) 99 19447) : WP 100 mL_law Q 1401 [some (.ref 1000000), some (.ref 0), some (.ref 55), some (.int (nI i))] [] (hp Lx t rt t I G) 99 19447 := by
  obtain ⟨hC, hI, hML, hg, hCW, hWm, hs⟩ := id H
  have ht := hC.1.1
  have hT := hC.1.2.1
  have hx : ∀ k, I 1000000 k = xs k := fun k => by rw [hs 1000000 (by decide)]; rfl
  refine wx_aload_n rfl (e := 1402) rfl rfl ?_
  refine wx_aload_n rfl (e := 1403) rfl rfl ?_
  refine wx_iload_n rfl (e := 1404) rfl rfl ?_
  refine wx_iconst (v := (nI 1)) rfl (e := 1405) rfl (by decide) ?_
  refine wn_iadd rfl (e := 1406) rfl ?_
  refine wn_iald rfl (e := 1407) rfl rfl (by omega) (by omega) ?_
  rw [hx]
  refine wx_cv1 (mc := 0) (ms := 0) rfl (e := 1410) rfl rfl (Nat.le_of_ble_eq_true rfl) ⟨by decide, by decide⟩ ?_
  refine c_X10_hold hC hg (fun I2 A2 C2 => ?_)
  have hx2 : ∀ k, I2 1000000 k = xs k := fun k => by rw [A2 1000000 (by decide)]; exact hx k
  refine wx_aload_n rfl (e := 1411) rfl rfl ?_
  refine wx_aload_n rfl (e := 1412) rfl rfl ?_
  refine wx_iload_n rfl (e := 1413) rfl rfl ?_
  refine wx_iconst (v := (nI 1)) rfl (e := 1414) rfl (by decide) ?_
  refine wn_iadd rfl (e := 1415) rfl ?_
  refine wn_iald rfl (e := 1416) rfl rfl (by omega) (by omega) ?_
  rw [hx2]
  refine wx_cv1 (mc := 0) (ms := 0) rfl (e := 1419) rfl rfl (Nat.le_of_ble_eq_true rfl) ⟨by decide, by decide⟩ ?_
  refine c_X11_hold (hI.up A2) hg (fun I3 B3 M3 => ?_)
  refine wx_ic_eq rfl (e := 1422) rfl (fun c_1419 => ?_) (fun c_1419 => absurd rfl c_1419)
  exact next t rt lv _ I3 G (H.act C2 A2 B3 M3 (ok_hold hg _) (gT_tHold s _))
set_option maxRecDepth 100000 in
set_option maxHeartbeats 8000000 in
theorem lwc_38 {Lx t rt lv n i : Nat} {xs : Nat → Int32} {s : gs} {I : Nat → Nat → Int32} {G : Nat → Nat → Int64} {Q : ab_Q} (hLx : Lx ≤ 3072) (hi : i + 6 ≤ Lx) (hn : n ≤ 512) (H : LI xs t lv n s I G) (next : ∀ t2 rt2 lv2 s2 I2 G2, LI xs t2 lv2 (n + 1) s2 I2 G2 → WP 100 mL_law Q 1470 [some (.ref 1000000), some (.ref 0), some (.ref 55), some (.int (nI i))] [] (hp Lx t2 rt2 t2 I2 G2) 99 19447) : WP 100 mL_law Q 1424 [some (.ref 1000000), some (.ref 0), some (.ref 55), some (.int (nI i))] [] (hp Lx t rt t I G) 99 19447 := by
  obtain ⟨hC, hI, hML, hg, hCW, hWm, hs⟩ := id H
  have ht := hC.1.1
  have hT := hC.1.2.1
  have hx : ∀ k, I 1000000 k = xs k := fun k => by rw [hs 1000000 (by decide)]; rfl
  refine wx_aload_n rfl (e := 1425) rfl rfl ?_
  refine wx_aload_n rfl (e := 1426) rfl rfl ?_
  refine wx_iload_n rfl (e := 1427) rfl rfl ?_
  refine wx_iconst (v := (nI 1)) rfl (e := 1428) rfl (by decide) ?_
  refine wn_iadd rfl (e := 1429) rfl ?_
  refine wn_iald rfl (e := 1430) rfl rfl (by omega) (by omega) ?_
  rw [hx]
  refine wx_cv1 (mc := 0) (ms := 0) rfl (e := 1433) rfl rfl (Nat.le_of_ble_eq_true rfl) ⟨by decide, by decide⟩ ?_
  refine c_X10_restore hC hg (fun I2 A2 C2 => ?_)
  have hx2 : ∀ k, I2 1000000 k = xs k := fun k => by rw [A2 1000000 (by decide)]; exact hx k
  refine wx_aload_n rfl (e := 1434) rfl rfl ?_
  refine wx_aload_n rfl (e := 1435) rfl rfl ?_
  refine wx_iload_n rfl (e := 1436) rfl rfl ?_
  refine wx_iconst (v := (nI 1)) rfl (e := 1437) rfl (by decide) ?_
  refine wn_iadd rfl (e := 1438) rfl ?_
  refine wn_iald rfl (e := 1439) rfl rfl (by omega) (by omega) ?_
  rw [hx2]
  refine wx_cv1 (mc := 0) (ms := 0) rfl (e := 1442) rfl rfl (Nat.le_of_ble_eq_true rfl) ⟨by decide, by decide⟩ ?_
  refine c_X11_restore (hI.up A2) hg (fun I3 B3 M3 => ?_)
  refine wx_ic_eq rfl (e := 1445) rfl (fun c_1442 => ?_) (fun c_1442 => absurd rfl c_1442)
  exact next t rt lv _ I3 G (H.act C2 A2 B3 M3 (ok_restore hg _) (gT_tRestore s _))
set_option maxRecDepth 100000 in
set_option maxHeartbeats 8000000 in
theorem lwc_39 {Lx t rt lv n i : Nat} {xs : Nat → Int32} {s : gs} {I : Nat → Nat → Int32} {G : Nat → Nat → Int64} {Q : ab_Q} (hLx : Lx ≤ 3072) (hi : i + 6 ≤ Lx) (hn : n ≤ 512) (H : LI xs t lv n s I G) (next : ∀ t2 rt2 lv2 s2 I2 G2, LI xs t2 lv2 (n + 1) s2 I2 G2 → WP 100 mL_law Q 1470 [some (.ref 1000000), some (.ref 0), some (.ref 55), some (.int (nI i))] [] (hp Lx t2 rt2 t2 I2 G2) 99 19447) : WP 100 mL_law Q 1447 [some (.ref 1000000), some (.ref 0), some (.ref 55), some (.int (nI i))] [] (hp Lx t rt t I G) 99 19447 := by
  obtain ⟨hC, hI, hML, hg, hCW, hWm, hs⟩ := id H
  have ht := hC.1.1
  have hT := hC.1.2.1
  have hx : ∀ k, I 1000000 k = xs k := fun k => by rw [hs 1000000 (by decide)]; rfl
  refine wx_aload_n rfl (e := 1448) rfl rfl ?_
  refine wx_aload_n rfl (e := 1449) rfl rfl ?_
  refine wx_iload_n rfl (e := 1450) rfl rfl ?_
  refine wx_iconst (v := (nI 1)) rfl (e := 1451) rfl (by decide) ?_
  refine wn_iadd rfl (e := 1452) rfl ?_
  refine wn_iald rfl (e := 1453) rfl rfl (by omega) (by omega) ?_
  rw [hx]
  refine wx_cv1 (mc := 0) (ms := 0) rfl (e := 1456) rfl rfl (Nat.le_of_ble_eq_true rfl) ⟨by decide, by decide⟩ ?_
  refine c_X10_count hC hg (fun I2 f2 => ?_)
  have A2 := f2.up ht
  have hx2 : ∀ k, I2 1000000 k = xs k := fun k => by rw [A2 1000000 (by decide)]; exact hx k
  refine wx_aload_n rfl (e := 1457) rfl rfl ?_
  refine wx_aload_n rfl (e := 1458) rfl rfl ?_
  refine wx_iload_n rfl (e := 1459) rfl rfl ?_
  refine wx_iconst (v := (nI 1)) rfl (e := 1460) rfl (by decide) ?_
  refine wn_iadd rfl (e := 1461) rfl ?_
  refine wn_iald rfl (e := 1462) rfl rfl (by omega) (by omega) ?_
  rw [hx2]
  refine wx_cv1 (mc := 0) (ms := 0) rfl (e := 1465) rfl rfl (Nat.le_of_ble_eq_true rfl) ⟨by decide, by decide⟩ ?_
  refine c_X11_count (hI.up A2) hg (fun I3 f3 => ?_)
  refine wx_ic_eq rfl (e := 1468) rfl (fun c_1465 => ?_) (fun c_1465 => absurd rfl c_1465)
  exact next t rt lv s I3 G (H.ask (hC.q f2) A2 f3)

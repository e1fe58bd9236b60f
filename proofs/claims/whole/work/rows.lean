section
-- ===== PART A: goes FIRST, ahead of the names: the tables' words, and 'selects' of the private methods out of them =====
/-- a private method of a class that the tables say can be made, by its rows of tables_1 -/
def lw_okq (q : MethodName × Nat) : Prop := (q.1.cls ≠ "java/lang/invoke/MethodHandle" ∧ q.1.cls ≠ "java/lang/invoke/VarHandle") ∧ Cond.instantiable q.1.cls q.2 ∈ tables_1 ∧ Cond.privateMethod q.1 ∈ tables_1 ∧ Cond.instanceMethod q.1 ∈ tables_1
theorem lw_p0 : lw_okq (⟨"SaintTheft$Laws", "beginTimes", "(III)V"⟩, 6) := ⟨⟨by decide +kernel, by decide +kernel⟩, List.mem_of_getElem? (i := 35) (by decide +kernel), List.mem_of_getElem? (i := 77) (by decide +kernel), List.mem_of_getElem? (i := 78) (by decide +kernel)⟩
theorem lw_p1 : lw_okq (⟨"SaintTheft", "startText", "()V"⟩, 9) := ⟨⟨by decide +kernel, by decide +kernel⟩, List.mem_of_getElem? (i := 21) (by decide +kernel), List.mem_of_getElem? (i := 348) (by decide +kernel), List.mem_of_getElem? (i := 349) (by decide +kernel)⟩
theorem lw_p2 : lw_okq (⟨"SaintTheft$Reader", "begin", "(LSaintTheft$Text;LSaintTheft$Tape;)V"⟩, 9) := ⟨⟨by decide +kernel, by decide +kernel⟩, List.mem_of_getElem? (i := 145) (by decide +kernel), List.mem_of_getElem? (i := 448) (by decide +kernel), List.mem_of_getElem? (i := 449) (by decide +kernel)⟩
theorem lw_p3 : lw_okq (⟨"SaintTheft$Tokens", "addToken", "(LSaintTheft$Tape;II)I"⟩, 5) := ⟨⟨by decide +kernel, by decide +kernel⟩, List.mem_of_getElem? (i := 151) (by decide +kernel), List.mem_of_getElem? (i := 464) (by decide +kernel), List.mem_of_getElem? (i := 465) (by decide +kernel)⟩
theorem lw_p4 : lw_okq (⟨"SaintTheft$Tokens", "addLetters", "(LSaintTheft$Tape;I)I"⟩, 5) := ⟨⟨by decide +kernel, by decide +kernel⟩, List.mem_of_getElem? (i := 151) (by decide +kernel), List.mem_of_getElem? (i := 471) (by decide +kernel), List.mem_of_getElem? (i := 472) (by decide +kernel)⟩
theorem lw_p5 : lw_okq (⟨"SaintTheft$Tokens", "wordKind", "(J)I"⟩, 5) := ⟨⟨by decide +kernel, by decide +kernel⟩, List.mem_of_getElem? (i := 151) (by decide +kernel), List.mem_of_getElem? (i := 475) (by decide +kernel), List.mem_of_getElem? (i := 476) (by decide +kernel)⟩
theorem lw_p6 : lw_okq (⟨"SaintTheft$Tokens", "put", "(IIJ)V"⟩, 5) := ⟨⟨by decide +kernel, by decide +kernel⟩, List.mem_of_getElem? (i := 151) (by decide +kernel), List.mem_of_getElem? (i := 479) (by decide +kernel), List.mem_of_getElem? (i := 480) (by decide +kernel)⟩
theorem lw_p7 : lw_okq (⟨"SaintTheft$Tokens", "addDigits", "(LSaintTheft$Tape;I)I"⟩, 5) := ⟨⟨by decide +kernel, by decide +kernel⟩, List.mem_of_getElem? (i := 151) (by decide +kernel), List.mem_of_getElem? (i := 486) (by decide +kernel), List.mem_of_getElem? (i := 487) (by decide +kernel)⟩
theorem lw_p8 : lw_okq (⟨"SaintTheft$Reader", "readChurch", "()Z"⟩, 9) := ⟨⟨by decide +kernel, by decide +kernel⟩, List.mem_of_getElem? (i := 145) (by decide +kernel), List.mem_of_getElem? (i := 557) (by decide +kernel), List.mem_of_getElem? (i := 558) (by decide +kernel)⟩
theorem lw_p9 : lw_okq (⟨"SaintTheft$Reader", "refuse", "(I)Z"⟩, 9) := ⟨⟨by decide +kernel, by decide +kernel⟩, List.mem_of_getElem? (i := 145) (by decide +kernel), List.mem_of_getElem? (i := 565) (by decide +kernel), List.mem_of_getElem? (i := 566) (by decide +kernel)⟩
theorem lw_p10 : lw_okq (⟨"SaintTheft$Reader", "take", "(I)Z"⟩, 9) := ⟨⟨by decide +kernel, by decide +kernel⟩, List.mem_of_getElem? (i := 145) (by decide +kernel), List.mem_of_getElem? (i := 569) (by decide +kernel), List.mem_of_getElem? (i := 570) (by decide +kernel)⟩
theorem lw_p11 : lw_okq (⟨"SaintTheft$Reader", "addName", "(I)V"⟩, 9) := ⟨⟨by decide +kernel, by decide +kernel⟩, List.mem_of_getElem? (i := 145) (by decide +kernel), List.mem_of_getElem? (i := 573) (by decide +kernel), List.mem_of_getElem? (i := 574) (by decide +kernel)⟩
theorem lw_p12 : lw_okq (⟨"SaintTheft$Reader", "refuseLate", "(II)V"⟩, 9) := ⟨⟨by decide +kernel, by decide +kernel⟩, List.mem_of_getElem? (i := 145) (by decide +kernel), List.mem_of_getElem? (i := 585) (by decide +kernel), List.mem_of_getElem? (i := 586) (by decide +kernel)⟩
theorem lw_p13 : lw_okq (⟨"SaintTheft$Reader", "numberAt", "(III)I"⟩, 9) := ⟨⟨by decide +kernel, by decide +kernel⟩, List.mem_of_getElem? (i := 145) (by decide +kernel), List.mem_of_getElem? (i := 589) (by decide +kernel), List.mem_of_getElem? (i := 590) (by decide +kernel)⟩
theorem lw_p14 : lw_okq (⟨"SaintTheft$Reader", "readRoad", "()Z"⟩, 9) := ⟨⟨by decide +kernel, by decide +kernel⟩, List.mem_of_getElem? (i := 145) (by decide +kernel), List.mem_of_getElem? (i := 598) (by decide +kernel), List.mem_of_getElem? (i := 599) (by decide +kernel)⟩
theorem lw_p15 : lw_okq (⟨"SaintTheft$Reader", "churchAt", "(I)I"⟩, 9) := ⟨⟨by decide +kernel, by decide +kernel⟩, List.mem_of_getElem? (i := 145) (by decide +kernel), List.mem_of_getElem? (i := 606) (by decide +kernel), List.mem_of_getElem? (i := 607) (by decide +kernel)⟩
def lw_privs_1 : List (MethodName × Nat) := [(⟨"SaintTheft$Laws", "beginTimes", "(III)V"⟩, 6), (⟨"SaintTheft", "startText", "()V"⟩, 9), (⟨"SaintTheft$Reader", "begin", "(LSaintTheft$Text;LSaintTheft$Tape;)V"⟩, 9), (⟨"SaintTheft$Tokens", "addToken", "(LSaintTheft$Tape;II)I"⟩, 5), (⟨"SaintTheft$Tokens", "addLetters", "(LSaintTheft$Tape;I)I"⟩, 5), (⟨"SaintTheft$Tokens", "wordKind", "(J)I"⟩, 5), (⟨"SaintTheft$Tokens", "put", "(IIJ)V"⟩, 5), (⟨"SaintTheft$Tokens", "addDigits", "(LSaintTheft$Tape;I)I"⟩, 5), (⟨"SaintTheft$Reader", "readChurch", "()Z"⟩, 9), (⟨"SaintTheft$Reader", "refuse", "(I)Z"⟩, 9), (⟨"SaintTheft$Reader", "take", "(I)Z"⟩, 9), (⟨"SaintTheft$Reader", "addName", "(I)V"⟩, 9), (⟨"SaintTheft$Reader", "refuseLate", "(II)V"⟩, 9), (⟨"SaintTheft$Reader", "numberAt", "(III)I"⟩, 9), (⟨"SaintTheft$Reader", "readRoad", "()Z"⟩, 9), (⟨"SaintTheft$Reader", "churchAt", "(I)I"⟩, 9)]
theorem lw_r1 : ∀ q ∈ lw_privs_1, lw_okq q := List.forall_mem_cons.mpr ⟨lw_p0, List.forall_mem_cons.mpr ⟨lw_p1, List.forall_mem_cons.mpr ⟨lw_p2, List.forall_mem_cons.mpr ⟨lw_p3, List.forall_mem_cons.mpr ⟨lw_p4, List.forall_mem_cons.mpr ⟨lw_p5, List.forall_mem_cons.mpr ⟨lw_p6, List.forall_mem_cons.mpr ⟨lw_p7, List.forall_mem_cons.mpr ⟨lw_p8, List.forall_mem_cons.mpr ⟨lw_p9, List.forall_mem_cons.mpr ⟨lw_p10, List.forall_mem_cons.mpr ⟨lw_p11, List.forall_mem_cons.mpr ⟨lw_p12, List.forall_mem_cons.mpr ⟨lw_p13, List.forall_mem_cons.mpr ⟨lw_p14, List.forall_mem_cons.mpr ⟨lw_p15, fun _ h => absurd h List.not_mem_nil⟩⟩⟩⟩⟩⟩⟩⟩⟩⟩⟩⟩⟩⟩⟩⟩
theorem lw_p16 : lw_okq (⟨"SaintTheft$Reader", "readRelic", "()Z"⟩, 9) := ⟨⟨by decide +kernel, by decide +kernel⟩, List.mem_of_getElem? (i := 145) (by decide +kernel), List.mem_of_getElem? (i := 626) (by decide +kernel), List.mem_of_getElem? (i := 627) (by decide +kernel)⟩
theorem lw_p17 : lw_okq (⟨"SaintTheft$Reader", "readPilgrim", "()Z"⟩, 9) := ⟨⟨by decide +kernel, by decide +kernel⟩, List.mem_of_getElem? (i := 145) (by decide +kernel), List.mem_of_getElem? (i := 638) (by decide +kernel), List.mem_of_getElem? (i := 639) (by decide +kernel)⟩
theorem lw_p18 : lw_okq (⟨"SaintTheft$Reader", "readSeed", "()Z"⟩, 9) := ⟨⟨by decide +kernel, by decide +kernel⟩, List.mem_of_getElem? (i := 145) (by decide +kernel), List.mem_of_getElem? (i := 650) (by decide +kernel), List.mem_of_getElem? (i := 651) (by decide +kernel)⟩
theorem lw_p19 : lw_okq (⟨"SaintTheft$Reader", "readLaw", "()Z"⟩, 9) := ⟨⟨by decide +kernel, by decide +kernel⟩, List.mem_of_getElem? (i := 145) (by decide +kernel), List.mem_of_getElem? (i := 658) (by decide +kernel), List.mem_of_getElem? (i := 659) (by decide +kernel)⟩
theorem lw_p20 : lw_okq (⟨"SaintTheft$Reader", "readIf", "()Z"⟩, 9) := ⟨⟨by decide +kernel, by decide +kernel⟩, List.mem_of_getElem? (i := 145) (by decide +kernel), List.mem_of_getElem? (i := 663) (by decide +kernel), List.mem_of_getElem? (i := 664) (by decide +kernel)⟩
theorem lw_p21 : lw_okq (⟨"SaintTheft$Reader", "readSum", "(I)Z"⟩, 9) := ⟨⟨by decide +kernel, by decide +kernel⟩, List.mem_of_getElem? (i := 145) (by decide +kernel), List.mem_of_getElem? (i := 667) (by decide +kernel), List.mem_of_getElem? (i := 668) (by decide +kernel)⟩
theorem lw_p22 : lw_okq (⟨"SaintTheft$Reader", "readUnit", "(I)Z"⟩, 9) := ⟨⟨by decide +kernel, by decide +kernel⟩, List.mem_of_getElem? (i := 145) (by decide +kernel), List.mem_of_getElem? (i := 671) (by decide +kernel), List.mem_of_getElem? (i := 672) (by decide +kernel)⟩
theorem lw_p23 : lw_okq (⟨"SaintTheft$Reader", "settle", "()V"⟩, 9) := ⟨⟨by decide +kernel, by decide +kernel⟩, List.mem_of_getElem? (i := 145) (by decide +kernel), List.mem_of_getElem? (i := 680) (by decide +kernel), List.mem_of_getElem? (i := 681) (by decide +kernel)⟩
theorem lw_p24 : lw_okq (⟨"SaintTheft$Course", "lookAt", "(LSaintTheft$State;I)V"⟩, 4) := ⟨⟨by decide +kernel, by decide +kernel⟩, List.mem_of_getElem? (i := 268) (by decide +kernel), List.mem_of_getElem? (i := 758) (by decide +kernel), List.mem_of_getElem? (i := 759) (by decide +kernel)⟩
theorem lw_p25 : lw_okq (⟨"SaintTheft$Course", "lookAtPilgrim", "(LSaintTheft$State;II)V"⟩, 4) := ⟨⟨by decide +kernel, by decide +kernel⟩, List.mem_of_getElem? (i := 268) (by decide +kernel), List.mem_of_getElem? (i := 772) (by decide +kernel), List.mem_of_getElem? (i := 773) (by decide +kernel)⟩
theorem lw_p26 : lw_okq (⟨"SaintTheft$Laws", "varOf", "(I)I"⟩, 6) := ⟨⟨by decide +kernel, by decide +kernel⟩, List.mem_of_getElem? (i := 35) (by decide +kernel), List.mem_of_getElem? (i := 786) (by decide +kernel), List.mem_of_getElem? (i := 787) (by decide +kernel)⟩
theorem lw_p27 : lw_okq (⟨"SaintTheft$Course", "catching", "(LSaintTheft$State;III)I"⟩, 4) := ⟨⟨by decide +kernel, by decide +kernel⟩, List.mem_of_getElem? (i := 268) (by decide +kernel), List.mem_of_getElem? (i := 834) (by decide +kernel), List.mem_of_getElem? (i := 835) (by decide +kernel)⟩
theorem lw_p28 : lw_okq (⟨"SaintTheft$Course", "leaving", "(LSaintTheft$State;II)I"⟩, 4) := ⟨⟨by decide +kernel, by decide +kernel⟩, List.mem_of_getElem? (i := 268) (by decide +kernel), List.mem_of_getElem? (i := 851) (by decide +kernel), List.mem_of_getElem? (i := 852) (by decide +kernel)⟩
theorem lw_p29 : lw_okq (⟨"SaintTheft$Course", "visit", "(LSaintTheft$State;III)I"⟩, 4) := ⟨⟨by decide +kernel, by decide +kernel⟩, List.mem_of_getElem? (i := 268) (by decide +kernel), List.mem_of_getElem? (i := 886) (by decide +kernel), List.mem_of_getElem? (i := 887) (by decide +kernel)⟩
theorem lw_p30 : lw_okq (⟨"SaintTheft$Forecast", "passWithRelicAt", "(III)V"⟩, 4) := ⟨⟨by decide +kernel, by decide +kernel⟩, List.mem_of_getElem? (i := 288) (by decide +kernel), List.mem_of_getElem? (i := 933) (by decide +kernel), List.mem_of_getElem? (i := 934) (by decide +kernel)⟩
theorem lw_p31 : lw_okq (⟨"SaintTheft$Forecast", "keepTook", "()V"⟩, 4) := ⟨⟨by decide +kernel, by decide +kernel⟩, List.mem_of_getElem? (i := 288) (by decide +kernel), List.mem_of_getElem? (i := 948) (by decide +kernel), List.mem_of_getElem? (i := 949) (by decide +kernel)⟩
def lw_privs_2 : List (MethodName × Nat) := [(⟨"SaintTheft$Reader", "readRelic", "()Z"⟩, 9), (⟨"SaintTheft$Reader", "readPilgrim", "()Z"⟩, 9), (⟨"SaintTheft$Reader", "readSeed", "()Z"⟩, 9), (⟨"SaintTheft$Reader", "readLaw", "()Z"⟩, 9), (⟨"SaintTheft$Reader", "readIf", "()Z"⟩, 9), (⟨"SaintTheft$Reader", "readSum", "(I)Z"⟩, 9), (⟨"SaintTheft$Reader", "readUnit", "(I)Z"⟩, 9), (⟨"SaintTheft$Reader", "settle", "()V"⟩, 9), (⟨"SaintTheft$Course", "lookAt", "(LSaintTheft$State;I)V"⟩, 4), (⟨"SaintTheft$Course", "lookAtPilgrim", "(LSaintTheft$State;II)V"⟩, 4), (⟨"SaintTheft$Laws", "varOf", "(I)I"⟩, 6), (⟨"SaintTheft$Course", "catching", "(LSaintTheft$State;III)I"⟩, 4), (⟨"SaintTheft$Course", "leaving", "(LSaintTheft$State;II)I"⟩, 4), (⟨"SaintTheft$Course", "visit", "(LSaintTheft$State;III)I"⟩, 4), (⟨"SaintTheft$Forecast", "passWithRelicAt", "(III)V"⟩, 4), (⟨"SaintTheft$Forecast", "keepTook", "()V"⟩, 4)]
theorem lw_r2 : ∀ q ∈ lw_privs_2, lw_okq q := List.forall_mem_cons.mpr ⟨lw_p16, List.forall_mem_cons.mpr ⟨lw_p17, List.forall_mem_cons.mpr ⟨lw_p18, List.forall_mem_cons.mpr ⟨lw_p19, List.forall_mem_cons.mpr ⟨lw_p20, List.forall_mem_cons.mpr ⟨lw_p21, List.forall_mem_cons.mpr ⟨lw_p22, List.forall_mem_cons.mpr ⟨lw_p23, List.forall_mem_cons.mpr ⟨lw_p24, List.forall_mem_cons.mpr ⟨lw_p25, List.forall_mem_cons.mpr ⟨lw_p26, List.forall_mem_cons.mpr ⟨lw_p27, List.forall_mem_cons.mpr ⟨lw_p28, List.forall_mem_cons.mpr ⟨lw_p29, List.forall_mem_cons.mpr ⟨lw_p30, List.forall_mem_cons.mpr ⟨lw_p31, fun _ h => absurd h List.not_mem_nil⟩⟩⟩⟩⟩⟩⟩⟩⟩⟩⟩⟩⟩⟩⟩⟩
theorem lw_p32 : lw_okq (⟨"SaintTheft$Forecast", "tookMoreThanElse", "(I)I"⟩, 4) := ⟨⟨by decide +kernel, by decide +kernel⟩, List.mem_of_getElem? (i := 288) (by decide +kernel), List.mem_of_getElem? (i := 954) (by decide +kernel), List.mem_of_getElem? (i := 955) (by decide +kernel)⟩
theorem lw_p33 : lw_okq (⟨"SaintTheft$Forecast", "bothGain", "(III)Z"⟩, 4) := ⟨⟨by decide +kernel, by decide +kernel⟩, List.mem_of_getElem? (i := 288) (by decide +kernel), List.mem_of_getElem? (i := 995) (by decide +kernel), List.mem_of_getElem? (i := 996) (by decide +kernel)⟩
theorem lw_p34 : lw_okq (⟨"SaintTheft$Forecast", "hasWonderBy", "(III)Z"⟩, 4) := ⟨⟨by decide +kernel, by decide +kernel⟩, List.mem_of_getElem? (i := 288) (by decide +kernel), List.mem_of_getElem? (i := 1054) (by decide +kernel), List.mem_of_getElem? (i := 1055) (by decide +kernel)⟩
theorem lw_p35 : lw_okq (⟨"SaintTheftModel", "plain", "(I)V"⟩, 66) := ⟨⟨by decide +kernel, by decide +kernel⟩, List.mem_of_getElem? (i := 1149) (by decide +kernel), List.mem_of_getElem? (i := 1155) (by decide +kernel), List.mem_of_getElem? (i := 1156) (by decide +kernel)⟩
theorem lw_p36 : lw_okq (⟨"SaintTheftModel", "begins", "()V"⟩, 66) := ⟨⟨by decide +kernel, by decide +kernel⟩, List.mem_of_getElem? (i := 1149) (by decide +kernel), List.mem_of_getElem? (i := 1166) (by decide +kernel), List.mem_of_getElem? (i := 1167) (by decide +kernel)⟩
theorem lw_p37 : lw_okq (⟨"SaintTheftModel", "keepsRow", "()V"⟩, 66) := ⟨⟨by decide +kernel, by decide +kernel⟩, List.mem_of_getElem? (i := 1149) (by decide +kernel), List.mem_of_getElem? (i := 1170) (by decide +kernel), List.mem_of_getElem? (i := 1171) (by decide +kernel)⟩
theorem lw_p38 : lw_okq (⟨"SaintTheftModel", "put", "(I)V"⟩, 66) := ⟨⟨by decide +kernel, by decide +kernel⟩, List.mem_of_getElem? (i := 1149) (by decide +kernel), List.mem_of_getElem? (i := 1376) (by decide +kernel), List.mem_of_getElem? (i := 1377) (by decide +kernel)⟩
theorem lw_p39 : lw_okq (⟨"SaintTheftModel", "cut", "()V"⟩, 66) := ⟨⟨by decide +kernel, by decide +kernel⟩, List.mem_of_getElem? (i := 1149) (by decide +kernel), List.mem_of_getElem? (i := 1388) (by decide +kernel), List.mem_of_getElem? (i := 1389) (by decide +kernel)⟩
theorem lw_p40 : lw_okq (⟨"SaintTheftModel", "byteAt", "(I)I"⟩, 66) := ⟨⟨by decide +kernel, by decide +kernel⟩, List.mem_of_getElem? (i := 1149) (by decide +kernel), List.mem_of_getElem? (i := 1392) (by decide +kernel), List.mem_of_getElem? (i := 1393) (by decide +kernel)⟩
theorem lw_p41 : lw_okq (⟨"SaintTheftModel", "token", "(IIIJ)V"⟩, 66) := ⟨⟨by decide +kernel, by decide +kernel⟩, List.mem_of_getElem? (i := 1149) (by decide +kernel), List.mem_of_getElem? (i := 1396) (by decide +kernel), List.mem_of_getElem? (i := 1397) (by decide +kernel)⟩
theorem lw_p42 : lw_okq (⟨"SaintTheftModel", "sign", "(III)I"⟩, 66) := ⟨⟨by decide +kernel, by decide +kernel⟩, List.mem_of_getElem? (i := 1149) (by decide +kernel), List.mem_of_getElem? (i := 1406) (by decide +kernel), List.mem_of_getElem? (i := 1407) (by decide +kernel)⟩
theorem lw_p43 : lw_okq (⟨"SaintTheftModel", "is", "(I)Z"⟩, 66) := ⟨⟨by decide +kernel, by decide +kernel⟩, List.mem_of_getElem? (i := 1149) (by decide +kernel), List.mem_of_getElem? (i := 1410) (by decide +kernel), List.mem_of_getElem? (i := 1411) (by decide +kernel)⟩
theorem lw_p44 : lw_okq (⟨"SaintTheftModel", "tellOne", "()V"⟩, 66) := ⟨⟨by decide +kernel, by decide +kernel⟩, List.mem_of_getElem? (i := 1149) (by decide +kernel), List.mem_of_getElem? (i := 1414) (by decide +kernel), List.mem_of_getElem? (i := 1415) (by decide +kernel)⟩
theorem lw_p45 : lw_okq (⟨"SaintTheftModel", "roomFor", "(II)V"⟩, 66) := ⟨⟨by decide +kernel, by decide +kernel⟩, List.mem_of_getElem? (i := 1149) (by decide +kernel), List.mem_of_getElem? (i := 1418) (by decide +kernel), List.mem_of_getElem? (i := 1419) (by decide +kernel)⟩
theorem lw_p46 : lw_okq (⟨"SaintTheftModel", "fail", "(I)V"⟩, 66) := ⟨⟨by decide +kernel, by decide +kernel⟩, List.mem_of_getElem? (i := 1149) (by decide +kernel), List.mem_of_getElem? (i := 1422) (by decide +kernel), List.mem_of_getElem? (i := 1423) (by decide +kernel)⟩
theorem lw_p47 : lw_okq (⟨"SaintTheftModel", "goesOn", "()V"⟩, 66) := ⟨⟨by decide +kernel, by decide +kernel⟩, List.mem_of_getElem? (i := 1149) (by decide +kernel), List.mem_of_getElem? (i := 1426) (by decide +kernel), List.mem_of_getElem? (i := 1427) (by decide +kernel)⟩
def lw_privs_3 : List (MethodName × Nat) := [(⟨"SaintTheft$Forecast", "tookMoreThanElse", "(I)I"⟩, 4), (⟨"SaintTheft$Forecast", "bothGain", "(III)Z"⟩, 4), (⟨"SaintTheft$Forecast", "hasWonderBy", "(III)Z"⟩, 4), (⟨"SaintTheftModel", "plain", "(I)V"⟩, 66), (⟨"SaintTheftModel", "begins", "()V"⟩, 66), (⟨"SaintTheftModel", "keepsRow", "()V"⟩, 66), (⟨"SaintTheftModel", "put", "(I)V"⟩, 66), (⟨"SaintTheftModel", "cut", "()V"⟩, 66), (⟨"SaintTheftModel", "byteAt", "(I)I"⟩, 66), (⟨"SaintTheftModel", "token", "(IIIJ)V"⟩, 66), (⟨"SaintTheftModel", "sign", "(III)I"⟩, 66), (⟨"SaintTheftModel", "is", "(I)Z"⟩, 66), (⟨"SaintTheftModel", "tellOne", "()V"⟩, 66), (⟨"SaintTheftModel", "roomFor", "(II)V"⟩, 66), (⟨"SaintTheftModel", "fail", "(I)V"⟩, 66), (⟨"SaintTheftModel", "goesOn", "()V"⟩, 66)]
theorem lw_r3 : ∀ q ∈ lw_privs_3, lw_okq q := List.forall_mem_cons.mpr ⟨lw_p32, List.forall_mem_cons.mpr ⟨lw_p33, List.forall_mem_cons.mpr ⟨lw_p34, List.forall_mem_cons.mpr ⟨lw_p35, List.forall_mem_cons.mpr ⟨lw_p36, List.forall_mem_cons.mpr ⟨lw_p37, List.forall_mem_cons.mpr ⟨lw_p38, List.forall_mem_cons.mpr ⟨lw_p39, List.forall_mem_cons.mpr ⟨lw_p40, List.forall_mem_cons.mpr ⟨lw_p41, List.forall_mem_cons.mpr ⟨lw_p42, List.forall_mem_cons.mpr ⟨lw_p43, List.forall_mem_cons.mpr ⟨lw_p44, List.forall_mem_cons.mpr ⟨lw_p45, List.forall_mem_cons.mpr ⟨lw_p46, List.forall_mem_cons.mpr ⟨lw_p47, fun _ h => absurd h List.not_mem_nil⟩⟩⟩⟩⟩⟩⟩⟩⟩⟩⟩⟩⟩⟩⟩⟩
theorem lw_p48 : lw_okq (⟨"SaintTheftModel", "named", "()I"⟩, 66) := ⟨⟨by decide +kernel, by decide +kernel⟩, List.mem_of_getElem? (i := 1149) (by decide +kernel), List.mem_of_getElem? (i := 1430) (by decide +kernel), List.mem_of_getElem? (i := 1431) (by decide +kernel)⟩
theorem lw_p49 : lw_okq (⟨"SaintTheftModel", "must", "(I)V"⟩, 66) := ⟨⟨by decide +kernel, by decide +kernel⟩, List.mem_of_getElem? (i := 1149) (by decide +kernel), List.mem_of_getElem? (i := 1434) (by decide +kernel), List.mem_of_getElem? (i := 1435) (by decide +kernel)⟩
theorem lw_p50 : lw_okq (⟨"SaintTheftModel", "wrong", "(II)V"⟩, 66) := ⟨⟨by decide +kernel, by decide +kernel⟩, List.mem_of_getElem? (i := 1149) (by decide +kernel), List.mem_of_getElem? (i := 1438) (by decide +kernel), List.mem_of_getElem? (i := 1439) (by decide +kernel)⟩
theorem lw_p51 : lw_okq (⟨"SaintTheftModel", "bounded", "(II)I"⟩, 66) := ⟨⟨by decide +kernel, by decide +kernel⟩, List.mem_of_getElem? (i := 1149) (by decide +kernel), List.mem_of_getElem? (i := 1442) (by decide +kernel), List.mem_of_getElem? (i := 1443) (by decide +kernel)⟩
theorem lw_p52 : lw_okq (⟨"SaintTheftModel", "ends", "(II)V"⟩, 66) := ⟨⟨by decide +kernel, by decide +kernel⟩, List.mem_of_getElem? (i := 1149) (by decide +kernel), List.mem_of_getElem? (i := 1446) (by decide +kernel), List.mem_of_getElem? (i := 1447) (by decide +kernel)⟩
theorem lw_p53 : lw_okq (⟨"SaintTheftModel", "tellRoad", "()V"⟩, 66) := ⟨⟨by decide +kernel, by decide +kernel⟩, List.mem_of_getElem? (i := 1149) (by decide +kernel), List.mem_of_getElem? (i := 1450) (by decide +kernel), List.mem_of_getElem? (i := 1451) (by decide +kernel)⟩
theorem lw_p54 : lw_okq (⟨"SaintTheftModel", "knownChurch", "()I"⟩, 66) := ⟨⟨by decide +kernel, by decide +kernel⟩, List.mem_of_getElem? (i := 1149) (by decide +kernel), List.mem_of_getElem? (i := 1454) (by decide +kernel), List.mem_of_getElem? (i := 1455) (by decide +kernel)⟩
theorem lw_p55 : lw_okq (⟨"SaintTheftModel", "tellRelic", "()V"⟩, 66) := ⟨⟨by decide +kernel, by decide +kernel⟩, List.mem_of_getElem? (i := 1149) (by decide +kernel), List.mem_of_getElem? (i := 1458) (by decide +kernel), List.mem_of_getElem? (i := 1459) (by decide +kernel)⟩
theorem lw_p56 : lw_okq (⟨"SaintTheftModel", "tellPilgrim", "()V"⟩, 66) := ⟨⟨by decide +kernel, by decide +kernel⟩, List.mem_of_getElem? (i := 1149) (by decide +kernel), List.mem_of_getElem? (i := 1462) (by decide +kernel), List.mem_of_getElem? (i := 1463) (by decide +kernel)⟩
theorem lw_p57 : lw_okq (⟨"SaintTheftModel", "tellLaw", "(I)V"⟩, 66) := ⟨⟨by decide +kernel, by decide +kernel⟩, List.mem_of_getElem? (i := 1149) (by decide +kernel), List.mem_of_getElem? (i := 1466) (by decide +kernel), List.mem_of_getElem? (i := 1467) (by decide +kernel)⟩
theorem lw_p58 : lw_okq (⟨"SaintTheftModel", "expression", "()V"⟩, 66) := ⟨⟨by decide +kernel, by decide +kernel⟩, List.mem_of_getElem? (i := 1149) (by decide +kernel), List.mem_of_getElem? (i := 1470) (by decide +kernel), List.mem_of_getElem? (i := 1471) (by decide +kernel)⟩
theorem lw_p59 : lw_okq (⟨"SaintTheftModel", "unit", "()V"⟩, 66) := ⟨⟨by decide +kernel, by decide +kernel⟩, List.mem_of_getElem? (i := 1149) (by decide +kernel), List.mem_of_getElem? (i := 1474) (by decide +kernel), List.mem_of_getElem? (i := 1475) (by decide +kernel)⟩
theorem lw_p60 : lw_okq (⟨"SaintTheftModel", "emit", "(II)V"⟩, 66) := ⟨⟨by decide +kernel, by decide +kernel⟩, List.mem_of_getElem? (i := 1149) (by decide +kernel), List.mem_of_getElem? (i := 1478) (by decide +kernel), List.mem_of_getElem? (i := 1479) (by decide +kernel)⟩
theorem lw_p61 : lw_okq (⟨"SaintTheftModel", "comesOut", "(Z)V"⟩, 66) := ⟨⟨by decide +kernel, by decide +kernel⟩, List.mem_of_getElem? (i := 1149) (by decide +kernel), List.mem_of_getElem? (i := 1482) (by decide +kernel), List.mem_of_getElem? (i := 1483) (by decide +kernel)⟩
theorem lw_p62 : lw_okq (⟨"SaintTheftModel", "term", "()V"⟩, 66) := ⟨⟨by decide +kernel, by decide +kernel⟩, List.mem_of_getElem? (i := 1149) (by decide +kernel), List.mem_of_getElem? (i := 1486) (by decide +kernel), List.mem_of_getElem? (i := 1487) (by decide +kernel)⟩
theorem lw_p63 : lw_okq (⟨"SaintTheftModel", "fillsFar", "()V"⟩, 66) := ⟨⟨by decide +kernel, by decide +kernel⟩, List.mem_of_getElem? (i := 1149) (by decide +kernel), List.mem_of_getElem? (i := 1490) (by decide +kernel), List.mem_of_getElem? (i := 1491) (by decide +kernel)⟩
def lw_privs_4 : List (MethodName × Nat) := [(⟨"SaintTheftModel", "named", "()I"⟩, 66), (⟨"SaintTheftModel", "must", "(I)V"⟩, 66), (⟨"SaintTheftModel", "wrong", "(II)V"⟩, 66), (⟨"SaintTheftModel", "bounded", "(II)I"⟩, 66), (⟨"SaintTheftModel", "ends", "(II)V"⟩, 66), (⟨"SaintTheftModel", "tellRoad", "()V"⟩, 66), (⟨"SaintTheftModel", "knownChurch", "()I"⟩, 66), (⟨"SaintTheftModel", "tellRelic", "()V"⟩, 66), (⟨"SaintTheftModel", "tellPilgrim", "()V"⟩, 66), (⟨"SaintTheftModel", "tellLaw", "(I)V"⟩, 66), (⟨"SaintTheftModel", "expression", "()V"⟩, 66), (⟨"SaintTheftModel", "unit", "()V"⟩, 66), (⟨"SaintTheftModel", "emit", "(II)V"⟩, 66), (⟨"SaintTheftModel", "comesOut", "(Z)V"⟩, 66), (⟨"SaintTheftModel", "term", "()V"⟩, 66), (⟨"SaintTheftModel", "fillsFar", "()V"⟩, 66)]
theorem lw_r4 : ∀ q ∈ lw_privs_4, lw_okq q := List.forall_mem_cons.mpr ⟨lw_p48, List.forall_mem_cons.mpr ⟨lw_p49, List.forall_mem_cons.mpr ⟨lw_p50, List.forall_mem_cons.mpr ⟨lw_p51, List.forall_mem_cons.mpr ⟨lw_p52, List.forall_mem_cons.mpr ⟨lw_p53, List.forall_mem_cons.mpr ⟨lw_p54, List.forall_mem_cons.mpr ⟨lw_p55, List.forall_mem_cons.mpr ⟨lw_p56, List.forall_mem_cons.mpr ⟨lw_p57, List.forall_mem_cons.mpr ⟨lw_p58, List.forall_mem_cons.mpr ⟨lw_p59, List.forall_mem_cons.mpr ⟨lw_p60, List.forall_mem_cons.mpr ⟨lw_p61, List.forall_mem_cons.mpr ⟨lw_p62, List.forall_mem_cons.mpr ⟨lw_p63, fun _ h => absurd h List.not_mem_nil⟩⟩⟩⟩⟩⟩⟩⟩⟩⟩⟩⟩⟩⟩⟩⟩
theorem lw_p64 : lw_okq (⟨"SaintTheftModel", "isChurch", "(I)Z"⟩, 66) := ⟨⟨by decide +kernel, by decide +kernel⟩, List.mem_of_getElem? (i := 1149) (by decide +kernel), List.mem_of_getElem? (i := 1502) (by decide +kernel), List.mem_of_getElem? (i := 1503) (by decide +kernel)⟩
theorem lw_p65 : lw_okq (⟨"SaintTheftModel", "copies", "()V"⟩, 66) := ⟨⟨by decide +kernel, by decide +kernel⟩, List.mem_of_getElem? (i := 1149) (by decide +kernel), List.mem_of_getElem? (i := 1509) (by decide +kernel), List.mem_of_getElem? (i := 1510) (by decide +kernel)⟩
theorem lw_p66 : lw_okq (⟨"SaintTheftModel", "relicBits", "(I)I"⟩, 66) := ⟨⟨by decide +kernel, by decide +kernel⟩, List.mem_of_getElem? (i := 1149) (by decide +kernel), List.mem_of_getElem? (i := 1513) (by decide +kernel), List.mem_of_getElem? (i := 1514) (by decide +kernel)⟩
theorem lw_p67 : lw_okq (⟨"SaintTheftModel", "trueAt", "(I)I"⟩, 66) := ⟨⟨by decide +kernel, by decide +kernel⟩, List.mem_of_getElem? (i := 1149) (by decide +kernel), List.mem_of_getElem? (i := 1517) (by decide +kernel), List.mem_of_getElem? (i := 1518) (by decide +kernel)⟩
theorem lw_p68 : lw_okq (⟨"SaintTheftModel", "isRelic", "(I)Z"⟩, 66) := ⟨⟨by decide +kernel, by decide +kernel⟩, List.mem_of_getElem? (i := 1149) (by decide +kernel), List.mem_of_getElem? (i := 1525) (by decide +kernel), List.mem_of_getElem? (i := 1526) (by decide +kernel)⟩
theorem lw_p69 : lw_okq (⟨"SaintTheftModel", "isPilgrim", "(I)Z"⟩, 66) := ⟨⟨by decide +kernel, by decide +kernel⟩, List.mem_of_getElem? (i := 1149) (by decide +kernel), List.mem_of_getElem? (i := 1533) (by decide +kernel), List.mem_of_getElem? (i := 1534) (by decide +kernel)⟩
theorem lw_p70 : lw_okq (⟨"SaintTheftModel", "drawsOf", "(II)I"⟩, 66) := ⟨⟨by decide +kernel, by decide +kernel⟩, List.mem_of_getElem? (i := 1149) (by decide +kernel), List.mem_of_getElem? (i := 1542) (by decide +kernel), List.mem_of_getElem? (i := 1543) (by decide +kernel)⟩
theorem lw_p71 : lw_okq (⟨"SaintTheftModel", "looksAt", "(II)V"⟩, 66) := ⟨⟨by decide +kernel, by decide +kernel⟩, List.mem_of_getElem? (i := 1149) (by decide +kernel), List.mem_of_getElem? (i := 1546) (by decide +kernel), List.mem_of_getElem? (i := 1547) (by decide +kernel)⟩
theorem lw_p72 : lw_okq (⟨"SaintTheftModel", "looks", "()V"⟩, 66) := ⟨⟨by decide +kernel, by decide +kernel⟩, List.mem_of_getElem? (i := 1149) (by decide +kernel), List.mem_of_getElem? (i := 1550) (by decide +kernel), List.mem_of_getElem? (i := 1551) (by decide +kernel)⟩
theorem lw_p73 : lw_okq (⟨"SaintTheftModel", "relicsAt", "(I)I"⟩, 66) := ⟨⟨by decide +kernel, by decide +kernel⟩, List.mem_of_getElem? (i := 1149) (by decide +kernel), List.mem_of_getElem? (i := 1554) (by decide +kernel), List.mem_of_getElem? (i := 1555) (by decide +kernel)⟩
theorem lw_p74 : lw_okq (⟨"SaintTheftModel", "farFor", "(II)I"⟩, 66) := ⟨⟨by decide +kernel, by decide +kernel⟩, List.mem_of_getElem? (i := 1149) (by decide +kernel), List.mem_of_getElem? (i := 1558) (by decide +kernel), List.mem_of_getElem? (i := 1559) (by decide +kernel)⟩
theorem lw_p75 : lw_okq (⟨"SaintTheftModel", "lawTells", "(II)I"⟩, 66) := ⟨⟨by decide +kernel, by decide +kernel⟩, List.mem_of_getElem? (i := 1149) (by decide +kernel), List.mem_of_getElem? (i := 1562) (by decide +kernel), List.mem_of_getElem? (i := 1563) (by decide +kernel)⟩
theorem lw_p76 : lw_okq (⟨"SaintTheftModel", "termOf", "(II)I"⟩, 66) := ⟨⟨by decide +kernel, by decide +kernel⟩, List.mem_of_getElem? (i := 1149) (by decide +kernel), List.mem_of_getElem? (i := 1566) (by decide +kernel), List.mem_of_getElem? (i := 1567) (by decide +kernel)⟩
theorem lw_p77 : lw_okq (⟨"SaintTheftModel", "givesOf", "(II)I"⟩, 66) := ⟨⟨by decide +kernel, by decide +kernel⟩, List.mem_of_getElem? (i := 1149) (by decide +kernel), List.mem_of_getElem? (i := 1570) (by decide +kernel), List.mem_of_getElem? (i := 1571) (by decide +kernel)⟩
theorem lw_p78 : lw_okq (⟨"SaintTheftModel", "healsOf", "(II)I"⟩, 66) := ⟨⟨by decide +kernel, by decide +kernel⟩, List.mem_of_getElem? (i := 1149) (by decide +kernel), List.mem_of_getElem? (i := 1581) (by decide +kernel), List.mem_of_getElem? (i := 1582) (by decide +kernel)⟩
theorem lw_p79 : lw_okq (⟨"SaintTheftModel", "healsBy", "(III)I"⟩, 66) := ⟨⟨by decide +kernel, by decide +kernel⟩, List.mem_of_getElem? (i := 1149) (by decide +kernel), List.mem_of_getElem? (i := 1585) (by decide +kernel), List.mem_of_getElem? (i := 1586) (by decide +kernel)⟩
def lw_privs_5 : List (MethodName × Nat) := [(⟨"SaintTheftModel", "isChurch", "(I)Z"⟩, 66), (⟨"SaintTheftModel", "copies", "()V"⟩, 66), (⟨"SaintTheftModel", "relicBits", "(I)I"⟩, 66), (⟨"SaintTheftModel", "trueAt", "(I)I"⟩, 66), (⟨"SaintTheftModel", "isRelic", "(I)Z"⟩, 66), (⟨"SaintTheftModel", "isPilgrim", "(I)Z"⟩, 66), (⟨"SaintTheftModel", "drawsOf", "(II)I"⟩, 66), (⟨"SaintTheftModel", "looksAt", "(II)V"⟩, 66), (⟨"SaintTheftModel", "looks", "()V"⟩, 66), (⟨"SaintTheftModel", "relicsAt", "(I)I"⟩, 66), (⟨"SaintTheftModel", "farFor", "(II)I"⟩, 66), (⟨"SaintTheftModel", "lawTells", "(II)I"⟩, 66), (⟨"SaintTheftModel", "termOf", "(II)I"⟩, 66), (⟨"SaintTheftModel", "givesOf", "(II)I"⟩, 66), (⟨"SaintTheftModel", "healsOf", "(II)I"⟩, 66), (⟨"SaintTheftModel", "healsBy", "(III)I"⟩, 66)]
theorem lw_r5 : ∀ q ∈ lw_privs_5, lw_okq q := List.forall_mem_cons.mpr ⟨lw_p64, List.forall_mem_cons.mpr ⟨lw_p65, List.forall_mem_cons.mpr ⟨lw_p66, List.forall_mem_cons.mpr ⟨lw_p67, List.forall_mem_cons.mpr ⟨lw_p68, List.forall_mem_cons.mpr ⟨lw_p69, List.forall_mem_cons.mpr ⟨lw_p70, List.forall_mem_cons.mpr ⟨lw_p71, List.forall_mem_cons.mpr ⟨lw_p72, List.forall_mem_cons.mpr ⟨lw_p73, List.forall_mem_cons.mpr ⟨lw_p74, List.forall_mem_cons.mpr ⟨lw_p75, List.forall_mem_cons.mpr ⟨lw_p76, List.forall_mem_cons.mpr ⟨lw_p77, List.forall_mem_cons.mpr ⟨lw_p78, List.forall_mem_cons.mpr ⟨lw_p79, fun _ h => absurd h List.not_mem_nil⟩⟩⟩⟩⟩⟩⟩⟩⟩⟩⟩⟩⟩⟩⟩⟩
theorem lw_p80 : lw_okq (⟨"SaintTheftModel", "triesFor", "(III)I"⟩, 66) := ⟨⟨by decide +kernel, by decide +kernel⟩, List.mem_of_getElem? (i := 1149) (by decide +kernel), List.mem_of_getElem? (i := 1596) (by decide +kernel), List.mem_of_getElem? (i := 1597) (by decide +kernel)⟩
theorem lw_p81 : lw_okq (⟨"SaintTheftModel", "lotOf", "(I)I"⟩, 66) := ⟨⟨by decide +kernel, by decide +kernel⟩, List.mem_of_getElem? (i := 1149) (by decide +kernel), List.mem_of_getElem? (i := 1601) (by decide +kernel), List.mem_of_getElem? (i := 1602) (by decide +kernel)⟩
theorem lw_p82 : lw_okq (⟨"SaintTheftModel", "caughtBy", "(III)I"⟩, 66) := ⟨⟨by decide +kernel, by decide +kernel⟩, List.mem_of_getElem? (i := 1149) (by decide +kernel), List.mem_of_getElem? (i := 1609) (by decide +kernel), List.mem_of_getElem? (i := 1610) (by decide +kernel)⟩
theorem lw_p83 : lw_okq (⟨"SaintTheftModel", "leaveOf", "(II)I"⟩, 66) := ⟨⟨by decide +kernel, by decide +kernel⟩, List.mem_of_getElem? (i := 1149) (by decide +kernel), List.mem_of_getElem? (i := 1614) (by decide +kernel), List.mem_of_getElem? (i := 1615) (by decide +kernel)⟩
theorem lw_p84 : lw_okq (⟨"SaintTheftModel", "records", "()V"⟩, 66) := ⟨⟨by decide +kernel, by decide +kernel⟩, List.mem_of_getElem? (i := 1149) (by decide +kernel), List.mem_of_getElem? (i := 1618) (by decide +kernel), List.mem_of_getElem? (i := 1619) (by decide +kernel)⟩
theorem lw_p85 : lw_okq (⟨"SaintTheftModel", "yearsGo", "(I)V"⟩, 66) := ⟨⟨by decide +kernel, by decide +kernel⟩, List.mem_of_getElem? (i := 1149) (by decide +kernel), List.mem_of_getElem? (i := 1634) (by decide +kernel), List.mem_of_getElem? (i := 1635) (by decide +kernel)⟩
theorem lw_p86 : lw_okq (⟨"SaintTheftModel", "yearGoes", "()V"⟩, 66) := ⟨⟨by decide +kernel, by decide +kernel⟩, List.mem_of_getElem? (i := 1149) (by decide +kernel), List.mem_of_getElem? (i := 1638) (by decide +kernel), List.mem_of_getElem? (i := 1639) (by decide +kernel)⟩
theorem lw_p87 : lw_okq (⟨"SaintTheftModel", "goesNow", "(I)I"⟩, 66) := ⟨⟨by decide +kernel, by decide +kernel⟩, List.mem_of_getElem? (i := 1149) (by decide +kernel), List.mem_of_getElem? (i := 1642) (by decide +kernel), List.mem_of_getElem? (i := 1643) (by decide +kernel)⟩
theorem lw_p88 : lw_okq (⟨"SaintTheftModel", "pilgrimGoes", "(II)V"⟩, 66) := ⟨⟨by decide +kernel, by decide +kernel⟩, List.mem_of_getElem? (i := 1149) (by decide +kernel), List.mem_of_getElem? (i := 1646) (by decide +kernel), List.mem_of_getElem? (i := 1647) (by decide +kernel)⟩
theorem lw_p89 : lw_okq (⟨"SaintTheftModel", "theftNow", "(II)I"⟩, 66) := ⟨⟨by decide +kernel, by decide +kernel⟩, List.mem_of_getElem? (i := 1149) (by decide +kernel), List.mem_of_getElem? (i := 1662) (by decide +kernel), List.mem_of_getElem? (i := 1663) (by decide +kernel)⟩
theorem lw_p90 : lw_okq (⟨"SaintTheftModel", "nightsNow", "(I)I"⟩, 66) := ⟨⟨by decide +kernel, by decide +kernel⟩, List.mem_of_getElem? (i := 1149) (by decide +kernel), List.mem_of_getElem? (i := 1670) (by decide +kernel), List.mem_of_getElem? (i := 1671) (by decide +kernel)⟩
theorem lw_p91 : lw_okq (⟨"SaintTheftModel", "guardOf", "(III)I"⟩, 66) := ⟨⟨by decide +kernel, by decide +kernel⟩, List.mem_of_getElem? (i := 1149) (by decide +kernel), List.mem_of_getElem? (i := 1681) (by decide +kernel), List.mem_of_getElem? (i := 1682) (by decide +kernel)⟩
theorem lw_p92 : lw_okq (⟨"SaintTheftModel", "takesWith", "(IIII)I"⟩, 66) := ⟨⟨by decide +kernel, by decide +kernel⟩, List.mem_of_getElem? (i := 1149) (by decide +kernel), List.mem_of_getElem? (i := 1700) (by decide +kernel), List.mem_of_getElem? (i := 1701) (by decide +kernel)⟩
theorem lw_p93 : lw_okq (⟨"SaintTheftModel", "isBarter", "(III)Z"⟩, 66) := ⟨⟨by decide +kernel, by decide +kernel⟩, List.mem_of_getElem? (i := 1149) (by decide +kernel), List.mem_of_getElem? (i := 1708) (by decide +kernel), List.mem_of_getElem? (i := 1709) (by decide +kernel)⟩
theorem lw_p94 : lw_okq (⟨"SaintTheftModel", "fillsBelief", "(IIII)V"⟩, 66) := ⟨⟨by decide +kernel, by decide +kernel⟩, List.mem_of_getElem? (i := 1149) (by decide +kernel), List.mem_of_getElem? (i := 1755) (by decide +kernel), List.mem_of_getElem? (i := 1756) (by decide +kernel)⟩
theorem lw_p95 : lw_okq (⟨"SaintTheftModel", "whoseBits", "(I)I"⟩, 66) := ⟨⟨by decide +kernel, by decide +kernel⟩, List.mem_of_getElem? (i := 1149) (by decide +kernel), List.mem_of_getElem? (i := 1779) (by decide +kernel), List.mem_of_getElem? (i := 1780) (by decide +kernel)⟩
def lw_privs_6 : List (MethodName × Nat) := [(⟨"SaintTheftModel", "triesFor", "(III)I"⟩, 66), (⟨"SaintTheftModel", "lotOf", "(I)I"⟩, 66), (⟨"SaintTheftModel", "caughtBy", "(III)I"⟩, 66), (⟨"SaintTheftModel", "leaveOf", "(II)I"⟩, 66), (⟨"SaintTheftModel", "records", "()V"⟩, 66), (⟨"SaintTheftModel", "yearsGo", "(I)V"⟩, 66), (⟨"SaintTheftModel", "yearGoes", "()V"⟩, 66), (⟨"SaintTheftModel", "goesNow", "(I)I"⟩, 66), (⟨"SaintTheftModel", "pilgrimGoes", "(II)V"⟩, 66), (⟨"SaintTheftModel", "theftNow", "(II)I"⟩, 66), (⟨"SaintTheftModel", "nightsNow", "(I)I"⟩, 66), (⟨"SaintTheftModel", "guardOf", "(III)I"⟩, 66), (⟨"SaintTheftModel", "takesWith", "(IIII)I"⟩, 66), (⟨"SaintTheftModel", "isBarter", "(III)Z"⟩, 66), (⟨"SaintTheftModel", "fillsBelief", "(IIII)V"⟩, 66), (⟨"SaintTheftModel", "whoseBits", "(I)I"⟩, 66)]
theorem lw_r6 : ∀ q ∈ lw_privs_6, lw_okq q := List.forall_mem_cons.mpr ⟨lw_p80, List.forall_mem_cons.mpr ⟨lw_p81, List.forall_mem_cons.mpr ⟨lw_p82, List.forall_mem_cons.mpr ⟨lw_p83, List.forall_mem_cons.mpr ⟨lw_p84, List.forall_mem_cons.mpr ⟨lw_p85, List.forall_mem_cons.mpr ⟨lw_p86, List.forall_mem_cons.mpr ⟨lw_p87, List.forall_mem_cons.mpr ⟨lw_p88, List.forall_mem_cons.mpr ⟨lw_p89, List.forall_mem_cons.mpr ⟨lw_p90, List.forall_mem_cons.mpr ⟨lw_p91, List.forall_mem_cons.mpr ⟨lw_p92, List.forall_mem_cons.mpr ⟨lw_p93, List.forall_mem_cons.mpr ⟨lw_p94, List.forall_mem_cons.mpr ⟨lw_p95, fun _ h => absurd h List.not_mem_nil⟩⟩⟩⟩⟩⟩⟩⟩⟩⟩⟩⟩⟩⟩⟩⟩
theorem lw_p96 : lw_okq (⟨"SaintTheftModel", "sumNow", "(I)I"⟩, 66) := ⟨⟨by decide +kernel, by decide +kernel⟩, List.mem_of_getElem? (i := 1149) (by decide +kernel), List.mem_of_getElem? (i := 1802) (by decide +kernel), List.mem_of_getElem? (i := 1803) (by decide +kernel)⟩
def lw_privs_7 : List (MethodName × Nat) := [(⟨"SaintTheftModel", "sumNow", "(I)I"⟩, 66)]
theorem lw_r7 : ∀ q ∈ lw_privs_7, lw_okq q := List.forall_mem_cons.mpr ⟨lw_p96, fun _ h => absurd h List.not_mem_nil⟩
def lw_privs : List (MethodName × Nat) := lw_privs_1 ++ (lw_privs_2 ++ (lw_privs_3 ++ (lw_privs_4 ++ (lw_privs_5 ++ (lw_privs_6 ++ (lw_privs_7))))))
def lw_tbl : List Cond := k2_sels lw_privs ++ tables_1
theorem lw_privs_ok : ∀ q ∈ lw_privs, lw_okq q := by
  show ∀ q ∈ lw_privs_1 ++ (lw_privs_2 ++ (lw_privs_3 ++ (lw_privs_4 ++ (lw_privs_5 ++ (lw_privs_6 ++ (lw_privs_7)))))), lw_okq q
  exact List.forall_mem_append.mpr ⟨lw_r1, List.forall_mem_append.mpr ⟨lw_r2, List.forall_mem_append.mpr ⟨lw_r3, List.forall_mem_append.mpr ⟨lw_r4, List.forall_mem_append.mpr ⟨lw_r5, List.forall_mem_append.mpr ⟨lw_r6, lw_r7⟩⟩⟩⟩⟩⟩
end
section
/-! A small machine of my own over an abstract heap: shapes, ints, longs, references of the cells by their numbers. Its runs are told by ab_wp; a later part shows that the machine itself does what ab_wp says. -/
abbrev ab_Sh : Type := Nat ⊕ (FieldType × Nat)
/-- how many cells, their shapes, their ints, their longs, their references -/
abbrev ab_H : Type := Nat × (Nat → ab_Sh) × (Nat → Nat → Int32) × (Nat → Nat → Int64) × (Nat → Nat → Option Nat)
/-- a row of a code table: pc, instruction, its length, two numbers, a list of numbers -/
abbrev ab_I : Type := Nat × Instr × Nat × Nat × Nat × List Nat
/-- a method: name, bytes, locals, the answer's type, cells and slots that it makes, its kind, its code -/
abbrev ab_M : Type := MethodName × ByteArray × Nat × Option FieldType × Nat × Nat × Nat × List ab_I
abbrev ab_my (M : ab_M) : MethodName := M.1
abbrev ab_mb (M : ab_M) : ByteArray := M.2.1
abbrev ab_ml (M : ab_M) : Nat := M.2.2.1
abbrev ab_mr (M : ab_M) : Option FieldType := M.2.2.2.1
abbrev ab_mc (M : ab_M) : Nat := M.2.2.2.2.1
abbrev ab_ms (M : ab_M) : Nat := M.2.2.2.2.2.1
abbrev ab_mk (M : ab_M) : Nat := M.2.2.2.2.2.2.1
abbrev ab_mo (M : ab_M) : List ab_I := M.2.2.2.2.2.2.2
abbrev ab_Lo : Type := List (Option Value)
/-- where a method stands: pc, locals, stack, heap, cells and slots made -/
abbrev ab_T : Type := Nat × ab_Lo × List Value × ab_H × Nat × Nat
abbrev ab_R : Type := (Prop × List (Prop × ab_T)) ⊕ ((Prop × Nat × List Value × (Nat → Nat → Option Value → ab_H → ab_T)) ⊕ (Prop × Option Value))
def ab_find : Nat → List ab_I → Option (Instr × Nat × Nat × Nat × List Nat)
  | _, [] => none
  | pc, q :: t => match Nat.beq pc q.1 with
    | true => some q.2
    | false => ab_find pc t
def ab_no : ab_R := .inl (False, [])
def ab_go (t : ab_T) : ab_R := .inl (True, [(True, t)])
def ab_gc (g : Prop) (t : ab_T) : ab_R := .inl (g, [(True, t)])
def ab_br (g : Prop) (t1 t2 : ab_T) : ab_R := .inl (True, [(g, t1), (¬ g, t2)])
def ab_pi (st : List Value) (k : Int32 → List Value → ab_R) : ab_R := match st with
  | .int v :: r => k v r
  | _ => ab_no
def ab_pl (st : List Value) (k : Int64 → List Value → ab_R) : ab_R := match st with
  | .long v :: r => k v r
  | _ => ab_no
def ab_pr (st : List Value) (k : Nat → List Value → ab_R) : ab_R := match st with
  | .ref v :: r => k v r
  | _ => ab_no
def ab_li (L : ab_Lo) (i : Nat) (k : Int32 → ab_R) : ab_R := match L[i]? with
  | some (some (.int v)) => k v
  | _ => ab_no
def ab_ll (L : ab_Lo) (i : Nat) (k : Int64 → ab_R) : ab_R := match L[i]? with
  | some (some (.long v)) => k v
  | _ => ab_no
def ab_lr (L : ab_Lo) (i : Nat) (k : Nat → ab_R) : ab_R := match L[i]? with
  | some (some (.ref v)) => k v
  | _ => ab_no
/-- the locals behind a store of a value of one slot -/
def ab_s1 : ab_Lo → Nat → Value → ab_Lo
  | [], _, _ => []
  | _ :: t, 0, v => some v :: t
  | some (.long w) :: t, 1, v => none :: ab_s1 t 0 v
  | some (.double w) :: t, 1, v => none :: ab_s1 t 0 v
  | q :: t, i + 1, v => q :: ab_s1 t i v
/-- .. of a long -/
def ab_s2 : ab_Lo → Nat → Value → ab_Lo
  | [], _, _ => []
  | _ :: [], 0, v => [some v]
  | _ :: _ :: t, 0, v => some v :: none :: t
  | some (.long w) :: t, 1, v => none :: ab_s2 t 0 v
  | some (.double w) :: t, 1, v => none :: ab_s2 t 0 v
  | q :: t, i + 1, v => q :: ab_s2 t i v
def ab_rf (r : Option Nat) : Value := match r with
  | some i => .ref i
  | none => .null
abbrev ab_n (h : ab_H) : Nat := h.1
abbrev ab_S (h : ab_H) : Nat → ab_Sh := h.2.1
abbrev ab_i (h : ab_H) : Nat → Nat → Int32 := h.2.2.1
abbrev ab_l (h : ab_H) : Nat → Nat → Int64 := h.2.2.2.1
abbrev ab_p (h : ab_H) : Nat → Nat → Option Nat := h.2.2.2.2
/-- the heap behind a store -/
def ab_ui (h : ab_H) (c k : Nat) (v : Int32) : ab_H := (h.1, h.2.1, va_up h.2.2.1 c (upd (h.2.2.1 c) k v), h.2.2.2.1, h.2.2.2.2)
def ab_ul (h : ab_H) (c k : Nat) (v : Int64) : ab_H := (h.1, h.2.1, h.2.2.1, va_up h.2.2.2.1 c (vp_updL (h.2.2.2.1 c) k v), h.2.2.2.2)
def ab_up (h : ab_H) (c k : Nat) (v : Option Nat) : ab_H := (h.1, h.2.1, h.2.2.1, h.2.2.2.1, va_up h.2.2.2.2 c (va_up (h.2.2.2.2 c) k v))
/-- .. behind a new cell -/
def ab_nw (h : ab_H) (q : ab_Sh) : ab_H := (h.1 + 1, va_up h.2.1 h.1 q, va_up h.2.2.1 h.1 (fun _ => 0), va_up h.2.2.2.1 h.1 (fun _ => 0), va_up h.2.2.2.2 h.1 (fun _ => none))
def ab_cmp (c : ClassFile.Cond) (a b : Int32) : Prop := match c with
  | .eq => a = b
  | .ne => ¬ a = b
  | .lt => a < b
  | .ge => b ≤ a
  | .gt => b < a
  | .le => a ≤ b
def ab_aty : ArrayType → FieldType := newarray.typeOf
/-- the value that an array of this type holds of an int that is stored -/
def ab_nar (ty : FieldType) (x : Int32) : Int32 := match ty with
  | .byte => vp_nar .byte x
  | .boolean => vp_nar .boolean x
  | _ => x
def ab_ok1 (v : Value) : Prop := v.category = 1
/-- targets of a tableswitch, one by one -/
def ab_sw (v : Int32) (lo : Int) (L : ab_Lo) (r : List Value) (h : ab_H) (cs sl : Nat) : Nat → List Nat → List (Prop × ab_T)
  | _, [] => []
  | j, t :: ts => (v.toInt = lo + (j : Int), (t, L, r, h, cs, sl)) :: ab_sw v lo L r h cs sl (j + 1) ts
def ab_step (M : ab_M) (pc : Nat) (L : ab_Lo) (st : List Value) (h : ab_H) (cs sl : Nat) : ab_R := match ab_find pc (ab_mo M) with
  | none => ab_no
  | some (ins, len, x, y, ts) => match ins with
    | .iload i => ab_li L i fun v => ab_go (pc + len, L, .int v :: st, h, cs, sl)
    | .iload_n i => ab_li L i.val fun v => ab_go (pc + len, L, .int v :: st, h, cs, sl)
    | .lload i => ab_ll L i fun v => ab_go (pc + len, L, .long v :: st, h, cs, sl)
    | .lload_n i => ab_ll L i.val fun v => ab_go (pc + len, L, .long v :: st, h, cs, sl)
    | .aload i => ab_lr L i fun v => ab_go (pc + len, L, .ref v :: st, h, cs, sl)
    | .aload_n i => ab_lr L i.val fun v => ab_go (pc + len, L, .ref v :: st, h, cs, sl)
    | .istore i => ab_pi st fun v r => ab_gc (i < ab_ml M) (pc + len, ab_s1 L i (.int v), r, h, cs, sl)
    | .istore_n i => ab_pi st fun v r => ab_gc (i.val < ab_ml M) (pc + len, ab_s1 L i.val (.int v), r, h, cs, sl)
    | .lstore i => ab_pl st fun v r => ab_gc (i + 1 < ab_ml M) (pc + len, ab_s2 L i (.long v), r, h, cs, sl)
    | .lstore_n i => ab_pl st fun v r => ab_gc (i.val + 1 < ab_ml M) (pc + len, ab_s2 L i.val (.long v), r, h, cs, sl)
    | .astore i => ab_pr st fun v r => ab_gc (v < 1000000 ∧ i < ab_ml M) (pc + len, ab_s1 L i (.ref v), r, h, cs, sl)
    | .astore_n i => ab_pr st fun v r => ab_gc (v < 1000000 ∧ i.val < ab_ml M) (pc + len, ab_s1 L i.val (.ref v), r, h, cs, sl)
    | .iinc i n => ab_li L i fun v => ab_gc (i < ab_ml M) (pc + len, ab_s1 L i (.int (v + Int32.ofInt n)), st, h, cs, sl)
    | .iconst n => ab_go (pc + len, L, .int (Int32.ofInt n) :: st, h, cs, sl)
    | .bipush n => ab_go (pc + len, L, .int (Int8.ofInt n).toInt32 :: st, h, cs, sl)
    | .sipush n => ab_go (pc + len, L, .int (Int16.ofInt n).toInt32 :: st, h, cs, sl)
    | .lconst n => ab_go (pc + len, L, .long (Int64.ofNat n.val) :: st, h, cs, sl)
    | .ldc _ => match ts with
      | [_] => ab_go (pc + len, L, .int (Int32.ofNat x) :: st, h, cs, sl)
      | _ => ab_go (pc + len, L, .ref x :: st, h, cs, sl)
    | .ldc_w _ => ab_go (pc + len, L, .int (Int32.ofNat x) :: st, h, cs, sl)
    | .ldc2_w _ => ab_go (pc + len, L, .long (Int64.ofNat x) :: st, h, cs, sl)
    | .getstatic _ => match ts with
      | [_] => ab_go (pc + len, L, .int 1 :: st, h, cs, sl)
      | _ => ab_go (pc + len, L, .ref 1000020 :: st, h, cs, sl)
    | .getfield _ => ab_pr st fun c r => ab_gc (ab_S h c = .inl x) (pc + len, L, (match ts with
      | [_] => .int (ab_i h c y)
      | _ => ab_rf (ab_p h c y)) :: r, h, cs, sl)
    | .putfield _ => match ts with
      | [_] => ab_pi st fun v r => ab_pr r fun c r => ab_gc (ab_S h c = .inl x ∧ c < 1000000 ∧ narrow .int (.int v) = .int v) (pc + len, L, r, ab_ui h c y v, cs, sl)
      | [_, _] => ab_pi st fun v r => ab_pr r fun c r => ab_gc (ab_S h c = .inl x ∧ c < 1000000 ∧ (v = 0 ∨ v = 1)) (pc + len, L, r, ab_ui h c y v, cs, sl)
      | _ => ab_pr st fun v r => ab_pr r fun c r => ab_gc (ab_S h c = .inl x ∧ c < 1000000 ∧ v < 1000000) (pc + len, L, r, ab_up h c y (some v), cs, sl)
    | .new _ => ab_gc (h.1 < 600000 ∧ cs + 1 ≤ ab_mc M ∧ sl + y ≤ ab_ms M) (pc + len, L, .ref h.1 :: st, ab_nw h (.inl x), cs + 1, sl + y)
    | .newarray a => ab_pi st fun v r => ab_gc (h.1 < 600000 ∧ ¬ v < 0 ∧ v.toNatClampNeg ≤ 100000 ∧ cs + 1 ≤ ab_mc M ∧ sl + v.toNatClampNeg ≤ ab_ms M) (pc + len, L, .ref h.1 :: r, ab_nw h (.inr (ab_aty a, v.toNatClampNeg)), cs + 1, sl + v.toNatClampNeg)
    | .arraylength => ab_pr st fun c r => match ab_S h c with
      | .inr (_, n) => ab_go (pc + len, L, .int (Int32.ofNat n) :: r, h, cs, sl)
      | _ => ab_no
    | .iaload => ab_pi st fun j r => ab_pr r fun c r => match ab_S h c with
      | .inr (.int, n) => ab_gc (vp_in j n) (pc + len, L, .int (ab_i h c j.toNatClampNeg) :: r, h, cs, sl)
      | _ => ab_no
    | .baload => ab_pi st fun j r => ab_pr r fun c r => match ab_S h c with
      | .inr (.byte, n) => ab_gc (vp_in j n) (pc + len, L, .int (ab_i h c j.toNatClampNeg) :: r, h, cs, sl)
      | .inr (.boolean, n) => ab_gc (vp_in j n) (pc + len, L, .int (ab_i h c j.toNatClampNeg) :: r, h, cs, sl)
      | _ => ab_no
    | .laload => ab_pi st fun j r => ab_pr r fun c r => match ab_S h c with
      | .inr (.long, n) => ab_gc (vp_in j n) (pc + len, L, .long (ab_l h c j.toNatClampNeg) :: r, h, cs, sl)
      | _ => ab_no
    | .iastore => ab_pi st fun v r => ab_pi r fun j r => ab_pr r fun c r => match ab_S h c with
      | .inr (.int, n) => ab_gc (c < 1000000 ∧ vp_in j n) (pc + len, L, r, ab_ui h c j.toNatClampNeg v, cs, sl)
      | _ => ab_no
    | .bastore => ab_pi st fun v r => ab_pi r fun j r => ab_pr r fun c r => match ab_S h c with
      | .inr (.byte, n) => ab_gc (c < 1000000 ∧ vp_in j n) (pc + len, L, r, ab_ui h c j.toNatClampNeg (vp_nar .byte v), cs, sl)
      | .inr (.boolean, n) => ab_gc (c < 1000000 ∧ vp_in j n) (pc + len, L, r, ab_ui h c j.toNatClampNeg (vp_nar .boolean v), cs, sl)
      | _ => ab_no
    | .lastore => ab_pl st fun v r => ab_pi r fun j r => ab_pr r fun c r => match ab_S h c with
      | .inr (.long, n) => ab_gc (c < 1000000 ∧ vp_in j n) (pc + len, L, r, ab_ul h c j.toNatClampNeg v, cs, sl)
      | _ => ab_no
    | .iadd => ab_pi st fun b r => ab_pi r fun a r => ab_go (pc + len, L, .int (a + b) :: r, h, cs, sl)
    | .isub => ab_pi st fun b r => ab_pi r fun a r => ab_go (pc + len, L, .int (a - b) :: r, h, cs, sl)
    | .imul => ab_pi st fun b r => ab_pi r fun a r => ab_go (pc + len, L, .int (a * b) :: r, h, cs, sl)
    | .idiv => ab_pi st fun b r => ab_pi r fun a r => ab_gc (¬ b = 0) (pc + len, L, .int (a / b) :: r, h, cs, sl)
    | .irem => ab_pi st fun b r => ab_pi r fun a r => ab_gc (¬ b = 0) (pc + len, L, .int (a - a / b * b) :: r, h, cs, sl)
    | .iand => ab_pi st fun b r => ab_pi r fun a r => ab_go (pc + len, L, .int (a &&& b) :: r, h, cs, sl)
    | .ior => ab_pi st fun b r => ab_pi r fun a r => ab_go (pc + len, L, .int (a ||| b) :: r, h, cs, sl)
    | .ixor => ab_pi st fun b r => ab_pi r fun a r => ab_go (pc + len, L, .int (a ^^^ b) :: r, h, cs, sl)
    | .ishl => ab_pi st fun b r => ab_pi r fun a r => ab_go (pc + len, L, .int (a <<< (b &&& 31)) :: r, h, cs, sl)
    | .ishr => ab_pi st fun b r => ab_pi r fun a r => ab_go (pc + len, L, .int (a >>> (b &&& 31)) :: r, h, cs, sl)
    | .iushr => ab_pi st fun b r => ab_pi r fun a r => ab_go (pc + len, L, .int (a.toUInt32 >>> (b.toUInt32 &&& Int32.toUInt32 31)).toInt32 :: r, h, cs, sl)
    | .ladd => ab_pl st fun b r => ab_pl r fun a r => ab_go (pc + len, L, .long (a + b) :: r, h, cs, sl)
    | .lmul => ab_pl st fun b r => ab_pl r fun a r => ab_go (pc + len, L, .long (a * b) :: r, h, cs, sl)
    | .ldiv => ab_pl st fun b r => ab_pl r fun a r => ab_gc (¬ b = 0) (pc + len, L, .long (a / b) :: r, h, cs, sl)
    | .lrem => ab_pl st fun b r => ab_pl r fun a r => ab_gc (¬ b = 0) (pc + len, L, .long (a - a / b * b) :: r, h, cs, sl)
    | .lcmp => ab_pl st fun b r => ab_pl r fun a r => ab_go (pc + len, L, .int (lg_cmp a b) :: r, h, cs, sl)
    | .i2l => ab_pi st fun a r => ab_go (pc + len, L, .long a.toInt64 :: r, h, cs, sl)
    | .l2i => ab_pl st fun a r => ab_go (pc + len, L, .int a.toInt32 :: r, h, cs, sl)
    | .i2b => ab_pi st fun a r => ab_go (pc + len, L, .int a.toInt8.toInt32 :: r, h, cs, sl)
    | .i2c => ab_pi st fun a r => ab_go (pc + len, L, .int (a.toUInt32 % 65536).toInt32 :: r, h, cs, sl)
    | .ifCond c _ => ab_pi st fun a r => ab_br (ab_cmp c a 0) (x, L, r, h, cs, sl) (pc + len, L, r, h, cs, sl)
    | .if_icmp c _ => ab_pi st fun b r => ab_pi r fun a r => ab_br (ab_cmp c a b) (x, L, r, h, cs, sl) (pc + len, L, r, h, cs, sl)
    | .goto _ => ab_go (x, L, st, h, cs, sl)
    | .tableswitch _ lo hi _ => ab_pi st fun a r => .inl (True, (a.toInt < lo ∨ hi < a.toInt, (x, L, r, h, cs, sl)) :: ab_sw a lo L r h cs sl 0 ts)
    | .dup => match st with
      | v :: r => ab_gc (v.category = 1) (pc + len, L, v :: v :: r, h, cs, sl)
      | _ => ab_no
    | .dup2 => match st with
      | v :: w :: r => ab_gc (v.category = 1 ∧ w.category = 1) (pc + len, L, v :: w :: v :: w :: r, h, cs, sl)
      | _ => ab_no
    | .pop => match st with
      | v :: r => ab_gc (v.category = 1) (pc + len, L, r, h, cs, sl)
      | _ => ab_no
    | .invokestatic _ => match ts with
      | _ :: n :: _ => .inr (.inl ((n ≤ st.length ∧ ((st.drop n).map fun v => v.category).sum ≤ 8), x, (st.take n).reverse, fun mc ms v h => (pc + len, L, v.toList ++ st.drop n, h, cs + mc, sl + ms)))
      | _ => ab_no
    | .invokevirtual _ => match ts with
      | _ :: n :: _ => match st.drop n with
        | .ref c :: r => .inr (.inl ((n ≤ st.length ∧ ab_S h c = .inl y ∧ (r.map fun v => v.category).sum ≤ 8), x, .ref c :: (st.take n).reverse, fun mc ms v h => (pc + len, L, v.toList ++ r, h, cs + mc, sl + ms)))
        | _ => ab_no
      | _ => ab_no
    | .invokespecial _ => match ts with
      | _ :: n :: _ => match st.drop n with
        | .ref c :: r => .inr (.inl ((n ≤ st.length ∧ c < 1000000 ∧ (r.map fun v => v.category).sum ≤ 8), x, .ref c :: (st.take n).reverse, fun mc ms v h => (pc + len, L, v.toList ++ r, h, cs + mc, sl + ms)))
        | _ => ab_no
      | _ => ab_pr st fun c r => ab_gc (c < 1000000 ∧ (r.map fun v => v.category).sum ≤ 8) (pc + len, L, r, h, cs, sl)
    | .ireturn => match st with
      | [.int v] => match ab_mr M with
        | some ty => .inr (.inr (narrow ty (.int v) = .int v ∧ cs ≤ ab_mc M ∧ sl ≤ ab_ms M, some (.int v)))
        | none => ab_no
      | _ => ab_no
    | .lreturn => match st with
      | [.long v] => .inr (.inr (cs ≤ ab_mc M ∧ sl ≤ ab_ms M, some (.long v)))
      | _ => ab_no
    | .areturn => match st with
      | [.ref v] => .inr (.inr (v < 1000000 ∧ cs ≤ ab_mc M ∧ sl ≤ ab_ms M, some (.ref v)))
      | _ => ab_no
    | .return_ => match st with
      | [] => .inr (.inr (cs ≤ ab_mc M ∧ sl ≤ ab_ms M, none))
      | _ => ab_no
    | _ => ab_no
/-- the locals at a method's start -/
def ab_en : List Value → ab_Lo
  | [] => []
  | v :: t => match v.category with
    | 2 => some v :: none :: ab_en t
    | _ => some v :: ab_en t
def ab_ent (As : List Value) (n : Nat) : ab_Lo := ab_en As ++ List.replicate (n - (ab_en As).length) none
abbrev ab_Q : Type := Option Value → ab_H → Prop
abbrev ab_C : Type := Nat → List Value → ab_H → Nat → Nat → ab_Q → Prop
/-- what an instruction asks of where it goes -/
def ab_all (C : ab_C) (M : ab_M) (Q : ab_Q) (h : ab_H) (cs sl : Nat) (X : ab_T → Prop) : ab_R → Prop
  | .inl q => q.1 ∧ ∀ t ∈ q.2, t.1 → X t.2
  | .inr (.inl q) => q.1 ∧ ∃ mc ms : Nat, cs + mc ≤ ab_mc M ∧ sl + ms ≤ ab_ms M ∧ C q.2.1 q.2.2.1 h mc ms (fun v h2 => X (q.2.2.2 mc ms v h2))
  | .inr (.inr q) => q.1 ∧ Q q.2 h
def ab_lfp (C : ab_C) (M : ab_M) (Q : ab_Q) (t : ab_T) : Prop := ∀ X : ab_T → Prop, (∀ pc L st h cs sl, ab_all C M Q h cs sl X (ab_step M pc L st h cs sl) → X (pc, L, st, h, cs, sl)) → X t
/-- the calls of depth d -/
def ab_call (MT : List ab_M) : Nat → ab_C
  | 0 => fun _ _ _ _ _ _ => False
  | d + 1 => fun k As h mc ms Q => ∃ M, MT[k]? = some M ∧ ab_mc M = mc ∧ ab_ms M = ms ∧ ab_lfp (ab_call MT d) M Q (0, ab_ent As (ab_ml M), [], h, 0, 0)
abbrev ab_wp (MT : List ab_M) (d : Nat) (M : ab_M) (Q : ab_Q) (pc : Nat) (L : ab_Lo) (st : List Value) (h : ab_H) (cs sl : Nat) : Prop := ab_lfp (ab_call MT d) M Q (pc, L, st, h, cs, sl)
theorem ab_all_mono {C : ab_C} {M : ab_M} {Q : ab_Q} {h : ab_H} {cs sl : Nat} {X Y : ab_T → Prop} (hC : ∀ k As h mc ms (Q1 Q2 : ab_Q), (∀ v h, Q1 v h → Q2 v h) → C k As h mc ms Q1 → C k As h mc ms Q2) (hXY : ∀ t, X t → Y t) {r : ab_R} (hr : ab_all C M Q h cs sl X r) : ab_all C M Q h cs sl Y r := by
  match r, hr with
  | .inl q, hr => exact ⟨hr.1, fun t ht h1 => hXY _ (hr.2 t ht h1)⟩
  | .inr (.inl q), hr =>
    obtain ⟨h1, mc, ms, h2, h3, h4⟩ := hr
    exact ⟨h1, mc, ms, h2, h3, hC _ _ _ _ _ _ _ (fun v h q => hXY _ q) h4⟩
  | .inr (.inr q), hr => exact hr
theorem ab_all_Q {C : ab_C} {M : ab_M} {Q Q2 : ab_Q} {h : ab_H} {cs sl : Nat} {X : ab_T → Prop} (hQ : ∀ v h, Q v h → Q2 v h) {r : ab_R} (hr : ab_all C M Q h cs sl X r) : ab_all C M Q2 h cs sl X r := by
  match r, hr with
  | .inl q, hr => exact hr
  | .inr (.inl q), hr => exact hr
  | .inr (.inr q), hr => exact ⟨hr.1, hQ _ _ hr.2⟩
theorem ab_lfp_Q {C : ab_C} {M : ab_M} {Q Q2 : ab_Q} {t : ab_T} (hQ : ∀ v h, Q v h → Q2 v h) (h : ab_lfp C M Q t) : ab_lfp C M Q2 t := fun X hX => h X (fun pc L st h cs sl hr => hX pc L st h cs sl (ab_all_Q hQ hr))
theorem ab_call_mono (MT : List ab_M) (d : Nat) : ∀ k As h mc ms (Q1 Q2 : ab_Q), (∀ v h, Q1 v h → Q2 v h) → ab_call MT d k As h mc ms Q1 → ab_call MT d k As h mc ms Q2 := by
  intro k As h mc ms Q1 Q2 hQ hc
  cases d with
  | zero => exact hc
  | succ d =>
    obtain ⟨M, h1, h2, h3, h4⟩ := hc
    exact ⟨M, h1, h2, h3, ab_lfp_Q hQ h4⟩
theorem ab_mk_ {MT : List ab_M} {d : Nat} {M : ab_M} {Q : ab_Q} {pc : Nat} {L : ab_Lo} {st : List Value} {h : ab_H} {cs sl : Nat} (hs : ab_all (ab_call MT d) M Q h cs sl (ab_lfp (ab_call MT d) M Q) (ab_step M pc L st h cs sl)) : ab_wp MT d M Q pc L st h cs sl := by
  intro X hX
  exact hX pc L st h cs sl (ab_all_mono (ab_call_mono MT d) (fun t ht => ht X hX) hs)
theorem ab_Q_ {MT : List ab_M} {d : Nat} {M : ab_M} {Q Q2 : ab_Q} {pc : Nat} {L : ab_Lo} {st : List Value} {h : ab_H} {cs sl : Nat} (hw : ab_wp MT d M Q pc L st h cs sl) (hQ : ∀ v h, Q v h → Q2 v h) : ab_wp MT d M Q2 pc L st h cs sl := ab_lfp_Q hQ hw
end

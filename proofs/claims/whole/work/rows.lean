section
-- ===== PART A: goes FIRST, ahead of the names: the tables' words, and 'selects' of the private methods out of them =====
/-- a private method of a class that the tables say can be made, by its rows of tables_1 -/
def lw_okq (q : MethodName × Nat) : Prop := (q.1.cls ≠ "java/lang/invoke/MethodHandle" ∧ q.1.cls ≠ "java/lang/invoke/VarHandle") ∧ Cond.instantiable q.1.cls q.2 ∈ tables_1 ∧ Cond.privateMethod q.1 ∈ tables_1 ∧ Cond.instanceMethod q.1 ∈ tables_1
theorem lw_p0 : lw_okq (⟨"SaintTheft$Laws", "beginTimes", "(III)V"⟩, 6) := ⟨⟨by decide +kernel, by decide +kernel⟩, List.mem_of_getElem? (i := 35) (by decide +kernel), List.mem_of_getElem? (i := 77) (by decide +kernel), List.mem_of_getElem? (i := 78) (by decide +kernel)⟩
theorem lw_p1 : lw_okq (⟨"SaintTheft", "startText", "()V"⟩, 9) := ⟨⟨by decide +kernel, by decide +kernel⟩, List.mem_of_getElem? (i := 21) (by decide +kernel), List.mem_of_getElem? (i := 348) (by decide +kernel), List.mem_of_getElem? (i := 349) (by decide +kernel)⟩
theorem lw_p2 : lw_okq (⟨"SaintTheft$Reader", "begin", "(LSaintTheft$Text;LSaintTheft$Tape;)V"⟩, 9) := ⟨⟨by decide +kernel, by decide +kernel⟩, List.mem_of_getElem? (i := 145) (by decide +kernel), List.mem_of_getElem? (i := 448) (by decide +kernel), List.mem_of_getElem? (i := 449) (by decide +kernel)⟩
theorem lw_p3 : lw_okq (⟨"SaintTheft$Tokens", "addToken", "(LSaintTheft$Tape;II)I"⟩, 5) := ⟨⟨by decide +kernel, by decide +kernel⟩, List.mem_of_getElem? (i := 151) (by decide +kernel), List.mem_of_getElem? (i := 464) (by decide +kernel), List.mem_of_getElem? (i := 465) (by decide +kernel)⟩
theorem lw_p4 : lw_okq (⟨"SaintTheft$Tokens", "addLetters", "(LSaintTheft$Tape;I)I"⟩, 5) := ⟨⟨by decide +kernel, by decide +kernel⟩, List.mem_of_getElem? (i := 151) (by decide +kernel), List.mem_of_getElem? (i := 471) (by decide +kernel), List.mem_of_getElem? (i := 472) (by decide +kernel)⟩
theorem lw_p5 : lw_okq (⟨"SaintTheft$Tokens", "wordKind", "(J)I"⟩, 5) := ⟨⟨by decide +kernel, by decide +kernel⟩, List.mem_of_getElem? (i := 151) (by decide +kernel), List.mem_of_getElem? (i := 475) (by decide +kernel), List.mem_of_getElem? (i := 476) (by decide +kernel)⟩
theorem lw_p6 : lw_okq (⟨"SaintTheft$Tokens", "put", "(IIJ)V"⟩, 5) := ⟨⟨by decide +kernel, by decide +kernel⟩, List.mem_of_getElem? (i := 151) (by decide +kernel), List.mem_of_getElem? (i := 479) (by decide +kernel), List.mem_of_getElem? (i := 480) (by decide +kernel)⟩
theorem lw_p7 : lw_okq (⟨"SaintTheft$Tokens", "addDigits", "(LSaintTheft$Tape;I)I"⟩, 5) := ⟨⟨by decide +kernel, by decide +kernel⟩, List.mem_of_getElem? (i := 151) (by decide +kernel), List.mem_of_getElem? (i := 486) (by decide +kernel), List.mem_of_getElem? (i := 487) (by decide +kernel)⟩
theorem lw_p8 : lw_okq (⟨"SaintTheft$Reader", "readChurch", "()Z"⟩, 9) := ⟨⟨by decide +kernel, by decide +kernel⟩, List.mem_of_getElem? (i := 145) (by decide +kernel), List.mem_of_getElem? (i := 557) (by decide +kernel), List.mem_of_getElem? (i := 558) (by decide +kernel)⟩
theorem lw_p9 : lw_okq (⟨"SaintTheft$Reader", "refuse", "(I)Z"⟩, 9) := ⟨⟨by decide +kernel, by decide +kernel⟩, List.mem_of_getElem? (i := 145) (by decide +kernel), List.mem_of_getElem? (i := 565) (by decide +kernel), List.mem_of_getElem? (i := 566) (by decide +kernel)⟩
theorem lw_p10 : lw_okq (⟨"SaintTheft$Reader", "take", "(I)Z"⟩, 9) := ⟨⟨by decide +kernel, by decide +kernel⟩, List.mem_of_getElem? (i := 145) (by decide +kernel), List.mem_of_getElem? (i := 569) (by decide +kernel), List.mem_of_getElem? (i := 570) (by decide +kernel)⟩
theorem lw_p11 : lw_okq (⟨"SaintTheft$Reader", "addName", "(I)V"⟩, 9) := ⟨⟨by decide +kernel, by decide +kernel⟩, List.mem_of_getElem? (i := 145) (by decide +kernel), List.mem_of_getElem? (i := 573) (by decide +kernel), List.mem_of_getElem? (i := 574) (by decide +kernel)⟩
theorem lw_p12 : lw_okq (⟨"SaintTheft$Reader", "refuseLate", "(II)V"⟩, 9) := ⟨⟨by decide +kernel, by decide +kernel⟩, List.mem_of_getElem? (i := 145) (by decide +kernel), List.mem_of_getElem? (i := 585) (by decide +kernel), List.mem_of_getElem? (i := 586) (by decide +kernel)⟩
theorem lw_p13 : lw_okq (⟨"SaintTheft$Reader", "numberAt", "(III)I"⟩, 9) := ⟨⟨by decide +kernel, by decide +kernel⟩, List.mem_of_getElem? (i := 145) (by decide +kernel), List.mem_of_getElem? (i := 589) (by decide +kernel), List.mem_of_getElem? (i := 590) (by decide +kernel)⟩
theorem lw_p14 : lw_okq (⟨"SaintTheft$Reader", "readRoad", "()Z"⟩, 9) := ⟨⟨by decide +kernel, by decide +kernel⟩, List.mem_of_getElem? (i := 145) (by decide +kernel), List.mem_of_getElem? (i := 598) (by decide +kernel), List.mem_of_getElem? (i := 599) (by decide +kernel)⟩
theorem lw_p15 : lw_okq (⟨"SaintTheft$Reader", "churchAt", "(I)I"⟩, 9) := ⟨⟨by decide +kernel, by decide +kernel⟩, List.mem_of_getElem? (i := 145) (by decide +kernel), List.mem_of_getElem? (i := 606) (by decide +kernel), List.mem_of_getElem? (i := 607) (by decide +kernel)⟩
def lw_privs_1 : List (MethodName × Nat) := [(⟨"SaintTheft$Laws", "beginTimes", "(III)V"⟩, 6), (⟨"SaintTheft", "startText", "()V"⟩, 9), (⟨"SaintTheft$Reader", "begin", "(LSaintTheft$Text;LSaintTheft$Tape;)V"⟩, 9), (⟨"SaintTheft$Tokens", "addToken", "(LSaintTheft$Tape;II)I"⟩, 5), (⟨"SaintTheft$Tokens", "addLetters", "(LSaintTheft$Tape;I)I"⟩, 5), (⟨"SaintTheft$Tokens", "wordKind", "(J)I"⟩, 5), (⟨"SaintTheft$Tokens", "put", "(IIJ)V"⟩, 5), (⟨"SaintTheft$Tokens", "addDigits", "(LSaintTheft$Tape;I)I"⟩, 5), (⟨"SaintTheft$Reader", "readChurch", "()Z"⟩, 9), (⟨"SaintTheft$Reader", "refuse", "(I)Z"⟩, 9), (⟨"SaintTheft$Reader", "take", "(I)Z"⟩, 9), (⟨"SaintTheft$Reader", "addName", "(I)V"⟩, 9), (⟨"SaintTheft$Reader", "refuseLate", "(II)V"⟩, 9), (⟨"SaintTheft$Reader", "numberAt", "(III)I"⟩, 9), (⟨"SaintTheft$Reader", "readRoad", "()Z"⟩, 9), (⟨"SaintTheft$Reader", "churchAt", "(I)I"⟩, 9)]
theorem lw_r1 : ∀ q ∈ lw_privs_1, lw_okq q := List.forall_mem_cons.mpr ⟨lw_p0, List.forall_mem_cons.mpr ⟨lw_p1, List.forall_mem_cons.mpr ⟨lw_p2, List.forall_mem_cons.mpr ⟨lw_p3, List.forall_mem_cons.mpr ⟨lw_p4, List.forall_mem_cons.mpr ⟨lw_p5, List.forall_mem_cons.mpr ⟨lw_p6, List.forall_mem_cons.mpr ⟨lw_p7, List.forall_mem_cons.mpr ⟨lw_p8, List.forall_mem_cons.mpr ⟨lw_p9, List.forall_mem_cons.mpr ⟨lw_p10, List.forall_mem_cons.mpr ⟨lw_p11, List.forall_mem_cons.mpr ⟨lw_p12, List.forall_mem_cons.mpr ⟨lw_p13, List.forall_mem_cons.mpr ⟨lw_p14, List.forall_mem_cons.mpr ⟨lw_p15, fun _ h => absurd h List.not_mem_nil⟩⟩⟩⟩⟩⟩⟩⟩⟩⟩⟩⟩⟩⟩⟩⟩
theorem lw_p16 : lw_okq (⟨"SaintTheft$Reader", "readRelic", "()Z"⟩, 9) := ⟨⟨by decide +kernel, by decide +kernel⟩, List.mem_of_getElem? (i := 145) (by decide +kernel), List.mem_of_getElem? (i := 626) (by decide +kernel), List.mem_of_getElem? (i := 627) (by decide +kernel)⟩
theorem lw_p17 : lw_okq (⟨"SaintTheft$Reader", "readPilgrim", "()Z"⟩, 9) := ⟨⟨by decide +kernel, by decide +kernel⟩, List.mem_of_getElem? (i := 145) (by decide +kernel), List.mem_of_getElem? (i := 638) (by decide +kernel), List.mem_of_getElem? (i := 639) (by decide +kernel)⟩
theorem lw_p18 : lw_okq (⟨"SaintTheft$Reader", "readSeed", "()Z"⟩, 9) := ⟨⟨by decide +kernel, by decide +kernel⟩, List.mem_of_getElem? (i := 145) (by decide +kernel), List.mem_of_getElem? (i := 650) (by decide +kernel), List.mem_of_getElem? (i := 651) (by decide +kernel)⟩
theorem lw_p19 : lw_okq (⟨"SaintTheft$Reader", "readLaw", "()Z"⟩, 9) := ⟨⟨by decide +kernel, by decide +kernel⟩, List.mem_of_getElem? (i := 145) (by decide +kernel), List.mem_of_getElem? (i := 658) (by decide +kernel), List.mem_of_getElem? (i := 659) (by decide +kernel)⟩
theorem lw_p20 : lw_okq (⟨"SaintTheft$Reader", "readIf", "()Z"⟩, 9) := ⟨⟨by decide +kernel, by decide +kernel⟩, List.mem_of_getElem? (i := 145) (by decide +kernel), List.mem_of_getElem? (i := 663) (by decide +kernel), List.mem_of_getElem? (i := 664) (by decide +kernel)⟩
theorem lw_p21 : lw_okq (⟨"SaintTheft$Reader", "readSum", "(I)Z"⟩, 9) := ⟨⟨by decide +kernel, by decide +kernel⟩, List.mem_of_getElem? (i := 145) (by decide +kernel), List.mem_of_getElem? (i := 667) (by decide +kernel), List.mem_of_getElem? (i := 668) (by decide +kernel)⟩
theorem lw_p22 : lw_okq (⟨"SaintTheft$Reader", "readUnit", "(I)Z"⟩, 9) := ⟨⟨by decide +kernel, by decide +kernel⟩, List.mem_of_getElem? (i := 145) (by decide +kernel), List.mem_of_getElem? (i := 671) (by decide +kernel), List.mem_of_getElem? (i := 672) (by decide +kernel)⟩
theorem lw_p23 : lw_okq (⟨"SaintTheft$Reader", "settle", "()V"⟩, 9) := ⟨⟨by decide +kernel, by decide +kernel⟩, List.mem_of_getElem? (i := 145) (by decide +kernel), List.mem_of_getElem? (i := 680) (by decide +kernel), List.mem_of_getElem? (i := 681) (by decide +kernel)⟩
theorem lw_p24 : lw_okq (⟨"SaintTheft$Course", "lookAt", "(LSaintTheft$State;I)V"⟩, 4) := ⟨⟨by decide +kernel, by decide +kernel⟩, List.mem_of_getElem? (i := 268) (by decide +kernel), List.mem_of_getElem? (i := 758) (by decide +kernel), List.mem_of_getElem? (i := 759) (by decide +kernel)⟩
theorem lw_p25 : lw_okq (⟨"SaintTheft$Course", "lookAtPilgrim", "(LSaintTheft$State;II)V"⟩, 4) := ⟨⟨by decide +kernel, by decide +kernel⟩, List.mem_of_getElem? (i := 268) (by decide +kernel), List.mem_of_getElem? (i := 772) (by decide +kernel), List.mem_of_getElem? (i := 773) (by decide +kernel)⟩
theorem lw_p26 : lw_okq (⟨"SaintTheft$Laws", "varOf", "(I)I"⟩, 6) := ⟨⟨by decide +kernel, by decide +kernel⟩, List.mem_of_getElem? (i := 35) (by decide +kernel), List.mem_of_getElem? (i := 786) (by decide +kernel), List.mem_of_getElem? (i := 787) (by decide +kernel)⟩
theorem lw_p27 : lw_okq (⟨"SaintTheft$Course", "catching", "(LSaintTheft$State;III)I"⟩, 4) := ⟨⟨by decide +kernel, by decide +kernel⟩, List.mem_of_getElem? (i := 268) (by decide +kernel), List.mem_of_getElem? (i := 834) (by decide +kernel), List.mem_of_getElem? (i := 835) (by decide +kernel)⟩
theorem lw_p28 : lw_okq (⟨"SaintTheft$Course", "leaving", "(LSaintTheft$State;II)I"⟩, 4) := ⟨⟨by decide +kernel, by decide +kernel⟩, List.mem_of_getElem? (i := 268) (by decide +kernel), List.mem_of_getElem? (i := 851) (by decide +kernel), List.mem_of_getElem? (i := 852) (by decide +kernel)⟩
theorem lw_p29 : lw_okq (⟨"SaintTheft$Course", "visit", "(LSaintTheft$State;III)I"⟩, 4) := ⟨⟨by decide +kernel, by decide +kernel⟩, List.mem_of_getElem? (i := 268) (by decide +kernel), List.mem_of_getElem? (i := 886) (by decide +kernel), List.mem_of_getElem? (i := 887) (by decide +kernel)⟩
theorem lw_p30 : lw_okq (⟨"SaintTheft$Forecast", "passWithRelicAt", "(III)V"⟩, 4) := ⟨⟨by decide +kernel, by decide +kernel⟩, List.mem_of_getElem? (i := 288) (by decide +kernel), List.mem_of_getElem? (i := 933) (by decide +kernel), List.mem_of_getElem? (i := 934) (by decide +kernel)⟩
theorem lw_p31 : lw_okq (⟨"SaintTheft$Forecast", "keepTook", "()V"⟩, 4) := ⟨⟨by decide +kernel, by decide +kernel⟩, List.mem_of_getElem? (i := 288) (by decide +kernel), List.mem_of_getElem? (i := 948) (by decide +kernel), List.mem_of_getElem? (i := 949) (by decide +kernel)⟩
def lw_privs_2 : List (MethodName × Nat) := [(⟨"SaintTheft$Reader", "readRelic", "()Z"⟩, 9), (⟨"SaintTheft$Reader", "readPilgrim", "()Z"⟩, 9), (⟨"SaintTheft$Reader", "readSeed", "()Z"⟩, 9), (⟨"SaintTheft$Reader", "readLaw", "()Z"⟩, 9), (⟨"SaintTheft$Reader", "readIf", "()Z"⟩, 9), (⟨"SaintTheft$Reader", "readSum", "(I)Z"⟩, 9), (⟨"SaintTheft$Reader", "readUnit", "(I)Z"⟩, 9), (⟨"SaintTheft$Reader", "settle", "()V"⟩, 9), (⟨"SaintTheft$Course", "lookAt", "(LSaintTheft$State;I)V"⟩, 4), (⟨"SaintTheft$Course", "lookAtPilgrim", "(LSaintTheft$State;II)V"⟩, 4), (⟨"SaintTheft$Laws", "varOf", "(I)I"⟩, 6), (⟨"SaintTheft$Course", "catching", "(LSaintTheft$State;III)I"⟩, 4), (⟨"SaintTheft$Course", "leaving", "(LSaintTheft$State;II)I"⟩, 4), (⟨"SaintTheft$Course", "visit", "(LSaintTheft$State;III)I"⟩, 4), (⟨"SaintTheft$Forecast", "passWithRelicAt", "(III)V"⟩, 4), (⟨"SaintTheft$Forecast", "keepTook", "()V"⟩, 4)]
theorem lw_r2 : ∀ q ∈ lw_privs_2, lw_okq q := List.forall_mem_cons.mpr ⟨lw_p16, List.forall_mem_cons.mpr ⟨lw_p17, List.forall_mem_cons.mpr ⟨lw_p18, List.forall_mem_cons.mpr ⟨lw_p19, List.forall_mem_cons.mpr ⟨lw_p20, List.forall_mem_cons.mpr ⟨lw_p21, List.forall_mem_cons.mpr ⟨lw_p22, List.forall_mem_cons.mpr ⟨lw_p23, List.forall_mem_cons.mpr ⟨lw_p24, List.forall_mem_cons.mpr ⟨lw_p25, List.forall_mem_cons.mpr ⟨lw_p26, List.forall_mem_cons.mpr ⟨lw_p27, List.forall_mem_cons.mpr ⟨lw_p28, List.forall_mem_cons.mpr ⟨lw_p29, List.forall_mem_cons.mpr ⟨lw_p30, List.forall_mem_cons.mpr ⟨lw_p31, fun _ h => absurd h List.not_mem_nil⟩⟩⟩⟩⟩⟩⟩⟩⟩⟩⟩⟩⟩⟩⟩⟩
theorem lw_p32 : lw_okq (⟨"SaintTheft$Forecast", "tookMoreThanElse", "(I)I"⟩, 4) := ⟨⟨by decide +kernel, by decide +kernel⟩, List.mem_of_getElem? (i := 288) (by decide +kernel), List.mem_of_getElem? (i := 954) (by decide +kernel), List.mem_of_getElem? (i := 955) (by decide +kernel)⟩
theorem lw_p33 : lw_okq (⟨"SaintTheft$Forecast", "bothGain", "(III)Z"⟩, 4) := ⟨⟨by decide +kernel, by decide +kernel⟩, List.mem_of_getElem? (i := 288) (by decide +kernel), List.mem_of_getElem? (i := 995) (by decide +kernel), List.mem_of_getElem? (i := 996) (by decide +kernel)⟩
theorem lw_p34 : lw_okq (⟨"SaintTheft$Forecast", "hasWonderBy", "(III)Z"⟩, 4) := ⟨⟨by decide +kernel, by decide +kernel⟩, List.mem_of_getElem? (i := 288) (by decide +kernel), List.mem_of_getElem? (i := 1054) (by decide +kernel), List.mem_of_getElem? (i := 1055) (by decide +kernel)⟩
theorem lw_p35 : lw_okq (⟨"SaintTheftModel", "plain", "(I)V"⟩, 66) := ⟨⟨by decide +kernel, by decide +kernel⟩, List.mem_of_getElem? (i := 1149) (by decide +kernel), List.mem_of_getElem? (i := 1155) (by decide +kernel), List.mem_of_getElem? (i := 1156) (by decide +kernel)⟩
theorem lw_p36 : lw_okq (⟨"SaintTheftModel", "begins", "()V"⟩, 66) := ⟨⟨by decide +kernel, by decide +kernel⟩, List.mem_of_getElem? (i := 1149) (by decide +kernel), List.mem_of_getElem? (i := 1166) (by decide +kernel), List.mem_of_getElem? (i := 1167) (by decide +kernel)⟩
theorem lw_p37 : lw_okq (⟨"SaintTheftModel", "keepsRow", "()V"⟩, 66) := ⟨⟨by decide +kernel, by decide +kernel⟩, List.mem_of_getElem? (i := 1149) (by decide +kernel), List.mem_of_getElem? (i := 1170) (by decide +kernel), List.mem_of_getElem? (i := 1171) (by decide +kernel)⟩
theorem lw_p38 : lw_okq (⟨"SaintTheftModel", "put", "(I)V"⟩, 66) := ⟨⟨by decide +kernel, by decide +kernel⟩, List.mem_of_getElem? (i := 1149) (by decide +kernel), List.mem_of_getElem? (i := 1376) (by decide +kernel), List.mem_of_getElem? (i := 1377) (by decide +kernel)⟩
theorem lw_p39 : lw_okq (⟨"SaintTheftModel", "cut", "()V"⟩, 66) := ⟨⟨by decide +kernel, by decide +kernel⟩, List.mem_of_getElem? (i := 1149) (by decide +kernel), List.mem_of_getElem? (i := 1388) (by decide +kernel), List.mem_of_getElem? (i := 1389) (by decide +kernel)⟩
theorem lw_p40 : lw_okq (⟨"SaintTheftModel", "byteAt", "(I)I"⟩, 66) := ⟨⟨by decide +kernel, by decide +kernel⟩, List.mem_of_getElem? (i := 1149) (by decide +kernel), List.mem_of_getElem? (i := 1392) (by decide +kernel), List.mem_of_getElem? (i := 1393) (by decide +kernel)⟩
theorem lw_p41 : lw_okq (⟨"SaintTheftModel", "token", "(IIIJ)V"⟩, 66) := ⟨⟨by decide +kernel, by decide +kernel⟩, List.mem_of_getElem? (i := 1149) (by decide +kernel), List.mem_of_getElem? (i := 1396) (by decide +kernel), List.mem_of_getElem? (i := 1397) (by decide +kernel)⟩
theorem lw_p42 : lw_okq (⟨"SaintTheftModel", "sign", "(III)I"⟩, 66) := ⟨⟨by decide +kernel, by decide +kernel⟩, List.mem_of_getElem? (i := 1149) (by decide +kernel), List.mem_of_getElem? (i := 1406) (by decide +kernel), List.mem_of_getElem? (i := 1407) (by decide +kernel)⟩
theorem lw_p43 : lw_okq (⟨"SaintTheftModel", "is", "(I)Z"⟩, 66) := ⟨⟨by decide +kernel, by decide +kernel⟩, List.mem_of_getElem? (i := 1149) (by decide +kernel), List.mem_of_getElem? (i := 1410) (by decide +kernel), List.mem_of_getElem? (i := 1411) (by decide +kernel)⟩
theorem lw_p44 : lw_okq (⟨"SaintTheftModel", "tellOne", "()V"⟩, 66) := ⟨⟨by decide +kernel, by decide +kernel⟩, List.mem_of_getElem? (i := 1149) (by decide +kernel), List.mem_of_getElem? (i := 1414) (by decide +kernel), List.mem_of_getElem? (i := 1415) (by decide +kernel)⟩
theorem lw_p45 : lw_okq (⟨"SaintTheftModel", "roomFor", "(II)V"⟩, 66) := ⟨⟨by decide +kernel, by decide +kernel⟩, List.mem_of_getElem? (i := 1149) (by decide +kernel), List.mem_of_getElem? (i := 1418) (by decide +kernel), List.mem_of_getElem? (i := 1419) (by decide +kernel)⟩
theorem lw_p46 : lw_okq (⟨"SaintTheftModel", "fail", "(I)V"⟩, 66) := ⟨⟨by decide +kernel, by decide +kernel⟩, List.mem_of_getElem? (i := 1149) (by decide +kernel), List.mem_of_getElem? (i := 1422) (by decide +kernel), List.mem_of_getElem? (i := 1423) (by decide +kernel)⟩
theorem lw_p47 : lw_okq (⟨"SaintTheftModel", "goesOn", "()V"⟩, 66) := ⟨⟨by decide +kernel, by decide +kernel⟩, List.mem_of_getElem? (i := 1149) (by decide +kernel), List.mem_of_getElem? (i := 1426) (by decide +kernel), List.mem_of_getElem? (i := 1427) (by decide +kernel)⟩
def lw_privs_3 : List (MethodName × Nat) := [(⟨"SaintTheft$Forecast", "tookMoreThanElse", "(I)I"⟩, 4), (⟨"SaintTheft$Forecast", "bothGain", "(III)Z"⟩, 4), (⟨"SaintTheft$Forecast", "hasWonderBy", "(III)Z"⟩, 4), (⟨"SaintTheftModel", "plain", "(I)V"⟩, 66), (⟨"SaintTheftModel", "begins", "()V"⟩, 66), (⟨"SaintTheftModel", "keepsRow", "()V"⟩, 66), (⟨"SaintTheftModel", "put", "(I)V"⟩, 66), (⟨"SaintTheftModel", "cut", "()V"⟩, 66), (⟨"SaintTheftModel", "byteAt", "(I)I"⟩, 66), (⟨"SaintTheftModel", "token", "(IIIJ)V"⟩, 66), (⟨"SaintTheftModel", "sign", "(III)I"⟩, 66), (⟨"SaintTheftModel", "is", "(I)Z"⟩, 66), (⟨"SaintTheftModel", "tellOne", "()V"⟩, 66), (⟨"SaintTheftModel", "roomFor", "(II)V"⟩, 66), (⟨"SaintTheftModel", "fail", "(I)V"⟩, 66), (⟨"SaintTheftModel", "goesOn", "()V"⟩, 66)]
theorem lw_r3 : ∀ q ∈ lw_privs_3, lw_okq q := List.forall_mem_cons.mpr ⟨lw_p32, List.forall_mem_cons.mpr ⟨lw_p33, List.forall_mem_cons.mpr ⟨lw_p34, List.forall_mem_cons.mpr ⟨lw_p35, List.forall_mem_cons.mpr ⟨lw_p36, List.forall_mem_cons.mpr ⟨lw_p37, List.forall_mem_cons.mpr ⟨lw_p38, List.forall_mem_cons.mpr ⟨lw_p39, List.forall_mem_cons.mpr ⟨lw_p40, List.forall_mem_cons.mpr ⟨lw_p41, List.forall_mem_cons.mpr ⟨lw_p42, List.forall_mem_cons.mpr ⟨lw_p43, List.forall_mem_cons.mpr ⟨lw_p44, List.forall_mem_cons.mpr ⟨lw_p45, List.forall_mem_cons.mpr ⟨lw_p46, List.forall_mem_cons.mpr ⟨lw_p47, fun _ h => absurd h List.not_mem_nil⟩⟩⟩⟩⟩⟩⟩⟩⟩⟩⟩⟩⟩⟩⟩⟩
theorem lw_p48 : lw_okq (⟨"SaintTheftModel", "named", "()I"⟩, 66) := ⟨⟨by decide +kernel, by decide +kernel⟩, List.mem_of_getElem? (i := 1149) (by decide +kernel), List.mem_of_getElem? (i := 1430) (by decide +kernel), List.mem_of_getElem? (i := 1431) (by decide +kernel)⟩
theorem lw_p49 : lw_okq (⟨"SaintTheftModel", "must", "(I)V"⟩, 66) := ⟨⟨by decide +kernel, by decide +kernel⟩, List.mem_of_getElem? (i := 1149) (by decide +kernel), List.mem_of_getElem? (i := 1434) (by decide +kernel), List.mem_of_getElem? (i := 1435) (by decide +kernel)⟩
theorem lw_p50 : lw_okq (⟨"SaintTheftModel", "wrong", "(II)V"⟩, 66) := ⟨⟨by decide +kernel, by decide +kernel⟩, List.mem_of_getElem? (i := 1149) (by decide +kernel), List.mem_of_getElem? (i := 1438) (by decide +kernel), List.mem_of_getElem? (i := 1439) (by decide +kernel)⟩
theorem lw_p51 : lw_okq (⟨"SaintTheftModel", "bounded", "(II)I"⟩, 66) := ⟨⟨by decide +kernel, by decide +kernel⟩, List.mem_of_getElem? (i := 1149) (by decide +kernel), List.mem_of_getElem? (i := 1442) (by decide +kernel), List.mem_of_getElem? (i := 1443) (by decide +kernel)⟩
theorem lw_p52 : lw_okq (⟨"SaintTheftModel", "ends", "(II)V"⟩, 66) := ⟨⟨by decide +kernel, by decide +kernel⟩, List.mem_of_getElem? (i := 1149) (by decide +kernel), List.mem_of_getElem? (i := 1446) (by decide +kernel), List.mem_of_getElem? (i := 1447) (by decide +kernel)⟩
theorem lw_p53 : lw_okq (⟨"SaintTheftModel", "tellRoad", "()V"⟩, 66) := ⟨⟨by decide +kernel, by decide +kernel⟩, List.mem_of_getElem? (i := 1149) (by decide +kernel), List.mem_of_getElem? (i := 1450) (by decide +kernel), List.mem_of_getElem? (i := 1451) (by decide +kernel)⟩
theorem lw_p54 : lw_okq (⟨"SaintTheftModel", "knownChurch", "()I"⟩, 66) := ⟨⟨by decide +kernel, by decide +kernel⟩, List.mem_of_getElem? (i := 1149) (by decide +kernel), List.mem_of_getElem? (i := 1454) (by decide +kernel), List.mem_of_getElem? (i := 1455) (by decide +kernel)⟩
theorem lw_p55 : lw_okq (⟨"SaintTheftModel", "tellRelic", "()V"⟩, 66) := ⟨⟨by decide +kernel, by decide +kernel⟩, List.mem_of_getElem? (i := 1149) (by decide +kernel), List.mem_of_getElem? (i := 1458) (by decide +kernel), List.mem_of_getElem? (i := 1459) (by decide +kernel)⟩
theorem lw_p56 : lw_okq (⟨"SaintTheftModel", "tellPilgrim", "()V"⟩, 66) := ⟨⟨by decide +kernel, by decide +kernel⟩, List.mem_of_getElem? (i := 1149) (by decide +kernel), List.mem_of_getElem? (i := 1462) (by decide +kernel), List.mem_of_getElem? (i := 1463) (by decide +kernel)⟩
theorem lw_p57 : lw_okq (⟨"SaintTheftModel", "tellLaw", "(I)V"⟩, 66) := ⟨⟨by decide +kernel, by decide +kernel⟩, List.mem_of_getElem? (i := 1149) (by decide +kernel), List.mem_of_getElem? (i := 1466) (by decide +kernel), List.mem_of_getElem? (i := 1467) (by decide +kernel)⟩
theorem lw_p58 : lw_okq (⟨"SaintTheftModel", "expression", "()V"⟩, 66) := ⟨⟨by decide +kernel, by decide +kernel⟩, List.mem_of_getElem? (i := 1149) (by decide +kernel), List.mem_of_getElem? (i := 1470) (by decide +kernel), List.mem_of_getElem? (i := 1471) (by decide +kernel)⟩
theorem lw_p59 : lw_okq (⟨"SaintTheftModel", "unit", "()V"⟩, 66) := ⟨⟨by decide +kernel, by decide +kernel⟩, List.mem_of_getElem? (i := 1149) (by decide +kernel), List.mem_of_getElem? (i := 1474) (by decide +kernel), List.mem_of_getElem? (i := 1475) (by decide +kernel)⟩
theorem lw_p60 : lw_okq (⟨"SaintTheftModel", "emit", "(II)V"⟩, 66) := ⟨⟨by decide +kernel, by decide +kernel⟩, List.mem_of_getElem? (i := 1149) (by decide +kernel), List.mem_of_getElem? (i := 1478) (by decide +kernel), List.mem_of_getElem? (i := 1479) (by decide +kernel)⟩
theorem lw_p61 : lw_okq (⟨"SaintTheftModel", "comesOut", "(Z)V"⟩, 66) := ⟨⟨by decide +kernel, by decide +kernel⟩, List.mem_of_getElem? (i := 1149) (by decide +kernel), List.mem_of_getElem? (i := 1482) (by decide +kernel), List.mem_of_getElem? (i := 1483) (by decide +kernel)⟩
theorem lw_p62 : lw_okq (⟨"SaintTheftModel", "term", "()V"⟩, 66) := ⟨⟨by decide +kernel, by decide +kernel⟩, List.mem_of_getElem? (i := 1149) (by decide +kernel), List.mem_of_getElem? (i := 1486) (by decide +kernel), List.mem_of_getElem? (i := 1487) (by decide +kernel)⟩
theorem lw_p63 : lw_okq (⟨"SaintTheftModel", "fillsFar", "()V"⟩, 66) := ⟨⟨by decide +kernel, by decide +kernel⟩, List.mem_of_getElem? (i := 1149) (by decide +kernel), List.mem_of_getElem? (i := 1490) (by decide +kernel), List.mem_of_getElem? (i := 1491) (by decide +kernel)⟩
def lw_privs_4 : List (MethodName × Nat) := [(⟨"SaintTheftModel", "named", "()I"⟩, 66), (⟨"SaintTheftModel", "must", "(I)V"⟩, 66), (⟨"SaintTheftModel", "wrong", "(II)V"⟩, 66), (⟨"SaintTheftModel", "bounded", "(II)I"⟩, 66), (⟨"SaintTheftModel", "ends", "(II)V"⟩, 66), (⟨"SaintTheftModel", "tellRoad", "()V"⟩, 66), (⟨"SaintTheftModel", "knownChurch", "()I"⟩, 66), (⟨"SaintTheftModel", "tellRelic", "()V"⟩, 66), (⟨"SaintTheftModel", "tellPilgrim", "()V"⟩, 66), (⟨"SaintTheftModel", "tellLaw", "(I)V"⟩, 66), (⟨"SaintTheftModel", "expression", "()V"⟩, 66), (⟨"SaintTheftModel", "unit", "()V"⟩, 66), (⟨"SaintTheftModel", "emit", "(II)V"⟩, 66), (⟨"SaintTheftModel", "comesOut", "(Z)V"⟩, 66), (⟨"SaintTheftModel", "term", "()V"⟩, 66), (⟨"SaintTheftModel", "fillsFar", "()V"⟩, 66)]
theorem lw_r4 : ∀ q ∈ lw_privs_4, lw_okq q := List.forall_mem_cons.mpr ⟨lw_p48, List.forall_mem_cons.mpr ⟨lw_p49, List.forall_mem_cons.mpr ⟨lw_p50, List.forall_mem_cons.mpr ⟨lw_p51, List.forall_mem_cons.mpr ⟨lw_p52, List.forall_mem_cons.mpr ⟨lw_p53, List.forall_mem_cons.mpr ⟨lw_p54, List.forall_mem_cons.mpr ⟨lw_p55, List.forall_mem_cons.mpr ⟨lw_p56, List.forall_mem_cons.mpr ⟨lw_p57, List.forall_mem_cons.mpr ⟨lw_p58, List.forall_mem_cons.mpr ⟨lw_p59, List.forall_mem_cons.mpr ⟨lw_p60, List.forall_mem_cons.mpr ⟨lw_p61, List.forall_mem_cons.mpr ⟨lw_p62, List.forall_mem_cons.mpr ⟨lw_p63, fun _ h => absurd h List.not_mem_nil⟩⟩⟩⟩⟩⟩⟩⟩⟩⟩⟩⟩⟩⟩⟩⟩
theorem lw_p64 : lw_okq (⟨"SaintTheftModel", "isChurch", "(I)Z"⟩, 66) := ⟨⟨by decide +kernel, by decide +kernel⟩, List.mem_of_getElem? (i := 1149) (by decide +kernel), List.mem_of_getElem? (i := 1502) (by decide +kernel), List.mem_of_getElem? (i := 1503) (by decide +kernel)⟩
theorem lw_p65 : lw_okq (⟨"SaintTheftModel", "copies", "()V"⟩, 66) := ⟨⟨by decide +kernel, by decide +kernel⟩, List.mem_of_getElem? (i := 1149) (by decide +kernel), List.mem_of_getElem? (i := 1509) (by decide +kernel), List.mem_of_getElem? (i := 1510) (by decide +kernel)⟩
theorem lw_p66 : lw_okq (⟨"SaintTheftModel", "relicBits", "(I)I"⟩, 66) := ⟨⟨by decide +kernel, by decide +kernel⟩, List.mem_of_getElem? (i := 1149) (by decide +kernel), List.mem_of_getElem? (i := 1513) (by decide +kernel), List.mem_of_getElem? (i := 1514) (by decide +kernel)⟩
theorem lw_p67 : lw_okq (⟨"SaintTheftModel", "trueAt", "(I)I"⟩, 66) := ⟨⟨by decide +kernel, by decide +kernel⟩, List.mem_of_getElem? (i := 1149) (by decide +kernel), List.mem_of_getElem? (i := 1517) (by decide +kernel), List.mem_of_getElem? (i := 1518) (by decide +kernel)⟩
theorem lw_p68 : lw_okq (⟨"SaintTheftModel", "isRelic", "(I)Z"⟩, 66) := ⟨⟨by decide +kernel, by decide +kernel⟩, List.mem_of_getElem? (i := 1149) (by decide +kernel), List.mem_of_getElem? (i := 1525) (by decide +kernel), List.mem_of_getElem? (i := 1526) (by decide +kernel)⟩
theorem lw_p69 : lw_okq (⟨"SaintTheftModel", "isPilgrim", "(I)Z"⟩, 66) := ⟨⟨by decide +kernel, by decide +kernel⟩, List.mem_of_getElem? (i := 1149) (by decide +kernel), List.mem_of_getElem? (i := 1533) (by decide +kernel), List.mem_of_getElem? (i := 1534) (by decide +kernel)⟩
theorem lw_p70 : lw_okq (⟨"SaintTheftModel", "drawsOf", "(II)I"⟩, 66) := ⟨⟨by decide +kernel, by decide +kernel⟩, List.mem_of_getElem? (i := 1149) (by decide +kernel), List.mem_of_getElem? (i := 1542) (by decide +kernel), List.mem_of_getElem? (i := 1543) (by decide +kernel)⟩
theorem lw_p71 : lw_okq (⟨"SaintTheftModel", "looksAt", "(II)V"⟩, 66) := ⟨⟨by decide +kernel, by decide +kernel⟩, List.mem_of_getElem? (i := 1149) (by decide +kernel), List.mem_of_getElem? (i := 1546) (by decide +kernel), List.mem_of_getElem? (i := 1547) (by decide +kernel)⟩
theorem lw_p72 : lw_okq (⟨"SaintTheftModel", "looks", "()V"⟩, 66) := ⟨⟨by decide +kernel, by decide +kernel⟩, List.mem_of_getElem? (i := 1149) (by decide +kernel), List.mem_of_getElem? (i := 1550) (by decide +kernel), List.mem_of_getElem? (i := 1551) (by decide +kernel)⟩
theorem lw_p73 : lw_okq (⟨"SaintTheftModel", "relicsAt", "(I)I"⟩, 66) := ⟨⟨by decide +kernel, by decide +kernel⟩, List.mem_of_getElem? (i := 1149) (by decide +kernel), List.mem_of_getElem? (i := 1554) (by decide +kernel), List.mem_of_getElem? (i := 1555) (by decide +kernel)⟩
theorem lw_p74 : lw_okq (⟨"SaintTheftModel", "farFor", "(II)I"⟩, 66) := ⟨⟨by decide +kernel, by decide +kernel⟩, List.mem_of_getElem? (i := 1149) (by decide +kernel), List.mem_of_getElem? (i := 1558) (by decide +kernel), List.mem_of_getElem? (i := 1559) (by decide +kernel)⟩
theorem lw_p75 : lw_okq (⟨"SaintTheftModel", "lawTells", "(II)I"⟩, 66) := ⟨⟨by decide +kernel, by decide +kernel⟩, List.mem_of_getElem? (i := 1149) (by decide +kernel), List.mem_of_getElem? (i := 1562) (by decide +kernel), List.mem_of_getElem? (i := 1563) (by decide +kernel)⟩
theorem lw_p76 : lw_okq (⟨"SaintTheftModel", "termOf", "(II)I"⟩, 66) := ⟨⟨by decide +kernel, by decide +kernel⟩, List.mem_of_getElem? (i := 1149) (by decide +kernel), List.mem_of_getElem? (i := 1566) (by decide +kernel), List.mem_of_getElem? (i := 1567) (by decide +kernel)⟩
theorem lw_p77 : lw_okq (⟨"SaintTheftModel", "givesOf", "(II)I"⟩, 66) := ⟨⟨by decide +kernel, by decide +kernel⟩, List.mem_of_getElem? (i := 1149) (by decide +kernel), List.mem_of_getElem? (i := 1570) (by decide +kernel), List.mem_of_getElem? (i := 1571) (by decide +kernel)⟩
theorem lw_p78 : lw_okq (⟨"SaintTheftModel", "healsOf", "(II)I"⟩, 66) := ⟨⟨by decide +kernel, by decide +kernel⟩, List.mem_of_getElem? (i := 1149) (by decide +kernel), List.mem_of_getElem? (i := 1581) (by decide +kernel), List.mem_of_getElem? (i := 1582) (by decide +kernel)⟩
theorem lw_p79 : lw_okq (⟨"SaintTheftModel", "healsBy", "(III)I"⟩, 66) := ⟨⟨by decide +kernel, by decide +kernel⟩, List.mem_of_getElem? (i := 1149) (by decide +kernel), List.mem_of_getElem? (i := 1585) (by decide +kernel), List.mem_of_getElem? (i := 1586) (by decide +kernel)⟩
def lw_privs_5 : List (MethodName × Nat) := [(⟨"SaintTheftModel", "isChurch", "(I)Z"⟩, 66), (⟨"SaintTheftModel", "copies", "()V"⟩, 66), (⟨"SaintTheftModel", "relicBits", "(I)I"⟩, 66), (⟨"SaintTheftModel", "trueAt", "(I)I"⟩, 66), (⟨"SaintTheftModel", "isRelic", "(I)Z"⟩, 66), (⟨"SaintTheftModel", "isPilgrim", "(I)Z"⟩, 66), (⟨"SaintTheftModel", "drawsOf", "(II)I"⟩, 66), (⟨"SaintTheftModel", "looksAt", "(II)V"⟩, 66), (⟨"SaintTheftModel", "looks", "()V"⟩, 66), (⟨"SaintTheftModel", "relicsAt", "(I)I"⟩, 66), (⟨"SaintTheftModel", "farFor", "(II)I"⟩, 66), (⟨"SaintTheftModel", "lawTells", "(II)I"⟩, 66), (⟨"SaintTheftModel", "termOf", "(II)I"⟩, 66), (⟨"SaintTheftModel", "givesOf", "(II)I"⟩, 66), (⟨"SaintTheftModel", "healsOf", "(II)I"⟩, 66), (⟨"SaintTheftModel", "healsBy", "(III)I"⟩, 66)]
theorem lw_r5 : ∀ q ∈ lw_privs_5, lw_okq q := List.forall_mem_cons.mpr ⟨lw_p64, List.forall_mem_cons.mpr ⟨lw_p65, List.forall_mem_cons.mpr ⟨lw_p66, List.forall_mem_cons.mpr ⟨lw_p67, List.forall_mem_cons.mpr ⟨lw_p68, List.forall_mem_cons.mpr ⟨lw_p69, List.forall_mem_cons.mpr ⟨lw_p70, List.forall_mem_cons.mpr ⟨lw_p71, List.forall_mem_cons.mpr ⟨lw_p72, List.forall_mem_cons.mpr ⟨lw_p73, List.forall_mem_cons.mpr ⟨lw_p74, List.forall_mem_cons.mpr ⟨lw_p75, List.forall_mem_cons.mpr ⟨lw_p76, List.forall_mem_cons.mpr ⟨lw_p77, List.forall_mem_cons.mpr ⟨lw_p78, List.forall_mem_cons.mpr ⟨lw_p79, fun _ h => absurd h List.not_mem_nil⟩⟩⟩⟩⟩⟩⟩⟩⟩⟩⟩⟩⟩⟩⟩⟩
theorem lw_p80 : lw_okq (⟨"SaintTheftModel", "triesFor", "(III)I"⟩, 66) := ⟨⟨by decide +kernel, by decide +kernel⟩, List.mem_of_getElem? (i := 1149) (by decide +kernel), List.mem_of_getElem? (i := 1596) (by decide +kernel), List.mem_of_getElem? (i := 1597) (by decide +kernel)⟩
theorem lw_p81 : lw_okq (⟨"SaintTheftModel", "lotOf", "(I)I"⟩, 66) := ⟨⟨by decide +kernel, by decide +kernel⟩, List.mem_of_getElem? (i := 1149) (by decide +kernel), List.mem_of_getElem? (i := 1601) (by decide +kernel), List.mem_of_getElem? (i := 1602) (by decide +kernel)⟩
theorem lw_p82 : lw_okq (⟨"SaintTheftModel", "caughtBy", "(III)I"⟩, 66) := ⟨⟨by decide +kernel, by decide +kernel⟩, List.mem_of_getElem? (i := 1149) (by decide +kernel), List.mem_of_getElem? (i := 1609) (by decide +kernel), List.mem_of_getElem? (i := 1610) (by decide +kernel)⟩
theorem lw_p83 : lw_okq (⟨"SaintTheftModel", "leaveOf", "(II)I"⟩, 66) := ⟨⟨by decide +kernel, by decide +kernel⟩, List.mem_of_getElem? (i := 1149) (by decide +kernel), List.mem_of_getElem? (i := 1614) (by decide +kernel), List.mem_of_getElem? (i := 1615) (by decide +kernel)⟩
theorem lw_p84 : lw_okq (⟨"SaintTheftModel", "records", "()V"⟩, 66) := ⟨⟨by decide +kernel, by decide +kernel⟩, List.mem_of_getElem? (i := 1149) (by decide +kernel), List.mem_of_getElem? (i := 1618) (by decide +kernel), List.mem_of_getElem? (i := 1619) (by decide +kernel)⟩
theorem lw_p85 : lw_okq (⟨"SaintTheftModel", "yearsGo", "(I)V"⟩, 66) := ⟨⟨by decide +kernel, by decide +kernel⟩, List.mem_of_getElem? (i := 1149) (by decide +kernel), List.mem_of_getElem? (i := 1634) (by decide +kernel), List.mem_of_getElem? (i := 1635) (by decide +kernel)⟩
theorem lw_p86 : lw_okq (⟨"SaintTheftModel", "yearGoes", "()V"⟩, 66) := ⟨⟨by decide +kernel, by decide +kernel⟩, List.mem_of_getElem? (i := 1149) (by decide +kernel), List.mem_of_getElem? (i := 1638) (by decide +kernel), List.mem_of_getElem? (i := 1639) (by decide +kernel)⟩
theorem lw_p87 : lw_okq (⟨"SaintTheftModel", "goesNow", "(I)I"⟩, 66) := ⟨⟨by decide +kernel, by decide +kernel⟩, List.mem_of_getElem? (i := 1149) (by decide +kernel), List.mem_of_getElem? (i := 1642) (by decide +kernel), List.mem_of_getElem? (i := 1643) (by decide +kernel)⟩
theorem lw_p88 : lw_okq (⟨"SaintTheftModel", "pilgrimGoes", "(II)V"⟩, 66) := ⟨⟨by decide +kernel, by decide +kernel⟩, List.mem_of_getElem? (i := 1149) (by decide +kernel), List.mem_of_getElem? (i := 1646) (by decide +kernel), List.mem_of_getElem? (i := 1647) (by decide +kernel)⟩
theorem lw_p89 : lw_okq (⟨"SaintTheftModel", "theftNow", "(II)I"⟩, 66) := ⟨⟨by decide +kernel, by decide +kernel⟩, List.mem_of_getElem? (i := 1149) (by decide +kernel), List.mem_of_getElem? (i := 1662) (by decide +kernel), List.mem_of_getElem? (i := 1663) (by decide +kernel)⟩
theorem lw_p90 : lw_okq (⟨"SaintTheftModel", "nightsNow", "(I)I"⟩, 66) := ⟨⟨by decide +kernel, by decide +kernel⟩, List.mem_of_getElem? (i := 1149) (by decide +kernel), List.mem_of_getElem? (i := 1670) (by decide +kernel), List.mem_of_getElem? (i := 1671) (by decide +kernel)⟩
theorem lw_p91 : lw_okq (⟨"SaintTheftModel", "guardOf", "(III)I"⟩, 66) := ⟨⟨by decide +kernel, by decide +kernel⟩, List.mem_of_getElem? (i := 1149) (by decide +kernel), List.mem_of_getElem? (i := 1681) (by decide +kernel), List.mem_of_getElem? (i := 1682) (by decide +kernel)⟩
theorem lw_p92 : lw_okq (⟨"SaintTheftModel", "takesWith", "(IIII)I"⟩, 66) := ⟨⟨by decide +kernel, by decide +kernel⟩, List.mem_of_getElem? (i := 1149) (by decide +kernel), List.mem_of_getElem? (i := 1700) (by decide +kernel), List.mem_of_getElem? (i := 1701) (by decide +kernel)⟩
theorem lw_p93 : lw_okq (⟨"SaintTheftModel", "isBarter", "(III)Z"⟩, 66) := ⟨⟨by decide +kernel, by decide +kernel⟩, List.mem_of_getElem? (i := 1149) (by decide +kernel), List.mem_of_getElem? (i := 1708) (by decide +kernel), List.mem_of_getElem? (i := 1709) (by decide +kernel)⟩
theorem lw_p94 : lw_okq (⟨"SaintTheftModel", "fillsBelief", "(IIII)V"⟩, 66) := ⟨⟨by decide +kernel, by decide +kernel⟩, List.mem_of_getElem? (i := 1149) (by decide +kernel), List.mem_of_getElem? (i := 1755) (by decide +kernel), List.mem_of_getElem? (i := 1756) (by decide +kernel)⟩
theorem lw_p95 : lw_okq (⟨"SaintTheftModel", "whoseBits", "(I)I"⟩, 66) := ⟨⟨by decide +kernel, by decide +kernel⟩, List.mem_of_getElem? (i := 1149) (by decide +kernel), List.mem_of_getElem? (i := 1779) (by decide +kernel), List.mem_of_getElem? (i := 1780) (by decide +kernel)⟩
def lw_privs_6 : List (MethodName × Nat) := [(⟨"SaintTheftModel", "triesFor", "(III)I"⟩, 66), (⟨"SaintTheftModel", "lotOf", "(I)I"⟩, 66), (⟨"SaintTheftModel", "caughtBy", "(III)I"⟩, 66), (⟨"SaintTheftModel", "leaveOf", "(II)I"⟩, 66), (⟨"SaintTheftModel", "records", "()V"⟩, 66), (⟨"SaintTheftModel", "yearsGo", "(I)V"⟩, 66), (⟨"SaintTheftModel", "yearGoes", "()V"⟩, 66), (⟨"SaintTheftModel", "goesNow", "(I)I"⟩, 66), (⟨"SaintTheftModel", "pilgrimGoes", "(II)V"⟩, 66), (⟨"SaintTheftModel", "theftNow", "(II)I"⟩, 66), (⟨"SaintTheftModel", "nightsNow", "(I)I"⟩, 66), (⟨"SaintTheftModel", "guardOf", "(III)I"⟩, 66), (⟨"SaintTheftModel", "takesWith", "(IIII)I"⟩, 66), (⟨"SaintTheftModel", "isBarter", "(III)Z"⟩, 66), (⟨"SaintTheftModel", "fillsBelief", "(IIII)V"⟩, 66), (⟨"SaintTheftModel", "whoseBits", "(I)I"⟩, 66)]
theorem lw_r6 : ∀ q ∈ lw_privs_6, lw_okq q := List.forall_mem_cons.mpr ⟨lw_p80, List.forall_mem_cons.mpr ⟨lw_p81, List.forall_mem_cons.mpr ⟨lw_p82, List.forall_mem_cons.mpr ⟨lw_p83, List.forall_mem_cons.mpr ⟨lw_p84, List.forall_mem_cons.mpr ⟨lw_p85, List.forall_mem_cons.mpr ⟨lw_p86, List.forall_mem_cons.mpr ⟨lw_p87, List.forall_mem_cons.mpr ⟨lw_p88, List.forall_mem_cons.mpr ⟨lw_p89, List.forall_mem_cons.mpr ⟨lw_p90, List.forall_mem_cons.mpr ⟨lw_p91, List.forall_mem_cons.mpr ⟨lw_p92, List.forall_mem_cons.mpr ⟨lw_p93, List.forall_mem_cons.mpr ⟨lw_p94, List.forall_mem_cons.mpr ⟨lw_p95, fun _ h => absurd h List.not_mem_nil⟩⟩⟩⟩⟩⟩⟩⟩⟩⟩⟩⟩⟩⟩⟩⟩
theorem lw_p96 : lw_okq (⟨"SaintTheftModel", "sumNow", "(I)I"⟩, 66) := ⟨⟨by decide +kernel, by decide +kernel⟩, List.mem_of_getElem? (i := 1149) (by decide +kernel), List.mem_of_getElem? (i := 1802) (by decide +kernel), List.mem_of_getElem? (i := 1803) (by decide +kernel)⟩
def lw_privs_7 : List (MethodName × Nat) := [(⟨"SaintTheftModel", "sumNow", "(I)I"⟩, 66)]
theorem lw_r7 : ∀ q ∈ lw_privs_7, lw_okq q := List.forall_mem_cons.mpr ⟨lw_p96, fun _ h => absurd h List.not_mem_nil⟩
def lw_privs : List (MethodName × Nat) := lw_privs_1 ++ (lw_privs_2 ++ (lw_privs_3 ++ (lw_privs_4 ++ (lw_privs_5 ++ (lw_privs_6 ++ (lw_privs_7))))))
def lw_tbl : List Cond := k2_sels lw_privs ++ tables_1
theorem lw_privs_ok : ∀ q ∈ lw_privs, lw_okq q := by
  show ∀ q ∈ lw_privs_1 ++ (lw_privs_2 ++ (lw_privs_3 ++ (lw_privs_4 ++ (lw_privs_5 ++ (lw_privs_6 ++ (lw_privs_7)))))), lw_okq q
  exact List.forall_mem_append.mpr ⟨lw_r1, List.forall_mem_append.mpr ⟨lw_r2, List.forall_mem_append.mpr ⟨lw_r3, List.forall_mem_append.mpr ⟨lw_r4, List.forall_mem_append.mpr ⟨lw_r5, List.forall_mem_append.mpr ⟨lw_r6, lw_r7⟩⟩⟩⟩⟩⟩
end
section
/-! names of classes, fields, methods, as printed of the program -/
def RX0 : String := "SaintTheft$Course"
def TX0 : u_T := fun k => match k with
  | 0 => ("SaintTheft$Course", "goals", "[I", true)
  | 1 => ("SaintTheft$Course", "written", "[I", true)
  | 2 => ("SaintTheft$Course", "text", "LSaintTheft$Text;", false)
  | _ => ("SaintTheft$Course", "laws", "LSaintTheft$Laws;", false)
def tyX0 : Nat → FieldType := fun k => match k with
  | 0 => .array .int
  | 1 => .array .int
  | 2 => .object "SaintTheft$Text"
  | _ => .object "SaintTheft$Laws"
abbrev wsX00 : List Cond := u_ws RX0 TX0 4
theorem nmX0 : ∀ a, a < 4 → ∀ b, b < 4 → a ≠ b → (TX0 a).2.1 ≠ (TX0 b).2.1 := by decide +kernel
theorem tyX0_ok : ∀ k, k < 4 → parseFieldDescriptor (TX0 k).2.2.1 = some (tyX0 k) := by decide +kernel
abbrev cX0_init : ByteArray := prog_2_method_1_code
def yX0_init : MethodName := ⟨RX0, "<init>", "(LSaintTheft$Text;)V"⟩
abbrev cX0_turnTo : ByteArray := prog_2_method_2_code
def yX0_turnTo : MethodName := ⟨RX0, "turnTo", "(LSaintTheft$Text;)V"⟩
abbrev cX0_text : ByteArray := prog_2_method_3_code
def yX0_text : MethodName := ⟨RX0, "text", "()LSaintTheft$Text;"⟩
abbrev cX0_writtenFor : ByteArray := prog_2_method_4_code
def yX0_writtenFor : MethodName := ⟨RX0, "writtenFor", "(I)I"⟩
abbrev cX0_lot : ByteArray := prog_2_method_5_code
def yX0_lot : MethodName := ⟨RX0, "lot", "(II)I"⟩
abbrev cX0_mixed : ByteArray := prog_2_method_6_code
def yX0_mixed : MethodName := ⟨RX0, "mixed", "(II)I"⟩
abbrev cX0_falls : ByteArray := prog_2_method_7_code
def yX0_falls : MethodName := ⟨RX0, "falls", "(III)Z"⟩
abbrev cX0_lookAt : ByteArray := prog_2_method_8_code
def yX0_lookAt : MethodName := ⟨RX0, "lookAt", "(LSaintTheft$State;I)V"⟩
abbrev cX0_lookAtPilgrim : ByteArray := prog_2_method_9_code
def yX0_lookAtPilgrim : MethodName := ⟨RX0, "lookAtPilgrim", "(LSaintTheft$State;II)V"⟩
abbrev cX0_visitValue : ByteArray := prog_2_method_10_code
def yX0_visitValue : MethodName := ⟨RX0, "visitValue", "(ILSaintTheft$State;II)I"⟩
abbrev cX0_healing : ByteArray := prog_2_method_11_code
def yX0_healing : MethodName := ⟨RX0, "healing", "(LSaintTheft$State;III)I"⟩
abbrev cX0_leaving : ByteArray := prog_2_method_12_code
def yX0_leaving : MethodName := ⟨RX0, "leaving", "(LSaintTheft$State;II)I"⟩
abbrev cX0_catching : ByteArray := prog_2_method_13_code
def yX0_catching : MethodName := ⟨RX0, "catching", "(LSaintTheft$State;III)I"⟩
abbrev cX0_goal : ByteArray := prog_2_method_14_code
def yX0_goal : MethodName := ⟨RX0, "goal", "(LSaintTheft$State;I)I"⟩
abbrev cX0_pass : ByteArray := prog_2_method_15_code
def yX0_pass : MethodName := ⟨RX0, "pass", "(LSaintTheft$State;II)V"⟩
abbrev cX0_visit : ByteArray := prog_2_method_16_code
def yX0_visit : MethodName := ⟨RX0, "visit", "(LSaintTheft$State;III)I"⟩
abbrev cX0_tryTheft : ByteArray := prog_2_method_17_code
def yX0_tryTheft : MethodName := ⟨RX0, "tryTheft", "(LSaintTheft$State;III)I"⟩
abbrev cX0_likely : ByteArray := prog_2_method_18_code
def yX0_likely : MethodName := ⟨RX0, "likely", "(LSaintTheft$State;II)I"⟩
abbrev cX0_bestNights : ByteArray := prog_2_method_19_code
def yX0_bestNights : MethodName := ⟨RX0, "bestNights", "(LSaintTheft$State;I)I"⟩
abbrev cX0_weakest : ByteArray := prog_2_method_20_code
def yX0_weakest : MethodName := ⟨RX0, "weakest", "(LSaintTheft$State;)I"⟩
abbrev cX0_watchersFor : ByteArray := prog_2_method_21_code
def yX0_watchersFor : MethodName := ⟨RX0, "watchersFor", "(LSaintTheft$State;III)I"⟩
def RX1 : String := "SaintTheft$Forecast"
def TX1 : u_T := fun k => match k with
  | 0 => ("SaintTheft$Forecast", "course", "LSaintTheft$Course;", true)
  | 1 => ("SaintTheft$Forecast", "live", "LSaintTheft$State;", true)
  | 2 => ("SaintTheft$Forecast", "trial", "LSaintTheft$State;", true)
  | _ => ("SaintTheft$Forecast", "tookElse", "[I", true)
def tyX1 : Nat → FieldType := fun k => match k with
  | 0 => .object "SaintTheft$Course"
  | 1 => .object "SaintTheft$State"
  | 2 => .object "SaintTheft$State"
  | _ => .array .int
abbrev wsX10 : List Cond := u_ws RX1 TX1 4
theorem nmX1 : ∀ a, a < 4 → ∀ b, b < 4 → a ≠ b → (TX1 a).2.1 ≠ (TX1 b).2.1 := by decide +kernel
theorem tyX1_ok : ∀ k, k < 4 → parseFieldDescriptor (TX1 k).2.2.1 = some (tyX1 k) := by decide +kernel
abbrev cX1_init : ByteArray := prog_3_method_1_code
def yX1_init : MethodName := ⟨RX1, "<init>", "(LSaintTheft$Course;LSaintTheft$State;)V"⟩
abbrev cX1_after : ByteArray := prog_3_method_2_code
def yX1_after : MethodName := ⟨RX1, "after", "(I)LSaintTheft$State;"⟩
abbrev cX1_more : ByteArray := prog_3_method_3_code
def yX1_more : MethodName := ⟨RX1, "more", "(II)I"⟩
abbrev cX1_keepTook : ByteArray := prog_3_method_4_code
def yX1_keepTook : MethodName := ⟨RX1, "keepTook", "()V"⟩
abbrev cX1_tookMoreThanElse : ByteArray := prog_3_method_5_code
def yX1_tookMoreThanElse : MethodName := ⟨RX1, "tookMoreThanElse", "(I)I"⟩
abbrev cX1_passWithRelicAt : ByteArray := prog_3_method_6_code
def yX1_passWithRelicAt : MethodName := ⟨RX1, "passWithRelicAt", "(III)V"⟩
abbrev cX1_bestHome : ByteArray := prog_3_method_7_code
def yX1_bestHome : MethodName := ⟨RX1, "bestHome", "(IIZ)I"⟩
abbrev cX1_barters : ByteArray := prog_3_method_8_code
def yX1_barters : MethodName := ⟨RX1, "barters", "(IZ)I"⟩
abbrev cX1_bothGain : ByteArray := prog_3_method_9_code
def yX1_bothGain : MethodName := ⟨RX1, "bothGain", "(III)Z"⟩
abbrev cX1_richest : ByteArray := prog_3_method_10_code
def yX1_richest : MethodName := ⟨RX1, "richest", "(IZ)I"⟩
abbrev cX1_mostFamed : ByteArray := prog_3_method_11_code
def yX1_mostFamed : MethodName := ⟨RX1, "mostFamed", "(I)I"⟩
abbrev cX1_seedsWithWonder : ByteArray := prog_3_method_12_code
def yX1_seedsWithWonder : MethodName := ⟨RX1, "seedsWithWonder", "(III)I"⟩
abbrev cX1_hasWonderBy : ByteArray := prog_3_method_13_code
def yX1_hasWonderBy : MethodName := ⟨RX1, "hasWonderBy", "(III)Z"⟩
def RX2 : String := "SaintTheft$Laws"
def TX2 : u_T := fun k => match k with
  | 0 => ("SaintTheft$Laws", "steps", "[I", true)
  | 1 => ("SaintTheft$Laws", "args", "[I", true)
  | 2 => ("SaintTheft$Laws", "starts", "[I", true)
  | 3 => ("SaintTheft$Laws", "vars", "[I", true)
  | 4 => ("SaintTheft$Laws", "stack", "[I", true)
  | _ => ("SaintTheft$Laws", "used", "I", false)
def tyX2 : Nat → FieldType := fun k => match k with
  | 0 => .array .int
  | 1 => .array .int
  | 2 => .array .int
  | 3 => .array .int
  | 4 => .array .int
  | _ => .int
abbrev wsX20 : List Cond := u_ws RX2 TX2 6
theorem nmX2 : ∀ a, a < 6 → ∀ b, b < 6 → a ≠ b → (TX2 a).2.1 ≠ (TX2 b).2.1 := by decide +kernel
theorem tyX2_ok : ∀ k, k < 6 → parseFieldDescriptor (TX2 k).2.2.1 = some (tyX2 k) := by decide +kernel
abbrev cX2_init : ByteArray := prog_4_method_1_code
def yX2_init : MethodName := ⟨RX2, "<init>", "()V"⟩
abbrev cX2_clear : ByteArray := prog_4_method_2_code
def yX2_clear : MethodName := ⟨RX2, "clear", "()V"⟩
abbrev cX2_beginTimes : ByteArray := prog_4_method_3_code
def yX2_beginTimes : MethodName := ⟨RX2, "beginTimes", "(III)V"⟩
abbrev cX2_begin : ByteArray := prog_4_method_4_code
def yX2_begin : MethodName := ⟨RX2, "begin", "(I)V"⟩
abbrev cX2_emit : ByteArray := prog_4_method_5_code
def yX2_emit : MethodName := ⟨RX2, "emit", "(II)I"⟩
abbrev cX2_aimHere : ByteArray := prog_4_method_6_code
def yX2_aimHere : MethodName := ⟨RX2, "aimHere", "(I)V"⟩
abbrev cX2_clearVars : ByteArray := prog_4_method_7_code
def yX2_clearVars : MethodName := ⟨RX2, "clearVars", "()V"⟩
abbrev cX2_setVar : ByteArray := prog_4_method_8_code
def yX2_setVar : MethodName := ⟨RX2, "setVar", "(II)V"⟩
abbrev cX2_varOf : ByteArray := prog_4_method_9_code
def yX2_varOf : MethodName := ⟨RX2, "varOf", "(I)I"⟩
abbrev cX2_value : ByteArray := prog_4_method_10_code
def yX2_value : MethodName := ⟨RX2, "value", "(I)I"⟩
abbrev cX2_worked : ByteArray := prog_4_method_11_code
def yX2_worked : MethodName := ⟨RX2, "worked", "(III)I"⟩
def RX3 : String := "SaintTheft$Past"
def TX3 : u_T := fun k => match k with
  | 0 => ("SaintTheft$Past", "rows", "[I", true)
  | 1 => ("SaintTheft$Past", "slots", "[I", true)
  | 2 => ("SaintTheft$Past", "held", "[Z", true)
  | 3 => ("SaintTheft$Past", "next", "I", false)
  | _ => ("SaintTheft$Past", "many", "I", false)
def tyX3 : Nat → FieldType := fun k => match k with
  | 0 => .array .int
  | 1 => .array .int
  | 2 => .array .boolean
  | 3 => .int
  | _ => .int
abbrev wsX30 : List Cond := u_ws RX3 TX3 5
theorem nmX3 : ∀ a, a < 5 → ∀ b, b < 5 → a ≠ b → (TX3 a).2.1 ≠ (TX3 b).2.1 := by decide +kernel
theorem tyX3_ok : ∀ k, k < 5 → parseFieldDescriptor (TX3 k).2.2.1 = some (tyX3 k) := by decide +kernel
abbrev cX3_init : ByteArray := prog_5_method_1_code
def yX3_init : MethodName := ⟨RX3, "<init>", "()V"⟩
abbrev cX3_clear : ByteArray := prog_5_method_2_code
def yX3_clear : MethodName := ⟨RX3, "clear", "()V"⟩
abbrev cX3_size : ByteArray := prog_5_method_3_code
def yX3_size : MethodName := ⟨RX3, "size", "()I"⟩
abbrev cX3_slotsHeld : ByteArray := prog_5_method_4_code
def yX3_slotsHeld : MethodName := ⟨RX3, "slotsHeld", "()I"⟩
abbrev cX3_keep : ByteArray := prog_5_method_5_code
def yX3_keep : MethodName := ⟨RX3, "keep", "(LSaintTheft$State;)V"⟩
abbrev cX3_takeBack : ByteArray := prog_5_method_6_code
def yX3_takeBack : MethodName := ⟨RX3, "takeBack", "(LSaintTheft$State;)Z"⟩
abbrev cX3_putInSlot : ByteArray := prog_5_method_7_code
def yX3_putInSlot : MethodName := ⟨RX3, "putInSlot", "(LSaintTheft$State;I)Z"⟩
abbrev cX3_takeFromSlot : ByteArray := prog_5_method_8_code
def yX3_takeFromSlot : MethodName := ⟨RX3, "takeFromSlot", "(LSaintTheft$State;I)Z"⟩
def RX4 : String := "SaintTheft$Reader"
def TX4 : u_T := fun k => match k with
  | 0 => ("SaintTheft$Reader", "tokens", "LSaintTheft$Tokens;", true)
  | 1 => ("SaintTheft$Reader", "text", "LSaintTheft$Text;", false)
  | 2 => ("SaintTheft$Reader", "laws", "LSaintTheft$Laws;", false)
  | 3 => ("SaintTheft$Reader", "at", "I", false)
  | 4 => ("SaintTheft$Reader", "kind", "I", false)
  | 5 => ("SaintTheft$Reader", "fault", "I", false)
  | 6 => ("SaintTheft$Reader", "place", "I", false)
  | 7 => ("SaintTheft$Reader", "lateFault", "I", false)
  | _ => ("SaintTheft$Reader", "lateToken", "I", false)
def tyX4 : Nat → FieldType := fun k => match k with
  | 0 => .object "SaintTheft$Tokens"
  | 1 => .object "SaintTheft$Text"
  | 2 => .object "SaintTheft$Laws"
  | 3 => .int
  | 4 => .int
  | 5 => .int
  | 6 => .int
  | 7 => .int
  | _ => .int
abbrev wsX40 : List Cond := u_ws RX4 TX4 9
theorem nmX4 : ∀ a, a < 9 → ∀ b, b < 9 → a ≠ b → (TX4 a).2.1 ≠ (TX4 b).2.1 := by decide +kernel
theorem tyX4_ok : ∀ k, k < 9 → parseFieldDescriptor (TX4 k).2.2.1 = some (tyX4 k) := by decide +kernel
abbrev cX4_init : ByteArray := prog_6_method_1_code
def yX4_init : MethodName := ⟨RX4, "<init>", "(LSaintTheft$Text;)V"⟩
abbrev cX4_faultPlace : ByteArray := prog_6_method_2_code
def yX4_faultPlace : MethodName := ⟨RX4, "faultPlace", "()I"⟩
abbrev cX4_readInto : ByteArray := prog_6_method_3_code
def yX4_readInto : MethodName := ⟨RX4, "readInto", "(LSaintTheft$Text;LSaintTheft$Tape;)I"⟩
abbrev cX4_begin : ByteArray := prog_6_method_4_code
def yX4_begin : MethodName := ⟨RX4, "begin", "(LSaintTheft$Text;LSaintTheft$Tape;)V"⟩
abbrev cX4_settle : ByteArray := prog_6_method_5_code
def yX4_settle : MethodName := ⟨RX4, "settle", "()V"⟩
abbrev cX4_take : ByteArray := prog_6_method_6_code
def yX4_take : MethodName := ⟨RX4, "take", "(I)Z"⟩
abbrev cX4_refuse : ByteArray := prog_6_method_7_code
def yX4_refuse : MethodName := ⟨RX4, "refuse", "(I)Z"⟩
abbrev cX4_refuseLate : ByteArray := prog_6_method_8_code
def yX4_refuseLate : MethodName := ⟨RX4, "refuseLate", "(II)V"⟩
abbrev cX4_readChurch : ByteArray := prog_6_method_9_code
def yX4_readChurch : MethodName := ⟨RX4, "readChurch", "()Z"⟩
abbrev cX4_readRoad : ByteArray := prog_6_method_10_code
def yX4_readRoad : MethodName := ⟨RX4, "readRoad", "()Z"⟩
abbrev cX4_readRelic : ByteArray := prog_6_method_11_code
def yX4_readRelic : MethodName := ⟨RX4, "readRelic", "()Z"⟩
abbrev cX4_readPilgrim : ByteArray := prog_6_method_12_code
def yX4_readPilgrim : MethodName := ⟨RX4, "readPilgrim", "()Z"⟩
abbrev cX4_readSeed : ByteArray := prog_6_method_13_code
def yX4_readSeed : MethodName := ⟨RX4, "readSeed", "()Z"⟩
abbrev cX4_addName : ByteArray := prog_6_method_14_code
def yX4_addName : MethodName := ⟨RX4, "addName", "(I)V"⟩
abbrev cX4_churchAt : ByteArray := prog_6_method_15_code
def yX4_churchAt : MethodName := ⟨RX4, "churchAt", "(I)I"⟩
abbrev cX4_numberAt : ByteArray := prog_6_method_16_code
def yX4_numberAt : MethodName := ⟨RX4, "numberAt", "(III)I"⟩
abbrev cX4_readLaw : ByteArray := prog_6_method_17_code
def yX4_readLaw : MethodName := ⟨RX4, "readLaw", "()Z"⟩
abbrev cX4_readIf : ByteArray := prog_6_method_18_code
def yX4_readIf : MethodName := ⟨RX4, "readIf", "()Z"⟩
abbrev cX4_readSum : ByteArray := prog_6_method_19_code
def yX4_readSum : MethodName := ⟨RX4, "readSum", "(I)Z"⟩
abbrev cX4_readUnit : ByteArray := prog_6_method_20_code
def yX4_readUnit : MethodName := ⟨RX4, "readUnit", "(I)Z"⟩
def RX5 : String := "SaintTheft$State"
def TX5 : u_T := fun k => match k with
  | _ => ("SaintTheft$State", "cells", "[I", true)
def tyX5 : Nat → FieldType := fun k => match k with
  | _ => .array .int
abbrev wsX50 : List Cond := u_ws RX5 TX5 1
theorem nmX5 : ∀ a, a < 1 → ∀ b, b < 1 → a ≠ b → (TX5 a).2.1 ≠ (TX5 b).2.1 := by decide +kernel
theorem tyX5_ok : ∀ k, k < 1 → parseFieldDescriptor (TX5 k).2.2.1 = some (tyX5 k) := by decide +kernel
abbrev cX5_init : ByteArray := prog_7_method_1_code
def yX5_init : MethodName := ⟨RX5, "<init>", "()V"⟩
abbrev cX5_get : ByteArray := prog_7_method_2_code
def yX5_get : MethodName := ⟨RX5, "get", "(I)I"⟩
abbrev cX5_set : ByteArray := prog_7_method_3_code
def yX5_set : MethodName := ⟨RX5, "set", "(II)V"⟩
abbrev cX5_add : ByteArray := prog_7_method_4_code
def yX5_add : MethodName := ⟨RX5, "add", "(II)V"⟩
abbrev cX5_total : ByteArray := prog_7_method_5_code
def yX5_total : MethodName := ⟨RX5, "total", "(II)I"⟩
abbrev cX5_move : ByteArray := prog_7_method_6_code
def yX5_move : MethodName := ⟨RX5, "move", "(II)V"⟩
abbrev cX5_exchange : ByteArray := prog_7_method_7_code
def yX5_exchange : MethodName := ⟨RX5, "exchange", "(II)V"⟩
abbrev cX5_begin : ByteArray := prog_7_method_8_code
def yX5_begin : MethodName := ⟨RX5, "begin", "(LSaintTheft$Text;)V"⟩
abbrev cX5_copyOf : ByteArray := prog_7_method_9_code
def yX5_copyOf : MethodName := ⟨RX5, "copyOf", "(LSaintTheft$State;)V"⟩
abbrev cX5_writeTo : ByteArray := prog_7_method_10_code
def yX5_writeTo : MethodName := ⟨RX5, "writeTo", "([II)V"⟩
abbrev cX5_readFrom : ByteArray := prog_7_method_11_code
def yX5_readFrom : MethodName := ⟨RX5, "readFrom", "([II)V"⟩
def RX6 : String := "SaintTheft$Tape"
def TX6 : u_T := fun k => match k with
  | 0 => ("SaintTheft$Tape", "bytes", "[B", true)
  | _ => ("SaintTheft$Tape", "length", "I", false)
def tyX6 : Nat → FieldType := fun k => match k with
  | 0 => .array .byte
  | _ => .int
abbrev wsX60 : List Cond := u_ws RX6 TX6 2
theorem nmX6 : ∀ a, a < 2 → ∀ b, b < 2 → a ≠ b → (TX6 a).2.1 ≠ (TX6 b).2.1 := by decide +kernel
theorem tyX6_ok : ∀ k, k < 2 → parseFieldDescriptor (TX6 k).2.2.1 = some (tyX6 k) := by decide +kernel
abbrev cX6_init : ByteArray := prog_8_method_1_code
def yX6_init : MethodName := ⟨RX6, "<init>", "()V"⟩
abbrev cX6_length : ByteArray := prog_8_method_2_code
def yX6_length : MethodName := ⟨RX6, "length", "()I"⟩
abbrev cX6_append : ByteArray := prog_8_method_3_code
def yX6_append : MethodName := ⟨RX6, "append", "(I)V"⟩
abbrev cX6_cutTo : ByteArray := prog_8_method_4_code
def yX6_cutTo : MethodName := ⟨RX6, "cutTo", "(I)V"⟩
abbrev cX6_at : ByteArray := prog_8_method_5_code
def yX6_at : MethodName := ⟨RX6, "at", "(I)I"⟩
def RX7 : String := "SaintTheft$Text"
def TX7 : u_T := fun k => match k with
  | 0 => ("SaintTheft$Text", "laws", "LSaintTheft$Laws;", true)
  | 1 => ("SaintTheft$Text", "names", "[J", true)
  | 2 => ("SaintTheft$Text", "churchNames", "[J", true)
  | 3 => ("SaintTheft$Text", "watchers", "[I", true)
  | 4 => ("SaintTheft$Text", "fars", "[I", true)
  | 5 => ("SaintTheft$Text", "relicChurches", "[I", true)
  | 6 => ("SaintTheft$Text", "homes", "[I", true)
  | 7 => ("SaintTheft$Text", "needs", "[I", true)
  | 8 => ("SaintTheft$Text", "gifts", "[I", true)
  | 9 => ("SaintTheft$Text", "named", "I", false)
  | 10 => ("SaintTheft$Text", "churches", "I", false)
  | 11 => ("SaintTheft$Text", "roads", "I", false)
  | 12 => ("SaintTheft$Text", "relics", "I", false)
  | 13 => ("SaintTheft$Text", "trueRelics", "I", false)
  | 14 => ("SaintTheft$Text", "pilgrims", "I", false)
  | _ => ("SaintTheft$Text", "seed", "I", false)
def tyX7 : Nat → FieldType := fun k => match k with
  | 0 => .object "SaintTheft$Laws"
  | 1 => .array .long
  | 2 => .array .long
  | 3 => .array .int
  | 4 => .array .int
  | 5 => .array .int
  | 6 => .array .int
  | 7 => .array .int
  | 8 => .array .int
  | 9 => .int
  | 10 => .int
  | 11 => .int
  | 12 => .int
  | 13 => .int
  | 14 => .int
  | _ => .int
abbrev wsX70 : List Cond := u_ws RX7 TX7 16
theorem nmX7 : ∀ a, a < 16 → ∀ b, b < 16 → a ≠ b → (TX7 a).2.1 ≠ (TX7 b).2.1 := by decide +kernel
theorem tyX7_ok : ∀ k, k < 16 → parseFieldDescriptor (TX7 k).2.2.1 = some (tyX7 k) := by decide +kernel
abbrev cX7_init : ByteArray := prog_9_method_1_code
def yX7_init : MethodName := ⟨RX7, "<init>", "()V"⟩
abbrev cX7_clear : ByteArray := prog_9_method_2_code
def yX7_clear : MethodName := ⟨RX7, "clear", "()V"⟩
abbrev cX7_laws : ByteArray := prog_9_method_3_code
def yX7_laws : MethodName := ⟨RX7, "laws", "()LSaintTheft$Laws;"⟩
abbrev cX7_churches : ByteArray := prog_9_method_4_code
def yX7_churches : MethodName := ⟨RX7, "churches", "()I"⟩
abbrev cX7_roads : ByteArray := prog_9_method_5_code
def yX7_roads : MethodName := ⟨RX7, "roads", "()I"⟩
abbrev cX7_relics : ByteArray := prog_9_method_6_code
def yX7_relics : MethodName := ⟨RX7, "relics", "()I"⟩
abbrev cX7_trueRelics : ByteArray := prog_9_method_7_code
def yX7_trueRelics : MethodName := ⟨RX7, "trueRelics", "()I"⟩
abbrev cX7_pilgrims : ByteArray := prog_9_method_8_code
def yX7_pilgrims : MethodName := ⟨RX7, "pilgrims", "()I"⟩
abbrev cX7_seed : ByteArray := prog_9_method_9_code
def yX7_seed : MethodName := ⟨RX7, "seed", "()I"⟩
abbrev cX7_hasChurch : ByteArray := prog_9_method_10_code
def yX7_hasChurch : MethodName := ⟨RX7, "hasChurch", "(I)Z"⟩
abbrev cX7_hasRelic : ByteArray := prog_9_method_11_code
def yX7_hasRelic : MethodName := ⟨RX7, "hasRelic", "(I)Z"⟩
abbrev cX7_hasPilgrim : ByteArray := prog_9_method_12_code
def yX7_hasPilgrim : MethodName := ⟨RX7, "hasPilgrim", "(I)Z"⟩
abbrev cX7_truth : ByteArray := prog_9_method_13_code
def yX7_truth : MethodName := ⟨RX7, "truth", "(I)I"⟩
abbrev cX7_watchersOf : ByteArray := prog_9_method_14_code
def yX7_watchersOf : MethodName := ⟨RX7, "watchersOf", "(I)I"⟩
abbrev cX7_churchOf : ByteArray := prog_9_method_15_code
def yX7_churchOf : MethodName := ⟨RX7, "churchOf", "(I)I"⟩
abbrev cX7_home : ByteArray := prog_9_method_16_code
def yX7_home : MethodName := ⟨RX7, "home", "(I)I"⟩
abbrev cX7_needOf : ByteArray := prog_9_method_17_code
def yX7_needOf : MethodName := ⟨RX7, "needOf", "(I)I"⟩
abbrev cX7_giftOf : ByteArray := prog_9_method_18_code
def yX7_giftOf : MethodName := ⟨RX7, "giftOf", "(I)I"⟩
abbrev cX7_far : ByteArray := prog_9_method_19_code
def yX7_far : MethodName := ⟨RX7, "far", "(II)I"⟩
abbrev cX7_churchNamed : ByteArray := prog_9_method_20_code
def yX7_churchNamed : MethodName := ⟨RX7, "churchNamed", "(J)I"⟩
abbrev cX7_addName : ByteArray := prog_9_method_21_code
def yX7_addName : MethodName := ⟨RX7, "addName", "(J)Z"⟩
abbrev cX7_addChurch : ByteArray := prog_9_method_22_code
def yX7_addChurch : MethodName := ⟨RX7, "addChurch", "(JI)V"⟩
abbrev cX7_addRoad : ByteArray := prog_9_method_23_code
def yX7_addRoad : MethodName := ⟨RX7, "addRoad", "(III)V"⟩
abbrev cX7_addRelic : ByteArray := prog_9_method_24_code
def yX7_addRelic : MethodName := ⟨RX7, "addRelic", "(IZ)V"⟩
abbrev cX7_addPilgrim : ByteArray := prog_9_method_25_code
def yX7_addPilgrim : MethodName := ⟨RX7, "addPilgrim", "(III)V"⟩
abbrev cX7_sow : ByteArray := prog_9_method_26_code
def yX7_sow : MethodName := ⟨RX7, "sow", "(I)V"⟩
abbrev cX7_joinRoads : ByteArray := prog_9_method_27_code
def yX7_joinRoads : MethodName := ⟨RX7, "joinRoads", "()V"⟩
def RX8 : String := "SaintTheft$Tokens"
def TX8 : u_T := fun k => match k with
  | 0 => ("SaintTheft$Tokens", "words", "[J", true)
  | 1 => ("SaintTheft$Tokens", "kinds", "[I", true)
  | 2 => ("SaintTheft$Tokens", "places", "[I", true)
  | 3 => ("SaintTheft$Tokens", "values", "[J", true)
  | _ => ("SaintTheft$Tokens", "many", "I", false)
def tyX8 : Nat → FieldType := fun k => match k with
  | 0 => .array .long
  | 1 => .array .int
  | 2 => .array .int
  | 3 => .array .long
  | _ => .int
abbrev wsX80 : List Cond := u_ws RX8 TX8 5
theorem nmX8 : ∀ a, a < 5 → ∀ b, b < 5 → a ≠ b → (TX8 a).2.1 ≠ (TX8 b).2.1 := by decide +kernel
theorem tyX8_ok : ∀ k, k < 5 → parseFieldDescriptor (TX8 k).2.2.1 = some (tyX8 k) := by decide +kernel
abbrev cX8_init : ByteArray := prog_10_method_1_code
def yX8_init : MethodName := ⟨RX8, "<init>", "()V"⟩
abbrev cX8_withLetter : ByteArray := prog_10_method_2_code
def yX8_withLetter : MethodName := ⟨RX8, "withLetter", "(JI)J"⟩
abbrev cX8_isLetter : ByteArray := prog_10_method_3_code
def yX8_isLetter : MethodName := ⟨RX8, "isLetter", "(I)Z"⟩
abbrev cX8_isDigit : ByteArray := prog_10_method_4_code
def yX8_isDigit : MethodName := ⟨RX8, "isDigit", "(I)Z"⟩
abbrev cX8_isBlank : ByteArray := prog_10_method_5_code
def yX8_isBlank : MethodName := ⟨RX8, "isBlank", "(I)Z"⟩
abbrev cX8_kindAt : ByteArray := prog_10_method_6_code
def yX8_kindAt : MethodName := ⟨RX8, "kindAt", "(I)I"⟩
abbrev cX8_placeAt : ByteArray := prog_10_method_7_code
def yX8_placeAt : MethodName := ⟨RX8, "placeAt", "(I)I"⟩
abbrev cX8_valueAt : ByteArray := prog_10_method_8_code
def yX8_valueAt : MethodName := ⟨RX8, "valueAt", "(I)J"⟩
abbrev cX8_scan : ByteArray := prog_10_method_9_code
def yX8_scan : MethodName := ⟨RX8, "scan", "(LSaintTheft$Tape;)V"⟩
abbrev cX8_addToken : ByteArray := prog_10_method_10_code
def yX8_addToken : MethodName := ⟨RX8, "addToken", "(LSaintTheft$Tape;II)I"⟩
abbrev cX8_addLetters : ByteArray := prog_10_method_11_code
def yX8_addLetters : MethodName := ⟨RX8, "addLetters", "(LSaintTheft$Tape;I)I"⟩
abbrev cX8_addDigits : ByteArray := prog_10_method_12_code
def yX8_addDigits : MethodName := ⟨RX8, "addDigits", "(LSaintTheft$Tape;I)I"⟩
abbrev cX8_wordKind : ByteArray := prog_10_method_13_code
def yX8_wordKind : MethodName := ⟨RX8, "wordKind", "(J)I"⟩
abbrev cX8_put : ByteArray := prog_10_method_14_code
def yX8_put : MethodName := ⟨RX8, "put", "(IIJ)V"⟩
def RX9 : String := "SaintTheft$Told"
def TX9 : u_T := fun k => match k with
  | 0 => ("SaintTheft$Told", "pilgrims", "[I", true)
  | 1 => ("SaintTheft$Told", "wonders", "[Z", true)
  | _ => ("SaintTheft$Told", "many", "I", false)
def tyX9 : Nat → FieldType := fun k => match k with
  | 0 => .array .int
  | 1 => .array .boolean
  | _ => .int
abbrev wsX90 : List Cond := u_ws RX9 TX9 3
theorem nmX9 : ∀ a, a < 3 → ∀ b, b < 3 → a ≠ b → (TX9 a).2.1 ≠ (TX9 b).2.1 := by decide +kernel
theorem tyX9_ok : ∀ k, k < 3 → parseFieldDescriptor (TX9 k).2.2.1 = some (tyX9 k) := by decide +kernel
abbrev cX9_init : ByteArray := prog_11_method_1_code
def yX9_init : MethodName := ⟨RX9, "<init>", "()V"⟩
abbrev cX9_clear : ByteArray := prog_11_method_2_code
def yX9_clear : MethodName := ⟨RX9, "clear", "()V"⟩
abbrev cX9_size : ByteArray := prog_11_method_3_code
def yX9_size : MethodName := ⟨RX9, "size", "()I"⟩
abbrev cX9_add : ByteArray := prog_11_method_4_code
def yX9_add : MethodName := ⟨RX9, "add", "(IZ)I"⟩
abbrev cX9_relicsLeft : ByteArray := prog_11_method_5_code
def yX9_relicsLeft : MethodName := ⟨RX9, "relicsLeft", "(IILSaintTheft$Course;)I"⟩
abbrev cX9_bestToAsk : ByteArray := prog_11_method_6_code
def yX9_bestToAsk : MethodName := ⟨RX9, "bestToAsk", "(IILSaintTheft$Course;)I"⟩
def RX10 : String := "SaintTheft"
def TX10 : u_T := fun k => match k with
  | 0 => ("SaintTheft", "text", "LSaintTheft$Text;", false)
  | 1 => ("SaintTheft", "spare", "LSaintTheft$Text;", false)
  | 2 => ("SaintTheft", "tape", "LSaintTheft$Tape;", true)
  | 3 => ("SaintTheft", "reader", "LSaintTheft$Reader;", true)
  | 4 => ("SaintTheft", "live", "LSaintTheft$State;", true)
  | 5 => ("SaintTheft", "course", "LSaintTheft$Course;", true)
  | 6 => ("SaintTheft", "forecast", "LSaintTheft$Forecast;", true)
  | 7 => ("SaintTheft", "past", "LSaintTheft$Past;", true)
  | _ => ("SaintTheft", "told", "LSaintTheft$Told;", true)
def tyX10 : Nat → FieldType := fun k => match k with
  | 0 => .object "SaintTheft$Text"
  | 1 => .object "SaintTheft$Text"
  | 2 => .object "SaintTheft$Tape"
  | 3 => .object "SaintTheft$Reader"
  | 4 => .object "SaintTheft$State"
  | 5 => .object "SaintTheft$Course"
  | 6 => .object "SaintTheft$Forecast"
  | 7 => .object "SaintTheft$Past"
  | _ => .object "SaintTheft$Told"
abbrev wsX100 : List Cond := u_ws RX10 TX10 9
theorem nmX10 : ∀ a, a < 9 → ∀ b, b < 9 → a ≠ b → (TX10 a).2.1 ≠ (TX10 b).2.1 := by decide +kernel
theorem tyX10_ok : ∀ k, k < 9 → parseFieldDescriptor (TX10 k).2.2.1 = some (tyX10 k) := by decide +kernel
abbrev cX10_init : ByteArray := prog_1_method_1_code
def yX10_init : MethodName := ⟨RX10, "<init>", "()V"⟩
abbrev cX10_feed : ByteArray := prog_1_method_2_code
def yX10_feed : MethodName := ⟨RX10, "feed", "(IIIII)I"⟩
abbrev cX10_back : ByteArray := prog_1_method_3_code
def yX10_back : MethodName := ⟨RX10, "back", "(I)I"⟩
abbrev cX10_read : ByteArray := prog_1_method_4_code
def yX10_read : MethodName := ⟨RX10, "read", "()I"⟩
abbrev cX10_startText : ByteArray := prog_1_method_5_code
def yX10_startText : MethodName := ⟨RX10, "startText", "()V"⟩
abbrev cX10_place : ByteArray := prog_1_method_6_code
def yX10_place : MethodName := ⟨RX10, "place", "()I"⟩
abbrev cX10_church : ByteArray := prog_1_method_7_code
def yX10_church : MethodName := ⟨RX10, "church", "(II)I"⟩
abbrev cX10_relic : ByteArray := prog_1_method_8_code
def yX10_relic : MethodName := ⟨RX10, "relic", "(II)I"⟩
abbrev cX10_pilgrim : ByteArray := prog_1_method_9_code
def yX10_pilgrim : MethodName := ⟨RX10, "pilgrim", "(II)I"⟩
abbrev cX10_tells : ByteArray := prog_1_method_10_code
def yX10_tells : MethodName := ⟨RX10, "tells", "(III)I"⟩
abbrev cX10_heals : ByteArray := prog_1_method_11_code
def yX10_heals : MethodName := ⟨RX10, "heals", "(II)I"⟩
abbrev cX10_steal : ByteArray := prog_1_method_12_code
def yX10_steal : MethodName := ⟨RX10, "steal", "(III)I"⟩
abbrev cX10_swap : ByteArray := prog_1_method_13_code
def yX10_swap : MethodName := ⟨RX10, "swap", "(II)Z"⟩
abbrev cX10_watch : ByteArray := prog_1_method_14_code
def yX10_watch : MethodName := ⟨RX10, "watch", "(II)Z"⟩
abbrev cX10_years : ByteArray := prog_1_method_15_code
def yX10_years : MethodName := ⟨RX10, "years", "(I)I"⟩
abbrev cX10_undo : ByteArray := prog_1_method_16_code
def yX10_undo : MethodName := ⟨RX10, "undo", "()Z"⟩
abbrev cX10_goes : ByteArray := prog_1_method_17_code
def yX10_goes : MethodName := ⟨RX10, "goes", "(I)I"⟩
abbrev cX10_theft : ByteArray := prog_1_method_18_code
def yX10_theft : MethodName := ⟨RX10, "theft", "(II)I"⟩
abbrev cX10_nights : ByteArray := prog_1_method_19_code
def yX10_nights : MethodName := ⟨RX10, "nights", "(I)I"⟩
abbrev cX10_worth : ByteArray := prog_1_method_20_code
def yX10_worth : MethodName := ⟨RX10, "worth", "(III)I"⟩
abbrev cX10_guard : ByteArray := prog_1_method_21_code
def yX10_guard : MethodName := ⟨RX10, "guard", "(III)I"⟩
abbrev cX10_guards : ByteArray := prog_1_method_22_code
def yX10_guards : MethodName := ⟨RX10, "guards", "(II)I"⟩
abbrev cX10_weak : ByteArray := prog_1_method_23_code
def yX10_weak : MethodName := ⟨RX10, "weak", "(I)I"⟩
abbrev cX10_barter : ByteArray := prog_1_method_24_code
def yX10_barter : MethodName := ⟨RX10, "barter", "(II)I"⟩
abbrev cX10_took : ByteArray := prog_1_method_25_code
def yX10_took : MethodName := ⟨RX10, "took", "(II)I"⟩
abbrev cX10_wonders : ByteArray := prog_1_method_26_code
def yX10_wonders : MethodName := ⟨RX10, "wonders", "(II)I"⟩
abbrev cX10_goesIn : ByteArray := prog_1_method_27_code
def yX10_goesIn : MethodName := ⟨RX10, "goesIn", "(II)I"⟩
abbrev cX10_rich : ByteArray := prog_1_method_28_code
def yX10_rich : MethodName := ⟨RX10, "rich", "(II)I"⟩
abbrev cX10_hub : ByteArray := prog_1_method_29_code
def yX10_hub : MethodName := ⟨RX10, "hub", "()I"⟩
abbrev cX10_crowd : ByteArray := prog_1_method_30_code
def yX10_crowd : MethodName := ⟨RX10, "crowd", "(I)I"⟩
abbrev cX10_healed : ByteArray := prog_1_method_31_code
def yX10_healed : MethodName := ⟨RX10, "healed", "(II)I"⟩
abbrev cX10_famed : ByteArray := prog_1_method_32_code
def yX10_famed : MethodName := ⟨RX10, "famed", "(I)I"⟩
abbrev cX10_year : ByteArray := prog_1_method_33_code
def yX10_year : MethodName := ⟨RX10, "year", "(III)I"⟩
abbrev cX10_belief : ByteArray := prog_1_method_34_code
def yX10_belief : MethodName := ⟨RX10, "belief", "(IIIIZ)I"⟩
abbrev cX10_certain : ByteArray := prog_1_method_35_code
def yX10_certain : MethodName := ⟨RX10, "certain", "(III)I"⟩
abbrev cX10_tell : ByteArray := prog_1_method_36_code
def yX10_tell : MethodName := ⟨RX10, "tell", "(IZ)I"⟩
abbrev cX10_forget : ByteArray := prog_1_method_37_code
def yX10_forget : MethodName := ⟨RX10, "forget", "()I"⟩
abbrev cX10_whose : ByteArray := prog_1_method_38_code
def yX10_whose : MethodName := ⟨RX10, "whose", "(II)I"⟩
abbrev cX10_ask : ByteArray := prog_1_method_39_code
def yX10_ask : MethodName := ⟨RX10, "ask", "(I)I"⟩
abbrev cX10_hold : ByteArray := prog_1_method_40_code
def yX10_hold : MethodName := ⟨RX10, "hold", "(I)Z"⟩
abbrev cX10_restore : ByteArray := prog_1_method_41_code
def yX10_restore : MethodName := ⟨RX10, "restore", "(I)Z"⟩
abbrev cX10_count : ByteArray := prog_1_method_42_code
def yX10_count : MethodName := ⟨RX10, "count", "(I)I"⟩
abbrev cX10_likelyRow : ByteArray := prog_1_method_43_code
def yX10_likelyRow : MethodName := ⟨RX10, "likelyRow", "(III)J"⟩
abbrev cX10_commonDivisor : ByteArray := prog_1_method_44_code
def yX10_commonDivisor : MethodName := ⟨RX10, "commonDivisor", "(JJ)J"⟩
abbrev cX10_isWithin : ByteArray := prog_1_method_45_code
def yX10_isWithin : MethodName := ⟨RX10, "isWithin", "(III)Z"⟩
abbrev cX10_heldTo : ByteArray := prog_1_method_46_code
def yX10_heldTo : MethodName := ⟨RX10, "heldTo", "(II)I"⟩
def RX11 : String := "SaintTheftModel"
def TX11 : u_T := fun k => match k with
  | 0 => ("SaintTheftModel", "thrown", "I", false)
  | 1 => ("SaintTheftModel", "tape", "[B", true)
  | 2 => ("SaintTheftModel", "taped", "I", false)
  | 3 => ("SaintTheftModel", "text", "[B", true)
  | 4 => ("SaintTheftModel", "size", "I", false)
  | 5 => ("SaintTheftModel", "tKind", "[I", true)
  | 6 => ("SaintTheftModel", "tPlace", "[I", true)
  | 7 => ("SaintTheftModel", "tValue", "[I", true)
  | 8 => ("SaintTheftModel", "tName", "[J", true)
  | 9 => ("SaintTheftModel", "keys", "[J", true)
  | 10 => ("SaintTheftModel", "tokens", "I", false)
  | 11 => ("SaintTheftModel", "t", "I", false)
  | 12 => ("SaintTheftModel", "open", "I", false)
  | 13 => ("SaintTheftModel", "fault", "I", false)
  | 14 => ("SaintTheftModel", "faultPlace", "I", false)
  | 15 => ("SaintTheftModel", "worst", "I", false)
  | 16 => ("SaintTheftModel", "worstPlace", "I", false)
  | 17 => ("SaintTheftModel", "place", "I", false)
  | 18 => ("SaintTheftModel", "live", "I", false)
  | 19 => ("SaintTheftModel", "side", "I", false)
  | 20 => ("SaintTheftModel", "names", "I", false)
  | 21 => ("SaintTheftModel", "nameOf", "[J", true)
  | 22 => ("SaintTheftModel", "nameAt", "[I", true)
  | 23 => ("SaintTheftModel", "churches", "[I", true)
  | 24 => ("SaintTheftModel", "watchTold", "[I", true)
  | 25 => ("SaintTheftModel", "roads", "[I", true)
  | 26 => ("SaintTheftModel", "lengthOf", "[I", true)
  | 27 => ("SaintTheftModel", "relics", "[I", true)
  | 28 => ("SaintTheftModel", "churchTold", "[I", true)
  | 29 => ("SaintTheftModel", "truthOf", "[I", true)
  | 30 => ("SaintTheftModel", "pilgrims", "[I", true)
  | 31 => ("SaintTheftModel", "homeOf", "[I", true)
  | 32 => ("SaintTheftModel", "needOf", "[I", true)
  | 33 => ("SaintTheftModel", "giftOf", "[I", true)
  | 34 => ("SaintTheftModel", "seed", "[I", true)
  | 35 => ("SaintTheftModel", "lawFirst", "[I", true)
  | 36 => ("SaintTheftModel", "lawLast", "[I", true)
  | 37 => ("SaintTheftModel", "branches", "I", false)
  | 38 => ("SaintTheftModel", "hasTest", "[Z", true)
  | 39 => ("SaintTheftModel", "testFrom", "[I", true)
  | 40 => ("SaintTheftModel", "testMid", "[I", true)
  | 41 => ("SaintTheftModel", "testTo", "[I", true)
  | 42 => ("SaintTheftModel", "termTo", "[I", true)
  | 43 => ("SaintTheftModel", "codes", "I", false)
  | 44 => ("SaintTheftModel", "code", "[I", true)
  | 45 => ("SaintTheftModel", "codeInt", "[I", true)
  | 46 => ("SaintTheftModel", "waits", "[I", true)
  | 47 => ("SaintTheftModel", "waiting", "I", false)
  | 48 => ("SaintTheftModel", "variables", "[I", true)
  | 49 => ("SaintTheftModel", "pile", "[I", true)
  | 50 => ("SaintTheftModel", "isBroken", "Z", false)
  | 51 => ("SaintTheftModel", "farOf", "[I", true)
  | 52 => ("SaintTheftModel", "now", "[I", true)
  | 53 => ("SaintTheftModel", "row", "[I", true)
  | 54 => ("SaintTheftModel", "lots", "I", false)
  | 55 => ("SaintTheftModel", "goesTo", "[I", true)
  | 56 => ("SaintTheftModel", "isWonder", "[Z", true)
  | 57 => ("SaintTheftModel", "undos", "I", false)
  | 58 => ("SaintTheftModel", "history", "[I", true)
  | 59 => ("SaintTheftModel", "upper", "I", false)
  | 60 => ("SaintTheftModel", "lower", "I", false)
  | 61 => ("SaintTheftModel", "tolds", "I", false)
  | 62 => ("SaintTheftModel", "toldWho", "[I", true)
  | 63 => ("SaintTheftModel", "toldWonder", "[Z", true)
  | 64 => ("SaintTheftModel", "isHeld", "[Z", true)
  | _ => ("SaintTheftModel", "heldRows", "[I", true)
def tyX11 : Nat → FieldType := fun k => match k with
  | 0 => .int
  | 1 => .array .byte
  | 2 => .int
  | 3 => .array .byte
  | 4 => .int
  | 5 => .array .int
  | 6 => .array .int
  | 7 => .array .int
  | 8 => .array .long
  | 9 => .array .long
  | 10 => .int
  | 11 => .int
  | 12 => .int
  | 13 => .int
  | 14 => .int
  | 15 => .int
  | 16 => .int
  | 17 => .int
  | 18 => .int
  | 19 => .int
  | 20 => .int
  | 21 => .array .long
  | 22 => .array .int
  | 23 => .array .int
  | 24 => .array .int
  | 25 => .array .int
  | 26 => .array .int
  | 27 => .array .int
  | 28 => .array .int
  | 29 => .array .int
  | 30 => .array .int
  | 31 => .array .int
  | 32 => .array .int
  | 33 => .array .int
  | 34 => .array .int
  | 35 => .array .int
  | 36 => .array .int
  | 37 => .int
  | 38 => .array .boolean
  | 39 => .array .int
  | 40 => .array .int
  | 41 => .array .int
  | 42 => .array .int
  | 43 => .int
  | 44 => .array .int
  | 45 => .array .int
  | 46 => .array .int
  | 47 => .int
  | 48 => .array .int
  | 49 => .array .int
  | 50 => .boolean
  | 51 => .array .int
  | 52 => .array .int
  | 53 => .array .int
  | 54 => .int
  | 55 => .array .int
  | 56 => .array .boolean
  | 57 => .int
  | 58 => .array .int
  | 59 => .int
  | 60 => .int
  | 61 => .int
  | 62 => .array .int
  | 63 => .array .boolean
  | 64 => .array .boolean
  | _ => .array .int
abbrev wsX110 : List Cond := u_ws RX11 TX11 66
theorem nmX11 : ∀ a, a < 66 → ∀ b, b < 66 → a ≠ b → (TX11 a).2.1 ≠ (TX11 b).2.1 := by decide +kernel
theorem tyX11_ok : ∀ k, k < 66 → parseFieldDescriptor (TX11 k).2.2.1 = some (tyX11 k) := by decide +kernel
abbrev cX11_init : ByteArray := prog_13_method_2_code
def yX11_init : MethodName := ⟨RX11, "<init>", "()V"⟩
abbrev cX11_feed : ByteArray := prog_13_method_3_code
def yX11_feed : MethodName := ⟨RX11, "feed", "(IIIII)I"⟩
abbrev cX11_put : ByteArray := prog_13_method_4_code
def yX11_put : MethodName := ⟨RX11, "put", "(I)V"⟩
abbrev cX11_back : ByteArray := prog_13_method_5_code
def yX11_back : MethodName := ⟨RX11, "back", "(I)I"⟩
abbrev cX11_byteAt : ByteArray := prog_13_method_6_code
def yX11_byteAt : MethodName := ⟨RX11, "byteAt", "(I)I"⟩
abbrev cX11_isDigit : ByteArray := prog_13_method_7_code
def yX11_isDigit : MethodName := ⟨RX11, "isDigit", "(I)Z"⟩
abbrev cX11_isLetter : ByteArray := prog_13_method_8_code
def yX11_isLetter : MethodName := ⟨RX11, "isLetter", "(I)Z"⟩
abbrev cX11_appends : ByteArray := prog_13_method_9_code
def yX11_appends : MethodName := ⟨RX11, "appends", "(JI)J"⟩
abbrev cX11_word : ByteArray := prog_13_method_10_code
def yX11_word : MethodName := ⟨RX11, "word", "(IIIIIII)J"⟩
abbrev cX11_token : ByteArray := prog_13_method_11_code
def yX11_token : MethodName := ⟨RX11, "token", "(IIIJ)V"⟩
abbrev cX11_cut : ByteArray := prog_13_method_12_code
def yX11_cut : MethodName := ⟨RX11, "cut", "()V"⟩
abbrev cX11_sign : ByteArray := prog_13_method_13_code
def yX11_sign : MethodName := ⟨RX11, "sign", "(III)I"⟩
abbrev cX11_is : ByteArray := prog_13_method_14_code
def yX11_is : MethodName := ⟨RX11, "is", "(I)Z"⟩
abbrev cX11_fail : ByteArray := prog_13_method_15_code
def yX11_fail : MethodName := ⟨RX11, "fail", "(I)V"⟩
abbrev cX11_wrong : ByteArray := prog_13_method_16_code
def yX11_wrong : MethodName := ⟨RX11, "wrong", "(II)V"⟩
abbrev cX11_goesOn : ByteArray := prog_13_method_17_code
def yX11_goesOn : MethodName := ⟨RX11, "goesOn", "()V"⟩
abbrev cX11_must : ByteArray := prog_13_method_18_code
def yX11_must : MethodName := ⟨RX11, "must", "(I)V"⟩
abbrev cX11_plain : ByteArray := prog_13_method_19_code
def yX11_plain : MethodName := ⟨RX11, "plain", "(I)V"⟩
abbrev cX11_read : ByteArray := prog_13_method_20_code
def yX11_read : MethodName := ⟨RX11, "read", "()I"⟩
abbrev cX11_place : ByteArray := prog_13_method_21_code
def yX11_place : MethodName := ⟨RX11, "place", "()I"⟩
abbrev cX11_roomFor : ByteArray := prog_13_method_22_code
def yX11_roomFor : MethodName := ⟨RX11, "roomFor", "(II)V"⟩
abbrev cX11_tellOne : ByteArray := prog_13_method_23_code
def yX11_tellOne : MethodName := ⟨RX11, "tellOne", "()V"⟩
abbrev cX11_named : ByteArray := prog_13_method_24_code
def yX11_named : MethodName := ⟨RX11, "named", "()I"⟩
abbrev cX11_ends : ByteArray := prog_13_method_25_code
def yX11_ends : MethodName := ⟨RX11, "ends", "(II)V"⟩
abbrev cX11_knownChurch : ByteArray := prog_13_method_26_code
def yX11_knownChurch : MethodName := ⟨RX11, "knownChurch", "()I"⟩
abbrev cX11_bounded : ByteArray := prog_13_method_27_code
def yX11_bounded : MethodName := ⟨RX11, "bounded", "(II)I"⟩
abbrev cX11_tellRoad : ByteArray := prog_13_method_28_code
def yX11_tellRoad : MethodName := ⟨RX11, "tellRoad", "()V"⟩
abbrev cX11_tellRelic : ByteArray := prog_13_method_29_code
def yX11_tellRelic : MethodName := ⟨RX11, "tellRelic", "()V"⟩
abbrev cX11_tellPilgrim : ByteArray := prog_13_method_30_code
def yX11_tellPilgrim : MethodName := ⟨RX11, "tellPilgrim", "()V"⟩
abbrev cX11_tellLaw : ByteArray := prog_13_method_31_code
def yX11_tellLaw : MethodName := ⟨RX11, "tellLaw", "(I)V"⟩
abbrev cX11_term : ByteArray := prog_13_method_32_code
def yX11_term : MethodName := ⟨RX11, "term", "()V"⟩
abbrev cX11_emit : ByteArray := prog_13_method_33_code
def yX11_emit : MethodName := ⟨RX11, "emit", "(II)V"⟩
abbrev cX11_comesOut : ByteArray := prog_13_method_34_code
def yX11_comesOut : MethodName := ⟨RX11, "comesOut", "(Z)V"⟩
abbrev cX11_expression : ByteArray := prog_13_method_35_code
def yX11_expression : MethodName := ⟨RX11, "expression", "()V"⟩
abbrev cX11_unit : ByteArray := prog_13_method_36_code
def yX11_unit : MethodName := ⟨RX11, "unit", "()V"⟩
abbrev cX11_termOf : ByteArray := prog_13_method_37_code
def yX11_termOf : MethodName := ⟨RX11, "termOf", "(II)I"⟩
abbrev cX11_fillsFar : ByteArray := prog_13_method_38_code
def yX11_fillsFar : MethodName := ⟨RX11, "fillsFar", "()V"⟩
abbrev cX11_in : ByteArray := prog_13_method_39_code
def yX11_in : MethodName := ⟨RX11, "in", "(III)Z"⟩
abbrev cX11_held : ByteArray := prog_13_method_40_code
def yX11_held : MethodName := ⟨RX11, "held", "(III)I"⟩
abbrev cX11_isChurch : ByteArray := prog_13_method_41_code
def yX11_isChurch : MethodName := ⟨RX11, "isChurch", "(I)Z"⟩
abbrev cX11_isRelic : ByteArray := prog_13_method_42_code
def yX11_isRelic : MethodName := ⟨RX11, "isRelic", "(I)Z"⟩
abbrev cX11_isPilgrim : ByteArray := prog_13_method_43_code
def yX11_isPilgrim : MethodName := ⟨RX11, "isPilgrim", "(I)Z"⟩
abbrev cX11_begins : ByteArray := prog_13_method_44_code
def yX11_begins : MethodName := ⟨RX11, "begins", "()V"⟩
abbrev cX11_keepsRow : ByteArray := prog_13_method_45_code
def yX11_keepsRow : MethodName := ⟨RX11, "keepsRow", "()V"⟩
abbrev cX11_copies : ByteArray := prog_13_method_46_code
def yX11_copies : MethodName := ⟨RX11, "copies", "()V"⟩
abbrev cX11_mixed : ByteArray := prog_13_method_47_code
def yX11_mixed : MethodName := ⟨RX11, "mixed", "(II)I"⟩
abbrev cX11_lotOf : ByteArray := prog_13_method_48_code
def yX11_lotOf : MethodName := ⟨RX11, "lotOf", "(I)I"⟩
abbrev cX11_relicsAt : ByteArray := prog_13_method_49_code
def yX11_relicsAt : MethodName := ⟨RX11, "relicsAt", "(I)I"⟩
abbrev cX11_trueAt : ByteArray := prog_13_method_50_code
def yX11_trueAt : MethodName := ⟨RX11, "trueAt", "(I)I"⟩
abbrev cX11_farFor : ByteArray := prog_13_method_51_code
def yX11_farFor : MethodName := ⟨RX11, "farFor", "(II)I"⟩
abbrev cX11_looks : ByteArray := prog_13_method_52_code
def yX11_looks : MethodName := ⟨RX11, "looks", "()V"⟩
abbrev cX11_looksAt : ByteArray := prog_13_method_53_code
def yX11_looksAt : MethodName := ⟨RX11, "looksAt", "(II)V"⟩
abbrev cX11_lawTells : ByteArray := prog_13_method_54_code
def yX11_lawTells : MethodName := ⟨RX11, "lawTells", "(II)I"⟩
abbrev cX11_drawsOf : ByteArray := prog_13_method_55_code
def yX11_drawsOf : MethodName := ⟨RX11, "drawsOf", "(II)I"⟩
abbrev cX11_givesOf : ByteArray := prog_13_method_56_code
def yX11_givesOf : MethodName := ⟨RX11, "givesOf", "(II)I"⟩
abbrev cX11_healsBy : ByteArray := prog_13_method_57_code
def yX11_healsBy : MethodName := ⟨RX11, "healsBy", "(III)I"⟩
abbrev cX11_healsOf : ByteArray := prog_13_method_58_code
def yX11_healsOf : MethodName := ⟨RX11, "healsOf", "(II)I"⟩
abbrev cX11_leaveOf : ByteArray := prog_13_method_59_code
def yX11_leaveOf : MethodName := ⟨RX11, "leaveOf", "(II)I"⟩
abbrev cX11_caughtBy : ByteArray := prog_13_method_60_code
def yX11_caughtBy : MethodName := ⟨RX11, "caughtBy", "(III)I"⟩
abbrev cX11_goesNow : ByteArray := prog_13_method_61_code
def yX11_goesNow : MethodName := ⟨RX11, "goesNow", "(I)I"⟩
abbrev cX11_pilgrimGoes : ByteArray := prog_13_method_62_code
def yX11_pilgrimGoes : MethodName := ⟨RX11, "pilgrimGoes", "(II)V"⟩
abbrev cX11_yearGoes : ByteArray := prog_13_method_63_code
def yX11_yearGoes : MethodName := ⟨RX11, "yearGoes", "()V"⟩
abbrev cX11_yearsGo : ByteArray := prog_13_method_64_code
def yX11_yearsGo : MethodName := ⟨RX11, "yearsGo", "(I)V"⟩
abbrev cX11_relicBits : ByteArray := prog_13_method_65_code
def yX11_relicBits : MethodName := ⟨RX11, "relicBits", "(I)I"⟩
abbrev cX11_church : ByteArray := prog_13_method_66_code
def yX11_church : MethodName := ⟨RX11, "church", "(II)I"⟩
abbrev cX11_relic : ByteArray := prog_13_method_67_code
def yX11_relic : MethodName := ⟨RX11, "relic", "(II)I"⟩
abbrev cX11_pilgrim : ByteArray := prog_13_method_68_code
def yX11_pilgrim : MethodName := ⟨RX11, "pilgrim", "(II)I"⟩
abbrev cX11_tells : ByteArray := prog_13_method_69_code
def yX11_tells : MethodName := ⟨RX11, "tells", "(III)I"⟩
abbrev cX11_heals : ByteArray := prog_13_method_70_code
def yX11_heals : MethodName := ⟨RX11, "heals", "(II)I"⟩
abbrev cX11_records : ByteArray := prog_13_method_71_code
def yX11_records : MethodName := ⟨RX11, "records", "()V"⟩
abbrev cX11_isNights : ByteArray := prog_13_method_72_code
def yX11_isNights : MethodName := ⟨RX11, "isNights", "(I)Z"⟩
abbrev cX11_triesFor : ByteArray := prog_13_method_73_code
def yX11_triesFor : MethodName := ⟨RX11, "triesFor", "(III)I"⟩
abbrev cX11_steal : ByteArray := prog_13_method_74_code
def yX11_steal : MethodName := ⟨RX11, "steal", "(III)I"⟩
abbrev cX11_swap : ByteArray := prog_13_method_75_code
def yX11_swap : MethodName := ⟨RX11, "swap", "(II)Z"⟩
abbrev cX11_watch : ByteArray := prog_13_method_76_code
def yX11_watch : MethodName := ⟨RX11, "watch", "(II)Z"⟩
abbrev cX11_years : ByteArray := prog_13_method_77_code
def yX11_years : MethodName := ⟨RX11, "years", "(I)I"⟩
abbrev cX11_undo : ByteArray := prog_13_method_78_code
def yX11_undo : MethodName := ⟨RX11, "undo", "()Z"⟩
abbrev cX11_goes : ByteArray := prog_13_method_79_code
def yX11_goes : MethodName := ⟨RX11, "goes", "(I)I"⟩
abbrev cX11_theftNow : ByteArray := prog_13_method_80_code
def yX11_theftNow : MethodName := ⟨RX11, "theftNow", "(II)I"⟩
abbrev cX11_theft : ByteArray := prog_13_method_81_code
def yX11_theft : MethodName := ⟨RX11, "theft", "(II)I"⟩
abbrev cX11_nightsNow : ByteArray := prog_13_method_82_code
def yX11_nightsNow : MethodName := ⟨RX11, "nightsNow", "(I)I"⟩
abbrev cX11_nights : ByteArray := prog_13_method_83_code
def yX11_nights : MethodName := ⟨RX11, "nights", "(I)I"⟩
abbrev cX11_guardOf : ByteArray := prog_13_method_84_code
def yX11_guardOf : MethodName := ⟨RX11, "guardOf", "(III)I"⟩
abbrev cX11_isOdds : ByteArray := prog_13_method_85_code
def yX11_isOdds : MethodName := ⟨RX11, "isOdds", "(I)Z"⟩
abbrev cX11_guard : ByteArray := prog_13_method_86_code
def yX11_guard : MethodName := ⟨RX11, "guard", "(III)I"⟩
abbrev cX11_guards : ByteArray := prog_13_method_87_code
def yX11_guards : MethodName := ⟨RX11, "guards", "(II)I"⟩
abbrev cX11_weak : ByteArray := prog_13_method_88_code
def yX11_weak : MethodName := ⟨RX11, "weak", "(I)I"⟩
abbrev cX11_isFew : ByteArray := prog_13_method_89_code
def yX11_isFew : MethodName := ⟨RX11, "isFew", "(I)Z"⟩
abbrev cX11_isLong : ByteArray := prog_13_method_90_code
def yX11_isLong : MethodName := ⟨RX11, "isLong", "(I)Z"⟩
abbrev cX11_takesWith : ByteArray := prog_13_method_91_code
def yX11_takesWith : MethodName := ⟨RX11, "takesWith", "(IIII)I"⟩
abbrev cX11_worth : ByteArray := prog_13_method_92_code
def yX11_worth : MethodName := ⟨RX11, "worth", "(III)I"⟩
abbrev cX11_isBarter : ByteArray := prog_13_method_93_code
def yX11_isBarter : MethodName := ⟨RX11, "isBarter", "(III)Z"⟩
abbrev cX11_barter : ByteArray := prog_13_method_94_code
def yX11_barter : MethodName := ⟨RX11, "barter", "(II)I"⟩
abbrev cX11_took : ByteArray := prog_13_method_95_code
def yX11_took : MethodName := ⟨RX11, "took", "(II)I"⟩
abbrev cX11_wonders : ByteArray := prog_13_method_96_code
def yX11_wonders : MethodName := ⟨RX11, "wonders", "(II)I"⟩
abbrev cX11_goesIn : ByteArray := prog_13_method_97_code
def yX11_goesIn : MethodName := ⟨RX11, "goesIn", "(II)I"⟩
abbrev cX11_rich : ByteArray := prog_13_method_98_code
def yX11_rich : MethodName := ⟨RX11, "rich", "(II)I"⟩
abbrev cX11_hub : ByteArray := prog_13_method_99_code
def yX11_hub : MethodName := ⟨RX11, "hub", "()I"⟩
abbrev cX11_crowd : ByteArray := prog_13_method_100_code
def yX11_crowd : MethodName := ⟨RX11, "crowd", "(I)I"⟩
abbrev cX11_healed : ByteArray := prog_13_method_101_code
def yX11_healed : MethodName := ⟨RX11, "healed", "(II)I"⟩
abbrev cX11_famed : ByteArray := prog_13_method_102_code
def yX11_famed : MethodName := ⟨RX11, "famed", "(I)I"⟩
abbrev cX11_year : ByteArray := prog_13_method_103_code
def yX11_year : MethodName := ⟨RX11, "year", "(III)I"⟩
abbrev cX11_rowOdds : ByteArray := prog_13_method_104_code
def yX11_rowOdds : MethodName := ⟨RX11, "rowOdds", "(III)I"⟩
abbrev cX11_fillsBelief : ByteArray := prog_13_method_105_code
def yX11_fillsBelief : MethodName := ⟨RX11, "fillsBelief", "(IIII)V"⟩
abbrev cX11_belief : ByteArray := prog_13_method_106_code
def yX11_belief : MethodName := ⟨RX11, "belief", "(IIIIZ)I"⟩
abbrev cX11_certain : ByteArray := prog_13_method_107_code
def yX11_certain : MethodName := ⟨RX11, "certain", "(III)I"⟩
abbrev cX11_tell : ByteArray := prog_13_method_108_code
def yX11_tell : MethodName := ⟨RX11, "tell", "(IZ)I"⟩
abbrev cX11_forget : ByteArray := prog_13_method_109_code
def yX11_forget : MethodName := ⟨RX11, "forget", "()I"⟩
abbrev cX11_whoseBits : ByteArray := prog_13_method_110_code
def yX11_whoseBits : MethodName := ⟨RX11, "whoseBits", "(I)I"⟩
abbrev cX11_bits : ByteArray := prog_13_method_111_code
def yX11_bits : MethodName := ⟨RX11, "bits", "(I)I"⟩
abbrev cX11_whose : ByteArray := prog_13_method_112_code
def yX11_whose : MethodName := ⟨RX11, "whose", "(II)I"⟩
abbrev cX11_ask : ByteArray := prog_13_method_113_code
def yX11_ask : MethodName := ⟨RX11, "ask", "(I)I"⟩
abbrev cX11_hold : ByteArray := prog_13_method_114_code
def yX11_hold : MethodName := ⟨RX11, "hold", "(I)Z"⟩
abbrev cX11_restore : ByteArray := prog_13_method_115_code
def yX11_restore : MethodName := ⟨RX11, "restore", "(I)Z"⟩
abbrev cX11_sumNow : ByteArray := prog_13_method_116_code
def yX11_sumNow : MethodName := ⟨RX11, "sumNow", "(I)I"⟩
abbrev cX11_count : ByteArray := prog_13_method_117_code
def yX11_count : MethodName := ⟨RX11, "count", "(I)I"⟩
def RJ11 : String := "java/lang/Character"
def TJ11 : u_T := fun k => match k with
  | _ => ("", "", "", false)
def tyJ11 : Nat → FieldType := fun k => match k with
  | _ => .int
abbrev wsJ110 : List Cond := u_ws RJ11 TJ11 0
theorem nmJ11 : ∀ a, a < 0 → ∀ b, b < 0 → a ≠ b → (TJ11 a).2.1 ≠ (TJ11 b).2.1 := by decide +kernel
theorem tyJ11_ok : ∀ k, k < 0 → parseFieldDescriptor (TJ11 k).2.2.1 = some (tyJ11 k) := by decide +kernel
abbrev cJ11_isValidCodePoint_9a6ad : ByteArray := prog_14_method_11_code
def yJ11_isValidCodePoint_9a6ad : MethodName := ⟨RJ11, "isValidCodePoint", "(I)Z"⟩
abbrev cJ11_highSurrogate_5068e : ByteArray := prog_14_method_28_code
def yJ11_highSurrogate_5068e : MethodName := ⟨RJ11, "highSurrogate", "(I)C"⟩
abbrev cJ11_lowSurrogate_5068e : ByteArray := prog_14_method_29_code
def yJ11_lowSurrogate_5068e : MethodName := ⟨RJ11, "lowSurrogate", "(I)C"⟩
def RJ6 : String := "java/lang/Integer"
def TJ6 : u_T := fun k => match k with
  | _ => ("", "", "", false)
def tyJ6 : Nat → FieldType := fun k => match k with
  | _ => .int
abbrev wsJ60 : List Cond := u_ws RJ6 TJ6 0
theorem nmJ6 : ∀ a, a < 0 → ∀ b, b < 0 → a ≠ b → (TJ6 a).2.1 ≠ (TJ6 b).2.1 := by decide +kernel
theorem tyJ6_ok : ∀ k, k < 0 → parseFieldDescriptor (TJ6 k).2.2.1 = some (tyJ6 k) := by decide +kernel
abbrev cJ6_bitCount_0f7a4 : ByteArray := prog_15_method_49_code
def yJ6_bitCount_0f7a4 : MethodName := ⟨RJ6, "bitCount", "(I)I"⟩
def RJ9 : String := "java/lang/Math"
def TJ9 : u_T := fun k => match k with
  | _ => ("", "", "", false)
def tyJ9 : Nat → FieldType := fun k => match k with
  | _ => .int
abbrev wsJ90 : List Cond := u_ws RJ9 TJ9 0
theorem nmJ9 : ∀ a, a < 0 → ∀ b, b < 0 → a ≠ b → (TJ9 a).2.1 ≠ (TJ9 b).2.1 := by decide +kernel
theorem tyJ9_ok : ∀ k, k < 0 → parseFieldDescriptor (TJ9 k).2.2.1 = some (tyJ9 k) := by decide +kernel
abbrev cJ9_max_7cf53 : ByteArray := prog_16_method_65_code
def yJ9_max_7cf53 : MethodName := ⟨RJ9, "max", "(II)I"⟩
abbrev cJ9_max_f86c9 : ByteArray := prog_16_method_66_code
def yJ9_max_f86c9 : MethodName := ⟨RJ9, "max", "(JJ)J"⟩
abbrev cJ9_min_7cf53 : ByteArray := prog_16_method_69_code
def yJ9_min_7cf53 : MethodName := ⟨RJ9, "min", "(II)I"⟩
def RJ0 : String := "java/lang/String"
def TJ0 : u_T := fun k => match k with
  | _ => ("", "", "", false)
def tyJ0 : Nat → FieldType := fun k => match k with
  | _ => .int
abbrev wsJ00 : List Cond := u_ws RJ0 TJ0 0
theorem nmJ0 : ∀ a, a < 0 → ∀ b, b < 0 → a ≠ b → (TJ0 a).2.1 ≠ (TJ0 b).2.1 := by decide +kernel
theorem tyJ0_ok : ∀ k, k < 0 → parseFieldDescriptor (TJ0 k).2.2.1 = some (tyJ0 k) := by decide +kernel
abbrev cJ0_length_8abf5 : ByteArray := prog_17_method_54_code
def yJ0_length_8abf5 : MethodName := ⟨RJ0, "length", "()I"⟩
abbrev cJ0_charAt_5068e : ByteArray := prog_17_method_56_code
def yJ0_charAt_5068e : MethodName := ⟨RJ0, "charAt", "(I)C"⟩
abbrev cJ0_indexOf_0f7a4 : ByteArray := prog_17_method_79_code
def yJ0_indexOf_0f7a4 : MethodName := ⟨RJ0, "indexOf", "(I)I"⟩
abbrev cJ0_indexOf_7cf53 : ByteArray := prog_17_method_80_code
def yJ0_indexOf_7cf53 : MethodName := ⟨RJ0, "indexOf", "(II)I"⟩
abbrev cJ0_coder_7d493 : ByteArray := prog_17_method_152_code
def yJ0_coder_7d493 : MethodName := ⟨RJ0, "coder", "()B"⟩
abbrev cJ0_isLatin1_aae02 : ByteArray := prog_17_method_154_code
def yJ0_isLatin1_aae02 : MethodName := ⟨RJ0, "isLatin1", "()Z"⟩
abbrev cJ0_checkIndex_df160 : ByteArray := prog_17_method_155_code
def yJ0_checkIndex_df160 : MethodName := ⟨RJ0, "checkIndex", "(II)V"⟩
abbrev cJ0_checkBoundsBeginEnd_23922 : ByteArray := prog_17_method_158_code
def yJ0_checkBoundsBeginEnd_23922 : MethodName := ⟨RJ0, "checkBoundsBeginEnd", "(III)V"⟩
def RJ1 : String := "java/lang/StringLatin1"
def TJ1 : u_T := fun k => match k with
  | _ => ("", "", "", false)
def tyJ1 : Nat → FieldType := fun k => match k with
  | _ => .int
abbrev wsJ10 : List Cond := u_ws RJ1 TJ1 0
theorem nmJ1 : ∀ a, a < 0 → ∀ b, b < 0 → a ≠ b → (TJ1 a).2.1 ≠ (TJ1 b).2.1 := by decide +kernel
theorem tyJ1_ok : ∀ k, k < 0 → parseFieldDescriptor (TJ1 k).2.2.1 = some (tyJ1 k) := by decide +kernel
abbrev cJ1_charAt_3b067 : ByteArray := prog_18_method_2_code
def yJ1_charAt_3b067 : MethodName := ⟨RJ1, "charAt", "([BI)C"⟩
abbrev cJ1_canEncode_9a6ad : ByteArray := prog_18_method_4_code
def yJ1_canEncode_9a6ad : MethodName := ⟨RJ1, "canEncode", "(I)Z"⟩
abbrev cJ1_indexOf_4cfef : ByteArray := prog_18_method_22_code
def yJ1_indexOf_4cfef : MethodName := ⟨RJ1, "indexOf", "([BIII)I"⟩
abbrev cJ1_indexOfChar_4cfef : ByteArray := prog_18_method_23_code
def yJ1_indexOfChar_4cfef : MethodName := ⟨RJ1, "indexOfChar", "([BIII)I"⟩
def RJ2 : String := "java/lang/StringUTF16"
def TJ2 : u_T := fun k => match k with
  | _ => ("", "", "", false)
def tyJ2 : Nat → FieldType := fun k => match k with
  | _ => .int
abbrev wsJ20 : List Cond := u_ws RJ2 TJ2 0
theorem nmJ2 : ∀ a, a < 0 → ∀ b, b < 0 → a ≠ b → (TJ2 a).2.1 ≠ (TJ2 b).2.1 := by decide +kernel
theorem tyJ2_ok : ∀ k, k < 0 → parseFieldDescriptor (TJ2 k).2.2.1 = some (tyJ2 k) := by decide +kernel
abbrev cJ2_getChar_3b067 : ByteArray := prog_19_method_5_code
def yJ2_getChar_3b067 : MethodName := ⟨RJ2, "getChar", "([BI)C"⟩
abbrev cJ2_length_9d52b : ByteArray := prog_19_method_6_code
def yJ2_length_9d52b : MethodName := ⟨RJ2, "length", "([B)I"⟩
abbrev cJ2_indexOf_4cfef : ByteArray := prog_19_method_40_code
def yJ2_indexOf_4cfef : MethodName := ⟨RJ2, "indexOf", "([BIII)I"⟩
abbrev cJ2_indexOfChar_4cfef : ByteArray := prog_19_method_47_code
def yJ2_indexOfChar_4cfef : MethodName := ⟨RJ2, "indexOfChar", "([BIII)I"⟩
abbrev cJ2_indexOfCharUnsafe_4cfef : ByteArray := prog_19_method_48_code
def yJ2_indexOfCharUnsafe_4cfef : MethodName := ⟨RJ2, "indexOfCharUnsafe", "([BIII)I"⟩
abbrev cJ2_indexOfSupplementary_4cfef : ByteArray := prog_19_method_49_code
def yJ2_indexOfSupplementary_4cfef : MethodName := ⟨RJ2, "indexOfSupplementary", "([BIII)I"⟩
abbrev cJ2_charAt_3b067 : ByteArray := prog_19_method_83_code
def yJ2_charAt_3b067 : MethodName := ⟨RJ2, "charAt", "([BI)C"⟩
abbrev cJ2_checkIndex_2214a : ByteArray := prog_19_method_91_code
def yJ2_checkIndex_2214a : MethodName := ⟨RJ2, "checkIndex", "(I[B)V"⟩
abbrev cJ2_checkBoundsBeginEnd_d044e : ByteArray := prog_19_method_93_code
def yJ2_checkBoundsBeginEnd_d044e : MethodName := ⟨RJ2, "checkBoundsBeginEnd", "(II[B)V"⟩
def RJ3 : String := "jdk/internal/util/Preconditions"
def TJ3 : u_T := fun k => match k with
  | _ => ("", "", "", false)
def tyJ3 : Nat → FieldType := fun k => match k with
  | _ => .int
abbrev wsJ30 : List Cond := u_ws RJ3 TJ3 0
theorem nmJ3 : ∀ a, a < 0 → ∀ b, b < 0 → a ≠ b → (TJ3 a).2.1 ≠ (TJ3 b).2.1 := by decide +kernel
theorem tyJ3_ok : ∀ k, k < 0 → parseFieldDescriptor (TJ3 k).2.2.1 = some (tyJ3 k) := by decide +kernel
abbrev cJ3_checkIndex_8e157 : ByteArray := prog_20_method_11_code
def yJ3_checkIndex_8e157 : MethodName := ⟨RJ3, "checkIndex", "(IILjava/util/function/BiFunction;)I"⟩
abbrev cJ3_checkFromToIndex_8c36e : ByteArray := prog_20_method_12_code
def yJ3_checkFromToIndex_8c36e : MethodName := ⟨RJ3, "checkFromToIndex", "(IIILjava/util/function/BiFunction;)I"⟩
def RL : String := "SaintTheftLaw"
abbrev cL_law : ByteArray := code
def yL_law : MethodName := ⟨RL, "law", "([I)Z"⟩
end
section
/-! A small machine of my own over an abstract heap: shapes, ints, longs, references of the cells by their numbers. Its runs are told by ab_wp; a later part shows that the machine itself does what ab_wp says. -/
abbrev ab_Sh : Type := Nat ⊕ (FieldType × Nat)
/-- how many cells, their shapes, their ints, their longs, their references -/
abbrev ab_H : Type := Nat × (Nat → ab_Sh) × (Nat → Nat → Int32) × (Nat → Nat → Int64) × (Nat → Nat → Option Nat)
/-- a row of a code table: pc, instruction, its length, two numbers, a list of numbers -/
abbrev ab_I : Type := Nat × Instr × Nat × Nat × Nat × List Nat
/-- a method: name, bytes, locals, the answer's type, cells and slots that it makes, its kind, its code -/
abbrev ab_M : Type := MethodName × ByteArray × Nat × Option FieldType × Nat × Nat × Nat × List ab_I
abbrev ab_my (M : ab_M) : MethodName := M.1
abbrev ab_mb (M : ab_M) : ByteArray := M.2.1
abbrev ab_ml (M : ab_M) : Nat := M.2.2.1
abbrev ab_mr (M : ab_M) : Option FieldType := M.2.2.2.1
abbrev ab_mc (M : ab_M) : Nat := M.2.2.2.2.1
abbrev ab_ms (M : ab_M) : Nat := M.2.2.2.2.2.1
abbrev ab_mk (M : ab_M) : Nat := M.2.2.2.2.2.2.1
abbrev ab_mo (M : ab_M) : List ab_I := M.2.2.2.2.2.2.2
end
section
/-! the code tables, made by wip/whole/gen.py -/
def kX0_init : List ab_I := [(0, .aload_n 0, 1, 0, 0, []),
  (1, .invokespecial 3, 3, 0, 0, [369]),
  (4, .aload_n 0, 1, 0, 0, []),
  (5, .iconst 5, 1, 0, 0, []),
  (6, .newarray .int, 2, 0, 0, []),
  (8, .putfield 9, 3, 0, 0, [371, 1, 1]),
  (11, .aload_n 0, 1, 0, 0, []),
  (12, .iconst 5, 1, 0, 0, []),
  (13, .newarray .int, 2, 0, 0, []),
  (15, .putfield 15, 3, 0, 1, [372, 1, 1]),
  (18, .aload_n 0, 1, 0, 0, []),
  (19, .aload_n 1, 1, 0, 0, []),
  (20, .putfield 18, 3, 0, 2, [373, 1, 1]),
  (23, .aload_n 0, 1, 0, 0, []),
  (24, .aload_n 1, 1, 0, 0, []),
  (25, .invokevirtual 22, 3, 91, 7, [370, 0]),
  (28, .putfield 28, 3, 0, 3, [374, 1, 1]),
  (31, .return_, 1, 0, 0, [])]
def mX0_init : ab_M := (yX0_init, cX0_init, 2, none, 2, 10, 2, kX0_init)
def kX0_turnTo : List ab_I := [(0, .aload_n 0, 1, 0, 0, []),
  (1, .aload_n 1, 1, 0, 0, []),
  (2, .putfield 18, 3, 0, 2, [373, 1, 1]),
  (5, .aload_n 0, 1, 0, 0, []),
  (6, .aload_n 1, 1, 0, 0, []),
  (7, .invokevirtual 22, 3, 91, 7, [370, 0]),
  (10, .putfield 28, 3, 0, 3, [374, 1, 1]),
  (13, .return_, 1, 0, 0, [])]
def mX0_turnTo : ab_M := (yX0_turnTo, cX0_turnTo, 2, none, 0, 0, 1, kX0_turnTo)
def kX0_text : List ab_I := [(0, .aload_n 0, 1, 0, 0, []),
  (1, .getfield 18, 3, 0, 2, [373, 1]),
  (4, .areturn, 1, 0, 0, [])]
def mX0_text : ab_M := (yX0_text, cX0_text, 1, (some (FieldType.object "SaintTheft$Text")), 0, 0, 1, kX0_text)
def kX0_writtenFor : List ab_I := [(0, .iload_n 1, 1, 0, 0, []),
  (1, .ifCond .lt 17, 3, 18, 0, []),
  (4, .iload_n 1, 1, 0, 0, []),
  (5, .iconst 5, 1, 0, 0, []),
  (6, .if_icmp .ge 12, 3, 18, 0, []),
  (9, .aload_n 0, 1, 0, 0, []),
  (10, .getfield 15, 3, 0, 1, [372, 1]),
  (13, .iload_n 1, 1, 0, 0, []),
  (14, .iaload, 1, 0, 0, []),
  (15, .goto 4, 3, 19, 0, []),
  (18, .iconst 0, 1, 0, 0, []),
  (19, .ireturn, 1, 0, 0, [])]
def mX0_writtenFor : ab_M := (yX0_writtenFor, cX0_writtenFor, 2, (some (FieldType.int)), 0, 0, 1, kX0_writtenFor)
def kX0_lot : List ab_I := [(0, .iload_n 0, 1, 0, 0, []),
  (1, .bipush 111, 2, 0, 0, []),
  (3, .invokestatic 31, 3, 5, 0, [940, 2]),
  (6, .iload_n 1, 1, 0, 0, []),
  (7, .invokestatic 31, 3, 5, 0, [940, 2]),
  (10, .iconst 1, 1, 0, 0, []),
  (11, .iushr, 1, 0, 0, []),
  (12, .ireturn, 1, 0, 0, [])]
def mX0_lot : ab_M := (yX0_lot, cX0_lot, 2, (some (FieldType.int)), 0, 0, 0, kX0_lot)
def kX0_mixed : List ab_I := [(0, .iload_n 0, 1, 0, 0, []),
  (1, .iload_n 1, 1, 0, 0, []),
  (2, .ixor, 1, 0, 0, []),
  (3, .ldc 35, 2, 1103515245, 0, [943]),
  (5, .imul, 1, 0, 0, []),
  (6, .sipush 12345, 3, 0, 0, []),
  (9, .iadd, 1, 0, 0, []),
  (10, .istore_n 2, 1, 0, 0, []),
  (11, .iload_n 2, 1, 0, 0, []),
  (12, .iload_n 2, 1, 0, 0, []),
  (13, .bipush 15, 2, 0, 0, []),
  (15, .iushr, 1, 0, 0, []),
  (16, .ixor, 1, 0, 0, []),
  (17, .ireturn, 1, 0, 0, [])]
def mX0_mixed : ab_M := (yX0_mixed, cX0_mixed, 3, (some (FieldType.int)), 0, 0, 0, kX0_mixed)
def kX0_falls : List ab_I := [(0, .iload_n 0, 1, 0, 0, []),
  (1, .iload_n 1, 1, 0, 0, []),
  (2, .invokestatic 36, 3, 4, 0, [937, 2]),
  (5, .bipush 100, 2, 0, 0, []),
  (7, .irem, 1, 0, 0, []),
  (8, .iload_n 2, 1, 0, 0, []),
  (9, .if_icmp .ge 7, 3, 16, 0, []),
  (12, .iconst 1, 1, 0, 0, []),
  (13, .goto 4, 3, 17, 0, []),
  (16, .iconst 0, 1, 0, 0, []),
  (17, .ireturn, 1, 0, 0, [])]
def mX0_falls : ab_M := (yX0_falls, cX0_falls, 3, (some (FieldType.boolean)), 0, 0, 0, kX0_falls)
def kX0_lookAt : List ab_I := [(0, .aload_n 0, 1, 0, 0, []),
  (1, .getfield 28, 3, 0, 3, [374, 1]),
  (4, .invokevirtual 39, 3, 40, 2, [858, 0]),
  (7, .aload_n 0, 1, 0, 0, []),
  (8, .getfield 28, 3, 0, 3, [374, 1]),
  (11, .iconst 0, 1, 0, 0, []),
  (12, .aload_n 1, 1, 0, 0, []),
  (13, .bipush 18, 2, 0, 0, []),
  (15, .iload_n 2, 1, 0, 0, []),
  (16, .iadd, 1, 0, 0, []),
  (17, .invokevirtual 46, 3, 74, 5, [862, 1]),
  (20, .invokestatic 50, 3, 298, 0, [863, 1]),
  (23, .invokevirtual 55, 3, 41, 2, [864, 2]),
  (26, .aload_n 0, 1, 0, 0, []),
  (27, .getfield 28, 3, 0, 3, [374, 1]),
  (30, .bipush 7, 2, 0, 0, []),
  (32, .aload_n 1, 1, 0, 0, []),
  (33, .bipush 52, 2, 0, 0, []),
  (35, .invokevirtual 46, 3, 74, 5, [862, 1]),
  (38, .invokevirtual 55, 3, 41, 2, [864, 2]),
  (41, .return_, 1, 0, 0, [])]
def mX0_lookAt : ab_M := (yX0_lookAt, cX0_lookAt, 3, none, 0, 0, 1, kX0_lookAt)
def kX0_lookAtPilgrim : List ab_I := [(0, .aload_n 0, 1, 0, 0, []),
  (1, .getfield 28, 3, 0, 3, [374, 1]),
  (4, .iconst 1, 1, 0, 0, []),
  (5, .aload_n 1, 1, 0, 0, []),
  (6, .bipush 6, 2, 0, 0, []),
  (8, .iload_n 3, 1, 0, 0, []),
  (9, .iadd, 1, 0, 0, []),
  (10, .invokevirtual 46, 3, 74, 5, [862, 1]),
  (13, .invokevirtual 55, 3, 41, 2, [864, 2]),
  (16, .aload_n 0, 1, 0, 0, []),
  (17, .getfield 28, 3, 0, 3, [374, 1]),
  (20, .iconst 2, 1, 0, 0, []),
  (21, .aload_n 0, 1, 0, 0, []),
  (22, .getfield 18, 3, 0, 2, [373, 1]),
  (25, .aload_n 0, 1, 0, 0, []),
  (26, .getfield 18, 3, 0, 2, [373, 1]),
  (29, .iload_n 2, 1, 0, 0, []),
  (30, .invokevirtual 59, 3, 104, 7, [872, 1]),
  (33, .iload_n 3, 1, 0, 0, []),
  (34, .invokevirtual 62, 3, 107, 7, [873, 2]),
  (37, .invokevirtual 55, 3, 41, 2, [864, 2]),
  (40, .aload_n 0, 1, 0, 0, []),
  (41, .getfield 28, 3, 0, 3, [374, 1]),
  (44, .iconst 3, 1, 0, 0, []),
  (45, .aload_n 0, 1, 0, 0, []),
  (46, .getfield 18, 3, 0, 2, [373, 1]),
  (49, .iload_n 2, 1, 0, 0, []),
  (50, .invokevirtual 65, 3, 105, 7, [874, 1]),
  (53, .invokevirtual 55, 3, 41, 2, [864, 2]),
  (56, .aload_n 0, 1, 0, 0, []),
  (57, .getfield 28, 3, 0, 3, [374, 1]),
  (60, .iconst 4, 1, 0, 0, []),
  (61, .aload_n 0, 1, 0, 0, []),
  (62, .getfield 18, 3, 0, 2, [373, 1]),
  (65, .iload_n 2, 1, 0, 0, []),
  (66, .invokevirtual 68, 3, 106, 7, [875, 1]),
  (69, .invokevirtual 55, 3, 41, 2, [864, 2]),
  (72, .return_, 1, 0, 0, [])]
def mX0_lookAtPilgrim : ab_M := (yX0_lookAtPilgrim, cX0_lookAtPilgrim, 4, none, 0, 0, 1, kX0_lookAtPilgrim)
def kX0_visitValue : List ab_I := [(0, .aload_n 0, 1, 0, 0, []),
  (1, .aload_n 2, 1, 0, 0, []),
  (2, .iload 4, 2, 0, 0, []),
  (4, .invokevirtual 71, 3, 7, 0, [854, 2]),
  (7, .aload_n 0, 1, 0, 0, []),
  (8, .aload_n 2, 1, 0, 0, []),
  (9, .iload_n 3, 1, 0, 0, []),
  (10, .iload 4, 2, 0, 0, []),
  (12, .invokevirtual 75, 3, 8, 0, [868, 3]),
  (15, .aload_n 0, 1, 0, 0, []),
  (16, .getfield 28, 3, 0, 3, [374, 1]),
  (19, .bipush 6, 2, 0, 0, []),
  (21, .aload_n 2, 1, 0, 0, []),
  (22, .iconst 0, 1, 0, 0, []),
  (23, .iload 4, 2, 0, 0, []),
  (25, .iadd, 1, 0, 0, []),
  (26, .invokevirtual 46, 3, 74, 5, [862, 1]),
  (29, .invokevirtual 55, 3, 41, 2, [864, 2]),
  (32, .aload_n 0, 1, 0, 0, []),
  (33, .getfield 28, 3, 0, 3, [374, 1]),
  (36, .bipush 8, 2, 0, 0, []),
  (38, .aload_n 2, 1, 0, 0, []),
  (39, .bipush 18, 2, 0, 0, []),
  (41, .iload 4, 2, 0, 0, []),
  (43, .iadd, 1, 0, 0, []),
  (44, .invokevirtual 46, 3, 74, 5, [862, 1]),
  (47, .aload_n 0, 1, 0, 0, []),
  (48, .getfield 18, 3, 0, 2, [373, 1]),
  (51, .invokevirtual 79, 3, 95, 7, [876, 0]),
  (54, .iand, 1, 0, 0, []),
  (55, .invokestatic 50, 3, 298, 0, [863, 1]),
  (58, .invokevirtual 55, 3, 41, 2, [864, 2]),
  (61, .aload_n 0, 1, 0, 0, []),
  (62, .getfield 28, 3, 0, 3, [374, 1]),
  (65, .iload_n 1, 1, 0, 0, []),
  (66, .invokevirtual 83, 3, 43, 2, [877, 1]),
  (69, .istore 5, 2, 0, 0, []),
  (71, .iload_n 1, 1, 0, 0, []),
  (72, .iconst 2, 1, 0, 0, []),
  (73, .if_icmp .ne 13, 3, 86, 0, []),
  (76, .iload 5, 2, 0, 0, []),
  (78, .bipush 99, 2, 0, 0, []),
  (80, .invokestatic 86, 3, 181, 0, [889, 2, 1]),
  (83, .goto 5, 3, 88, 0, []),
  (86, .iload 5, 2, 0, 0, []),
  (88, .ireturn, 1, 0, 0, [])]
def mX0_visitValue : ab_M := (yX0_visitValue, cX0_visitValue, 6, (some (FieldType.int)), 0, 0, 1, kX0_visitValue)
def kX0_healing : List ab_I := [(0, .aload_n 1, 1, 0, 0, []),
  (1, .bipush 24, 2, 0, 0, []),
  (3, .iload_n 2, 1, 0, 0, []),
  (4, .iadd, 1, 0, 0, []),
  (5, .invokevirtual 46, 3, 74, 5, [862, 1]),
  (8, .istore 5, 2, 0, 0, []),
  (10, .aload_n 0, 1, 0, 0, []),
  (11, .aload_n 1, 1, 0, 0, []),
  (12, .iload 5, 2, 0, 0, []),
  (14, .invokevirtual 71, 3, 7, 0, [854, 2]),
  (17, .aload_n 0, 1, 0, 0, []),
  (18, .aload_n 1, 1, 0, 0, []),
  (19, .iload_n 3, 1, 0, 0, []),
  (20, .iload 5, 2, 0, 0, []),
  (22, .invokevirtual 75, 3, 8, 0, [868, 3]),
  (25, .aload_n 0, 1, 0, 0, []),
  (26, .getfield 28, 3, 0, 3, [374, 1]),
  (29, .bipush 8, 2, 0, 0, []),
  (31, .iload 4, 2, 0, 0, []),
  (33, .invokevirtual 55, 3, 41, 2, [864, 2]),
  (36, .aload_n 0, 1, 0, 0, []),
  (37, .getfield 28, 3, 0, 3, [374, 1]),
  (40, .iconst 1, 1, 0, 0, []),
  (41, .invokevirtual 83, 3, 43, 2, [877, 1]),
  (44, .bipush 100, 2, 0, 0, []),
  (46, .invokestatic 86, 3, 181, 0, [889, 2, 1]),
  (49, .ireturn, 1, 0, 0, [])]
def mX0_healing : ab_M := (yX0_healing, cX0_healing, 6, (some (FieldType.int)), 0, 0, 1, kX0_healing)
def kX0_leaving : List ab_I := [(0, .aload_n 1, 1, 0, 0, []),
  (1, .bipush 24, 2, 0, 0, []),
  (3, .iload_n 2, 1, 0, 0, []),
  (4, .iadd, 1, 0, 0, []),
  (5, .invokevirtual 46, 3, 74, 5, [862, 1]),
  (8, .istore 4, 2, 0, 0, []),
  (10, .aload_n 0, 1, 0, 0, []),
  (11, .aload_n 1, 1, 0, 0, []),
  (12, .iload 4, 2, 0, 0, []),
  (14, .invokevirtual 71, 3, 7, 0, [854, 2]),
  (17, .aload_n 0, 1, 0, 0, []),
  (18, .getfield 28, 3, 0, 3, [374, 1]),
  (21, .iconst 1, 1, 0, 0, []),
  (22, .aload_n 1, 1, 0, 0, []),
  (23, .bipush 6, 2, 0, 0, []),
  (25, .iload 4, 2, 0, 0, []),
  (27, .iadd, 1, 0, 0, []),
  (28, .invokevirtual 46, 3, 74, 5, [862, 1]),
  (31, .invokevirtual 55, 3, 41, 2, [864, 2]),
  (34, .aload_n 0, 1, 0, 0, []),
  (35, .getfield 28, 3, 0, 3, [374, 1]),
  (38, .iconst 5, 1, 0, 0, []),
  (39, .iload_n 3, 1, 0, 0, []),
  (40, .invokevirtual 55, 3, 41, 2, [864, 2]),
  (43, .aload_n 0, 1, 0, 0, []),
  (44, .getfield 28, 3, 0, 3, [374, 1]),
  (47, .bipush 8, 2, 0, 0, []),
  (49, .aload_n 0, 1, 0, 0, []),
  (50, .getfield 18, 3, 0, 2, [373, 1]),
  (53, .iload_n 2, 1, 0, 0, []),
  (54, .invokevirtual 89, 3, 101, 7, [951, 1]),
  (57, .invokevirtual 55, 3, 41, 2, [864, 2]),
  (60, .aload_n 0, 1, 0, 0, []),
  (61, .getfield 28, 3, 0, 3, [374, 1]),
  (64, .iconst 3, 1, 0, 0, []),
  (65, .invokevirtual 83, 3, 43, 2, [877, 1]),
  (68, .bipush 100, 2, 0, 0, []),
  (70, .invokestatic 86, 3, 181, 0, [889, 2, 1]),
  (73, .ireturn, 1, 0, 0, [])]
def mX0_leaving : ab_M := (yX0_leaving, cX0_leaving, 5, (some (FieldType.int)), 0, 0, 1, kX0_leaving)
def kX0_catching : List ab_I := [(0, .aload_n 0, 1, 0, 0, []),
  (1, .aload_n 1, 1, 0, 0, []),
  (2, .iload_n 2, 1, 0, 0, []),
  (3, .invokevirtual 71, 3, 7, 0, [854, 2]),
  (6, .aload_n 0, 1, 0, 0, []),
  (7, .getfield 28, 3, 0, 3, [374, 1]),
  (10, .iconst 5, 1, 0, 0, []),
  (11, .iload 4, 2, 0, 0, []),
  (13, .invokevirtual 55, 3, 41, 2, [864, 2]),
  (16, .aload_n 0, 1, 0, 0, []),
  (17, .getfield 28, 3, 0, 3, [374, 1]),
  (20, .bipush 6, 2, 0, 0, []),
  (22, .iload_n 3, 1, 0, 0, []),
  (23, .invokevirtual 55, 3, 41, 2, [864, 2]),
  (26, .aload_n 0, 1, 0, 0, []),
  (27, .getfield 28, 3, 0, 3, [374, 1]),
  (30, .iconst 4, 1, 0, 0, []),
  (31, .invokevirtual 83, 3, 43, 2, [877, 1]),
  (34, .bipush 100, 2, 0, 0, []),
  (36, .invokestatic 86, 3, 181, 0, [889, 2, 1]),
  (39, .ireturn, 1, 0, 0, [])]
def mX0_catching : ab_M := (yX0_catching, cX0_catching, 5, (some (FieldType.int)), 0, 0, 1, kX0_catching)
def kX0_goal : List ab_I := [(0, .bipush (-2), 2, 0, 0, []),
  (2, .istore_n 3, 1, 0, 0, []),
  (3, .iconst 0, 1, 0, 0, []),
  (4, .istore 4, 2, 0, 0, []),
  (6, .aload_n 0, 1, 0, 0, []),
  (7, .getfield 18, 3, 0, 2, [373, 1]),
  (10, .iload_n 2, 1, 0, 0, []),
  (11, .invokevirtual 59, 3, 104, 7, [872, 1]),
  (14, .istore 5, 2, 0, 0, []),
  (16, .iconst 0, 1, 0, 0, []),
  (17, .istore 6, 2, 0, 0, []),
  (19, .iload 6, 2, 0, 0, []),
  (21, .aload_n 0, 1, 0, 0, []),
  (22, .getfield 18, 3, 0, 2, [373, 1]),
  (25, .invokevirtual 92, 3, 92, 7, [980, 0]),
  (28, .if_icmp .ge 67, 3, 95, 0, []),
  (31, .aload_n 0, 1, 0, 0, []),
  (32, .getfield 18, 3, 0, 2, [373, 1]),
  (35, .iload 5, 2, 0, 0, []),
  (37, .iload 6, 2, 0, 0, []),
  (39, .invokevirtual 62, 3, 107, 7, [873, 2]),
  (42, .sipush 999, 3, 0, 0, []),
  (45, .if_icmp .eq 44, 3, 89, 0, []),
  (48, .aload_n 1, 1, 0, 0, []),
  (49, .bipush 18, 2, 0, 0, []),
  (51, .iload 6, 2, 0, 0, []),
  (53, .iadd, 1, 0, 0, []),
  (54, .invokevirtual 46, 3, 74, 5, [862, 1]),
  (57, .ifCond .eq 32, 3, 89, 0, []),
  (60, .aload_n 0, 1, 0, 0, []),
  (61, .iconst 0, 1, 0, 0, []),
  (62, .aload_n 1, 1, 0, 0, []),
  (63, .iload_n 2, 1, 0, 0, []),
  (64, .iload 6, 2, 0, 0, []),
  (66, .invokevirtual 95, 3, 9, 0, [981, 4]),
  (69, .istore 7, 2, 0, 0, []),
  (71, .iload_n 3, 1, 0, 0, []),
  (72, .ifCond .lt 10, 3, 82, 0, []),
  (75, .iload 7, 2, 0, 0, []),
  (77, .iload 4, 2, 0, 0, []),
  (79, .if_icmp .le 10, 3, 89, 0, []),
  (82, .iload 6, 2, 0, 0, []),
  (84, .istore_n 3, 1, 0, 0, []),
  (85, .iload 7, 2, 0, 0, []),
  (87, .istore 4, 2, 0, 0, []),
  (89, .iinc 6 1, 3, 0, 0, []),
  (92, .goto (-73), 3, 19, 0, []),
  (95, .iload_n 3, 1, 0, 0, []),
  (96, .ireturn, 1, 0, 0, [])]
def mX0_goal : ab_M := (yX0_goal, cX0_goal, 8, (some (FieldType.int)), 0, 0, 1, kX0_goal)
def kX0_pass : List ab_I := [(0, .iconst 0, 1, 0, 0, []),
  (1, .istore 4, 2, 0, 0, []),
  (3, .iload 4, 2, 0, 0, []),
  (5, .iload_n 3, 1, 0, 0, []),
  (6, .if_icmp .ge 113, 3, 119, 0, []),
  (9, .iconst 0, 1, 0, 0, []),
  (10, .istore 5, 2, 0, 0, []),
  (12, .iload 5, 2, 0, 0, []),
  (14, .iconst 5, 1, 0, 0, []),
  (15, .if_icmp .ge 40, 3, 55, 0, []),
  (18, .aload_n 0, 1, 0, 0, []),
  (19, .getfield 9, 3, 0, 0, [371, 1]),
  (22, .iload 5, 2, 0, 0, []),
  (24, .aload_n 0, 1, 0, 0, []),
  (25, .getfield 18, 3, 0, 2, [373, 1]),
  (28, .iload 5, 2, 0, 0, []),
  (30, .invokevirtual 99, 3, 100, 7, [975, 1]),
  (33, .ifCond .eq 13, 3, 46, 0, []),
  (36, .aload_n 0, 1, 0, 0, []),
  (37, .aload_n 1, 1, 0, 0, []),
  (38, .iload 5, 2, 0, 0, []),
  (40, .invokevirtual 103, 3, 13, 0, [976, 2]),
  (43, .goto 5, 3, 48, 0, []),
  (46, .bipush (-2), 2, 0, 0, []),
  (48, .iastore, 1, 0, 0, []),
  (49, .iinc 5 1, 3, 0, 0, []),
  (52, .goto (-40), 3, 12, 0, []),
  (55, .iconst 0, 1, 0, 0, []),
  (56, .istore 5, 2, 0, 0, []),
  (58, .iload 5, 2, 0, 0, []),
  (60, .iconst 5, 1, 0, 0, []),
  (61, .if_icmp .ge 45, 3, 106, 0, []),
  (64, .aload_n 0, 1, 0, 0, []),
  (65, .getfield 15, 3, 0, 1, [372, 1]),
  (68, .iload 5, 2, 0, 0, []),
  (70, .aload_n 0, 1, 0, 0, []),
  (71, .getfield 9, 3, 0, 0, [371, 1]),
  (74, .iload 5, 2, 0, 0, []),
  (76, .iaload, 1, 0, 0, []),
  (77, .ifCond .ge 7, 3, 84, 0, []),
  (80, .iconst 0, 1, 0, 0, []),
  (81, .goto 18, 3, 99, 0, []),
  (84, .aload_n 0, 1, 0, 0, []),
  (85, .aload_n 1, 1, 0, 0, []),
  (86, .iload_n 2, 1, 0, 0, []),
  (87, .iload 5, 2, 0, 0, []),
  (89, .aload_n 0, 1, 0, 0, []),
  (90, .getfield 9, 3, 0, 0, [371, 1]),
  (93, .iload 5, 2, 0, 0, []),
  (95, .iaload, 1, 0, 0, []),
  (96, .invokevirtual 107, 3, 15, 0, [982, 4]),
  (99, .iastore, 1, 0, 0, []),
  (100, .iinc 5 1, 3, 0, 0, []),
  (103, .goto (-45), 3, 58, 0, []),
  (106, .aload_n 1, 1, 0, 0, []),
  (107, .bipush 52, 2, 0, 0, []),
  (109, .iconst 1, 1, 0, 0, []),
  (110, .invokevirtual 111, 3, 76, 5, [921, 2]),
  (113, .iinc 4 1, 3, 0, 0, []),
  (116, .goto (-113), 3, 3, 0, []),
  (119, .return_, 1, 0, 0, [])]
def mX0_pass : ab_M := (yX0_pass, cX0_pass, 6, none, 0, 0, 1, kX0_pass)
def kX0_visit : List ab_I := [(0, .aload_n 1, 1, 0, 0, []),
  (1, .bipush 18, 2, 0, 0, []),
  (3, .iload 4, 2, 0, 0, []),
  (5, .iadd, 1, 0, 0, []),
  (6, .invokevirtual 46, 3, 74, 5, [862, 1]),
  (9, .istore 5, 2, 0, 0, []),
  (11, .iconst 0, 1, 0, 0, []),
  (12, .istore 6, 2, 0, 0, []),
  (14, .iconst 0, 1, 0, 0, []),
  (15, .istore 7, 2, 0, 0, []),
  (17, .iload 7, 2, 0, 0, []),
  (19, .bipush 6, 2, 0, 0, []),
  (21, .if_icmp .ge 102, 3, 123, 0, []),
  (24, .iload 5, 2, 0, 0, []),
  (26, .iload 7, 2, 0, 0, []),
  (28, .ishr, 1, 0, 0, []),
  (29, .iconst 1, 1, 0, 0, []),
  (30, .iand, 1, 0, 0, []),
  (31, .ifCond .eq 86, 3, 117, 0, []),
  (34, .bipush 64, 2, 0, 0, []),
  (36, .aload_n 1, 1, 0, 0, []),
  (37, .bipush 52, 2, 0, 0, []),
  (39, .invokevirtual 46, 3, 74, 5, [862, 1]),
  (42, .imul, 1, 0, 0, []),
  (43, .bipush 8, 2, 0, 0, []),
  (45, .iload_n 3, 1, 0, 0, []),
  (46, .imul, 1, 0, 0, []),
  (47, .iadd, 1, 0, 0, []),
  (48, .iload 7, 2, 0, 0, []),
  (50, .iadd, 1, 0, 0, []),
  (51, .istore 8, 2, 0, 0, []),
  (53, .iload_n 2, 1, 0, 0, []),
  (54, .iload 8, 2, 0, 0, []),
  (56, .aload_n 0, 1, 0, 0, []),
  (57, .aload_n 1, 1, 0, 0, []),
  (58, .iload 7, 2, 0, 0, []),
  (60, .iload_n 3, 1, 0, 0, []),
  (61, .aload_n 0, 1, 0, 0, []),
  (62, .getfield 18, 3, 0, 2, [373, 1]),
  (65, .iload 7, 2, 0, 0, []),
  (67, .invokevirtual 89, 3, 101, 7, [951, 1]),
  (70, .invokevirtual 114, 3, 10, 0, [986, 4]),
  (73, .invokestatic 117, 3, 6, 0, [934, 3]),
  (76, .ifCond .eq 41, 3, 117, 0, []),
  (79, .iload 6, 2, 0, 0, []),
  (81, .iconst 1, 1, 0, 0, []),
  (82, .iload 7, 2, 0, 0, []),
  (84, .ishl, 1, 0, 0, []),
  (85, .ior, 1, 0, 0, []),
  (86, .istore 6, 2, 0, 0, []),
  (88, .aload_n 1, 1, 0, 0, []),
  (89, .bipush 6, 2, 0, 0, []),
  (91, .iload 4, 2, 0, 0, []),
  (93, .iadd, 1, 0, 0, []),
  (94, .iconst 1, 1, 0, 0, []),
  (95, .invokevirtual 111, 3, 76, 5, [921, 2]),
  (98, .aload_n 1, 1, 0, 0, []),
  (99, .bipush 30, 2, 0, 0, []),
  (101, .iload 7, 2, 0, 0, []),
  (103, .iadd, 1, 0, 0, []),
  (104, .iconst 1, 1, 0, 0, []),
  (105, .invokevirtual 111, 3, 76, 5, [921, 2]),
  (108, .aload_n 1, 1, 0, 0, []),
  (109, .bipush 47, 2, 0, 0, []),
  (111, .iload_n 3, 1, 0, 0, []),
  (112, .iadd, 1, 0, 0, []),
  (113, .iconst 1, 1, 0, 0, []),
  (114, .invokevirtual 111, 3, 76, 5, [921, 2]),
  (117, .iinc 7 1, 3, 0, 0, []),
  (120, .goto (-103), 3, 17, 0, []),
  (123, .aload_n 0, 1, 0, 0, []),
  (124, .iconst 2, 1, 0, 0, []),
  (125, .aload_n 1, 1, 0, 0, []),
  (126, .iload_n 3, 1, 0, 0, []),
  (127, .iload 4, 2, 0, 0, []),
  (129, .invokevirtual 95, 3, 9, 0, [981, 4]),
  (132, .istore 7, 2, 0, 0, []),
  (134, .aload_n 1, 1, 0, 0, []),
  (135, .bipush 12, 2, 0, 0, []),
  (137, .iload 4, 2, 0, 0, []),
  (139, .iadd, 1, 0, 0, []),
  (140, .iload 7, 2, 0, 0, []),
  (142, .invokevirtual 111, 3, 76, 5, [921, 2]),
  (145, .aload_n 1, 1, 0, 0, []),
  (146, .bipush 42, 2, 0, 0, []),
  (148, .iload_n 3, 1, 0, 0, []),
  (149, .iadd, 1, 0, 0, []),
  (150, .iload 7, 2, 0, 0, []),
  (152, .invokevirtual 111, 3, 76, 5, [921, 2]),
  (155, .iload 6, 2, 0, 0, []),
  (157, .ireturn, 1, 0, 0, [])]
def mX0_visit : ab_M := (yX0_visit, cX0_visit, 9, (some (FieldType.int)), 0, 0, 1, kX0_visit)
def kX0_tryTheft : List ab_I := [(0, .aload_n 1, 1, 0, 0, []),
  (1, .bipush 53, 2, 0, 0, []),
  (3, .invokevirtual 46, 3, 74, 5, [862, 1]),
  (6, .istore 5, 2, 0, 0, []),
  (8, .aload_n 1, 1, 0, 0, []),
  (9, .bipush 24, 2, 0, 0, []),
  (11, .iload_n 2, 1, 0, 0, []),
  (12, .iadd, 1, 0, 0, []),
  (13, .invokevirtual 46, 3, 74, 5, [862, 1]),
  (16, .istore 6, 2, 0, 0, []),
  (18, .aload_n 1, 1, 0, 0, []),
  (19, .iconst 0, 1, 0, 0, []),
  (20, .iload 6, 2, 0, 0, []),
  (22, .iadd, 1, 0, 0, []),
  (23, .invokevirtual 46, 3, 74, 5, [862, 1]),
  (26, .istore 7, 2, 0, 0, []),
  (28, .aload_n 1, 1, 0, 0, []),
  (29, .bipush 53, 2, 0, 0, []),
  (31, .iconst 1, 1, 0, 0, []),
  (32, .invokevirtual 111, 3, 76, 5, [921, 2]),
  (35, .aload_n 0, 1, 0, 0, []),
  (36, .getfield 18, 3, 0, 2, [373, 1]),
  (39, .invokevirtual 121, 3, 97, 7, [925, 0]),
  (42, .ldc 124, 2, 1000000, 0, [929]),
  (44, .iload 5, 2, 0, 0, []),
  (46, .iadd, 1, 0, 0, []),
  (47, .aload_n 0, 1, 0, 0, []),
  (48, .aload_n 1, 1, 0, 0, []),
  (49, .iload 6, 2, 0, 0, []),
  (51, .iload 7, 2, 0, 0, []),
  (53, .iload 4, 2, 0, 0, []),
  (55, .invokevirtual 125, 3, 12, 0, [930, 4]),
  (58, .invokestatic 117, 3, 6, 0, [934, 3]),
  (61, .ifCond .eq 29, 3, 90, 0, []),
  (64, .aload_n 1, 1, 0, 0, []),
  (65, .iconst 0, 1, 0, 0, []),
  (66, .iload 6, 2, 0, 0, []),
  (68, .iadd, 1, 0, 0, []),
  (69, .bipush 9, 2, 0, 0, []),
  (71, .iload 7, 2, 0, 0, []),
  (73, .iconst 1, 1, 0, 0, []),
  (74, .iadd, 1, 0, 0, []),
  (75, .invokestatic 128, 3, 301, 0, [944, 2]),
  (78, .invokevirtual 133, 3, 75, 5, [945, 2]),
  (81, .aload_n 1, 1, 0, 0, []),
  (82, .bipush 54, 2, 0, 0, []),
  (84, .iconst 1, 1, 0, 0, []),
  (85, .invokevirtual 111, 3, 76, 5, [921, 2]),
  (88, .iconst 2, 1, 0, 0, []),
  (89, .ireturn, 1, 0, 0, []),
  (90, .aload_n 0, 1, 0, 0, []),
  (91, .getfield 18, 3, 0, 2, [373, 1]),
  (94, .invokevirtual 121, 3, 97, 7, [925, 0]),
  (97, .ldc 136, 2, 2000000, 0, [946]),
  (99, .iload 5, 2, 0, 0, []),
  (101, .iadd, 1, 0, 0, []),
  (102, .aload_n 0, 1, 0, 0, []),
  (103, .aload_n 1, 1, 0, 0, []),
  (104, .iload_n 2, 1, 0, 0, []),
  (105, .iload 4, 2, 0, 0, []),
  (107, .invokevirtual 137, 3, 11, 0, [947, 3]),
  (110, .invokestatic 117, 3, 6, 0, [934, 3]),
  (113, .ifCond .eq 20, 3, 133, 0, []),
  (116, .aload_n 1, 1, 0, 0, []),
  (117, .iload_n 2, 1, 0, 0, []),
  (118, .iload_n 3, 1, 0, 0, []),
  (119, .invokevirtual 141, 3, 78, 5, [952, 2]),
  (122, .aload_n 1, 1, 0, 0, []),
  (123, .bipush 36, 2, 0, 0, []),
  (125, .iload_n 2, 1, 0, 0, []),
  (126, .iadd, 1, 0, 0, []),
  (127, .iconst 1, 1, 0, 0, []),
  (128, .invokevirtual 111, 3, 76, 5, [921, 2]),
  (131, .iconst 1, 1, 0, 0, []),
  (132, .ireturn, 1, 0, 0, []),
  (133, .iconst 0, 1, 0, 0, []),
  (134, .ireturn, 1, 0, 0, [])]
def mX0_tryTheft : ab_M := (yX0_tryTheft, cX0_tryTheft, 8, (some (FieldType.int)), 0, 0, 1, kX0_tryTheft)
def kX0_likely : List ab_I := [(0, .aload_n 1, 1, 0, 0, []),
  (1, .bipush 24, 2, 0, 0, []),
  (3, .iload_n 2, 1, 0, 0, []),
  (4, .iadd, 1, 0, 0, []),
  (5, .invokevirtual 46, 3, 74, 5, [862, 1]),
  (8, .istore 4, 2, 0, 0, []),
  (10, .aload_n 1, 1, 0, 0, []),
  (11, .iconst 0, 1, 0, 0, []),
  (12, .iload 4, 2, 0, 0, []),
  (14, .iadd, 1, 0, 0, []),
  (15, .invokevirtual 46, 3, 74, 5, [862, 1]),
  (18, .istore 5, 2, 0, 0, []),
  (20, .aload_n 0, 1, 0, 0, []),
  (21, .aload_n 1, 1, 0, 0, []),
  (22, .iload_n 2, 1, 0, 0, []),
  (23, .iload_n 3, 1, 0, 0, []),
  (24, .invokevirtual 137, 3, 11, 0, [947, 3]),
  (27, .bipush 100, 2, 0, 0, []),
  (29, .aload_n 0, 1, 0, 0, []),
  (30, .aload_n 1, 1, 0, 0, []),
  (31, .iload 4, 2, 0, 0, []),
  (33, .iload 5, 2, 0, 0, []),
  (35, .iload_n 3, 1, 0, 0, []),
  (36, .invokevirtual 125, 3, 12, 0, [930, 4]),
  (39, .isub, 1, 0, 0, []),
  (40, .imul, 1, 0, 0, []),
  (41, .ireturn, 1, 0, 0, [])]
def mX0_likely : ab_M := (yX0_likely, cX0_likely, 6, (some (FieldType.int)), 0, 0, 1, kX0_likely)
def kX0_bestNights : List ab_I := [(0, .iconst 1, 1, 0, 0, []),
  (1, .istore_n 3, 1, 0, 0, []),
  (2, .aload_n 0, 1, 0, 0, []),
  (3, .aload_n 1, 1, 0, 0, []),
  (4, .iload_n 2, 1, 0, 0, []),
  (5, .iconst 1, 1, 0, 0, []),
  (6, .invokevirtual 144, 3, 17, 0, [1020, 3]),
  (9, .istore 4, 2, 0, 0, []),
  (11, .iconst 2, 1, 0, 0, []),
  (12, .istore 5, 2, 0, 0, []),
  (14, .iload 5, 2, 0, 0, []),
  (16, .bipush 9, 2, 0, 0, []),
  (18, .if_icmp .gt 33, 3, 51, 0, []),
  (21, .aload_n 0, 1, 0, 0, []),
  (22, .aload_n 1, 1, 0, 0, []),
  (23, .iload_n 2, 1, 0, 0, []),
  (24, .iload 5, 2, 0, 0, []),
  (26, .invokevirtual 144, 3, 17, 0, [1020, 3]),
  (29, .istore 6, 2, 0, 0, []),
  (31, .iload 6, 2, 0, 0, []),
  (33, .iload 4, 2, 0, 0, []),
  (35, .if_icmp .le 10, 3, 45, 0, []),
  (38, .iload 5, 2, 0, 0, []),
  (40, .istore_n 3, 1, 0, 0, []),
  (41, .iload 6, 2, 0, 0, []),
  (43, .istore 4, 2, 0, 0, []),
  (45, .iinc 5 1, 3, 0, 0, []),
  (48, .goto (-34), 3, 14, 0, []),
  (51, .iload_n 3, 1, 0, 0, []),
  (52, .ireturn, 1, 0, 0, [])]
def mX0_bestNights : ab_M := (yX0_bestNights, cX0_bestNights, 7, (some (FieldType.int)), 0, 0, 1, kX0_bestNights)
def kX0_weakest : List ab_I := [(0, .bipush (-2), 2, 0, 0, []),
  (2, .istore_n 2, 1, 0, 0, []),
  (3, .iconst 0, 1, 0, 0, []),
  (4, .istore_n 3, 1, 0, 0, []),
  (5, .iconst 0, 1, 0, 0, []),
  (6, .istore 4, 2, 0, 0, []),
  (8, .iload 4, 2, 0, 0, []),
  (10, .aload_n 0, 1, 0, 0, []),
  (11, .getfield 18, 3, 0, 2, [373, 1]),
  (14, .invokevirtual 147, 3, 94, 7, [1076, 0]),
  (17, .if_icmp .ge 41, 3, 58, 0, []),
  (20, .aload_n 0, 1, 0, 0, []),
  (21, .aload_n 1, 1, 0, 0, []),
  (22, .iload 4, 2, 0, 0, []),
  (24, .aload_n 0, 1, 0, 0, []),
  (25, .aload_n 1, 1, 0, 0, []),
  (26, .iload 4, 2, 0, 0, []),
  (28, .invokevirtual 150, 3, 18, 0, [1077, 2]),
  (31, .invokevirtual 144, 3, 17, 0, [1020, 3]),
  (34, .istore 5, 2, 0, 0, []),
  (36, .iload_n 2, 1, 0, 0, []),
  (37, .ifCond .lt 9, 3, 46, 0, []),
  (40, .iload 5, 2, 0, 0, []),
  (42, .iload_n 3, 1, 0, 0, []),
  (43, .if_icmp .le 9, 3, 52, 0, []),
  (46, .iload 4, 2, 0, 0, []),
  (48, .istore_n 2, 1, 0, 0, []),
  (49, .iload 5, 2, 0, 0, []),
  (51, .istore_n 3, 1, 0, 0, []),
  (52, .iinc 4 1, 3, 0, 0, []),
  (55, .goto (-47), 3, 8, 0, []),
  (58, .iload_n 2, 1, 0, 0, []),
  (59, .ireturn, 1, 0, 0, [])]
def mX0_weakest : ab_M := (yX0_weakest, cX0_weakest, 6, (some (FieldType.int)), 0, 0, 1, kX0_weakest)
def kX0_watchersFor : List ab_I := [(0, .iconst 0, 1, 0, 0, []),
  (1, .istore 5, 2, 0, 0, []),
  (3, .iload 5, 2, 0, 0, []),
  (5, .bipush 9, 2, 0, 0, []),
  (7, .if_icmp .gt 26, 3, 33, 0, []),
  (10, .aload_n 0, 1, 0, 0, []),
  (11, .aload_n 1, 1, 0, 0, []),
  (12, .iload_n 2, 1, 0, 0, []),
  (13, .iload 5, 2, 0, 0, []),
  (15, .iload 4, 2, 0, 0, []),
  (17, .invokevirtual 125, 3, 12, 0, [930, 4]),
  (20, .iload_n 3, 1, 0, 0, []),
  (21, .if_icmp .lt 6, 3, 27, 0, []),
  (24, .iload 5, 2, 0, 0, []),
  (26, .ireturn, 1, 0, 0, []),
  (27, .iinc 5 1, 3, 0, 0, []),
  (30, .goto (-27), 3, 3, 0, []),
  (33, .bipush (-2), 2, 0, 0, []),
  (35, .ireturn, 1, 0, 0, [])]
def mX0_watchersFor : ab_M := (yX0_watchersFor, cX0_watchersFor, 6, (some (FieldType.int)), 0, 0, 1, kX0_watchersFor)
def kX1_init : List ab_I := [(0, .aload_n 0, 1, 0, 0, []),
  (1, .invokespecial 3, 3, 0, 0, [389]),
  (4, .aload_n 0, 1, 0, 0, []),
  (5, .new 9, 3, 5, 1, [390]),
  (8, .dup, 1, 0, 0, []),
  (9, .invokespecial 11, 3, 73, 0, [391, 0, 1]),
  (12, .putfield 12, 3, 1, 2, [394, 1, 1]),
  (15, .aload_n 0, 1, 0, 0, []),
  (16, .bipush 6, 2, 0, 0, []),
  (18, .newarray .int, 2, 0, 0, []),
  (20, .putfield 18, 3, 1, 3, [395, 1, 1]),
  (23, .aload_n 0, 1, 0, 0, []),
  (24, .aload_n 1, 1, 0, 0, []),
  (25, .putfield 22, 3, 1, 0, [392, 1, 1]),
  (28, .aload_n 0, 1, 0, 0, []),
  (29, .aload_n 2, 1, 0, 0, []),
  (30, .putfield 26, 3, 1, 1, [393, 1, 1]),
  (33, .return_, 1, 0, 0, [])]
def mX1_init : ab_M := (yX1_init, cX1_init, 3, none, 3, 62, 2, kX1_init)
def kX1_after : List ab_I := [(0, .aload_n 0, 1, 0, 0, []),
  (1, .getfield 12, 3, 1, 2, [394, 1]),
  (4, .aload_n 0, 1, 0, 0, []),
  (5, .getfield 26, 3, 1, 1, [393, 1]),
  (8, .invokevirtual 29, 3, 81, 5, [1033, 1]),
  (11, .aload_n 0, 1, 0, 0, []),
  (12, .getfield 22, 3, 1, 0, [392, 1]),
  (15, .aload_n 0, 1, 0, 0, []),
  (16, .getfield 12, 3, 1, 2, [394, 1]),
  (19, .aload_n 0, 1, 0, 0, []),
  (20, .getfield 22, 3, 1, 0, [392, 1]),
  (23, .invokevirtual 33, 3, 2, 0, [1038, 0]),
  (26, .invokevirtual 39, 3, 97, 7, [1042, 0]),
  (29, .iload_n 1, 1, 0, 0, []),
  (30, .invokevirtual 45, 3, 14, 0, [1043, 3]),
  (33, .aload_n 0, 1, 0, 0, []),
  (34, .getfield 12, 3, 1, 2, [394, 1]),
  (37, .areturn, 1, 0, 0, [])]
def mX1_after : ab_M := (yX1_after, cX1_after, 2, (some (FieldType.object "SaintTheft$State")), 0, 0, 1, kX1_after)
def kX1_more : List ab_I := [(0, .aload_n 0, 1, 0, 0, []),
  (1, .iload_n 2, 1, 0, 0, []),
  (2, .invokevirtual 49, 3, 22, 1, [1086, 1]),
  (5, .iload_n 1, 1, 0, 0, []),
  (6, .invokevirtual 53, 3, 74, 5, [1048, 1]),
  (9, .aload_n 0, 1, 0, 0, []),
  (10, .getfield 26, 3, 1, 1, [393, 1]),
  (13, .iload_n 1, 1, 0, 0, []),
  (14, .invokevirtual 53, 3, 74, 5, [1048, 1]),
  (17, .isub, 1, 0, 0, []),
  (18, .ireturn, 1, 0, 0, [])]
def mX1_more : ab_M := (yX1_more, cX1_more, 3, (some (FieldType.int)), 0, 0, 1, kX1_more)
def kX1_keepTook : List ab_I := [(0, .iconst 0, 1, 0, 0, []),
  (1, .istore_n 1, 1, 0, 0, []),
  (2, .iload_n 1, 1, 0, 0, []),
  (3, .bipush 6, 2, 0, 0, []),
  (5, .if_icmp .ge 26, 3, 31, 0, []),
  (8, .aload_n 0, 1, 0, 0, []),
  (9, .getfield 18, 3, 1, 3, [395, 1]),
  (12, .iload_n 1, 1, 0, 0, []),
  (13, .aload_n 0, 1, 0, 0, []),
  (14, .getfield 12, 3, 1, 2, [394, 1]),
  (17, .bipush 12, 2, 0, 0, []),
  (19, .iload_n 1, 1, 0, 0, []),
  (20, .iadd, 1, 0, 0, []),
  (21, .invokevirtual 53, 3, 74, 5, [1048, 1]),
  (24, .iastore, 1, 0, 0, []),
  (25, .iinc 1 1, 3, 0, 0, []),
  (28, .goto (-26), 3, 2, 0, []),
  (31, .return_, 1, 0, 0, [])]
def mX1_keepTook : ab_M := (yX1_keepTook, cX1_keepTook, 2, none, 0, 0, 1, kX1_keepTook)
def kX1_tookMoreThanElse : List ab_I := [(0, .iload_n 1, 1, 0, 0, []),
  (1, .iconst 0, 1, 0, 0, []),
  (2, .iconst 5, 1, 0, 0, []),
  (3, .invokestatic 57, 3, 180, 0, [1054, 3, 1]),
  (6, .ifCond .eq 24, 3, 30, 0, []),
  (9, .aload_n 0, 1, 0, 0, []),
  (10, .getfield 12, 3, 1, 2, [394, 1]),
  (13, .bipush 12, 2, 0, 0, []),
  (15, .iload_n 1, 1, 0, 0, []),
  (16, .iadd, 1, 0, 0, []),
  (17, .invokevirtual 53, 3, 74, 5, [1048, 1]),
  (20, .aload_n 0, 1, 0, 0, []),
  (21, .getfield 18, 3, 1, 3, [395, 1]),
  (24, .iload_n 1, 1, 0, 0, []),
  (25, .iaload, 1, 0, 0, []),
  (26, .isub, 1, 0, 0, []),
  (27, .goto 4, 3, 31, 0, []),
  (30, .iconst 0, 1, 0, 0, []),
  (31, .ireturn, 1, 0, 0, [])]
def mX1_tookMoreThanElse : ab_M := (yX1_tookMoreThanElse, cX1_tookMoreThanElse, 2, (some (FieldType.int)), 0, 0, 1, kX1_tookMoreThanElse)
def kX1_passWithRelicAt : List ab_I := [(0, .aload_n 0, 1, 0, 0, []),
  (1, .getfield 12, 3, 1, 2, [394, 1]),
  (4, .aload_n 0, 1, 0, 0, []),
  (5, .getfield 26, 3, 1, 1, [393, 1]),
  (8, .invokevirtual 29, 3, 81, 5, [1033, 1]),
  (11, .aload_n 0, 1, 0, 0, []),
  (12, .getfield 12, 3, 1, 2, [394, 1]),
  (15, .iload_n 1, 1, 0, 0, []),
  (16, .iload_n 2, 1, 0, 0, []),
  (17, .invokevirtual 61, 3, 78, 5, [1037, 2]),
  (20, .aload_n 0, 1, 0, 0, []),
  (21, .getfield 22, 3, 1, 0, [392, 1]),
  (24, .aload_n 0, 1, 0, 0, []),
  (25, .getfield 12, 3, 1, 2, [394, 1]),
  (28, .aload_n 0, 1, 0, 0, []),
  (29, .getfield 22, 3, 1, 0, [392, 1]),
  (32, .invokevirtual 33, 3, 2, 0, [1038, 0]),
  (35, .invokevirtual 39, 3, 97, 7, [1042, 0]),
  (38, .iload_n 3, 1, 0, 0, []),
  (39, .invokevirtual 45, 3, 14, 0, [1043, 3]),
  (42, .return_, 1, 0, 0, [])]
def mX1_passWithRelicAt : ab_M := (yX1_passWithRelicAt, cX1_passWithRelicAt, 4, none, 0, 0, 1, kX1_passWithRelicAt)
def kX1_bestHome : List ab_I := [(0, .aload_n 0, 1, 0, 0, []),
  (1, .iload_n 1, 1, 0, 0, []),
  (2, .iconst (-1), 1, 0, 0, []),
  (3, .iload_n 2, 1, 0, 0, []),
  (4, .invokevirtual 65, 3, 26, 1, [1029, 3]),
  (7, .aload_n 0, 1, 0, 0, []),
  (8, .invokevirtual 69, 3, 24, 1, [1044, 0]),
  (11, .bipush (-2), 2, 0, 0, []),
  (13, .istore 4, 2, 0, 0, []),
  (15, .iconst 0, 1, 0, 0, []),
  (16, .istore 5, 2, 0, 0, []),
  (18, .iconst 0, 1, 0, 0, []),
  (19, .istore 6, 2, 0, 0, []),
  (21, .iload 6, 2, 0, 0, []),
  (23, .aload_n 0, 1, 0, 0, []),
  (24, .getfield 22, 3, 1, 0, [392, 1]),
  (27, .invokevirtual 33, 3, 2, 0, [1038, 0]),
  (30, .invokevirtual 72, 3, 92, 7, [1049, 0]),
  (33, .if_icmp .ge 45, 3, 78, 0, []),
  (36, .aload_n 0, 1, 0, 0, []),
  (37, .iload_n 1, 1, 0, 0, []),
  (38, .iload 6, 2, 0, 0, []),
  (40, .iload_n 2, 1, 0, 0, []),
  (41, .invokevirtual 65, 3, 26, 1, [1029, 3]),
  (44, .aload_n 0, 1, 0, 0, []),
  (45, .iload 6, 2, 0, 0, []),
  (47, .invokevirtual 75, 3, 25, 1, [1050, 1]),
  (50, .istore 7, 2, 0, 0, []),
  (52, .iload 4, 2, 0, 0, []),
  (54, .ifCond .lt 10, 3, 64, 0, []),
  (57, .iload 7, 2, 0, 0, []),
  (59, .iload 5, 2, 0, 0, []),
  (61, .if_icmp .le 11, 3, 72, 0, []),
  (64, .iload 6, 2, 0, 0, []),
  (66, .istore 4, 2, 0, 0, []),
  (68, .iload 7, 2, 0, 0, []),
  (70, .istore 5, 2, 0, 0, []),
  (72, .iinc 6 1, 3, 0, 0, []),
  (75, .goto (-54), 3, 21, 0, []),
  (78, .iload_n 3, 1, 0, 0, []),
  (79, .ifCond .eq 8, 3, 87, 0, []),
  (82, .iload 5, 2, 0, 0, []),
  (84, .goto 5, 3, 89, 0, []),
  (87, .iload 4, 2, 0, 0, []),
  (89, .ireturn, 1, 0, 0, [])]
def mX1_bestHome : ab_M := (yX1_bestHome, cX1_bestHome, 8, (some (FieldType.int)), 0, 0, 1, kX1_bestHome)
def kX1_barters : List ab_I := [(0, .aload_n 0, 1, 0, 0, []),
  (1, .iload_n 1, 1, 0, 0, []),
  (2, .invokevirtual 49, 3, 22, 1, [1086, 1]),
  (5, .pop, 1, 0, 0, []),
  (6, .aload_n 0, 1, 0, 0, []),
  (7, .invokevirtual 69, 3, 24, 1, [1044, 0]),
  (10, .iconst 0, 1, 0, 0, []),
  (11, .istore_n 3, 1, 0, 0, []),
  (12, .bipush (-2), 2, 0, 0, []),
  (14, .istore 4, 2, 0, 0, []),
  (16, .aload_n 0, 1, 0, 0, []),
  (17, .getfield 22, 3, 1, 0, [392, 1]),
  (20, .invokevirtual 33, 3, 2, 0, [1038, 0]),
  (23, .invokevirtual 78, 3, 94, 7, [1090, 0]),
  (26, .istore 5, 2, 0, 0, []),
  (28, .iconst 0, 1, 0, 0, []),
  (29, .istore 6, 2, 0, 0, []),
  (31, .iload 6, 2, 0, 0, []),
  (33, .iload 5, 2, 0, 0, []),
  (35, .if_icmp .ge 63, 3, 98, 0, []),
  (38, .iload 6, 2, 0, 0, []),
  (40, .iconst 1, 1, 0, 0, []),
  (41, .iadd, 1, 0, 0, []),
  (42, .istore 7, 2, 0, 0, []),
  (44, .iload 7, 2, 0, 0, []),
  (46, .iload 5, 2, 0, 0, []),
  (48, .if_icmp .ge 44, 3, 92, 0, []),
  (51, .aload_n 0, 1, 0, 0, []),
  (52, .iload 6, 2, 0, 0, []),
  (54, .iload 7, 2, 0, 0, []),
  (56, .iload_n 1, 1, 0, 0, []),
  (57, .invokevirtual 81, 3, 29, 1, [1091, 3]),
  (60, .ifCond .eq 26, 3, 86, 0, []),
  (63, .iinc 3 1, 3, 0, 0, []),
  (66, .iload 4, 2, 0, 0, []),
  (68, .ifCond .ge 14, 3, 82, 0, []),
  (71, .bipush 10, 2, 0, 0, []),
  (73, .iload 6, 2, 0, 0, []),
  (75, .imul, 1, 0, 0, []),
  (76, .iload 7, 2, 0, 0, []),
  (78, .iadd, 1, 0, 0, []),
  (79, .goto 5, 3, 84, 0, []),
  (82, .iload 4, 2, 0, 0, []),
  (84, .istore 4, 2, 0, 0, []),
  (86, .iinc 7 1, 3, 0, 0, []),
  (89, .goto (-45), 3, 44, 0, []),
  (92, .iinc 6 1, 3, 0, 0, []),
  (95, .goto (-64), 3, 31, 0, []),
  (98, .iload_n 2, 1, 0, 0, []),
  (99, .ifCond .eq 8, 3, 107, 0, []),
  (102, .iload 4, 2, 0, 0, []),
  (104, .goto 4, 3, 108, 0, []),
  (107, .iload_n 3, 1, 0, 0, []),
  (108, .ireturn, 1, 0, 0, [])]
def mX1_barters : ab_M := (yX1_barters, cX1_barters, 8, (some (FieldType.int)), 0, 0, 1, kX1_barters)
def kX1_bothGain : List ab_I := [(0, .aload_n 0, 1, 0, 0, []),
  (1, .getfield 26, 3, 1, 1, [393, 1]),
  (4, .bipush 24, 2, 0, 0, []),
  (6, .iload_n 1, 1, 0, 0, []),
  (7, .iadd, 1, 0, 0, []),
  (8, .invokevirtual 53, 3, 74, 5, [1048, 1]),
  (11, .istore 4, 2, 0, 0, []),
  (13, .aload_n 0, 1, 0, 0, []),
  (14, .getfield 26, 3, 1, 1, [393, 1]),
  (17, .bipush 24, 2, 0, 0, []),
  (19, .iload_n 2, 1, 0, 0, []),
  (20, .iadd, 1, 0, 0, []),
  (21, .invokevirtual 53, 3, 74, 5, [1048, 1]),
  (24, .istore 5, 2, 0, 0, []),
  (26, .iload 4, 2, 0, 0, []),
  (28, .iload 5, 2, 0, 0, []),
  (30, .if_icmp .ne 5, 3, 35, 0, []),
  (33, .iconst 0, 1, 0, 0, []),
  (34, .ireturn, 1, 0, 0, []),
  (35, .aload_n 0, 1, 0, 0, []),
  (36, .getfield 12, 3, 1, 2, [394, 1]),
  (39, .aload_n 0, 1, 0, 0, []),
  (40, .getfield 26, 3, 1, 1, [393, 1]),
  (43, .invokevirtual 29, 3, 81, 5, [1033, 1]),
  (46, .aload_n 0, 1, 0, 0, []),
  (47, .getfield 12, 3, 1, 2, [394, 1]),
  (50, .iload_n 1, 1, 0, 0, []),
  (51, .iload_n 2, 1, 0, 0, []),
  (52, .invokevirtual 84, 3, 79, 5, [1095, 2]),
  (55, .aload_n 0, 1, 0, 0, []),
  (56, .getfield 22, 3, 1, 0, [392, 1]),
  (59, .aload_n 0, 1, 0, 0, []),
  (60, .getfield 12, 3, 1, 2, [394, 1]),
  (63, .aload_n 0, 1, 0, 0, []),
  (64, .getfield 22, 3, 1, 0, [392, 1]),
  (67, .invokevirtual 33, 3, 2, 0, [1038, 0]),
  (70, .invokevirtual 39, 3, 97, 7, [1042, 0]),
  (73, .iload_n 3, 1, 0, 0, []),
  (74, .invokevirtual 45, 3, 14, 0, [1043, 3]),
  (77, .aload_n 0, 1, 0, 0, []),
  (78, .iload 4, 2, 0, 0, []),
  (80, .invokevirtual 75, 3, 25, 1, [1050, 1]),
  (83, .ifCond .le 16, 3, 99, 0, []),
  (86, .aload_n 0, 1, 0, 0, []),
  (87, .iload 5, 2, 0, 0, []),
  (89, .invokevirtual 75, 3, 25, 1, [1050, 1]),
  (92, .ifCond .le 7, 3, 99, 0, []),
  (95, .iconst 1, 1, 0, 0, []),
  (96, .goto 4, 3, 100, 0, []),
  (99, .iconst 0, 1, 0, 0, []),
  (100, .ireturn, 1, 0, 0, [])]
def mX1_bothGain : ab_M := (yX1_bothGain, cX1_bothGain, 6, (some (FieldType.boolean)), 0, 0, 1, kX1_bothGain)
def kX1_richest : List ab_I := [(0, .aload_n 0, 1, 0, 0, []),
  (1, .iload_n 1, 1, 0, 0, []),
  (2, .invokevirtual 49, 3, 22, 1, [1086, 1]),
  (5, .pop, 1, 0, 0, []),
  (6, .bipush (-2), 2, 0, 0, []),
  (8, .istore_n 3, 1, 0, 0, []),
  (9, .iconst 0, 1, 0, 0, []),
  (10, .istore 4, 2, 0, 0, []),
  (12, .iconst 0, 1, 0, 0, []),
  (13, .istore 5, 2, 0, 0, []),
  (15, .iload 5, 2, 0, 0, []),
  (17, .aload_n 0, 1, 0, 0, []),
  (18, .getfield 22, 3, 1, 0, [392, 1]),
  (21, .invokevirtual 33, 3, 2, 0, [1038, 0]),
  (24, .invokevirtual 72, 3, 92, 7, [1049, 0]),
  (27, .if_icmp .ge 54, 3, 81, 0, []),
  (30, .aload_n 0, 1, 0, 0, []),
  (31, .getfield 12, 3, 1, 2, [394, 1]),
  (34, .bipush 12, 2, 0, 0, []),
  (36, .iload 5, 2, 0, 0, []),
  (38, .iadd, 1, 0, 0, []),
  (39, .invokevirtual 53, 3, 74, 5, [1048, 1]),
  (42, .aload_n 0, 1, 0, 0, []),
  (43, .getfield 26, 3, 1, 1, [393, 1]),
  (46, .bipush 12, 2, 0, 0, []),
  (48, .iload 5, 2, 0, 0, []),
  (50, .iadd, 1, 0, 0, []),
  (51, .invokevirtual 53, 3, 74, 5, [1048, 1]),
  (54, .isub, 1, 0, 0, []),
  (55, .istore 6, 2, 0, 0, []),
  (57, .iload_n 3, 1, 0, 0, []),
  (58, .ifCond .lt 10, 3, 68, 0, []),
  (61, .iload 6, 2, 0, 0, []),
  (63, .iload 4, 2, 0, 0, []),
  (65, .if_icmp .le 10, 3, 75, 0, []),
  (68, .iload 5, 2, 0, 0, []),
  (70, .istore_n 3, 1, 0, 0, []),
  (71, .iload 6, 2, 0, 0, []),
  (73, .istore 4, 2, 0, 0, []),
  (75, .iinc 5 1, 3, 0, 0, []),
  (78, .goto (-63), 3, 15, 0, []),
  (81, .iload_n 2, 1, 0, 0, []),
  (82, .ifCond .eq 12, 3, 94, 0, []),
  (85, .iload_n 3, 1, 0, 0, []),
  (86, .ifCond .lt 8, 3, 94, 0, []),
  (89, .iload 4, 2, 0, 0, []),
  (91, .goto 4, 3, 95, 0, []),
  (94, .iload_n 3, 1, 0, 0, []),
  (95, .ireturn, 1, 0, 0, [])]
def mX1_richest : ab_M := (yX1_richest, cX1_richest, 7, (some (FieldType.int)), 0, 0, 1, kX1_richest)
def kX1_mostFamed : List ab_I := [(0, .aload_n 0, 1, 0, 0, []),
  (1, .iload_n 1, 1, 0, 0, []),
  (2, .invokevirtual 49, 3, 22, 1, [1086, 1]),
  (5, .pop, 1, 0, 0, []),
  (6, .bipush (-2), 2, 0, 0, []),
  (8, .istore_n 2, 1, 0, 0, []),
  (9, .iconst 0, 1, 0, 0, []),
  (10, .istore_n 3, 1, 0, 0, []),
  (11, .iconst 0, 1, 0, 0, []),
  (12, .istore 4, 2, 0, 0, []),
  (14, .iload 4, 2, 0, 0, []),
  (16, .aload_n 0, 1, 0, 0, []),
  (17, .getfield 22, 3, 1, 0, [392, 1]),
  (20, .invokevirtual 33, 3, 2, 0, [1038, 0]),
  (23, .invokevirtual 72, 3, 92, 7, [1049, 0]),
  (26, .if_icmp .ge 39, 3, 65, 0, []),
  (29, .aload_n 0, 1, 0, 0, []),
  (30, .getfield 12, 3, 1, 2, [394, 1]),
  (33, .bipush 6, 2, 0, 0, []),
  (35, .iload 4, 2, 0, 0, []),
  (37, .iadd, 1, 0, 0, []),
  (38, .invokevirtual 53, 3, 74, 5, [1048, 1]),
  (41, .istore 5, 2, 0, 0, []),
  (43, .iload_n 2, 1, 0, 0, []),
  (44, .ifCond .lt 9, 3, 53, 0, []),
  (47, .iload 5, 2, 0, 0, []),
  (49, .iload_n 3, 1, 0, 0, []),
  (50, .if_icmp .le 9, 3, 59, 0, []),
  (53, .iload 4, 2, 0, 0, []),
  (55, .istore_n 2, 1, 0, 0, []),
  (56, .iload 5, 2, 0, 0, []),
  (58, .istore_n 3, 1, 0, 0, []),
  (59, .iinc 4 1, 3, 0, 0, []),
  (62, .goto (-48), 3, 14, 0, []),
  (65, .iload_n 2, 1, 0, 0, []),
  (66, .ireturn, 1, 0, 0, [])]
def mX1_mostFamed : ab_M := (yX1_mostFamed, cX1_mostFamed, 6, (some (FieldType.int)), 0, 0, 1, kX1_mostFamed)
def kX1_seedsWithWonder : List ab_I := [(0, .iconst 0, 1, 0, 0, []),
  (1, .istore 4, 2, 0, 0, []),
  (3, .iconst 0, 1, 0, 0, []),
  (4, .istore 5, 2, 0, 0, []),
  (6, .iload 5, 2, 0, 0, []),
  (8, .iload_n 3, 1, 0, 0, []),
  (9, .if_icmp .ge 34, 3, 43, 0, []),
  (12, .aload_n 0, 1, 0, 0, []),
  (13, .aload_n 0, 1, 0, 0, []),
  (14, .getfield 22, 3, 1, 0, [392, 1]),
  (17, .invokevirtual 33, 3, 2, 0, [1038, 0]),
  (20, .invokevirtual 39, 3, 97, 7, [1042, 0]),
  (23, .iload 5, 2, 0, 0, []),
  (25, .iadd, 1, 0, 0, []),
  (26, .iload_n 1, 1, 0, 0, []),
  (27, .iload_n 2, 1, 0, 0, []),
  (28, .invokevirtual 87, 3, 33, 1, [1150, 3]),
  (31, .ifCond .eq 6, 3, 37, 0, []),
  (34, .iinc 4 1, 3, 0, 0, []),
  (37, .iinc 5 1, 3, 0, 0, []),
  (40, .goto (-34), 3, 6, 0, []),
  (43, .iload 4, 2, 0, 0, []),
  (45, .ireturn, 1, 0, 0, [])]
def mX1_seedsWithWonder : ab_M := (yX1_seedsWithWonder, cX1_seedsWithWonder, 6, (some (FieldType.int)), 0, 0, 1, kX1_seedsWithWonder)
def kX1_hasWonderBy : List ab_I := [(0, .aload_n 0, 1, 0, 0, []),
  (1, .getfield 26, 3, 1, 1, [393, 1]),
  (4, .bipush 30, 2, 0, 0, []),
  (6, .iload_n 2, 1, 0, 0, []),
  (7, .iadd, 1, 0, 0, []),
  (8, .invokevirtual 53, 3, 74, 5, [1048, 1]),
  (11, .istore 4, 2, 0, 0, []),
  (13, .aload_n 0, 1, 0, 0, []),
  (14, .getfield 12, 3, 1, 2, [394, 1]),
  (17, .aload_n 0, 1, 0, 0, []),
  (18, .getfield 26, 3, 1, 1, [393, 1]),
  (21, .invokevirtual 29, 3, 81, 5, [1033, 1]),
  (24, .iconst 0, 1, 0, 0, []),
  (25, .istore 5, 2, 0, 0, []),
  (27, .iload 5, 2, 0, 0, []),
  (29, .iload_n 3, 1, 0, 0, []),
  (30, .if_icmp .ge 40, 3, 70, 0, []),
  (33, .aload_n 0, 1, 0, 0, []),
  (34, .getfield 22, 3, 1, 0, [392, 1]),
  (37, .aload_n 0, 1, 0, 0, []),
  (38, .getfield 12, 3, 1, 2, [394, 1]),
  (41, .iload_n 1, 1, 0, 0, []),
  (42, .iconst 1, 1, 0, 0, []),
  (43, .invokevirtual 45, 3, 14, 0, [1043, 3]),
  (46, .aload_n 0, 1, 0, 0, []),
  (47, .getfield 12, 3, 1, 2, [394, 1]),
  (50, .bipush 30, 2, 0, 0, []),
  (52, .iload_n 2, 1, 0, 0, []),
  (53, .iadd, 1, 0, 0, []),
  (54, .invokevirtual 53, 3, 74, 5, [1048, 1]),
  (57, .iload 4, 2, 0, 0, []),
  (59, .if_icmp .le 5, 3, 64, 0, []),
  (62, .iconst 1, 1, 0, 0, []),
  (63, .ireturn, 1, 0, 0, []),
  (64, .iinc 5 1, 3, 0, 0, []),
  (67, .goto (-40), 3, 27, 0, []),
  (70, .iconst 0, 1, 0, 0, []),
  (71, .ireturn, 1, 0, 0, [])]
def mX1_hasWonderBy : ab_M := (yX1_hasWonderBy, cX1_hasWonderBy, 6, (some (FieldType.boolean)), 0, 0, 1, kX1_hasWonderBy)
def kX2_init : List ab_I := [(0, .aload_n 0, 1, 0, 0, []),
  (1, .invokespecial 3, 3, 0, 0, [136]),
  (4, .aload_n 0, 1, 0, 0, []),
  (5, .sipush 420, 3, 0, 0, []),
  (8, .newarray .int, 2, 0, 0, []),
  (10, .putfield 11, 3, 2, 0, [137, 1, 1]),
  (13, .aload_n 0, 1, 0, 0, []),
  (14, .sipush 420, 3, 0, 0, []),
  (17, .newarray .int, 2, 0, 0, []),
  (19, .putfield 15, 3, 2, 1, [138, 1, 1]),
  (22, .aload_n 0, 1, 0, 0, []),
  (23, .iconst 5, 1, 0, 0, []),
  (24, .newarray .int, 2, 0, 0, []),
  (26, .putfield 18, 3, 2, 2, [139, 1, 1]),
  (29, .aload_n 0, 1, 0, 0, []),
  (30, .bipush 9, 2, 0, 0, []),
  (32, .newarray .int, 2, 0, 0, []),
  (34, .putfield 21, 3, 2, 3, [140, 1, 1]),
  (37, .aload_n 0, 1, 0, 0, []),
  (38, .bipush 20, 2, 0, 0, []),
  (40, .newarray .int, 2, 0, 0, []),
  (42, .putfield 24, 3, 2, 4, [141, 1, 1]),
  (45, .return_, 1, 0, 0, [])]
def mX2_init : ab_M := (yX2_init, cX2_init, 1, none, 5, 874, 2, kX2_init)
def kX2_clear : List ab_I := [(0, .aload_n 0, 1, 0, 0, []),
  (1, .iconst 0, 1, 0, 0, []),
  (2, .putfield 27, 3, 2, 5, [142]),
  (5, .aload_n 0, 1, 0, 0, []),
  (6, .iconst 0, 1, 0, 0, []),
  (7, .invokevirtual 31, 3, 37, 2, [165, 1]),
  (10, .aload_n 0, 1, 0, 0, []),
  (11, .iconst 1, 1, 0, 0, []),
  (12, .iconst 0, 1, 0, 0, []),
  (13, .invokevirtual 35, 3, 38, 2, [169, 2]),
  (16, .pop, 1, 0, 0, []),
  (17, .aload_n 0, 1, 0, 0, []),
  (18, .iconst 3, 1, 0, 0, []),
  (19, .iconst 0, 1, 0, 0, []),
  (20, .invokevirtual 35, 3, 38, 2, [169, 2]),
  (23, .pop, 1, 0, 0, []),
  (24, .aload_n 0, 1, 0, 0, []),
  (25, .iconst 1, 1, 0, 0, []),
  (26, .bipush 8, 2, 0, 0, []),
  (28, .bipush 50, 2, 0, 0, []),
  (30, .invokevirtual 39, 3, 36, 2, [173, 3]),
  (33, .aload_n 0, 1, 0, 0, []),
  (34, .iconst 2, 1, 0, 0, []),
  (35, .invokevirtual 31, 3, 37, 2, [165, 1]),
  (38, .aload_n 0, 1, 0, 0, []),
  (39, .iconst 1, 1, 0, 0, []),
  (40, .iconst 4, 1, 0, 0, []),
  (41, .invokevirtual 35, 3, 38, 2, [169, 2]),
  (44, .pop, 1, 0, 0, []),
  (45, .aload_n 0, 1, 0, 0, []),
  (46, .iconst 3, 1, 0, 0, []),
  (47, .iconst 0, 1, 0, 0, []),
  (48, .invokevirtual 35, 3, 38, 2, [169, 2]),
  (51, .pop, 1, 0, 0, []),
  (52, .aload_n 0, 1, 0, 0, []),
  (53, .iconst 3, 1, 0, 0, []),
  (54, .iconst 5, 1, 0, 0, []),
  (55, .bipush 10, 2, 0, 0, []),
  (57, .invokevirtual 39, 3, 36, 2, [173, 3]),
  (60, .aload_n 0, 1, 0, 0, []),
  (61, .iconst 4, 1, 0, 0, []),
  (62, .bipush 6, 2, 0, 0, []),
  (64, .bipush 10, 2, 0, 0, []),
  (66, .invokevirtual 39, 3, 36, 2, [173, 3]),
  (69, .return_, 1, 0, 0, [])]
def mX2_clear : ab_M := (yX2_clear, cX2_clear, 1, none, 0, 0, 1, kX2_clear)
def kX2_beginTimes : List ab_I := [(0, .aload_n 0, 1, 0, 0, []),
  (1, .iload_n 1, 1, 0, 0, []),
  (2, .invokevirtual 31, 3, 37, 2, [165, 1]),
  (5, .aload_n 0, 1, 0, 0, []),
  (6, .iconst 1, 1, 0, 0, []),
  (7, .iload_n 2, 1, 0, 0, []),
  (8, .invokevirtual 35, 3, 38, 2, [169, 2]),
  (11, .pop, 1, 0, 0, []),
  (12, .aload_n 0, 1, 0, 0, []),
  (13, .iconst 0, 1, 0, 0, []),
  (14, .iload_n 3, 1, 0, 0, []),
  (15, .invokevirtual 35, 3, 38, 2, [169, 2]),
  (18, .pop, 1, 0, 0, []),
  (19, .aload_n 0, 1, 0, 0, []),
  (20, .bipush 42, 2, 0, 0, []),
  (22, .iconst 0, 1, 0, 0, []),
  (23, .invokevirtual 35, 3, 38, 2, [169, 2]),
  (26, .pop, 1, 0, 0, []),
  (27, .aload_n 0, 1, 0, 0, []),
  (28, .iconst 3, 1, 0, 0, []),
  (29, .iconst 0, 1, 0, 0, []),
  (30, .invokevirtual 35, 3, 38, 2, [169, 2]),
  (33, .pop, 1, 0, 0, []),
  (34, .return_, 1, 0, 0, [])]
def mX2_beginTimes : ab_M := (yX2_beginTimes, cX2_beginTimes, 4, none, 0, 0, 1, kX2_beginTimes)
def kX2_begin : List ab_I := [(0, .iload_n 1, 1, 0, 0, []),
  (1, .ifCond .lt 18, 3, 19, 0, []),
  (4, .iload_n 1, 1, 0, 0, []),
  (5, .iconst 5, 1, 0, 0, []),
  (6, .if_icmp .ge 13, 3, 19, 0, []),
  (9, .aload_n 0, 1, 0, 0, []),
  (10, .getfield 18, 3, 2, 2, [139, 1]),
  (13, .iload_n 1, 1, 0, 0, []),
  (14, .aload_n 0, 1, 0, 0, []),
  (15, .getfield 27, 3, 2, 5, [142]),
  (18, .iastore, 1, 0, 0, []),
  (19, .return_, 1, 0, 0, [])]
def mX2_begin : ab_M := (yX2_begin, cX2_begin, 2, none, 0, 0, 1, kX2_begin)
def kX2_emit : List ab_I := [(0, .aload_n 0, 1, 0, 0, []),
  (1, .getfield 27, 3, 2, 5, [142]),
  (4, .ifCond .lt 13, 3, 17, 0, []),
  (7, .aload_n 0, 1, 0, 0, []),
  (8, .getfield 27, 3, 2, 5, [142]),
  (11, .sipush 420, 3, 0, 0, []),
  (14, .if_icmp .lt 5, 3, 19, 0, []),
  (17, .iconst (-1), 1, 0, 0, []),
  (18, .ireturn, 1, 0, 0, []),
  (19, .aload_n 0, 1, 0, 0, []),
  (20, .getfield 11, 3, 2, 0, [137, 1]),
  (23, .aload_n 0, 1, 0, 0, []),
  (24, .getfield 27, 3, 2, 5, [142]),
  (27, .iload_n 1, 1, 0, 0, []),
  (28, .iastore, 1, 0, 0, []),
  (29, .aload_n 0, 1, 0, 0, []),
  (30, .getfield 15, 3, 2, 1, [138, 1]),
  (33, .aload_n 0, 1, 0, 0, []),
  (34, .getfield 27, 3, 2, 5, [142]),
  (37, .iload_n 2, 1, 0, 0, []),
  (38, .iastore, 1, 0, 0, []),
  (39, .aload_n 0, 1, 0, 0, []),
  (40, .dup, 1, 0, 0, []),
  (41, .getfield 27, 3, 2, 5, [142]),
  (44, .iconst 1, 1, 0, 0, []),
  (45, .iadd, 1, 0, 0, []),
  (46, .putfield 27, 3, 2, 5, [142]),
  (49, .aload_n 0, 1, 0, 0, []),
  (50, .getfield 27, 3, 2, 5, [142]),
  (53, .iconst 1, 1, 0, 0, []),
  (54, .isub, 1, 0, 0, []),
  (55, .ireturn, 1, 0, 0, [])]
def mX2_emit : ab_M := (yX2_emit, cX2_emit, 3, (some (FieldType.int)), 0, 0, 1, kX2_emit)
def kX2_aimHere : List ab_I := [(0, .iload_n 1, 1, 0, 0, []),
  (1, .ifCond .lt 21, 3, 22, 0, []),
  (4, .iload_n 1, 1, 0, 0, []),
  (5, .aload_n 0, 1, 0, 0, []),
  (6, .getfield 27, 3, 2, 5, [142]),
  (9, .if_icmp .ge 13, 3, 22, 0, []),
  (12, .aload_n 0, 1, 0, 0, []),
  (13, .getfield 15, 3, 2, 1, [138, 1]),
  (16, .iload_n 1, 1, 0, 0, []),
  (17, .aload_n 0, 1, 0, 0, []),
  (18, .getfield 27, 3, 2, 5, [142]),
  (21, .iastore, 1, 0, 0, []),
  (22, .return_, 1, 0, 0, [])]
def mX2_aimHere : ab_M := (yX2_aimHere, cX2_aimHere, 2, none, 0, 0, 1, kX2_aimHere)
def kX2_clearVars : List ab_I := [(0, .iconst 0, 1, 0, 0, []),
  (1, .istore_n 1, 1, 0, 0, []),
  (2, .iload_n 1, 1, 0, 0, []),
  (3, .bipush 9, 2, 0, 0, []),
  (5, .if_icmp .ge 16, 3, 21, 0, []),
  (8, .aload_n 0, 1, 0, 0, []),
  (9, .getfield 21, 3, 2, 3, [140, 1]),
  (12, .iload_n 1, 1, 0, 0, []),
  (13, .iconst 0, 1, 0, 0, []),
  (14, .iastore, 1, 0, 0, []),
  (15, .iinc 1 1, 3, 0, 0, []),
  (18, .goto (-16), 3, 2, 0, []),
  (21, .return_, 1, 0, 0, [])]
def mX2_clearVars : ab_M := (yX2_clearVars, cX2_clearVars, 2, none, 0, 0, 1, kX2_clearVars)
def kX2_setVar : List ab_I := [(0, .iload_n 1, 1, 0, 0, []),
  (1, .ifCond .lt 16, 3, 17, 0, []),
  (4, .iload_n 1, 1, 0, 0, []),
  (5, .bipush 9, 2, 0, 0, []),
  (7, .if_icmp .ge 10, 3, 17, 0, []),
  (10, .aload_n 0, 1, 0, 0, []),
  (11, .getfield 21, 3, 2, 3, [140, 1]),
  (14, .iload_n 1, 1, 0, 0, []),
  (15, .iload_n 2, 1, 0, 0, []),
  (16, .iastore, 1, 0, 0, []),
  (17, .return_, 1, 0, 0, [])]
def mX2_setVar : ab_M := (yX2_setVar, cX2_setVar, 3, none, 0, 0, 1, kX2_setVar)
def kX2_varOf : List ab_I := [(0, .iload_n 1, 1, 0, 0, []),
  (1, .ifCond .lt 18, 3, 19, 0, []),
  (4, .iload_n 1, 1, 0, 0, []),
  (5, .bipush 9, 2, 0, 0, []),
  (7, .if_icmp .ge 12, 3, 19, 0, []),
  (10, .aload_n 0, 1, 0, 0, []),
  (11, .getfield 21, 3, 2, 3, [140, 1]),
  (14, .iload_n 1, 1, 0, 0, []),
  (15, .iaload, 1, 0, 0, []),
  (16, .goto 4, 3, 20, 0, []),
  (19, .iconst 0, 1, 0, 0, []),
  (20, .ireturn, 1, 0, 0, [])]
def mX2_varOf : ab_M := (yX2_varOf, cX2_varOf, 2, (some (FieldType.int)), 0, 0, 1, kX2_varOf)
def kX2_value : List ab_I := [(0, .iload_n 1, 1, 0, 0, []),
  (1, .ifCond .lt 8, 3, 9, 0, []),
  (4, .iload_n 1, 1, 0, 0, []),
  (5, .iconst 5, 1, 0, 0, []),
  (6, .if_icmp .lt 5, 3, 11, 0, []),
  (9, .iconst 0, 1, 0, 0, []),
  (10, .ireturn, 1, 0, 0, []),
  (11, .iconst 0, 1, 0, 0, []),
  (12, .istore_n 2, 1, 0, 0, []),
  (13, .iconst 0, 1, 0, 0, []),
  (14, .aload_n 0, 1, 0, 0, []),
  (15, .getfield 18, 3, 2, 2, [139, 1]),
  (18, .iload_n 1, 1, 0, 0, []),
  (19, .iaload, 1, 0, 0, []),
  (20, .invokestatic 43, 3, 299, 0, [881, 2]),
  (23, .istore_n 3, 1, 0, 0, []),
  (24, .iload_n 3, 1, 0, 0, []),
  (25, .aload_n 0, 1, 0, 0, []),
  (26, .getfield 27, 3, 2, 5, [142]),
  (29, .if_icmp .ge 211, 3, 240, 0, []),
  (32, .iload_n 3, 1, 0, 0, []),
  (33, .sipush 420, 3, 0, 0, []),
  (36, .if_icmp .ge 204, 3, 240, 0, []),
  (39, .aload_n 0, 1, 0, 0, []),
  (40, .getfield 11, 3, 2, 0, [137, 1]),
  (43, .iload_n 3, 1, 0, 0, []),
  (44, .iaload, 1, 0, 0, []),
  (45, .istore 4, 2, 0, 0, []),
  (47, .iload 4, 2, 0, 0, []),
  (49, .iconst 3, 1, 0, 0, []),
  (50, .if_icmp .ne 26, 3, 76, 0, []),
  (53, .iload_n 2, 1, 0, 0, []),
  (54, .ifCond .le 20, 3, 74, 0, []),
  (57, .iload_n 2, 1, 0, 0, []),
  (58, .bipush 20, 2, 0, 0, []),
  (60, .if_icmp .gt 14, 3, 74, 0, []),
  (63, .aload_n 0, 1, 0, 0, []),
  (64, .getfield 24, 3, 2, 4, [141, 1]),
  (67, .iload_n 2, 1, 0, 0, []),
  (68, .iconst 1, 1, 0, 0, []),
  (69, .isub, 1, 0, 0, []),
  (70, .iaload, 1, 0, 0, []),
  (71, .goto 4, 3, 75, 0, []),
  (74, .iconst 0, 1, 0, 0, []),
  (75, .ireturn, 1, 0, 0, []),
  (76, .iload 4, 2, 0, 0, []),
  (78, .ifCond .eq 9, 3, 87, 0, []),
  (81, .iload 4, 2, 0, 0, []),
  (83, .iconst 1, 1, 0, 0, []),
  (84, .if_icmp .ne 51, 3, 135, 0, []),
  (87, .iload_n 2, 1, 0, 0, []),
  (88, .ifCond .lt 9, 3, 97, 0, []),
  (91, .iload_n 2, 1, 0, 0, []),
  (92, .bipush 20, 2, 0, 0, []),
  (94, .if_icmp .lt 5, 3, 99, 0, []),
  (97, .iconst 0, 1, 0, 0, []),
  (98, .ireturn, 1, 0, 0, []),
  (99, .aload_n 0, 1, 0, 0, []),
  (100, .getfield 24, 3, 2, 4, [141, 1]),
  (103, .iload_n 2, 1, 0, 0, []),
  (104, .iload 4, 2, 0, 0, []),
  (106, .ifCond .ne 12, 3, 118, 0, []),
  (109, .aload_n 0, 1, 0, 0, []),
  (110, .getfield 15, 3, 2, 1, [138, 1]),
  (113, .iload_n 3, 1, 0, 0, []),
  (114, .iaload, 1, 0, 0, []),
  (115, .goto 13, 3, 128, 0, []),
  (118, .aload_n 0, 1, 0, 0, []),
  (119, .aload_n 0, 1, 0, 0, []),
  (120, .getfield 15, 3, 2, 1, [138, 1]),
  (123, .iload_n 3, 1, 0, 0, []),
  (124, .iaload, 1, 0, 0, []),
  (125, .invokevirtual 48, 3, 42, 2, [882, 1]),
  (128, .iastore, 1, 0, 0, []),
  (129, .iinc 2 1, 3, 0, 0, []),
  (132, .goto 102, 3, 234, 0, []),
  (135, .iload_n 2, 1, 0, 0, []),
  (136, .iconst 2, 1, 0, 0, []),
  (137, .if_icmp .lt 9, 3, 146, 0, []),
  (140, .iload_n 2, 1, 0, 0, []),
  (141, .bipush 20, 2, 0, 0, []),
  (143, .if_icmp .le 5, 3, 148, 0, []),
  (146, .iconst 0, 1, 0, 0, []),
  (147, .ireturn, 1, 0, 0, []),
  (148, .iinc 2 (-2), 3, 0, 0, []),
  (151, .aload_n 0, 1, 0, 0, []),
  (152, .getfield 24, 3, 2, 4, [141, 1]),
  (155, .iload_n 2, 1, 0, 0, []),
  (156, .iaload, 1, 0, 0, []),
  (157, .istore 5, 2, 0, 0, []),
  (159, .aload_n 0, 1, 0, 0, []),
  (160, .getfield 24, 3, 2, 4, [141, 1]),
  (163, .iload_n 2, 1, 0, 0, []),
  (164, .iconst 1, 1, 0, 0, []),
  (165, .iadd, 1, 0, 0, []),
  (166, .iaload, 1, 0, 0, []),
  (167, .istore 6, 2, 0, 0, []),
  (169, .iload 4, 2, 0, 0, []),
  (171, .iconst 2, 1, 0, 0, []),
  (172, .if_icmp .ne 30, 3, 202, 0, []),
  (175, .iload 5, 2, 0, 0, []),
  (177, .iload 6, 2, 0, 0, []),
  (179, .if_icmp .ge 7, 3, 186, 0, []),
  (182, .iload_n 3, 1, 0, 0, []),
  (183, .goto 15, 3, 198, 0, []),
  (186, .iload_n 3, 1, 0, 0, []),
  (187, .aload_n 0, 1, 0, 0, []),
  (188, .getfield 15, 3, 2, 1, [138, 1]),
  (191, .iload_n 3, 1, 0, 0, []),
  (192, .iaload, 1, 0, 0, []),
  (193, .iconst 1, 1, 0, 0, []),
  (194, .isub, 1, 0, 0, []),
  (195, .invokestatic 43, 3, 299, 0, [881, 2]),
  (198, .istore_n 3, 1, 0, 0, []),
  (199, .goto 35, 3, 234, 0, []),
  (202, .iload 4, 2, 0, 0, []),
  (204, .bipush 47, 2, 0, 0, []),
  (206, .if_icmp .ne 10, 3, 216, 0, []),
  (209, .iload 6, 2, 0, 0, []),
  (211, .ifCond .ne 5, 3, 216, 0, []),
  (214, .iconst 0, 1, 0, 0, []),
  (215, .ireturn, 1, 0, 0, []),
  (216, .aload_n 0, 1, 0, 0, []),
  (217, .getfield 24, 3, 2, 4, [141, 1]),
  (220, .iload_n 2, 1, 0, 0, []),
  (221, .iload 4, 2, 0, 0, []),
  (223, .iload 5, 2, 0, 0, []),
  (225, .iload 6, 2, 0, 0, []),
  (227, .invokestatic 52, 3, 44, 0, [886, 3]),
  (230, .iastore, 1, 0, 0, []),
  (231, .iinc 2 1, 3, 0, 0, []),
  (234, .iinc 3 1, 3, 0, 0, []),
  (237, .goto (-213), 3, 24, 0, []),
  (240, .iconst 0, 1, 0, 0, []),
  (241, .ireturn, 1, 0, 0, [])]
def mX2_value : ab_M := (yX2_value, cX2_value, 7, (some (FieldType.int)), 0, 0, 1, kX2_value)
def kX2_worked : List ab_I := [(0, .iload_n 0, 1, 0, 0, []),
  (1, .tableswitch 43 42 45 #[39, 31, 43, 35], 31, 44, 0, [40, 32, 44, 36]),
  (32, .iload_n 1, 1, 0, 0, []),
  (33, .iload_n 2, 1, 0, 0, []),
  (34, .iadd, 1, 0, 0, []),
  (35, .ireturn, 1, 0, 0, []),
  (36, .iload_n 1, 1, 0, 0, []),
  (37, .iload_n 2, 1, 0, 0, []),
  (38, .isub, 1, 0, 0, []),
  (39, .ireturn, 1, 0, 0, []),
  (40, .iload_n 1, 1, 0, 0, []),
  (41, .iload_n 2, 1, 0, 0, []),
  (42, .imul, 1, 0, 0, []),
  (43, .ireturn, 1, 0, 0, []),
  (44, .iload_n 2, 1, 0, 0, []),
  (45, .ifCond .ne 7, 3, 52, 0, []),
  (48, .iconst 0, 1, 0, 0, []),
  (49, .goto 6, 3, 55, 0, []),
  (52, .iload_n 1, 1, 0, 0, []),
  (53, .iload_n 2, 1, 0, 0, []),
  (54, .idiv, 1, 0, 0, []),
  (55, .ireturn, 1, 0, 0, [])]
def mX2_worked : ab_M := (yX2_worked, cX2_worked, 3, (some (FieldType.int)), 0, 0, 0, kX2_worked)
def kX3_init : List ab_I := [(0, .aload_n 0, 1, 0, 0, []),
  (1, .invokespecial 3, 3, 0, 0, [410]),
  (4, .aload_n 0, 1, 0, 0, []),
  (5, .sipush 2200, 3, 0, 0, []),
  (8, .newarray .int, 2, 0, 0, []),
  (10, .putfield 11, 3, 3, 0, [411, 1, 1]),
  (13, .aload_n 0, 1, 0, 0, []),
  (14, .sipush 165, 3, 0, 0, []),
  (17, .newarray .int, 2, 0, 0, []),
  (19, .putfield 17, 3, 3, 1, [412, 1, 1]),
  (22, .aload_n 0, 1, 0, 0, []),
  (23, .iconst 3, 1, 0, 0, []),
  (24, .newarray .boolean, 2, 0, 0, []),
  (26, .putfield 20, 3, 3, 2, [413, 1, 1]),
  (29, .return_, 1, 0, 0, [])]
def mX3_init : ab_M := (yX3_init, cX3_init, 1, none, 3, 2368, 2, kX3_init)
def kX3_clear : List ab_I := [(0, .aload_n 0, 1, 0, 0, []),
  (1, .iconst 0, 1, 0, 0, []),
  (2, .putfield 24, 3, 3, 4, [415]),
  (5, .iconst 0, 1, 0, 0, []),
  (6, .istore_n 1, 1, 0, 0, []),
  (7, .iload_n 1, 1, 0, 0, []),
  (8, .iconst 3, 1, 0, 0, []),
  (9, .if_icmp .ge 16, 3, 25, 0, []),
  (12, .aload_n 0, 1, 0, 0, []),
  (13, .getfield 20, 3, 3, 2, [413, 1]),
  (16, .iload_n 1, 1, 0, 0, []),
  (17, .iconst 0, 1, 0, 0, []),
  (18, .bastore, 1, 0, 0, []),
  (19, .iinc 1 1, 3, 0, 0, []),
  (22, .goto (-15), 3, 7, 0, []),
  (25, .return_, 1, 0, 0, [])]
def mX3_clear : ab_M := (yX3_clear, cX3_clear, 2, none, 0, 0, 1, kX3_clear)
def kX3_size : List ab_I := [(0, .aload_n 0, 1, 0, 0, []),
  (1, .getfield 24, 3, 3, 4, [415]),
  (4, .ireturn, 1, 0, 0, [])]
def mX3_size : ab_M := (yX3_size, cX3_size, 1, (some (FieldType.int)), 0, 0, 1, kX3_size)
def kX3_slotsHeld : List ab_I := [(0, .iconst 0, 1, 0, 0, []),
  (1, .istore_n 1, 1, 0, 0, []),
  (2, .iconst 0, 1, 0, 0, []),
  (3, .istore_n 2, 1, 0, 0, []),
  (4, .iload_n 2, 1, 0, 0, []),
  (5, .iconst 3, 1, 0, 0, []),
  (6, .if_icmp .ge 26, 3, 32, 0, []),
  (9, .iload_n 1, 1, 0, 0, []),
  (10, .aload_n 0, 1, 0, 0, []),
  (11, .getfield 20, 3, 3, 2, [413, 1]),
  (14, .iload_n 2, 1, 0, 0, []),
  (15, .baload, 1, 0, 0, []),
  (16, .ifCond .eq 7, 3, 23, 0, []),
  (19, .iconst 1, 1, 0, 0, []),
  (20, .goto 4, 3, 24, 0, []),
  (23, .iconst 0, 1, 0, 0, []),
  (24, .iadd, 1, 0, 0, []),
  (25, .istore_n 1, 1, 0, 0, []),
  (26, .iinc 2 1, 3, 0, 0, []),
  (29, .goto (-25), 3, 4, 0, []),
  (32, .iload_n 1, 1, 0, 0, []),
  (33, .ireturn, 1, 0, 0, [])]
def mX3_slotsHeld : ab_M := (yX3_slotsHeld, cX3_slotsHeld, 3, (some (FieldType.int)), 0, 0, 1, kX3_slotsHeld)
def kX3_keep : List ab_I := [(0, .aload_n 1, 1, 0, 0, []),
  (1, .aload_n 0, 1, 0, 0, []),
  (2, .getfield 11, 3, 3, 0, [411, 1]),
  (5, .aload_n 0, 1, 0, 0, []),
  (6, .getfield 28, 3, 3, 3, [414]),
  (9, .invokevirtual 31, 3, 82, 5, [912, 2]),
  (12, .aload_n 0, 1, 0, 0, []),
  (13, .aload_n 0, 1, 0, 0, []),
  (14, .getfield 28, 3, 3, 3, [414]),
  (17, .iconst 1, 1, 0, 0, []),
  (18, .iadd, 1, 0, 0, []),
  (19, .bipush 40, 2, 0, 0, []),
  (21, .irem, 1, 0, 0, []),
  (22, .putfield 28, 3, 3, 3, [414]),
  (25, .aload_n 0, 1, 0, 0, []),
  (26, .bipush 40, 2, 0, 0, []),
  (28, .aload_n 0, 1, 0, 0, []),
  (29, .getfield 24, 3, 3, 4, [415]),
  (32, .iconst 1, 1, 0, 0, []),
  (33, .iadd, 1, 0, 0, []),
  (34, .invokestatic 35, 3, 301, 0, [916, 2]),
  (37, .putfield 24, 3, 3, 4, [415]),
  (40, .return_, 1, 0, 0, [])]
def mX3_keep : ab_M := (yX3_keep, cX3_keep, 2, none, 0, 0, 1, kX3_keep)
def kX3_takeBack : List ab_I := [(0, .aload_n 0, 1, 0, 0, []),
  (1, .getfield 24, 3, 3, 4, [415]),
  (4, .ifCond .ne 5, 3, 9, 0, []),
  (7, .iconst 0, 1, 0, 0, []),
  (8, .ireturn, 1, 0, 0, []),
  (9, .aload_n 0, 1, 0, 0, []),
  (10, .aload_n 0, 1, 0, 0, []),
  (11, .getfield 28, 3, 3, 3, [414]),
  (14, .bipush 40, 2, 0, 0, []),
  (16, .iadd, 1, 0, 0, []),
  (17, .iconst 1, 1, 0, 0, []),
  (18, .isub, 1, 0, 0, []),
  (19, .bipush 40, 2, 0, 0, []),
  (21, .irem, 1, 0, 0, []),
  (22, .putfield 28, 3, 3, 3, [414]),
  (25, .aload_n 0, 1, 0, 0, []),
  (26, .dup, 1, 0, 0, []),
  (27, .getfield 24, 3, 3, 4, [415]),
  (30, .iconst 1, 1, 0, 0, []),
  (31, .isub, 1, 0, 0, []),
  (32, .putfield 24, 3, 3, 4, [415]),
  (35, .aload_n 1, 1, 0, 0, []),
  (36, .aload_n 0, 1, 0, 0, []),
  (37, .getfield 11, 3, 3, 0, [411, 1]),
  (40, .aload_n 0, 1, 0, 0, []),
  (41, .getfield 28, 3, 3, 3, [414]),
  (44, .invokevirtual 41, 3, 83, 5, [995, 2]),
  (47, .iconst 1, 1, 0, 0, []),
  (48, .ireturn, 1, 0, 0, [])]
def mX3_takeBack : ab_M := (yX3_takeBack, cX3_takeBack, 2, (some (FieldType.boolean)), 0, 0, 1, kX3_takeBack)
def kX3_putInSlot : List ab_I := [(0, .iload_n 2, 1, 0, 0, []),
  (1, .iconst 0, 1, 0, 0, []),
  (2, .iconst 2, 1, 0, 0, []),
  (3, .invokestatic 44, 3, 180, 0, [1219, 3, 1]),
  (6, .ifCond .ne 5, 3, 11, 0, []),
  (9, .iconst 0, 1, 0, 0, []),
  (10, .ireturn, 1, 0, 0, []),
  (11, .aload_n 1, 1, 0, 0, []),
  (12, .aload_n 0, 1, 0, 0, []),
  (13, .getfield 17, 3, 3, 1, [412, 1]),
  (16, .iload_n 2, 1, 0, 0, []),
  (17, .invokevirtual 31, 3, 82, 5, [912, 2]),
  (20, .aload_n 0, 1, 0, 0, []),
  (21, .getfield 20, 3, 3, 2, [413, 1]),
  (24, .iload_n 2, 1, 0, 0, []),
  (25, .iconst 1, 1, 0, 0, []),
  (26, .bastore, 1, 0, 0, []),
  (27, .iconst 1, 1, 0, 0, []),
  (28, .ireturn, 1, 0, 0, [])]
def mX3_putInSlot : ab_M := (yX3_putInSlot, cX3_putInSlot, 3, (some (FieldType.boolean)), 0, 0, 1, kX3_putInSlot)
def kX3_takeFromSlot : List ab_I := [(0, .iload_n 2, 1, 0, 0, []),
  (1, .iconst 0, 1, 0, 0, []),
  (2, .iconst 2, 1, 0, 0, []),
  (3, .invokestatic 44, 3, 180, 0, [1219, 3, 1]),
  (6, .ifCond .eq 12, 3, 18, 0, []),
  (9, .aload_n 0, 1, 0, 0, []),
  (10, .getfield 20, 3, 3, 2, [413, 1]),
  (13, .iload_n 2, 1, 0, 0, []),
  (14, .baload, 1, 0, 0, []),
  (15, .ifCond .ne 5, 3, 20, 0, []),
  (18, .iconst 0, 1, 0, 0, []),
  (19, .ireturn, 1, 0, 0, []),
  (20, .aload_n 1, 1, 0, 0, []),
  (21, .aload_n 0, 1, 0, 0, []),
  (22, .getfield 17, 3, 3, 1, [412, 1]),
  (25, .iload_n 2, 1, 0, 0, []),
  (26, .invokevirtual 41, 3, 83, 5, [995, 2]),
  (29, .aload_n 0, 1, 0, 0, []),
  (30, .iconst 0, 1, 0, 0, []),
  (31, .putfield 24, 3, 3, 4, [415]),
  (34, .iconst 1, 1, 0, 0, []),
  (35, .ireturn, 1, 0, 0, [])]
def mX3_takeFromSlot : ab_M := (yX3_takeFromSlot, cX3_takeFromSlot, 3, (some (FieldType.boolean)), 0, 0, 1, kX3_takeFromSlot)
def kX4_init : List ab_I := [(0, .aload_n 0, 1, 0, 0, []),
  (1, .invokespecial 3, 3, 0, 0, [246]),
  (4, .aload_n 0, 1, 0, 0, []),
  (5, .new 9, 3, 8, 5, [247]),
  (8, .dup, 1, 0, 0, []),
  (9, .invokespecial 11, 3, 116, 0, [249, 0]),
  (12, .putfield 12, 3, 4, 0, [326, 1, 1]),
  (15, .aload_n 0, 1, 0, 0, []),
  (16, .iconst (-1), 1, 0, 0, []),
  (17, .putfield 18, 3, 4, 6, [332]),
  (20, .aload_n 0, 1, 0, 0, []),
  (21, .aload_n 1, 1, 0, 0, []),
  (22, .putfield 22, 3, 4, 1, [327, 1, 1]),
  (25, .aload_n 0, 1, 0, 0, []),
  (26, .aload_n 1, 1, 0, 0, []),
  (27, .invokevirtual 26, 3, 91, 7, [322, 0]),
  (30, .putfield 32, 3, 4, 2, [328, 1, 1]),
  (33, .return_, 1, 0, 0, [])]
def mX4_init : ab_M := (yX4_init, cX4_init, 2, none, 5, 1235, 2, kX4_init)
def kX4_faultPlace : List ab_I := [(0, .aload_n 0, 1, 0, 0, []),
  (1, .getfield 18, 3, 4, 6, [332]),
  (4, .ireturn, 1, 0, 0, [])]
def mX4_faultPlace : ab_M := (yX4_faultPlace, cX4_faultPlace, 1, (some (FieldType.int)), 0, 0, 1, kX4_faultPlace)
def kX4_readInto : List ab_I := [(0, .aload_n 0, 1, 0, 0, []),
  (1, .aload_n 1, 1, 0, 0, []),
  (2, .aload_n 2, 1, 0, 0, []),
  (3, .invokevirtual 35, 3, 56, 4, [544, 2]),
  (6, .iconst 1, 1, 0, 0, []),
  (7, .istore_n 3, 1, 0, 0, []),
  (8, .iconst 0, 1, 0, 0, []),
  (9, .istore 4, 2, 0, 0, []),
  (11, .iload_n 3, 1, 0, 0, []),
  (12, .ifCond .eq 131, 3, 143, 0, []),
  (15, .aload_n 0, 1, 0, 0, []),
  (16, .getfield 39, 3, 4, 4, [330]),
  (19, .bipush 26, 2, 0, 0, []),
  (21, .if_icmp .eq 122, 3, 143, 0, []),
  (24, .iload 4, 2, 0, 0, []),
  (26, .sipush 400, 3, 0, 0, []),
  (29, .if_icmp .gt 114, 3, 143, 0, []),
  (32, .aload_n 0, 1, 0, 0, []),
  (33, .getfield 39, 3, 4, 4, [330]),
  (36, .tableswitch 96 0 9 #[56, 64, 72, 80, 96, 96, 96, 96, 96, 88], 56, 132, 0, [92, 100, 108, 116, 132, 132, 132, 132, 132, 124]),
  (92, .aload_n 0, 1, 0, 0, []),
  (93, .invokevirtual 42, 3, 61, 4, [653, 0]),
  (96, .istore_n 3, 1, 0, 0, []),
  (97, .goto 40, 3, 137, 0, []),
  (100, .aload_n 0, 1, 0, 0, []),
  (101, .invokevirtual 46, 3, 62, 4, [694, 0]),
  (104, .istore_n 3, 1, 0, 0, []),
  (105, .goto 32, 3, 137, 0, []),
  (108, .aload_n 0, 1, 0, 0, []),
  (109, .invokevirtual 49, 3, 63, 4, [722, 0]),
  (112, .istore_n 3, 1, 0, 0, []),
  (113, .goto 24, 3, 137, 0, []),
  (116, .aload_n 0, 1, 0, 0, []),
  (117, .invokevirtual 52, 3, 64, 4, [734, 0]),
  (120, .istore_n 3, 1, 0, 0, []),
  (121, .goto 16, 3, 137, 0, []),
  (124, .aload_n 0, 1, 0, 0, []),
  (125, .invokevirtual 55, 3, 65, 4, [746, 0]),
  (128, .istore_n 3, 1, 0, 0, []),
  (129, .goto 8, 3, 137, 0, []),
  (132, .aload_n 0, 1, 0, 0, []),
  (133, .invokevirtual 58, 3, 69, 4, [754, 0]),
  (136, .istore_n 3, 1, 0, 0, []),
  (137, .iinc 4 1, 3, 0, 0, []),
  (140, .goto (-129), 3, 11, 0, []),
  (143, .aload_n 0, 1, 0, 0, []),
  (144, .invokevirtual 61, 3, 57, 4, [776, 0]),
  (147, .aload_n 0, 1, 0, 0, []),
  (148, .getfield 64, 3, 4, 5, [331]),
  (151, .ireturn, 1, 0, 0, [])]
def mX4_readInto : ab_M := (yX4_readInto, cX4_readInto, 5, (some (FieldType.int)), 0, 0, 1, kX4_readInto)
def kX4_begin : List ab_I := [(0, .aload_n 0, 1, 0, 0, []),
  (1, .getfield 12, 3, 4, 0, [326, 1]),
  (4, .aload_n 2, 1, 0, 0, []),
  (5, .invokevirtual 67, 3, 124, 8, [548, 1]),
  (8, .aload_n 1, 1, 0, 0, []),
  (9, .invokevirtual 71, 3, 90, 7, [651, 0]),
  (12, .aload_n 0, 1, 0, 0, []),
  (13, .aload_n 1, 1, 0, 0, []),
  (14, .putfield 22, 3, 4, 1, [327, 1, 1]),
  (17, .aload_n 0, 1, 0, 0, []),
  (18, .aload_n 1, 1, 0, 0, []),
  (19, .invokevirtual 26, 3, 91, 7, [322, 0]),
  (22, .putfield 32, 3, 4, 2, [328, 1, 1]),
  (25, .aload_n 0, 1, 0, 0, []),
  (26, .iconst 0, 1, 0, 0, []),
  (27, .putfield 74, 3, 4, 3, [329]),
  (30, .aload_n 0, 1, 0, 0, []),
  (31, .aload_n 0, 1, 0, 0, []),
  (32, .getfield 12, 3, 4, 0, [326, 1]),
  (35, .iconst 0, 1, 0, 0, []),
  (36, .invokevirtual 77, 3, 121, 8, [652, 1]),
  (39, .putfield 39, 3, 4, 4, [330]),
  (42, .aload_n 0, 1, 0, 0, []),
  (43, .iconst 0, 1, 0, 0, []),
  (44, .putfield 64, 3, 4, 5, [331]),
  (47, .aload_n 0, 1, 0, 0, []),
  (48, .iconst 0, 1, 0, 0, []),
  (49, .putfield 81, 3, 4, 7, [333]),
  (52, .aload_n 0, 1, 0, 0, []),
  (53, .iconst 0, 1, 0, 0, []),
  (54, .putfield 84, 3, 4, 8, [334]),
  (57, .return_, 1, 0, 0, [])]
def mX4_begin : ab_M := (yX4_begin, cX4_begin, 3, none, 0, 0, 1, kX4_begin)
def kX4_settle : List ab_I := [(0, .aload_n 0, 1, 0, 0, []),
  (1, .getfield 74, 3, 4, 3, [329]),
  (4, .istore_n 1, 1, 0, 0, []),
  (5, .aload_n 0, 1, 0, 0, []),
  (6, .getfield 64, 3, 4, 5, [331]),
  (9, .ifCond .ne 16, 3, 25, 0, []),
  (12, .aload_n 0, 1, 0, 0, []),
  (13, .aload_n 0, 1, 0, 0, []),
  (14, .getfield 81, 3, 4, 7, [333]),
  (17, .putfield 64, 3, 4, 5, [331]),
  (20, .aload_n 0, 1, 0, 0, []),
  (21, .getfield 84, 3, 4, 8, [334]),
  (24, .istore_n 1, 1, 0, 0, []),
  (25, .aload_n 0, 1, 0, 0, []),
  (26, .getfield 64, 3, 4, 5, [331]),
  (29, .ifCond .ne 18, 3, 47, 0, []),
  (32, .aload_n 0, 1, 0, 0, []),
  (33, .iconst (-1), 1, 0, 0, []),
  (34, .putfield 18, 3, 4, 6, [332]),
  (37, .aload_n 0, 1, 0, 0, []),
  (38, .getfield 22, 3, 4, 1, [327, 1]),
  (41, .invokevirtual 87, 3, 115, 7, [780, 0]),
  (44, .goto 15, 3, 59, 0, []),
  (47, .aload_n 0, 1, 0, 0, []),
  (48, .aload_n 0, 1, 0, 0, []),
  (49, .getfield 12, 3, 4, 0, [326, 1]),
  (52, .iload_n 1, 1, 0, 0, []),
  (53, .invokevirtual 90, 3, 122, 8, [785, 1]),
  (56, .putfield 18, 3, 4, 6, [332]),
  (59, .return_, 1, 0, 0, [])]
def mX4_settle : ab_M := (yX4_settle, cX4_settle, 2, none, 0, 0, 1, kX4_settle)
def kX4_take : List ab_I := [(0, .aload_n 0, 1, 0, 0, []),
  (1, .getfield 39, 3, 4, 4, [330]),
  (4, .iload_n 1, 1, 0, 0, []),
  (5, .if_icmp .eq 9, 3, 14, 0, []),
  (8, .aload_n 0, 1, 0, 0, []),
  (9, .iconst 1, 1, 0, 0, []),
  (10, .invokevirtual 93, 3, 59, 4, [661, 1]),
  (13, .ireturn, 1, 0, 0, []),
  (14, .aload_n 0, 1, 0, 0, []),
  (15, .getfield 74, 3, 4, 3, [329]),
  (18, .sipush 400, 3, 0, 0, []),
  (21, .if_icmp .lt 9, 3, 30, 0, []),
  (24, .aload_n 0, 1, 0, 0, []),
  (25, .iconst 2, 1, 0, 0, []),
  (26, .invokevirtual 93, 3, 59, 4, [661, 1]),
  (29, .ireturn, 1, 0, 0, []),
  (30, .aload_n 0, 1, 0, 0, []),
  (31, .dup, 1, 0, 0, []),
  (32, .getfield 74, 3, 4, 3, [329]),
  (35, .iconst 1, 1, 0, 0, []),
  (36, .iadd, 1, 0, 0, []),
  (37, .putfield 74, 3, 4, 3, [329]),
  (40, .aload_n 0, 1, 0, 0, []),
  (41, .aload_n 0, 1, 0, 0, []),
  (42, .getfield 12, 3, 4, 0, [326, 1]),
  (45, .aload_n 0, 1, 0, 0, []),
  (46, .getfield 74, 3, 4, 3, [329]),
  (49, .invokevirtual 77, 3, 121, 8, [652, 1]),
  (52, .putfield 39, 3, 4, 4, [330]),
  (55, .iconst 1, 1, 0, 0, []),
  (56, .ireturn, 1, 0, 0, [])]
def mX4_take : ab_M := (yX4_take, cX4_take, 2, (some (FieldType.boolean)), 0, 0, 1, kX4_take)
def kX4_refuse : List ab_I := [(0, .aload_n 0, 1, 0, 0, []),
  (1, .iload_n 1, 1, 0, 0, []),
  (2, .putfield 64, 3, 4, 5, [331]),
  (5, .iconst 0, 1, 0, 0, []),
  (6, .ireturn, 1, 0, 0, [])]
def mX4_refuse : ab_M := (yX4_refuse, cX4_refuse, 2, (some (FieldType.boolean)), 0, 0, 1, kX4_refuse)
def kX4_refuseLate : List ab_I := [(0, .aload_n 0, 1, 0, 0, []),
  (1, .getfield 81, 3, 4, 7, [333]),
  (4, .ifCond .ne 13, 3, 17, 0, []),
  (7, .aload_n 0, 1, 0, 0, []),
  (8, .iload_n 1, 1, 0, 0, []),
  (9, .putfield 81, 3, 4, 7, [333]),
  (12, .aload_n 0, 1, 0, 0, []),
  (13, .iload_n 2, 1, 0, 0, []),
  (14, .putfield 84, 3, 4, 8, [334]),
  (17, .return_, 1, 0, 0, [])]
def mX4_refuseLate : ab_M := (yX4_refuseLate, cX4_refuseLate, 3, none, 0, 0, 1, kX4_refuseLate)
def kX4_readChurch : List ab_I := [(0, .aload_n 0, 1, 0, 0, []),
  (1, .getfield 74, 3, 4, 3, [329]),
  (4, .istore_n 1, 1, 0, 0, []),
  (5, .aload_n 0, 1, 0, 0, []),
  (6, .getfield 22, 3, 4, 1, [327, 1]),
  (9, .invokevirtual 97, 3, 92, 7, [657, 0]),
  (12, .bipush 6, 2, 0, 0, []),
  (14, .if_icmp .lt 9, 3, 23, 0, []),
  (17, .aload_n 0, 1, 0, 0, []),
  (18, .iconst 2, 1, 0, 0, []),
  (19, .invokevirtual 93, 3, 59, 4, [661, 1]),
  (22, .ireturn, 1, 0, 0, []),
  (23, .aload_n 0, 1, 0, 0, []),
  (24, .iconst 0, 1, 0, 0, []),
  (25, .invokevirtual 101, 3, 58, 4, [665, 1]),
  (28, .ifCond .eq 30, 3, 58, 0, []),
  (31, .aload_n 0, 1, 0, 0, []),
  (32, .bipush 24, 2, 0, 0, []),
  (34, .invokevirtual 101, 3, 58, 4, [665, 1]),
  (37, .ifCond .eq 21, 3, 58, 0, []),
  (40, .aload_n 0, 1, 0, 0, []),
  (41, .bipush 25, 2, 0, 0, []),
  (43, .invokevirtual 101, 3, 58, 4, [665, 1]),
  (46, .ifCond .eq 12, 3, 58, 0, []),
  (49, .aload_n 0, 1, 0, 0, []),
  (50, .bipush 59, 2, 0, 0, []),
  (52, .invokevirtual 101, 3, 58, 4, [665, 1]),
  (55, .ifCond .ne 5, 3, 60, 0, []),
  (58, .iconst 0, 1, 0, 0, []),
  (59, .ireturn, 1, 0, 0, []),
  (60, .aload_n 0, 1, 0, 0, []),
  (61, .iload_n 1, 1, 0, 0, []),
  (62, .iconst 1, 1, 0, 0, []),
  (63, .iadd, 1, 0, 0, []),
  (64, .invokevirtual 104, 3, 66, 4, [669, 1]),
  (67, .aload_n 0, 1, 0, 0, []),
  (68, .getfield 22, 3, 4, 1, [327, 1]),
  (71, .aload_n 0, 1, 0, 0, []),
  (72, .getfield 12, 3, 4, 0, [326, 1]),
  (75, .iload_n 1, 1, 0, 0, []),
  (76, .iconst 1, 1, 0, 0, []),
  (77, .iadd, 1, 0, 0, []),
  (78, .invokevirtual 108, 3, 123, 8, [673, 1]),
  (81, .aload_n 0, 1, 0, 0, []),
  (82, .iload_n 1, 1, 0, 0, []),
  (83, .iconst 2, 1, 0, 0, []),
  (84, .iadd, 1, 0, 0, []),
  (85, .iconst 0, 1, 0, 0, []),
  (86, .bipush 9, 2, 0, 0, []),
  (88, .invokevirtual 112, 3, 68, 4, [685, 3]),
  (91, .invokevirtual 116, 3, 110, 7, [690, 2]),
  (94, .iconst 1, 1, 0, 0, []),
  (95, .ireturn, 1, 0, 0, [])]
def mX4_readChurch : ab_M := (yX4_readChurch, cX4_readChurch, 2, (some (FieldType.boolean)), 0, 0, 1, kX4_readChurch)
def kX4_readRoad : List ab_I := [(0, .aload_n 0, 1, 0, 0, []),
  (1, .getfield 74, 3, 4, 3, [329]),
  (4, .istore_n 1, 1, 0, 0, []),
  (5, .aload_n 0, 1, 0, 0, []),
  (6, .getfield 22, 3, 4, 1, [327, 1]),
  (9, .invokevirtual 120, 3, 93, 7, [698, 0]),
  (12, .bipush 9, 2, 0, 0, []),
  (14, .if_icmp .lt 9, 3, 23, 0, []),
  (17, .aload_n 0, 1, 0, 0, []),
  (18, .iconst 2, 1, 0, 0, []),
  (19, .invokevirtual 93, 3, 59, 4, [661, 1]),
  (22, .ireturn, 1, 0, 0, []),
  (23, .aload_n 0, 1, 0, 0, []),
  (24, .iconst 1, 1, 0, 0, []),
  (25, .invokevirtual 101, 3, 58, 4, [665, 1]),
  (28, .ifCond .eq 39, 3, 67, 0, []),
  (31, .aload_n 0, 1, 0, 0, []),
  (32, .bipush 24, 2, 0, 0, []),
  (34, .invokevirtual 101, 3, 58, 4, [665, 1]),
  (37, .ifCond .eq 30, 3, 67, 0, []),
  (40, .aload_n 0, 1, 0, 0, []),
  (41, .bipush 24, 2, 0, 0, []),
  (43, .invokevirtual 101, 3, 58, 4, [665, 1]),
  (46, .ifCond .eq 21, 3, 67, 0, []),
  (49, .aload_n 0, 1, 0, 0, []),
  (50, .bipush 25, 2, 0, 0, []),
  (52, .invokevirtual 101, 3, 58, 4, [665, 1]),
  (55, .ifCond .eq 12, 3, 67, 0, []),
  (58, .aload_n 0, 1, 0, 0, []),
  (59, .bipush 59, 2, 0, 0, []),
  (61, .invokevirtual 101, 3, 58, 4, [665, 1]),
  (64, .ifCond .ne 5, 3, 69, 0, []),
  (67, .iconst 0, 1, 0, 0, []),
  (68, .ireturn, 1, 0, 0, []),
  (69, .aload_n 0, 1, 0, 0, []),
  (70, .iload_n 1, 1, 0, 0, []),
  (71, .iconst 1, 1, 0, 0, []),
  (72, .iadd, 1, 0, 0, []),
  (73, .invokevirtual 123, 3, 67, 4, [702, 1]),
  (76, .istore_n 2, 1, 0, 0, []),
  (77, .aload_n 0, 1, 0, 0, []),
  (78, .iload_n 1, 1, 0, 0, []),
  (79, .iconst 2, 1, 0, 0, []),
  (80, .iadd, 1, 0, 0, []),
  (81, .invokevirtual 123, 3, 67, 4, [702, 1]),
  (84, .istore_n 3, 1, 0, 0, []),
  (85, .iload_n 2, 1, 0, 0, []),
  (86, .ifCond .lt 30, 3, 116, 0, []),
  (89, .iload_n 3, 1, 0, 0, []),
  (90, .ifCond .lt 26, 3, 116, 0, []),
  (93, .aload_n 0, 1, 0, 0, []),
  (94, .getfield 22, 3, 4, 1, [327, 1]),
  (97, .iload_n 2, 1, 0, 0, []),
  (98, .iload_n 3, 1, 0, 0, []),
  (99, .invokevirtual 126, 3, 107, 7, [710, 2]),
  (102, .sipush 999, 3, 0, 0, []),
  (105, .if_icmp .eq 11, 3, 116, 0, []),
  (108, .aload_n 0, 1, 0, 0, []),
  (109, .iconst 3, 1, 0, 0, []),
  (110, .iload_n 1, 1, 0, 0, []),
  (111, .iconst 2, 1, 0, 0, []),
  (112, .iadd, 1, 0, 0, []),
  (113, .invokevirtual 130, 3, 60, 4, [681, 2]),
  (116, .aload_n 0, 1, 0, 0, []),
  (117, .getfield 22, 3, 4, 1, [327, 1]),
  (120, .iload_n 2, 1, 0, 0, []),
  (121, .iload_n 3, 1, 0, 0, []),
  (122, .aload_n 0, 1, 0, 0, []),
  (123, .iload_n 1, 1, 0, 0, []),
  (124, .iconst 3, 1, 0, 0, []),
  (125, .iadd, 1, 0, 0, []),
  (126, .iconst 1, 1, 0, 0, []),
  (127, .bipush 99, 2, 0, 0, []),
  (129, .invokevirtual 112, 3, 68, 4, [685, 3]),
  (132, .invokevirtual 134, 3, 111, 7, [714, 3]),
  (135, .iconst 1, 1, 0, 0, []),
  (136, .ireturn, 1, 0, 0, [])]
def mX4_readRoad : ab_M := (yX4_readRoad, cX4_readRoad, 4, (some (FieldType.boolean)), 0, 0, 1, kX4_readRoad)
def kX4_readRelic : List ab_I := [(0, .aload_n 0, 1, 0, 0, []),
  (1, .getfield 74, 3, 4, 3, [329]),
  (4, .istore_n 1, 1, 0, 0, []),
  (5, .aload_n 0, 1, 0, 0, []),
  (6, .getfield 22, 3, 4, 1, [327, 1]),
  (9, .invokevirtual 138, 3, 94, 7, [726, 0]),
  (12, .bipush 6, 2, 0, 0, []),
  (14, .if_icmp .lt 9, 3, 23, 0, []),
  (17, .aload_n 0, 1, 0, 0, []),
  (18, .iconst 2, 1, 0, 0, []),
  (19, .invokevirtual 93, 3, 59, 4, [661, 1]),
  (22, .ireturn, 1, 0, 0, []),
  (23, .aload_n 0, 1, 0, 0, []),
  (24, .iconst 2, 1, 0, 0, []),
  (25, .invokevirtual 101, 3, 58, 4, [665, 1]),
  (28, .ifCond .eq 21, 3, 49, 0, []),
  (31, .aload_n 0, 1, 0, 0, []),
  (32, .bipush 24, 2, 0, 0, []),
  (34, .invokevirtual 101, 3, 58, 4, [665, 1]),
  (37, .ifCond .eq 12, 3, 49, 0, []),
  (40, .aload_n 0, 1, 0, 0, []),
  (41, .bipush 24, 2, 0, 0, []),
  (43, .invokevirtual 101, 3, 58, 4, [665, 1]),
  (46, .ifCond .ne 5, 3, 51, 0, []),
  (49, .iconst 0, 1, 0, 0, []),
  (50, .ireturn, 1, 0, 0, []),
  (51, .aload_n 0, 1, 0, 0, []),
  (52, .getfield 39, 3, 4, 4, [330]),
  (55, .bipush 11, 2, 0, 0, []),
  (57, .if_icmp .ne 7, 3, 64, 0, []),
  (60, .iconst 1, 1, 0, 0, []),
  (61, .goto 4, 3, 65, 0, []),
  (64, .iconst 0, 1, 0, 0, []),
  (65, .istore_n 2, 1, 0, 0, []),
  (66, .aload_n 0, 1, 0, 0, []),
  (67, .iload_n 2, 1, 0, 0, []),
  (68, .ifCond .eq 8, 3, 76, 0, []),
  (71, .bipush 11, 2, 0, 0, []),
  (73, .goto 5, 3, 78, 0, []),
  (76, .bipush 10, 2, 0, 0, []),
  (78, .invokevirtual 101, 3, 58, 4, [665, 1]),
  (81, .ifCond .eq 12, 3, 93, 0, []),
  (84, .aload_n 0, 1, 0, 0, []),
  (85, .bipush 59, 2, 0, 0, []),
  (87, .invokevirtual 101, 3, 58, 4, [665, 1]),
  (90, .ifCond .ne 5, 3, 95, 0, []),
  (93, .iconst 0, 1, 0, 0, []),
  (94, .ireturn, 1, 0, 0, []),
  (95, .aload_n 0, 1, 0, 0, []),
  (96, .iload_n 1, 1, 0, 0, []),
  (97, .iconst 1, 1, 0, 0, []),
  (98, .iadd, 1, 0, 0, []),
  (99, .invokevirtual 104, 3, 66, 4, [669, 1]),
  (102, .aload_n 0, 1, 0, 0, []),
  (103, .getfield 22, 3, 4, 1, [327, 1]),
  (106, .aload_n 0, 1, 0, 0, []),
  (107, .iload_n 1, 1, 0, 0, []),
  (108, .iconst 2, 1, 0, 0, []),
  (109, .iadd, 1, 0, 0, []),
  (110, .invokevirtual 123, 3, 67, 4, [702, 1]),
  (113, .iload_n 2, 1, 0, 0, []),
  (114, .ifCond .ne 7, 3, 121, 0, []),
  (117, .iconst 1, 1, 0, 0, []),
  (118, .goto 4, 3, 122, 0, []),
  (121, .iconst 0, 1, 0, 0, []),
  (122, .invokevirtual 141, 3, 112, 7, [730, 2]),
  (125, .iconst 1, 1, 0, 0, []),
  (126, .ireturn, 1, 0, 0, [])]
def mX4_readRelic : ab_M := (yX4_readRelic, cX4_readRelic, 3, (some (FieldType.boolean)), 0, 0, 1, kX4_readRelic)
def kX4_readPilgrim : List ab_I := [(0, .aload_n 0, 1, 0, 0, []),
  (1, .getfield 74, 3, 4, 3, [329]),
  (4, .istore_n 1, 1, 0, 0, []),
  (5, .aload_n 0, 1, 0, 0, []),
  (6, .getfield 22, 3, 4, 1, [327, 1]),
  (9, .invokevirtual 145, 3, 96, 7, [738, 0]),
  (12, .iconst 5, 1, 0, 0, []),
  (13, .if_icmp .lt 9, 3, 22, 0, []),
  (16, .aload_n 0, 1, 0, 0, []),
  (17, .iconst 2, 1, 0, 0, []),
  (18, .invokevirtual 93, 3, 59, 4, [661, 1]),
  (21, .ireturn, 1, 0, 0, []),
  (22, .aload_n 0, 1, 0, 0, []),
  (23, .iconst 3, 1, 0, 0, []),
  (24, .invokevirtual 101, 3, 58, 4, [665, 1]),
  (27, .ifCond .eq 48, 3, 75, 0, []),
  (30, .aload_n 0, 1, 0, 0, []),
  (31, .bipush 24, 2, 0, 0, []),
  (33, .invokevirtual 101, 3, 58, 4, [665, 1]),
  (36, .ifCond .eq 39, 3, 75, 0, []),
  (39, .aload_n 0, 1, 0, 0, []),
  (40, .bipush 24, 2, 0, 0, []),
  (42, .invokevirtual 101, 3, 58, 4, [665, 1]),
  (45, .ifCond .eq 30, 3, 75, 0, []),
  (48, .aload_n 0, 1, 0, 0, []),
  (49, .bipush 25, 2, 0, 0, []),
  (51, .invokevirtual 101, 3, 58, 4, [665, 1]),
  (54, .ifCond .eq 21, 3, 75, 0, []),
  (57, .aload_n 0, 1, 0, 0, []),
  (58, .bipush 25, 2, 0, 0, []),
  (60, .invokevirtual 101, 3, 58, 4, [665, 1]),
  (63, .ifCond .eq 12, 3, 75, 0, []),
  (66, .aload_n 0, 1, 0, 0, []),
  (67, .bipush 59, 2, 0, 0, []),
  (69, .invokevirtual 101, 3, 58, 4, [665, 1]),
  (72, .ifCond .ne 5, 3, 77, 0, []),
  (75, .iconst 0, 1, 0, 0, []),
  (76, .ireturn, 1, 0, 0, []),
  (77, .aload_n 0, 1, 0, 0, []),
  (78, .iload_n 1, 1, 0, 0, []),
  (79, .iconst 1, 1, 0, 0, []),
  (80, .iadd, 1, 0, 0, []),
  (81, .invokevirtual 104, 3, 66, 4, [669, 1]),
  (84, .aload_n 0, 1, 0, 0, []),
  (85, .iload_n 1, 1, 0, 0, []),
  (86, .iconst 2, 1, 0, 0, []),
  (87, .iadd, 1, 0, 0, []),
  (88, .invokevirtual 123, 3, 67, 4, [702, 1]),
  (91, .istore_n 2, 1, 0, 0, []),
  (92, .aload_n 0, 1, 0, 0, []),
  (93, .iload_n 1, 1, 0, 0, []),
  (94, .iconst 3, 1, 0, 0, []),
  (95, .iadd, 1, 0, 0, []),
  (96, .iconst 0, 1, 0, 0, []),
  (97, .bipush 9, 2, 0, 0, []),
  (99, .invokevirtual 112, 3, 68, 4, [685, 3]),
  (102, .istore_n 3, 1, 0, 0, []),
  (103, .aload_n 0, 1, 0, 0, []),
  (104, .getfield 22, 3, 4, 1, [327, 1]),
  (107, .iload_n 2, 1, 0, 0, []),
  (108, .iload_n 3, 1, 0, 0, []),
  (109, .aload_n 0, 1, 0, 0, []),
  (110, .iload_n 1, 1, 0, 0, []),
  (111, .iconst 4, 1, 0, 0, []),
  (112, .iadd, 1, 0, 0, []),
  (113, .iconst 0, 1, 0, 0, []),
  (114, .bipush 9, 2, 0, 0, []),
  (116, .invokevirtual 112, 3, 68, 4, [685, 3]),
  (119, .invokevirtual 148, 3, 113, 7, [742, 3]),
  (122, .iconst 1, 1, 0, 0, []),
  (123, .ireturn, 1, 0, 0, [])]
def mX4_readPilgrim : ab_M := (yX4_readPilgrim, cX4_readPilgrim, 4, (some (FieldType.boolean)), 0, 0, 1, kX4_readPilgrim)
def kX4_readSeed : List ab_I := [(0, .aload_n 0, 1, 0, 0, []),
  (1, .getfield 74, 3, 4, 3, [329]),
  (4, .istore_n 1, 1, 0, 0, []),
  (5, .aload_n 0, 1, 0, 0, []),
  (6, .bipush 9, 2, 0, 0, []),
  (8, .invokevirtual 101, 3, 58, 4, [665, 1]),
  (11, .ifCond .eq 21, 3, 32, 0, []),
  (14, .aload_n 0, 1, 0, 0, []),
  (15, .bipush 25, 2, 0, 0, []),
  (17, .invokevirtual 101, 3, 58, 4, [665, 1]),
  (20, .ifCond .eq 12, 3, 32, 0, []),
  (23, .aload_n 0, 1, 0, 0, []),
  (24, .bipush 59, 2, 0, 0, []),
  (26, .invokevirtual 101, 3, 58, 4, [665, 1]),
  (29, .ifCond .ne 5, 3, 34, 0, []),
  (32, .iconst 0, 1, 0, 0, []),
  (33, .ireturn, 1, 0, 0, []),
  (34, .aload_n 0, 1, 0, 0, []),
  (35, .getfield 22, 3, 4, 1, [327, 1]),
  (38, .aload_n 0, 1, 0, 0, []),
  (39, .getfield 12, 3, 4, 0, [326, 1]),
  (42, .iload_n 1, 1, 0, 0, []),
  (43, .iconst 1, 1, 0, 0, []),
  (44, .iadd, 1, 0, 0, []),
  (45, .invokevirtual 108, 3, 123, 8, [673, 1]),
  (48, .l2i, 1, 0, 0, []),
  (49, .invokevirtual 151, 3, 114, 7, [750, 1]),
  (52, .iconst 1, 1, 0, 0, []),
  (53, .ireturn, 1, 0, 0, [])]
def mX4_readSeed : ab_M := (yX4_readSeed, cX4_readSeed, 2, (some (FieldType.boolean)), 0, 0, 1, kX4_readSeed)
def kX4_addName : List ab_I := [(0, .aload_n 0, 1, 0, 0, []),
  (1, .getfield 22, 3, 4, 1, [327, 1]),
  (4, .aload_n 0, 1, 0, 0, []),
  (5, .getfield 12, 3, 4, 0, [326, 1]),
  (8, .iload_n 1, 1, 0, 0, []),
  (9, .invokevirtual 108, 3, 123, 8, [673, 1]),
  (12, .invokevirtual 154, 3, 109, 7, [677, 1]),
  (15, .ifCond .ne 9, 3, 24, 0, []),
  (18, .aload_n 0, 1, 0, 0, []),
  (19, .iconst 3, 1, 0, 0, []),
  (20, .iload_n 1, 1, 0, 0, []),
  (21, .invokevirtual 130, 3, 60, 4, [681, 2]),
  (24, .return_, 1, 0, 0, [])]
def mX4_addName : ab_M := (yX4_addName, cX4_addName, 2, none, 0, 0, 1, kX4_addName)
def kX4_churchAt : List ab_I := [(0, .aload_n 0, 1, 0, 0, []),
  (1, .getfield 22, 3, 4, 1, [327, 1]),
  (4, .aload_n 0, 1, 0, 0, []),
  (5, .getfield 12, 3, 4, 0, [326, 1]),
  (8, .iload_n 1, 1, 0, 0, []),
  (9, .invokevirtual 108, 3, 123, 8, [673, 1]),
  (12, .invokevirtual 157, 3, 108, 7, [706, 1]),
  (15, .istore_n 2, 1, 0, 0, []),
  (16, .iload_n 2, 1, 0, 0, []),
  (17, .ifCond .ge 9, 3, 26, 0, []),
  (20, .aload_n 0, 1, 0, 0, []),
  (21, .iconst 4, 1, 0, 0, []),
  (22, .iload_n 1, 1, 0, 0, []),
  (23, .invokevirtual 130, 3, 60, 4, [681, 2]),
  (26, .iload_n 2, 1, 0, 0, []),
  (27, .ireturn, 1, 0, 0, [])]
def mX4_churchAt : ab_M := (yX4_churchAt, cX4_churchAt, 3, (some (FieldType.int)), 0, 0, 1, kX4_churchAt)
def kX4_numberAt : List ab_I := [(0, .aload_n 0, 1, 0, 0, []),
  (1, .getfield 12, 3, 4, 0, [326, 1]),
  (4, .iload_n 1, 1, 0, 0, []),
  (5, .invokevirtual 108, 3, 123, 8, [673, 1]),
  (8, .l2i, 1, 0, 0, []),
  (9, .istore 4, 2, 0, 0, []),
  (11, .iload 4, 2, 0, 0, []),
  (13, .iload_n 2, 1, 0, 0, []),
  (14, .iload_n 3, 1, 0, 0, []),
  (15, .invokestatic 161, 3, 180, 0, [689, 3, 1]),
  (18, .ifCond .ne 9, 3, 27, 0, []),
  (21, .aload_n 0, 1, 0, 0, []),
  (22, .iconst 5, 1, 0, 0, []),
  (23, .iload_n 1, 1, 0, 0, []),
  (24, .invokevirtual 130, 3, 60, 4, [681, 2]),
  (27, .iload 4, 2, 0, 0, []),
  (29, .ireturn, 1, 0, 0, [])]
def mX4_numberAt : ab_M := (yX4_numberAt, cX4_numberAt, 5, (some (FieldType.int)), 0, 0, 1, kX4_numberAt)
def kX4_readLaw : List ab_I := [(0, .aload_n 0, 1, 0, 0, []),
  (1, .getfield 39, 3, 4, 4, [330]),
  (4, .iconst 4, 1, 0, 0, []),
  (5, .isub, 1, 0, 0, []),
  (6, .istore_n 1, 1, 0, 0, []),
  (7, .aload_n 0, 1, 0, 0, []),
  (8, .getfield 39, 3, 4, 4, [330]),
  (11, .iconst 4, 1, 0, 0, []),
  (12, .if_icmp .lt 12, 3, 24, 0, []),
  (15, .aload_n 0, 1, 0, 0, []),
  (16, .getfield 39, 3, 4, 4, [330]),
  (19, .bipush 8, 2, 0, 0, []),
  (21, .if_icmp .le 9, 3, 30, 0, []),
  (24, .aload_n 0, 1, 0, 0, []),
  (25, .iconst 1, 1, 0, 0, []),
  (26, .invokevirtual 93, 3, 59, 4, [661, 1]),
  (29, .ireturn, 1, 0, 0, []),
  (30, .aload_n 0, 1, 0, 0, []),
  (31, .aload_n 0, 1, 0, 0, []),
  (32, .getfield 39, 3, 4, 4, [330]),
  (35, .invokevirtual 101, 3, 58, 4, [665, 1]),
  (38, .ifCond .eq 12, 3, 50, 0, []),
  (41, .aload_n 0, 1, 0, 0, []),
  (42, .bipush 61, 2, 0, 0, []),
  (44, .invokevirtual 101, 3, 58, 4, [665, 1]),
  (47, .ifCond .ne 5, 3, 52, 0, []),
  (50, .iconst 0, 1, 0, 0, []),
  (51, .ireturn, 1, 0, 0, []),
  (52, .aload_n 0, 1, 0, 0, []),
  (53, .getfield 32, 3, 4, 2, [328, 1]),
  (56, .iload_n 1, 1, 0, 0, []),
  (57, .invokevirtual 165, 3, 37, 2, [758, 1]),
  (60, .iconst 0, 1, 0, 0, []),
  (61, .istore_n 2, 1, 0, 0, []),
  (62, .aload_n 0, 1, 0, 0, []),
  (63, .getfield 39, 3, 4, 4, [330]),
  (66, .bipush 12, 2, 0, 0, []),
  (68, .if_icmp .ne 34, 3, 102, 0, []),
  (71, .iload_n 2, 1, 0, 0, []),
  (72, .iconst 4, 1, 0, 0, []),
  (73, .if_icmp .gt 29, 3, 102, 0, []),
  (76, .iload_n 2, 1, 0, 0, []),
  (77, .iconst 4, 1, 0, 0, []),
  (78, .if_icmp .ne 9, 3, 87, 0, []),
  (81, .aload_n 0, 1, 0, 0, []),
  (82, .iconst 2, 1, 0, 0, []),
  (83, .invokevirtual 93, 3, 59, 4, [661, 1]),
  (86, .ireturn, 1, 0, 0, []),
  (87, .aload_n 0, 1, 0, 0, []),
  (88, .invokevirtual 169, 3, 70, 4, [759, 0]),
  (91, .ifCond .ne 5, 3, 96, 0, []),
  (94, .iconst 0, 1, 0, 0, []),
  (95, .ireturn, 1, 0, 0, []),
  (96, .iinc 2 1, 3, 0, 0, []),
  (99, .goto (-37), 3, 62, 0, []),
  (102, .aload_n 0, 1, 0, 0, []),
  (103, .iconst 0, 1, 0, 0, []),
  (104, .invokevirtual 172, 3, 71, 4, [763, 1]),
  (107, .ifCond .ne 5, 3, 112, 0, []),
  (110, .iconst 0, 1, 0, 0, []),
  (111, .ireturn, 1, 0, 0, []),
  (112, .aload_n 0, 1, 0, 0, []),
  (113, .getfield 32, 3, 4, 2, [328, 1]),
  (116, .iconst 3, 1, 0, 0, []),
  (117, .iconst 0, 1, 0, 0, []),
  (118, .invokevirtual 175, 3, 38, 2, [771, 2]),
  (121, .pop, 1, 0, 0, []),
  (122, .aload_n 0, 1, 0, 0, []),
  (123, .bipush 59, 2, 0, 0, []),
  (125, .invokevirtual 101, 3, 58, 4, [665, 1]),
  (128, .ireturn, 1, 0, 0, [])]
def mX4_readLaw : ab_M := (yX4_readLaw, cX4_readLaw, 3, (some (FieldType.boolean)), 0, 0, 1, kX4_readLaw)
def kX4_readIf : List ab_I := [(0, .aload_n 0, 1, 0, 0, []),
  (1, .bipush 12, 2, 0, 0, []),
  (3, .invokevirtual 101, 3, 58, 4, [665, 1]),
  (6, .ifCond .eq 37, 3, 43, 0, []),
  (9, .aload_n 0, 1, 0, 0, []),
  (10, .iconst 0, 1, 0, 0, []),
  (11, .invokevirtual 172, 3, 71, 4, [763, 1]),
  (14, .ifCond .eq 29, 3, 43, 0, []),
  (17, .aload_n 0, 1, 0, 0, []),
  (18, .bipush 60, 2, 0, 0, []),
  (20, .invokevirtual 101, 3, 58, 4, [665, 1]),
  (23, .ifCond .eq 20, 3, 43, 0, []),
  (26, .aload_n 0, 1, 0, 0, []),
  (27, .iconst 0, 1, 0, 0, []),
  (28, .invokevirtual 172, 3, 71, 4, [763, 1]),
  (31, .ifCond .eq 12, 3, 43, 0, []),
  (34, .aload_n 0, 1, 0, 0, []),
  (35, .bipush 13, 2, 0, 0, []),
  (37, .invokevirtual 101, 3, 58, 4, [665, 1]),
  (40, .ifCond .ne 5, 3, 45, 0, []),
  (43, .iconst 0, 1, 0, 0, []),
  (44, .ireturn, 1, 0, 0, []),
  (45, .aload_n 0, 1, 0, 0, []),
  (46, .getfield 32, 3, 4, 2, [328, 1]),
  (49, .iconst 2, 1, 0, 0, []),
  (50, .iconst 0, 1, 0, 0, []),
  (51, .invokevirtual 175, 3, 38, 2, [771, 2]),
  (54, .istore_n 1, 1, 0, 0, []),
  (55, .aload_n 0, 1, 0, 0, []),
  (56, .iconst 0, 1, 0, 0, []),
  (57, .invokevirtual 172, 3, 71, 4, [763, 1]),
  (60, .ifCond .ne 5, 3, 65, 0, []),
  (63, .iconst 0, 1, 0, 0, []),
  (64, .ireturn, 1, 0, 0, []),
  (65, .aload_n 0, 1, 0, 0, []),
  (66, .getfield 32, 3, 4, 2, [328, 1]),
  (69, .iconst 3, 1, 0, 0, []),
  (70, .iconst 0, 1, 0, 0, []),
  (71, .invokevirtual 175, 3, 38, 2, [771, 2]),
  (74, .pop, 1, 0, 0, []),
  (75, .aload_n 0, 1, 0, 0, []),
  (76, .getfield 32, 3, 4, 2, [328, 1]),
  (79, .iload_n 1, 1, 0, 0, []),
  (80, .invokevirtual 178, 3, 39, 2, [772, 1]),
  (83, .aload_n 0, 1, 0, 0, []),
  (84, .bipush 14, 2, 0, 0, []),
  (86, .invokevirtual 101, 3, 58, 4, [665, 1]),
  (89, .ireturn, 1, 0, 0, [])]
def mX4_readIf : ab_M := (yX4_readIf, cX4_readIf, 2, (some (FieldType.boolean)), 0, 0, 1, kX4_readIf)
def kX4_readSum : List ab_I := [(0, .iconst (-1), 1, 0, 0, []),
  (1, .istore_n 2, 1, 0, 0, []),
  (2, .iconst 0, 1, 0, 0, []),
  (3, .istore_n 3, 1, 0, 0, []),
  (4, .iload_n 3, 1, 0, 0, []),
  (5, .sipush 400, 3, 0, 0, []),
  (8, .if_icmp .gt 140, 3, 148, 0, []),
  (11, .aload_n 0, 1, 0, 0, []),
  (12, .iload_n 1, 1, 0, 0, []),
  (13, .invokevirtual 181, 3, 72, 4, [767, 1]),
  (16, .ifCond .ne 5, 3, 21, 0, []),
  (19, .iconst 0, 1, 0, 0, []),
  (20, .ireturn, 1, 0, 0, []),
  (21, .iconst 0, 1, 0, 0, []),
  (22, .istore 4, 2, 0, 0, []),
  (24, .aload_n 0, 1, 0, 0, []),
  (25, .getfield 39, 3, 4, 4, [330]),
  (28, .bipush 42, 2, 0, 0, []),
  (30, .if_icmp .eq 12, 3, 42, 0, []),
  (33, .aload_n 0, 1, 0, 0, []),
  (34, .getfield 39, 3, 4, 4, [330]),
  (37, .bipush 47, 2, 0, 0, []),
  (39, .if_icmp .ne 53, 3, 92, 0, []),
  (42, .iload 4, 2, 0, 0, []),
  (44, .sipush 400, 3, 0, 0, []),
  (47, .if_icmp .gt 45, 3, 92, 0, []),
  (50, .aload_n 0, 1, 0, 0, []),
  (51, .getfield 39, 3, 4, 4, [330]),
  (54, .istore 5, 2, 0, 0, []),
  (56, .aload_n 0, 1, 0, 0, []),
  (57, .iload 5, 2, 0, 0, []),
  (59, .invokevirtual 101, 3, 58, 4, [665, 1]),
  (62, .ifCond .eq 11, 3, 73, 0, []),
  (65, .aload_n 0, 1, 0, 0, []),
  (66, .iload_n 1, 1, 0, 0, []),
  (67, .invokevirtual 181, 3, 72, 4, [767, 1]),
  (70, .ifCond .ne 5, 3, 75, 0, []),
  (73, .iconst 0, 1, 0, 0, []),
  (74, .ireturn, 1, 0, 0, []),
  (75, .aload_n 0, 1, 0, 0, []),
  (76, .getfield 32, 3, 4, 2, [328, 1]),
  (79, .iload 5, 2, 0, 0, []),
  (81, .iconst 0, 1, 0, 0, []),
  (82, .invokevirtual 175, 3, 38, 2, [771, 2]),
  (85, .pop, 1, 0, 0, []),
  (86, .iinc 4 1, 3, 0, 0, []),
  (89, .goto (-65), 3, 24, 0, []),
  (92, .iload_n 2, 1, 0, 0, []),
  (93, .iconst (-1), 1, 0, 0, []),
  (94, .if_icmp .eq 13, 3, 107, 0, []),
  (97, .aload_n 0, 1, 0, 0, []),
  (98, .getfield 32, 3, 4, 2, [328, 1]),
  (101, .iload_n 2, 1, 0, 0, []),
  (102, .iconst 0, 1, 0, 0, []),
  (103, .invokevirtual 175, 3, 38, 2, [771, 2]),
  (106, .pop, 1, 0, 0, []),
  (107, .aload_n 0, 1, 0, 0, []),
  (108, .getfield 39, 3, 4, 4, [330]),
  (111, .bipush 43, 2, 0, 0, []),
  (113, .if_icmp .eq 14, 3, 127, 0, []),
  (116, .aload_n 0, 1, 0, 0, []),
  (117, .getfield 39, 3, 4, 4, [330]),
  (120, .bipush 45, 2, 0, 0, []),
  (122, .if_icmp .eq 5, 3, 127, 0, []),
  (125, .iconst 1, 1, 0, 0, []),
  (126, .ireturn, 1, 0, 0, []),
  (127, .aload_n 0, 1, 0, 0, []),
  (128, .getfield 39, 3, 4, 4, [330]),
  (131, .istore_n 2, 1, 0, 0, []),
  (132, .aload_n 0, 1, 0, 0, []),
  (133, .iload_n 2, 1, 0, 0, []),
  (134, .invokevirtual 101, 3, 58, 4, [665, 1]),
  (137, .ifCond .ne 5, 3, 142, 0, []),
  (140, .iconst 0, 1, 0, 0, []),
  (141, .ireturn, 1, 0, 0, []),
  (142, .iinc 3 1, 3, 0, 0, []),
  (145, .goto (-141), 3, 4, 0, []),
  (148, .aload_n 0, 1, 0, 0, []),
  (149, .iconst 2, 1, 0, 0, []),
  (150, .invokevirtual 93, 3, 59, 4, [661, 1]),
  (153, .ireturn, 1, 0, 0, [])]
def mX4_readSum : ab_M := (yX4_readSum, cX4_readSum, 6, (some (FieldType.boolean)), 0, 0, 1, kX4_readSum)
def kX4_readUnit : List ab_I := [(0, .aload_n 0, 1, 0, 0, []),
  (1, .getfield 39, 3, 4, 4, [330]),
  (4, .bipush 40, 2, 0, 0, []),
  (6, .if_icmp .ne 49, 3, 55, 0, []),
  (9, .iload_n 1, 1, 0, 0, []),
  (10, .bipush 6, 2, 0, 0, []),
  (12, .if_icmp .lt 9, 3, 21, 0, []),
  (15, .aload_n 0, 1, 0, 0, []),
  (16, .iconst 2, 1, 0, 0, []),
  (17, .invokevirtual 93, 3, 59, 4, [661, 1]),
  (20, .ireturn, 1, 0, 0, []),
  (21, .aload_n 0, 1, 0, 0, []),
  (22, .bipush 40, 2, 0, 0, []),
  (24, .invokevirtual 101, 3, 58, 4, [665, 1]),
  (27, .ifCond .eq 26, 3, 53, 0, []),
  (30, .aload_n 0, 1, 0, 0, []),
  (31, .iload_n 1, 1, 0, 0, []),
  (32, .iconst 1, 1, 0, 0, []),
  (33, .iadd, 1, 0, 0, []),
  (34, .invokevirtual 172, 3, 71, 4, [763, 1]),
  (37, .ifCond .eq 16, 3, 53, 0, []),
  (40, .aload_n 0, 1, 0, 0, []),
  (41, .bipush 41, 2, 0, 0, []),
  (43, .invokevirtual 101, 3, 58, 4, [665, 1]),
  (46, .ifCond .eq 7, 3, 53, 0, []),
  (49, .iconst 1, 1, 0, 0, []),
  (50, .goto 4, 3, 54, 0, []),
  (53, .iconst 0, 1, 0, 0, []),
  (54, .ireturn, 1, 0, 0, []),
  (55, .aload_n 0, 1, 0, 0, []),
  (56, .getfield 39, 3, 4, 4, [330]),
  (59, .bipush 25, 2, 0, 0, []),
  (61, .if_icmp .ne 31, 3, 92, 0, []),
  (64, .aload_n 0, 1, 0, 0, []),
  (65, .getfield 32, 3, 4, 2, [328, 1]),
  (68, .iconst 0, 1, 0, 0, []),
  (69, .aload_n 0, 1, 0, 0, []),
  (70, .getfield 12, 3, 4, 0, [326, 1]),
  (73, .aload_n 0, 1, 0, 0, []),
  (74, .getfield 74, 3, 4, 3, [329]),
  (77, .invokevirtual 108, 3, 123, 8, [673, 1]),
  (80, .l2i, 1, 0, 0, []),
  (81, .invokevirtual 175, 3, 38, 2, [771, 2]),
  (84, .pop, 1, 0, 0, []),
  (85, .aload_n 0, 1, 0, 0, []),
  (86, .bipush 25, 2, 0, 0, []),
  (88, .invokevirtual 101, 3, 58, 4, [665, 1]),
  (91, .ireturn, 1, 0, 0, []),
  (92, .aload_n 0, 1, 0, 0, []),
  (93, .getfield 39, 3, 4, 4, [330]),
  (96, .bipush 15, 2, 0, 0, []),
  (98, .if_icmp .lt 37, 3, 135, 0, []),
  (101, .aload_n 0, 1, 0, 0, []),
  (102, .getfield 39, 3, 4, 4, [330]),
  (105, .bipush 24, 2, 0, 0, []),
  (107, .if_icmp .ge 28, 3, 135, 0, []),
  (110, .aload_n 0, 1, 0, 0, []),
  (111, .getfield 32, 3, 4, 2, [328, 1]),
  (114, .iconst 1, 1, 0, 0, []),
  (115, .aload_n 0, 1, 0, 0, []),
  (116, .getfield 39, 3, 4, 4, [330]),
  (119, .bipush 15, 2, 0, 0, []),
  (121, .isub, 1, 0, 0, []),
  (122, .invokevirtual 175, 3, 38, 2, [771, 2]),
  (125, .pop, 1, 0, 0, []),
  (126, .aload_n 0, 1, 0, 0, []),
  (127, .aload_n 0, 1, 0, 0, []),
  (128, .getfield 39, 3, 4, 4, [330]),
  (131, .invokevirtual 101, 3, 58, 4, [665, 1]),
  (134, .ireturn, 1, 0, 0, []),
  (135, .aload_n 0, 1, 0, 0, []),
  (136, .iconst 1, 1, 0, 0, []),
  (137, .invokevirtual 93, 3, 59, 4, [661, 1]),
  (140, .ireturn, 1, 0, 0, [])]
def mX4_readUnit : ab_M := (yX4_readUnit, cX4_readUnit, 2, (some (FieldType.boolean)), 0, 0, 1, kX4_readUnit)
def kX5_init : List ab_I := [(0, .aload_n 0, 1, 0, 0, []),
  (1, .invokespecial 5, 3, 0, 0, [359]),
  (4, .aload_n 0, 1, 0, 0, []),
  (5, .bipush 55, 2, 0, 0, []),
  (7, .newarray .int, 2, 0, 0, []),
  (9, .putfield 11, 3, 5, 0, [360, 1, 1]),
  (12, .return_, 1, 0, 0, [])]
def mX5_init : ab_M := (yX5_init, cX5_init, 1, none, 1, 55, 2, kX5_init)
def kX5_get : List ab_I := [(0, .iload_n 1, 1, 0, 0, []),
  (1, .ifCond .lt 18, 3, 19, 0, []),
  (4, .iload_n 1, 1, 0, 0, []),
  (5, .bipush 55, 2, 0, 0, []),
  (7, .if_icmp .ge 12, 3, 19, 0, []),
  (10, .aload_n 0, 1, 0, 0, []),
  (11, .getfield 11, 3, 5, 0, [360, 1]),
  (14, .iload_n 1, 1, 0, 0, []),
  (15, .iaload, 1, 0, 0, []),
  (16, .goto 4, 3, 20, 0, []),
  (19, .iconst 0, 1, 0, 0, []),
  (20, .ireturn, 1, 0, 0, [])]
def mX5_get : ab_M := (yX5_get, cX5_get, 2, (some (FieldType.int)), 0, 0, 1, kX5_get)
def kX5_set : List ab_I := [(0, .iload_n 1, 1, 0, 0, []),
  (1, .ifCond .lt 16, 3, 17, 0, []),
  (4, .iload_n 1, 1, 0, 0, []),
  (5, .bipush 55, 2, 0, 0, []),
  (7, .if_icmp .ge 10, 3, 17, 0, []),
  (10, .aload_n 0, 1, 0, 0, []),
  (11, .getfield 11, 3, 5, 0, [360, 1]),
  (14, .iload_n 1, 1, 0, 0, []),
  (15, .iload_n 2, 1, 0, 0, []),
  (16, .iastore, 1, 0, 0, []),
  (17, .return_, 1, 0, 0, [])]
def mX5_set : ab_M := (yX5_set, cX5_set, 3, none, 0, 0, 1, kX5_set)
def kX5_add : List ab_I := [(0, .iload_n 1, 1, 0, 0, []),
  (1, .ifCond .lt 19, 3, 20, 0, []),
  (4, .iload_n 1, 1, 0, 0, []),
  (5, .bipush 55, 2, 0, 0, []),
  (7, .if_icmp .ge 13, 3, 20, 0, []),
  (10, .aload_n 0, 1, 0, 0, []),
  (11, .getfield 11, 3, 5, 0, [360, 1]),
  (14, .iload_n 1, 1, 0, 0, []),
  (15, .dup2, 1, 0, 0, []),
  (16, .iaload, 1, 0, 0, []),
  (17, .iload_n 2, 1, 0, 0, []),
  (18, .iadd, 1, 0, 0, []),
  (19, .iastore, 1, 0, 0, []),
  (20, .return_, 1, 0, 0, [])]
def mX5_add : ab_M := (yX5_add, cX5_add, 3, none, 0, 0, 1, kX5_add)
def kX5_total : List ab_I := [(0, .iconst 0, 1, 0, 0, []),
  (1, .istore_n 3, 1, 0, 0, []),
  (2, .iconst 0, 1, 0, 0, []),
  (3, .istore 4, 2, 0, 0, []),
  (5, .iload 4, 2, 0, 0, []),
  (7, .iload_n 2, 1, 0, 0, []),
  (8, .if_icmp .ge 20, 3, 28, 0, []),
  (11, .iload_n 3, 1, 0, 0, []),
  (12, .aload_n 0, 1, 0, 0, []),
  (13, .iload_n 1, 1, 0, 0, []),
  (14, .iload 4, 2, 0, 0, []),
  (16, .iadd, 1, 0, 0, []),
  (17, .invokevirtual 15, 3, 74, 5, [464, 1]),
  (20, .iadd, 1, 0, 0, []),
  (21, .istore_n 3, 1, 0, 0, []),
  (22, .iinc 4 1, 3, 0, 0, []),
  (25, .goto (-20), 3, 5, 0, []),
  (28, .iload_n 3, 1, 0, 0, []),
  (29, .ireturn, 1, 0, 0, [])]
def mX5_total : ab_M := (yX5_total, cX5_total, 5, (some (FieldType.int)), 0, 0, 1, kX5_total)
def kX5_move : List ab_I := [(0, .iconst 1, 1, 0, 0, []),
  (1, .iload_n 1, 1, 0, 0, []),
  (2, .ishl, 1, 0, 0, []),
  (3, .istore_n 3, 1, 0, 0, []),
  (4, .aload_n 0, 1, 0, 0, []),
  (5, .bipush 24, 2, 0, 0, []),
  (7, .iload_n 1, 1, 0, 0, []),
  (8, .iadd, 1, 0, 0, []),
  (9, .invokevirtual 15, 3, 74, 5, [464, 1]),
  (12, .istore 4, 2, 0, 0, []),
  (14, .iload 4, 2, 0, 0, []),
  (16, .iconst 0, 1, 0, 0, []),
  (17, .iconst 5, 1, 0, 0, []),
  (18, .invokestatic 19, 3, 180, 0, [468, 3, 1]),
  (21, .ifCond .eq 25, 3, 46, 0, []),
  (24, .aload_n 0, 1, 0, 0, []),
  (25, .bipush 18, 2, 0, 0, []),
  (27, .iload 4, 2, 0, 0, []),
  (29, .iadd, 1, 0, 0, []),
  (30, .aload_n 0, 1, 0, 0, []),
  (31, .bipush 18, 2, 0, 0, []),
  (33, .iload 4, 2, 0, 0, []),
  (35, .iadd, 1, 0, 0, []),
  (36, .invokevirtual 15, 3, 74, 5, [464, 1]),
  (39, .iload_n 3, 1, 0, 0, []),
  (40, .iconst (-1), 1, 0, 0, []),
  (41, .ixor, 1, 0, 0, []),
  (42, .iand, 1, 0, 0, []),
  (43, .invokevirtual 23, 3, 75, 5, [471, 2]),
  (46, .iload_n 2, 1, 0, 0, []),
  (47, .iconst 0, 1, 0, 0, []),
  (48, .iconst 5, 1, 0, 0, []),
  (49, .invokestatic 19, 3, 180, 0, [468, 3, 1]),
  (52, .ifCond .eq 21, 3, 73, 0, []),
  (55, .aload_n 0, 1, 0, 0, []),
  (56, .bipush 18, 2, 0, 0, []),
  (58, .iload_n 2, 1, 0, 0, []),
  (59, .iadd, 1, 0, 0, []),
  (60, .aload_n 0, 1, 0, 0, []),
  (61, .bipush 18, 2, 0, 0, []),
  (63, .iload_n 2, 1, 0, 0, []),
  (64, .iadd, 1, 0, 0, []),
  (65, .invokevirtual 15, 3, 74, 5, [464, 1]),
  (68, .iload_n 3, 1, 0, 0, []),
  (69, .ior, 1, 0, 0, []),
  (70, .invokevirtual 23, 3, 75, 5, [471, 2]),
  (73, .aload_n 0, 1, 0, 0, []),
  (74, .bipush 24, 2, 0, 0, []),
  (76, .iload_n 1, 1, 0, 0, []),
  (77, .iadd, 1, 0, 0, []),
  (78, .iload_n 2, 1, 0, 0, []),
  (79, .invokevirtual 23, 3, 75, 5, [471, 2]),
  (82, .return_, 1, 0, 0, [])]
def mX5_move : ab_M := (yX5_move, cX5_move, 5, none, 0, 0, 1, kX5_move)
def kX5_exchange : List ab_I := [(0, .aload_n 0, 1, 0, 0, []),
  (1, .bipush 24, 2, 0, 0, []),
  (3, .iload_n 1, 1, 0, 0, []),
  (4, .iadd, 1, 0, 0, []),
  (5, .invokevirtual 15, 3, 74, 5, [464, 1]),
  (8, .istore_n 3, 1, 0, 0, []),
  (9, .aload_n 0, 1, 0, 0, []),
  (10, .iload_n 1, 1, 0, 0, []),
  (11, .aload_n 0, 1, 0, 0, []),
  (12, .bipush 24, 2, 0, 0, []),
  (14, .iload_n 2, 1, 0, 0, []),
  (15, .iadd, 1, 0, 0, []),
  (16, .invokevirtual 15, 3, 74, 5, [464, 1]),
  (19, .invokevirtual 27, 3, 78, 5, [460, 2]),
  (22, .aload_n 0, 1, 0, 0, []),
  (23, .iload_n 2, 1, 0, 0, []),
  (24, .iload_n 3, 1, 0, 0, []),
  (25, .invokevirtual 27, 3, 78, 5, [460, 2]),
  (28, .return_, 1, 0, 0, [])]
def mX5_exchange : ab_M := (yX5_exchange, cX5_exchange, 4, none, 0, 0, 1, kX5_exchange)
def kX5_begin : List ab_I := [(0, .iconst 0, 1, 0, 0, []),
  (1, .istore_n 2, 1, 0, 0, []),
  (2, .iload_n 2, 1, 0, 0, []),
  (3, .bipush 55, 2, 0, 0, []),
  (5, .if_icmp .ge 16, 3, 21, 0, []),
  (8, .aload_n 0, 1, 0, 0, []),
  (9, .getfield 11, 3, 5, 0, [360, 1]),
  (12, .iload_n 2, 1, 0, 0, []),
  (13, .iconst 0, 1, 0, 0, []),
  (14, .iastore, 1, 0, 0, []),
  (15, .iinc 2 1, 3, 0, 0, []),
  (18, .goto (-16), 3, 2, 0, []),
  (21, .iconst 0, 1, 0, 0, []),
  (22, .istore_n 2, 1, 0, 0, []),
  (23, .iload_n 2, 1, 0, 0, []),
  (24, .bipush 6, 2, 0, 0, []),
  (26, .if_icmp .ge 22, 3, 48, 0, []),
  (29, .aload_n 0, 1, 0, 0, []),
  (30, .getfield 11, 3, 5, 0, [360, 1]),
  (33, .iconst 0, 1, 0, 0, []),
  (34, .iload_n 2, 1, 0, 0, []),
  (35, .iadd, 1, 0, 0, []),
  (36, .aload_n 1, 1, 0, 0, []),
  (37, .iload_n 2, 1, 0, 0, []),
  (38, .invokevirtual 30, 3, 102, 7, [452, 1]),
  (41, .iastore, 1, 0, 0, []),
  (42, .iinc 2 1, 3, 0, 0, []),
  (45, .goto (-22), 3, 23, 0, []),
  (48, .iconst 0, 1, 0, 0, []),
  (49, .istore_n 2, 1, 0, 0, []),
  (50, .iload_n 2, 1, 0, 0, []),
  (51, .bipush 6, 2, 0, 0, []),
  (53, .if_icmp .ge 29, 3, 82, 0, []),
  (56, .aload_n 0, 1, 0, 0, []),
  (57, .getfield 11, 3, 5, 0, [360, 1]),
  (60, .bipush 24, 2, 0, 0, []),
  (62, .iload_n 2, 1, 0, 0, []),
  (63, .iadd, 1, 0, 0, []),
  (64, .iconst (-1), 1, 0, 0, []),
  (65, .iastore, 1, 0, 0, []),
  (66, .aload_n 0, 1, 0, 0, []),
  (67, .iload_n 2, 1, 0, 0, []),
  (68, .aload_n 1, 1, 0, 0, []),
  (69, .iload_n 2, 1, 0, 0, []),
  (70, .invokevirtual 35, 3, 103, 7, [456, 1]),
  (73, .invokevirtual 27, 3, 78, 5, [460, 2]),
  (76, .iinc 2 1, 3, 0, 0, []),
  (79, .goto (-29), 3, 50, 0, []),
  (82, .return_, 1, 0, 0, [])]
def mX5_begin : ab_M := (yX5_begin, cX5_begin, 3, none, 0, 0, 1, kX5_begin)
def kX5_copyOf : List ab_I := [(0, .iconst 0, 1, 0, 0, []),
  (1, .istore_n 2, 1, 0, 0, []),
  (2, .iload_n 2, 1, 0, 0, []),
  (3, .bipush 55, 2, 0, 0, []),
  (5, .if_icmp .ge 21, 3, 26, 0, []),
  (8, .aload_n 0, 1, 0, 0, []),
  (9, .getfield 11, 3, 5, 0, [360, 1]),
  (12, .iload_n 2, 1, 0, 0, []),
  (13, .aload_n 1, 1, 0, 0, []),
  (14, .getfield 11, 3, 5, 0, [360, 1]),
  (17, .iload_n 2, 1, 0, 0, []),
  (18, .iaload, 1, 0, 0, []),
  (19, .iastore, 1, 0, 0, []),
  (20, .iinc 2 1, 3, 0, 0, []),
  (23, .goto (-21), 3, 2, 0, []),
  (26, .return_, 1, 0, 0, [])]
def mX5_copyOf : ab_M := (yX5_copyOf, cX5_copyOf, 3, none, 0, 0, 1, kX5_copyOf)
def kX5_writeTo : List ab_I := [(0, .iconst 0, 1, 0, 0, []),
  (1, .istore_n 3, 1, 0, 0, []),
  (2, .iload_n 3, 1, 0, 0, []),
  (3, .bipush 55, 2, 0, 0, []),
  (5, .if_icmp .ge 39, 3, 44, 0, []),
  (8, .iload_n 2, 1, 0, 0, []),
  (9, .bipush 55, 2, 0, 0, []),
  (11, .imul, 1, 0, 0, []),
  (12, .iload_n 3, 1, 0, 0, []),
  (13, .iadd, 1, 0, 0, []),
  (14, .istore 4, 2, 0, 0, []),
  (16, .iload 4, 2, 0, 0, []),
  (18, .ifCond .lt 20, 3, 38, 0, []),
  (21, .iload 4, 2, 0, 0, []),
  (23, .aload_n 1, 1, 0, 0, []),
  (24, .arraylength, 1, 0, 0, []),
  (25, .if_icmp .ge 13, 3, 38, 0, []),
  (28, .aload_n 1, 1, 0, 0, []),
  (29, .iload 4, 2, 0, 0, []),
  (31, .aload_n 0, 1, 0, 0, []),
  (32, .getfield 11, 3, 5, 0, [360, 1]),
  (35, .iload_n 3, 1, 0, 0, []),
  (36, .iaload, 1, 0, 0, []),
  (37, .iastore, 1, 0, 0, []),
  (38, .iinc 3 1, 3, 0, 0, []),
  (41, .goto (-39), 3, 2, 0, []),
  (44, .return_, 1, 0, 0, [])]
def mX5_writeTo : ab_M := (yX5_writeTo, cX5_writeTo, 5, none, 0, 0, 1, kX5_writeTo)
def kX5_readFrom : List ab_I := [(0, .iconst 0, 1, 0, 0, []),
  (1, .istore_n 3, 1, 0, 0, []),
  (2, .iload_n 3, 1, 0, 0, []),
  (3, .bipush 55, 2, 0, 0, []),
  (5, .if_icmp .ge 39, 3, 44, 0, []),
  (8, .iload_n 2, 1, 0, 0, []),
  (9, .bipush 55, 2, 0, 0, []),
  (11, .imul, 1, 0, 0, []),
  (12, .iload_n 3, 1, 0, 0, []),
  (13, .iadd, 1, 0, 0, []),
  (14, .istore 4, 2, 0, 0, []),
  (16, .iload 4, 2, 0, 0, []),
  (18, .ifCond .lt 20, 3, 38, 0, []),
  (21, .iload 4, 2, 0, 0, []),
  (23, .aload_n 1, 1, 0, 0, []),
  (24, .arraylength, 1, 0, 0, []),
  (25, .if_icmp .ge 13, 3, 38, 0, []),
  (28, .aload_n 0, 1, 0, 0, []),
  (29, .getfield 11, 3, 5, 0, [360, 1]),
  (32, .iload_n 3, 1, 0, 0, []),
  (33, .aload_n 1, 1, 0, 0, []),
  (34, .iload 4, 2, 0, 0, []),
  (36, .iaload, 1, 0, 0, []),
  (37, .iastore, 1, 0, 0, []),
  (38, .iinc 3 1, 3, 0, 0, []),
  (41, .goto (-39), 3, 2, 0, []),
  (44, .return_, 1, 0, 0, [])]
def mX5_readFrom : ab_M := (yX5_readFrom, cX5_readFrom, 5, none, 0, 0, 1, kX5_readFrom)
def kX6_init : List ab_I := [(0, .aload_n 0, 1, 0, 0, []),
  (1, .invokespecial 3, 3, 0, 0, [232]),
  (4, .aload_n 0, 1, 0, 0, []),
  (5, .sipush 2000, 3, 0, 0, []),
  (8, .newarray .byte, 2, 0, 0, []),
  (10, .putfield 9, 3, 6, 0, [233, 1, 1]),
  (13, .return_, 1, 0, 0, [])]
def mX6_init : ab_M := (yX6_init, cX6_init, 1, none, 1, 2000, 2, kX6_init)
def kX6_length : List ab_I := [(0, .aload_n 0, 1, 0, 0, []),
  (1, .getfield 15, 3, 6, 1, [234]),
  (4, .ireturn, 1, 0, 0, [])]
def mX6_length : ab_M := (yX6_length, cX6_length, 1, (some (FieldType.int)), 0, 0, 1, kX6_length)
def kX6_append : List ab_I := [(0, .bipush 24, 2, 0, 0, []),
  (2, .istore_n 2, 1, 0, 0, []),
  (3, .iload_n 2, 1, 0, 0, []),
  (4, .ifCond .lt 42, 3, 46, 0, []),
  (7, .aload_n 0, 1, 0, 0, []),
  (8, .getfield 15, 3, 6, 1, [234]),
  (11, .sipush 2000, 3, 0, 0, []),
  (14, .if_icmp .ge 32, 3, 46, 0, []),
  (17, .aload_n 0, 1, 0, 0, []),
  (18, .getfield 9, 3, 6, 0, [233, 1]),
  (21, .aload_n 0, 1, 0, 0, []),
  (22, .getfield 15, 3, 6, 1, [234]),
  (25, .iload_n 1, 1, 0, 0, []),
  (26, .iload_n 2, 1, 0, 0, []),
  (27, .iushr, 1, 0, 0, []),
  (28, .i2b, 1, 0, 0, []),
  (29, .bastore, 1, 0, 0, []),
  (30, .aload_n 0, 1, 0, 0, []),
  (31, .dup, 1, 0, 0, []),
  (32, .getfield 15, 3, 6, 1, [234]),
  (35, .iconst 1, 1, 0, 0, []),
  (36, .iadd, 1, 0, 0, []),
  (37, .putfield 15, 3, 6, 1, [234]),
  (40, .iinc 2 (-8), 3, 0, 0, []),
  (43, .goto (-40), 3, 3, 0, []),
  (46, .return_, 1, 0, 0, [])]
def mX6_append : ab_M := (yX6_append, cX6_append, 3, none, 0, 0, 1, kX6_append)
def kX6_cutTo : List ab_I := [(0, .iload_n 1, 1, 0, 0, []),
  (1, .iconst 0, 1, 0, 0, []),
  (2, .aload_n 0, 1, 0, 0, []),
  (3, .getfield 15, 3, 6, 1, [234]),
  (6, .invokestatic 19, 3, 180, 0, [535, 3, 1]),
  (9, .ifCond .eq 8, 3, 17, 0, []),
  (12, .aload_n 0, 1, 0, 0, []),
  (13, .iload_n 1, 1, 0, 0, []),
  (14, .putfield 15, 3, 6, 1, [234]),
  (17, .return_, 1, 0, 0, [])]
def mX6_cutTo : ab_M := (yX6_cutTo, cX6_cutTo, 2, none, 0, 0, 1, kX6_cutTo)
def kX6_at : List ab_I := [(0, .iload_n 1, 1, 0, 0, []),
  (1, .ifCond .lt 24, 3, 25, 0, []),
  (4, .iload_n 1, 1, 0, 0, []),
  (5, .aload_n 0, 1, 0, 0, []),
  (6, .getfield 15, 3, 6, 1, [234]),
  (9, .if_icmp .ge 16, 3, 25, 0, []),
  (12, .aload_n 0, 1, 0, 0, []),
  (13, .getfield 9, 3, 6, 0, [233, 1]),
  (16, .iload_n 1, 1, 0, 0, []),
  (17, .baload, 1, 0, 0, []),
  (18, .sipush 255, 3, 0, 0, []),
  (21, .iand, 1, 0, 0, []),
  (22, .goto 4, 3, 26, 0, []),
  (25, .iconst (-1), 1, 0, 0, []),
  (26, .ireturn, 1, 0, 0, [])]
def mX6_at : ab_M := (yX6_at, cX6_at, 2, (some (FieldType.int)), 0, 0, 1, kX6_at)
def kX7_init : List ab_I := [(0, .aload_n 0, 1, 0, 0, []),
  (1, .invokespecial 3, 3, 0, 0, [130]),
  (4, .aload_n 0, 1, 0, 0, []),
  (5, .new 9, 3, 2, 6, [131]),
  (8, .dup, 1, 0, 0, []),
  (9, .invokespecial 11, 3, 34, 0, [133, 0, 1]),
  (12, .putfield 12, 3, 7, 0, [177, 1, 1]),
  (15, .aload_n 0, 1, 0, 0, []),
  (16, .bipush 17, 2, 0, 0, []),
  (18, .newarray .long, 2, 0, 0, []),
  (20, .putfield 18, 3, 7, 1, [178, 1, 1]),
  (23, .aload_n 0, 1, 0, 0, []),
  (24, .bipush 6, 2, 0, 0, []),
  (26, .newarray .long, 2, 0, 0, []),
  (28, .putfield 22, 3, 7, 2, [179, 1, 1]),
  (31, .aload_n 0, 1, 0, 0, []),
  (32, .bipush 6, 2, 0, 0, []),
  (34, .newarray .int, 2, 0, 0, []),
  (36, .putfield 25, 3, 7, 3, [180, 1, 1]),
  (39, .aload_n 0, 1, 0, 0, []),
  (40, .bipush 36, 2, 0, 0, []),
  (42, .newarray .int, 2, 0, 0, []),
  (44, .putfield 29, 3, 7, 4, [181, 1, 1]),
  (47, .aload_n 0, 1, 0, 0, []),
  (48, .bipush 6, 2, 0, 0, []),
  (50, .newarray .int, 2, 0, 0, []),
  (52, .putfield 32, 3, 7, 5, [182, 1, 1]),
  (55, .aload_n 0, 1, 0, 0, []),
  (56, .iconst 5, 1, 0, 0, []),
  (57, .newarray .int, 2, 0, 0, []),
  (59, .putfield 35, 3, 7, 6, [183, 1, 1]),
  (62, .aload_n 0, 1, 0, 0, []),
  (63, .iconst 5, 1, 0, 0, []),
  (64, .newarray .int, 2, 0, 0, []),
  (66, .putfield 38, 3, 7, 7, [184, 1, 1]),
  (69, .aload_n 0, 1, 0, 0, []),
  (70, .iconst 5, 1, 0, 0, []),
  (71, .newarray .int, 2, 0, 0, []),
  (73, .putfield 41, 3, 7, 8, [185, 1, 1]),
  (76, .aload_n 0, 1, 0, 0, []),
  (77, .invokevirtual 44, 3, 90, 7, [157, 0]),
  (80, .return_, 1, 0, 0, [])]
def mX7_init : ab_M := (yX7_init, cX7_init, 1, none, 14, 966, 2, kX7_init)
def kX7_clear : List ab_I := [(0, .aload_n 0, 1, 0, 0, []),
  (1, .getfield 12, 3, 7, 0, [177, 1]),
  (4, .invokevirtual 47, 3, 35, 2, [161, 0]),
  (7, .aload_n 0, 1, 0, 0, []),
  (8, .iconst 0, 1, 0, 0, []),
  (9, .putfield 48, 3, 7, 9, [186]),
  (12, .aload_n 0, 1, 0, 0, []),
  (13, .iconst 0, 1, 0, 0, []),
  (14, .putfield 52, 3, 7, 10, [187]),
  (17, .aload_n 0, 1, 0, 0, []),
  (18, .iconst 0, 1, 0, 0, []),
  (19, .putfield 55, 3, 7, 11, [188]),
  (22, .aload_n 0, 1, 0, 0, []),
  (23, .iconst 0, 1, 0, 0, []),
  (24, .putfield 58, 3, 7, 12, [189]),
  (27, .aload_n 0, 1, 0, 0, []),
  (28, .iconst 0, 1, 0, 0, []),
  (29, .putfield 61, 3, 7, 13, [190]),
  (32, .aload_n 0, 1, 0, 0, []),
  (33, .iconst 0, 1, 0, 0, []),
  (34, .putfield 64, 3, 7, 14, [191]),
  (37, .aload_n 0, 1, 0, 0, []),
  (38, .iconst 0, 1, 0, 0, []),
  (39, .putfield 67, 3, 7, 15, [192]),
  (42, .iconst 0, 1, 0, 0, []),
  (43, .istore_n 1, 1, 0, 0, []),
  (44, .iload_n 1, 1, 0, 0, []),
  (45, .aload_n 0, 1, 0, 0, []),
  (46, .getfield 29, 3, 7, 4, [181, 1]),
  (49, .arraylength, 1, 0, 0, []),
  (50, .if_icmp .ge 33, 3, 83, 0, []),
  (53, .aload_n 0, 1, 0, 0, []),
  (54, .getfield 29, 3, 7, 4, [181, 1]),
  (57, .iload_n 1, 1, 0, 0, []),
  (58, .iload_n 1, 1, 0, 0, []),
  (59, .bipush 6, 2, 0, 0, []),
  (61, .idiv, 1, 0, 0, []),
  (62, .iload_n 1, 1, 0, 0, []),
  (63, .bipush 6, 2, 0, 0, []),
  (65, .irem, 1, 0, 0, []),
  (66, .if_icmp .ne 7, 3, 73, 0, []),
  (69, .iconst 0, 1, 0, 0, []),
  (70, .goto 6, 3, 76, 0, []),
  (73, .sipush 999, 3, 0, 0, []),
  (76, .iastore, 1, 0, 0, []),
  (77, .iinc 1 1, 3, 0, 0, []),
  (80, .goto (-36), 3, 44, 0, []),
  (83, .return_, 1, 0, 0, [])]
def mX7_clear : ab_M := (yX7_clear, cX7_clear, 2, none, 0, 0, 1, kX7_clear)
def kX7_laws : List ab_I := [(0, .aload_n 0, 1, 0, 0, []),
  (1, .getfield 12, 3, 7, 0, [177, 1]),
  (4, .areturn, 1, 0, 0, [])]
def mX7_laws : ab_M := (yX7_laws, cX7_laws, 1, (some (FieldType.object "SaintTheft$Laws")), 0, 0, 1, kX7_laws)
def kX7_churches : List ab_I := [(0, .aload_n 0, 1, 0, 0, []),
  (1, .getfield 52, 3, 7, 10, [187]),
  (4, .ireturn, 1, 0, 0, [])]
def mX7_churches : ab_M := (yX7_churches, cX7_churches, 1, (some (FieldType.int)), 0, 0, 1, kX7_churches)
def kX7_roads : List ab_I := [(0, .aload_n 0, 1, 0, 0, []),
  (1, .getfield 55, 3, 7, 11, [188]),
  (4, .ireturn, 1, 0, 0, [])]
def mX7_roads : ab_M := (yX7_roads, cX7_roads, 1, (some (FieldType.int)), 0, 0, 1, kX7_roads)
def kX7_relics : List ab_I := [(0, .aload_n 0, 1, 0, 0, []),
  (1, .getfield 58, 3, 7, 12, [189]),
  (4, .ireturn, 1, 0, 0, [])]
def mX7_relics : ab_M := (yX7_relics, cX7_relics, 1, (some (FieldType.int)), 0, 0, 1, kX7_relics)
def kX7_trueRelics : List ab_I := [(0, .aload_n 0, 1, 0, 0, []),
  (1, .getfield 61, 3, 7, 13, [190]),
  (4, .ireturn, 1, 0, 0, [])]
def mX7_trueRelics : ab_M := (yX7_trueRelics, cX7_trueRelics, 1, (some (FieldType.int)), 0, 0, 1, kX7_trueRelics)
def kX7_pilgrims : List ab_I := [(0, .aload_n 0, 1, 0, 0, []),
  (1, .getfield 64, 3, 7, 14, [191]),
  (4, .ireturn, 1, 0, 0, [])]
def mX7_pilgrims : ab_M := (yX7_pilgrims, cX7_pilgrims, 1, (some (FieldType.int)), 0, 0, 1, kX7_pilgrims)
def kX7_seed : List ab_I := [(0, .aload_n 0, 1, 0, 0, []),
  (1, .getfield 67, 3, 7, 15, [192]),
  (4, .ireturn, 1, 0, 0, [])]
def mX7_seed : ab_M := (yX7_seed, cX7_seed, 1, (some (FieldType.int)), 0, 0, 1, kX7_seed)
def kX7_hasChurch : List ab_I := [(0, .iload_n 1, 1, 0, 0, []),
  (1, .ifCond .lt 15, 3, 16, 0, []),
  (4, .iload_n 1, 1, 0, 0, []),
  (5, .aload_n 0, 1, 0, 0, []),
  (6, .getfield 52, 3, 7, 10, [187]),
  (9, .if_icmp .ge 7, 3, 16, 0, []),
  (12, .iconst 1, 1, 0, 0, []),
  (13, .goto 4, 3, 17, 0, []),
  (16, .iconst 0, 1, 0, 0, []),
  (17, .ireturn, 1, 0, 0, [])]
def mX7_hasChurch : ab_M := (yX7_hasChurch, cX7_hasChurch, 2, (some (FieldType.boolean)), 0, 0, 1, kX7_hasChurch)
def kX7_hasRelic : List ab_I := [(0, .iload_n 1, 1, 0, 0, []),
  (1, .ifCond .lt 15, 3, 16, 0, []),
  (4, .iload_n 1, 1, 0, 0, []),
  (5, .aload_n 0, 1, 0, 0, []),
  (6, .getfield 58, 3, 7, 12, [189]),
  (9, .if_icmp .ge 7, 3, 16, 0, []),
  (12, .iconst 1, 1, 0, 0, []),
  (13, .goto 4, 3, 17, 0, []),
  (16, .iconst 0, 1, 0, 0, []),
  (17, .ireturn, 1, 0, 0, [])]
def mX7_hasRelic : ab_M := (yX7_hasRelic, cX7_hasRelic, 2, (some (FieldType.boolean)), 0, 0, 1, kX7_hasRelic)
def kX7_hasPilgrim : List ab_I := [(0, .iload_n 1, 1, 0, 0, []),
  (1, .ifCond .lt 15, 3, 16, 0, []),
  (4, .iload_n 1, 1, 0, 0, []),
  (5, .aload_n 0, 1, 0, 0, []),
  (6, .getfield 64, 3, 7, 14, [191]),
  (9, .if_icmp .ge 7, 3, 16, 0, []),
  (12, .iconst 1, 1, 0, 0, []),
  (13, .goto 4, 3, 17, 0, []),
  (16, .iconst 0, 1, 0, 0, []),
  (17, .ireturn, 1, 0, 0, [])]
def mX7_hasPilgrim : ab_M := (yX7_hasPilgrim, cX7_hasPilgrim, 2, (some (FieldType.boolean)), 0, 0, 1, kX7_hasPilgrim)
def kX7_truth : List ab_I := [(0, .iload_n 1, 1, 0, 0, []),
  (1, .ifCond .lt 22, 3, 23, 0, []),
  (4, .iload_n 1, 1, 0, 0, []),
  (5, .aload_n 0, 1, 0, 0, []),
  (6, .getfield 58, 3, 7, 12, [189]),
  (9, .if_icmp .ge 14, 3, 23, 0, []),
  (12, .aload_n 0, 1, 0, 0, []),
  (13, .getfield 61, 3, 7, 13, [190]),
  (16, .iload_n 1, 1, 0, 0, []),
  (17, .ishr, 1, 0, 0, []),
  (18, .iconst 1, 1, 0, 0, []),
  (19, .iand, 1, 0, 0, []),
  (20, .goto 4, 3, 24, 0, []),
  (23, .iconst 0, 1, 0, 0, []),
  (24, .ireturn, 1, 0, 0, [])]
def mX7_truth : ab_M := (yX7_truth, cX7_truth, 2, (some (FieldType.int)), 0, 0, 1, kX7_truth)
def kX7_watchersOf : List ab_I := [(0, .iload_n 1, 1, 0, 0, []),
  (1, .ifCond .lt 20, 3, 21, 0, []),
  (4, .iload_n 1, 1, 0, 0, []),
  (5, .aload_n 0, 1, 0, 0, []),
  (6, .getfield 52, 3, 7, 10, [187]),
  (9, .if_icmp .ge 12, 3, 21, 0, []),
  (12, .aload_n 0, 1, 0, 0, []),
  (13, .getfield 25, 3, 7, 3, [180, 1]),
  (16, .iload_n 1, 1, 0, 0, []),
  (17, .iaload, 1, 0, 0, []),
  (18, .goto 4, 3, 22, 0, []),
  (21, .iconst 0, 1, 0, 0, []),
  (22, .ireturn, 1, 0, 0, [])]
def mX7_watchersOf : ab_M := (yX7_watchersOf, cX7_watchersOf, 2, (some (FieldType.int)), 0, 0, 1, kX7_watchersOf)
def kX7_churchOf : List ab_I := [(0, .iload_n 1, 1, 0, 0, []),
  (1, .ifCond .lt 20, 3, 21, 0, []),
  (4, .iload_n 1, 1, 0, 0, []),
  (5, .aload_n 0, 1, 0, 0, []),
  (6, .getfield 58, 3, 7, 12, [189]),
  (9, .if_icmp .ge 12, 3, 21, 0, []),
  (12, .aload_n 0, 1, 0, 0, []),
  (13, .getfield 32, 3, 7, 5, [182, 1]),
  (16, .iload_n 1, 1, 0, 0, []),
  (17, .iaload, 1, 0, 0, []),
  (18, .goto 4, 3, 22, 0, []),
  (21, .iconst (-1), 1, 0, 0, []),
  (22, .ireturn, 1, 0, 0, [])]
def mX7_churchOf : ab_M := (yX7_churchOf, cX7_churchOf, 2, (some (FieldType.int)), 0, 0, 1, kX7_churchOf)
def kX7_home : List ab_I := [(0, .iload_n 1, 1, 0, 0, []),
  (1, .ifCond .lt 20, 3, 21, 0, []),
  (4, .iload_n 1, 1, 0, 0, []),
  (5, .aload_n 0, 1, 0, 0, []),
  (6, .getfield 64, 3, 7, 14, [191]),
  (9, .if_icmp .ge 12, 3, 21, 0, []),
  (12, .aload_n 0, 1, 0, 0, []),
  (13, .getfield 35, 3, 7, 6, [183, 1]),
  (16, .iload_n 1, 1, 0, 0, []),
  (17, .iaload, 1, 0, 0, []),
  (18, .goto 4, 3, 22, 0, []),
  (21, .iconst (-1), 1, 0, 0, []),
  (22, .ireturn, 1, 0, 0, [])]
def mX7_home : ab_M := (yX7_home, cX7_home, 2, (some (FieldType.int)), 0, 0, 1, kX7_home)
def kX7_needOf : List ab_I := [(0, .iload_n 1, 1, 0, 0, []),
  (1, .ifCond .lt 20, 3, 21, 0, []),
  (4, .iload_n 1, 1, 0, 0, []),
  (5, .aload_n 0, 1, 0, 0, []),
  (6, .getfield 64, 3, 7, 14, [191]),
  (9, .if_icmp .ge 12, 3, 21, 0, []),
  (12, .aload_n 0, 1, 0, 0, []),
  (13, .getfield 38, 3, 7, 7, [184, 1]),
  (16, .iload_n 1, 1, 0, 0, []),
  (17, .iaload, 1, 0, 0, []),
  (18, .goto 4, 3, 22, 0, []),
  (21, .iconst 0, 1, 0, 0, []),
  (22, .ireturn, 1, 0, 0, [])]
def mX7_needOf : ab_M := (yX7_needOf, cX7_needOf, 2, (some (FieldType.int)), 0, 0, 1, kX7_needOf)
def kX7_giftOf : List ab_I := [(0, .iload_n 1, 1, 0, 0, []),
  (1, .ifCond .lt 20, 3, 21, 0, []),
  (4, .iload_n 1, 1, 0, 0, []),
  (5, .aload_n 0, 1, 0, 0, []),
  (6, .getfield 64, 3, 7, 14, [191]),
  (9, .if_icmp .ge 12, 3, 21, 0, []),
  (12, .aload_n 0, 1, 0, 0, []),
  (13, .getfield 41, 3, 7, 8, [185, 1]),
  (16, .iload_n 1, 1, 0, 0, []),
  (17, .iaload, 1, 0, 0, []),
  (18, .goto 4, 3, 22, 0, []),
  (21, .iconst 0, 1, 0, 0, []),
  (22, .ireturn, 1, 0, 0, [])]
def mX7_giftOf : ab_M := (yX7_giftOf, cX7_giftOf, 2, (some (FieldType.int)), 0, 0, 1, kX7_giftOf)
def kX7_far : List ab_I := [(0, .iload_n 1, 1, 0, 0, []),
  (1, .ifCond .lt 27, 3, 28, 0, []),
  (4, .iload_n 1, 1, 0, 0, []),
  (5, .aload_n 0, 1, 0, 0, []),
  (6, .getfield 52, 3, 7, 10, [187]),
  (9, .if_icmp .ge 19, 3, 28, 0, []),
  (12, .iload_n 2, 1, 0, 0, []),
  (13, .ifCond .lt 15, 3, 28, 0, []),
  (16, .iload_n 2, 1, 0, 0, []),
  (17, .aload_n 0, 1, 0, 0, []),
  (18, .getfield 52, 3, 7, 10, [187]),
  (21, .if_icmp .ge 7, 3, 28, 0, []),
  (24, .iconst 1, 1, 0, 0, []),
  (25, .goto 4, 3, 29, 0, []),
  (28, .iconst 0, 1, 0, 0, []),
  (29, .istore_n 3, 1, 0, 0, []),
  (30, .iload_n 3, 1, 0, 0, []),
  (31, .ifCond .eq 17, 3, 48, 0, []),
  (34, .aload_n 0, 1, 0, 0, []),
  (35, .getfield 29, 3, 7, 4, [181, 1]),
  (38, .iload_n 1, 1, 0, 0, []),
  (39, .bipush 6, 2, 0, 0, []),
  (41, .imul, 1, 0, 0, []),
  (42, .iload_n 2, 1, 0, 0, []),
  (43, .iadd, 1, 0, 0, []),
  (44, .iaload, 1, 0, 0, []),
  (45, .goto 6, 3, 51, 0, []),
  (48, .sipush 999, 3, 0, 0, []),
  (51, .ireturn, 1, 0, 0, [])]
def mX7_far : ab_M := (yX7_far, cX7_far, 4, (some (FieldType.int)), 0, 0, 1, kX7_far)
def kX7_churchNamed : List ab_I := [(0, .iconst 0, 1, 0, 0, []),
  (1, .istore_n 3, 1, 0, 0, []),
  (2, .iload_n 3, 1, 0, 0, []),
  (3, .aload_n 0, 1, 0, 0, []),
  (4, .getfield 52, 3, 7, 10, [187]),
  (7, .if_icmp .ge 22, 3, 29, 0, []),
  (10, .aload_n 0, 1, 0, 0, []),
  (11, .getfield 22, 3, 7, 2, [179, 1]),
  (14, .iload_n 3, 1, 0, 0, []),
  (15, .laload, 1, 0, 0, []),
  (16, .lload_n 1, 1, 0, 0, []),
  (17, .lcmp, 1, 0, 0, []),
  (18, .ifCond .ne 5, 3, 23, 0, []),
  (21, .iload_n 3, 1, 0, 0, []),
  (22, .ireturn, 1, 0, 0, []),
  (23, .iinc 3 1, 3, 0, 0, []),
  (26, .goto (-24), 3, 2, 0, []),
  (29, .iconst (-1), 1, 0, 0, []),
  (30, .ireturn, 1, 0, 0, [])]
def mX7_churchNamed : ab_M := (yX7_churchNamed, cX7_churchNamed, 4, (some (FieldType.int)), 0, 0, 1, kX7_churchNamed)
def kX7_addName : List ab_I := [(0, .iconst 0, 1, 0, 0, []),
  (1, .istore_n 3, 1, 0, 0, []),
  (2, .iload_n 3, 1, 0, 0, []),
  (3, .aload_n 0, 1, 0, 0, []),
  (4, .getfield 48, 3, 7, 9, [186]),
  (7, .if_icmp .ge 22, 3, 29, 0, []),
  (10, .aload_n 0, 1, 0, 0, []),
  (11, .getfield 18, 3, 7, 1, [178, 1]),
  (14, .iload_n 3, 1, 0, 0, []),
  (15, .laload, 1, 0, 0, []),
  (16, .lload_n 1, 1, 0, 0, []),
  (17, .lcmp, 1, 0, 0, []),
  (18, .ifCond .ne 5, 3, 23, 0, []),
  (21, .iconst 0, 1, 0, 0, []),
  (22, .ireturn, 1, 0, 0, []),
  (23, .iinc 3 1, 3, 0, 0, []),
  (26, .goto (-24), 3, 2, 0, []),
  (29, .aload_n 0, 1, 0, 0, []),
  (30, .getfield 48, 3, 7, 9, [186]),
  (33, .bipush 17, 2, 0, 0, []),
  (35, .if_icmp .ge 23, 3, 58, 0, []),
  (38, .aload_n 0, 1, 0, 0, []),
  (39, .getfield 18, 3, 7, 1, [178, 1]),
  (42, .aload_n 0, 1, 0, 0, []),
  (43, .getfield 48, 3, 7, 9, [186]),
  (46, .lload_n 1, 1, 0, 0, []),
  (47, .lastore, 1, 0, 0, []),
  (48, .aload_n 0, 1, 0, 0, []),
  (49, .dup, 1, 0, 0, []),
  (50, .getfield 48, 3, 7, 9, [186]),
  (53, .iconst 1, 1, 0, 0, []),
  (54, .iadd, 1, 0, 0, []),
  (55, .putfield 48, 3, 7, 9, [186]),
  (58, .iconst 1, 1, 0, 0, []),
  (59, .ireturn, 1, 0, 0, [])]
def mX7_addName : ab_M := (yX7_addName, cX7_addName, 4, (some (FieldType.boolean)), 0, 0, 1, kX7_addName)
def kX7_addChurch : List ab_I := [(0, .aload_n 0, 1, 0, 0, []),
  (1, .getfield 52, 3, 7, 10, [187]),
  (4, .bipush 6, 2, 0, 0, []),
  (6, .if_icmp .ge 33, 3, 39, 0, []),
  (9, .aload_n 0, 1, 0, 0, []),
  (10, .getfield 22, 3, 7, 2, [179, 1]),
  (13, .aload_n 0, 1, 0, 0, []),
  (14, .getfield 52, 3, 7, 10, [187]),
  (17, .lload_n 1, 1, 0, 0, []),
  (18, .lastore, 1, 0, 0, []),
  (19, .aload_n 0, 1, 0, 0, []),
  (20, .getfield 25, 3, 7, 3, [180, 1]),
  (23, .aload_n 0, 1, 0, 0, []),
  (24, .getfield 52, 3, 7, 10, [187]),
  (27, .iload_n 3, 1, 0, 0, []),
  (28, .iastore, 1, 0, 0, []),
  (29, .aload_n 0, 1, 0, 0, []),
  (30, .dup, 1, 0, 0, []),
  (31, .getfield 52, 3, 7, 10, [187]),
  (34, .iconst 1, 1, 0, 0, []),
  (35, .iadd, 1, 0, 0, []),
  (36, .putfield 52, 3, 7, 10, [187]),
  (39, .return_, 1, 0, 0, [])]
def mX7_addChurch : ab_M := (yX7_addChurch, cX7_addChurch, 4, none, 0, 0, 1, kX7_addChurch)
def kX7_addRoad : List ab_I := [(0, .aload_n 0, 1, 0, 0, []),
  (1, .dup, 1, 0, 0, []),
  (2, .getfield 55, 3, 7, 11, [188]),
  (5, .iconst 1, 1, 0, 0, []),
  (6, .iadd, 1, 0, 0, []),
  (7, .putfield 55, 3, 7, 11, [188]),
  (10, .aload_n 0, 1, 0, 0, []),
  (11, .iload_n 1, 1, 0, 0, []),
  (12, .invokevirtual 70, 3, 98, 7, [718, 1]),
  (15, .ifCond .eq 35, 3, 50, 0, []),
  (18, .aload_n 0, 1, 0, 0, []),
  (19, .iload_n 2, 1, 0, 0, []),
  (20, .invokevirtual 70, 3, 98, 7, [718, 1]),
  (23, .ifCond .eq 27, 3, 50, 0, []),
  (26, .aload_n 0, 1, 0, 0, []),
  (27, .getfield 29, 3, 7, 4, [181, 1]),
  (30, .iload_n 1, 1, 0, 0, []),
  (31, .bipush 6, 2, 0, 0, []),
  (33, .imul, 1, 0, 0, []),
  (34, .iload_n 2, 1, 0, 0, []),
  (35, .iadd, 1, 0, 0, []),
  (36, .iload_n 3, 1, 0, 0, []),
  (37, .iastore, 1, 0, 0, []),
  (38, .aload_n 0, 1, 0, 0, []),
  (39, .getfield 29, 3, 7, 4, [181, 1]),
  (42, .iload_n 2, 1, 0, 0, []),
  (43, .bipush 6, 2, 0, 0, []),
  (45, .imul, 1, 0, 0, []),
  (46, .iload_n 1, 1, 0, 0, []),
  (47, .iadd, 1, 0, 0, []),
  (48, .iload_n 3, 1, 0, 0, []),
  (49, .iastore, 1, 0, 0, []),
  (50, .return_, 1, 0, 0, [])]
def mX7_addRoad : ab_M := (yX7_addRoad, cX7_addRoad, 4, none, 0, 0, 1, kX7_addRoad)
def kX7_addRelic : List ab_I := [(0, .aload_n 0, 1, 0, 0, []),
  (1, .getfield 58, 3, 7, 12, [189]),
  (4, .bipush 6, 2, 0, 0, []),
  (6, .if_icmp .ge 46, 3, 52, 0, []),
  (9, .aload_n 0, 1, 0, 0, []),
  (10, .getfield 32, 3, 7, 5, [182, 1]),
  (13, .aload_n 0, 1, 0, 0, []),
  (14, .getfield 58, 3, 7, 12, [189]),
  (17, .iload_n 1, 1, 0, 0, []),
  (18, .iastore, 1, 0, 0, []),
  (19, .aload_n 0, 1, 0, 0, []),
  (20, .dup, 1, 0, 0, []),
  (21, .getfield 61, 3, 7, 13, [190]),
  (24, .iload_n 2, 1, 0, 0, []),
  (25, .ifCond .eq 12, 3, 37, 0, []),
  (28, .iconst 1, 1, 0, 0, []),
  (29, .aload_n 0, 1, 0, 0, []),
  (30, .getfield 58, 3, 7, 12, [189]),
  (33, .ishl, 1, 0, 0, []),
  (34, .goto 4, 3, 38, 0, []),
  (37, .iconst 0, 1, 0, 0, []),
  (38, .ior, 1, 0, 0, []),
  (39, .putfield 61, 3, 7, 13, [190]),
  (42, .aload_n 0, 1, 0, 0, []),
  (43, .dup, 1, 0, 0, []),
  (44, .getfield 58, 3, 7, 12, [189]),
  (47, .iconst 1, 1, 0, 0, []),
  (48, .iadd, 1, 0, 0, []),
  (49, .putfield 58, 3, 7, 12, [189]),
  (52, .return_, 1, 0, 0, [])]
def mX7_addRelic : ab_M := (yX7_addRelic, cX7_addRelic, 3, none, 0, 0, 1, kX7_addRelic)
def kX7_addPilgrim : List ab_I := [(0, .aload_n 0, 1, 0, 0, []),
  (1, .getfield 64, 3, 7, 14, [191]),
  (4, .iconst 5, 1, 0, 0, []),
  (5, .if_icmp .ge 43, 3, 48, 0, []),
  (8, .aload_n 0, 1, 0, 0, []),
  (9, .getfield 35, 3, 7, 6, [183, 1]),
  (12, .aload_n 0, 1, 0, 0, []),
  (13, .getfield 64, 3, 7, 14, [191]),
  (16, .iload_n 1, 1, 0, 0, []),
  (17, .iastore, 1, 0, 0, []),
  (18, .aload_n 0, 1, 0, 0, []),
  (19, .getfield 38, 3, 7, 7, [184, 1]),
  (22, .aload_n 0, 1, 0, 0, []),
  (23, .getfield 64, 3, 7, 14, [191]),
  (26, .iload_n 2, 1, 0, 0, []),
  (27, .iastore, 1, 0, 0, []),
  (28, .aload_n 0, 1, 0, 0, []),
  (29, .getfield 41, 3, 7, 8, [185, 1]),
  (32, .aload_n 0, 1, 0, 0, []),
  (33, .getfield 64, 3, 7, 14, [191]),
  (36, .iload_n 3, 1, 0, 0, []),
  (37, .iastore, 1, 0, 0, []),
  (38, .aload_n 0, 1, 0, 0, []),
  (39, .dup, 1, 0, 0, []),
  (40, .getfield 64, 3, 7, 14, [191]),
  (43, .iconst 1, 1, 0, 0, []),
  (44, .iadd, 1, 0, 0, []),
  (45, .putfield 64, 3, 7, 14, [191]),
  (48, .return_, 1, 0, 0, [])]
def mX7_addPilgrim : ab_M := (yX7_addPilgrim, cX7_addPilgrim, 4, none, 0, 0, 1, kX7_addPilgrim)
def kX7_sow : List ab_I := [(0, .aload_n 0, 1, 0, 0, []),
  (1, .iload_n 1, 1, 0, 0, []),
  (2, .putfield 67, 3, 7, 15, [192]),
  (5, .return_, 1, 0, 0, [])]
def mX7_sow : ab_M := (yX7_sow, cX7_sow, 2, none, 0, 0, 1, kX7_sow)
def kX7_joinRoads : List ab_I := [(0, .iconst 0, 1, 0, 0, []),
  (1, .istore_n 1, 1, 0, 0, []),
  (2, .iload_n 1, 1, 0, 0, []),
  (3, .aload_n 0, 1, 0, 0, []),
  (4, .getfield 52, 3, 7, 10, [187]),
  (7, .if_icmp .ge 80, 3, 87, 0, []),
  (10, .iconst 0, 1, 0, 0, []),
  (11, .istore_n 2, 1, 0, 0, []),
  (12, .iload_n 2, 1, 0, 0, []),
  (13, .aload_n 0, 1, 0, 0, []),
  (14, .getfield 52, 3, 7, 10, [187]),
  (17, .if_icmp .ge 64, 3, 81, 0, []),
  (20, .iconst 0, 1, 0, 0, []),
  (21, .istore_n 3, 1, 0, 0, []),
  (22, .iload_n 3, 1, 0, 0, []),
  (23, .aload_n 0, 1, 0, 0, []),
  (24, .getfield 52, 3, 7, 10, [187]),
  (27, .if_icmp .ge 48, 3, 75, 0, []),
  (30, .aload_n 0, 1, 0, 0, []),
  (31, .iload_n 2, 1, 0, 0, []),
  (32, .iload_n 1, 1, 0, 0, []),
  (33, .invokevirtual 74, 3, 107, 7, [784, 2]),
  (36, .aload_n 0, 1, 0, 0, []),
  (37, .iload_n 1, 1, 0, 0, []),
  (38, .iload_n 3, 1, 0, 0, []),
  (39, .invokevirtual 74, 3, 107, 7, [784, 2]),
  (42, .iadd, 1, 0, 0, []),
  (43, .istore 4, 2, 0, 0, []),
  (45, .iload 4, 2, 0, 0, []),
  (47, .aload_n 0, 1, 0, 0, []),
  (48, .iload_n 2, 1, 0, 0, []),
  (49, .iload_n 3, 1, 0, 0, []),
  (50, .invokevirtual 74, 3, 107, 7, [784, 2]),
  (53, .if_icmp .ge 16, 3, 69, 0, []),
  (56, .aload_n 0, 1, 0, 0, []),
  (57, .getfield 29, 3, 7, 4, [181, 1]),
  (60, .iload_n 2, 1, 0, 0, []),
  (61, .bipush 6, 2, 0, 0, []),
  (63, .imul, 1, 0, 0, []),
  (64, .iload_n 3, 1, 0, 0, []),
  (65, .iadd, 1, 0, 0, []),
  (66, .iload 4, 2, 0, 0, []),
  (68, .iastore, 1, 0, 0, []),
  (69, .iinc 3 1, 3, 0, 0, []),
  (72, .goto (-50), 3, 22, 0, []),
  (75, .iinc 2 1, 3, 0, 0, []),
  (78, .goto (-66), 3, 12, 0, []),
  (81, .iinc 1 1, 3, 0, 0, []),
  (84, .goto (-82), 3, 2, 0, []),
  (87, .return_, 1, 0, 0, [])]
def mX7_joinRoads : ab_M := (yX7_joinRoads, cX7_joinRoads, 5, none, 0, 0, 1, kX7_joinRoads)
def kX8_init : List ab_I := [(0, .aload_n 0, 1, 0, 0, []),
  (1, .invokespecial 3, 3, 0, 0, [252]),
  (4, .aload_n 0, 1, 0, 0, []),
  (5, .bipush 24, 2, 0, 0, []),
  (7, .newarray .long, 2, 0, 0, []),
  (9, .putfield 9, 3, 8, 0, [306, 1, 1]),
  (12, .aload_n 0, 1, 0, 0, []),
  (13, .sipush 402, 3, 0, 0, []),
  (16, .newarray .int, 2, 0, 0, []),
  (18, .putfield 15, 3, 8, 1, [307, 1, 1]),
  (21, .aload_n 0, 1, 0, 0, []),
  (22, .sipush 402, 3, 0, 0, []),
  (25, .newarray .int, 2, 0, 0, []),
  (27, .putfield 19, 3, 8, 2, [308, 1, 1]),
  (30, .aload_n 0, 1, 0, 0, []),
  (31, .sipush 402, 3, 0, 0, []),
  (34, .newarray .long, 2, 0, 0, []),
  (36, .putfield 22, 3, 8, 3, [309, 1, 1]),
  (39, .lconst 0, 1, 0, 0, []),
  (40, .lstore_n 1, 1, 0, 0, []),
  (41, .iconst 0, 1, 0, 0, []),
  (42, .istore_n 3, 1, 0, 0, []),
  (43, .iconst 0, 1, 0, 0, []),
  (44, .istore 4, 2, 0, 0, []),
  (46, .iload 4, 2, 0, 0, []),
  (48, .ldc 25, 2, 1000001, 0, [253, 1]),
  (50, .invokevirtual 27, 3, 302, 90, [254, 0]),
  (53, .if_icmp .ge 54, 3, 107, 0, []),
  (56, .iload_n 3, 1, 0, 0, []),
  (57, .bipush 24, 2, 0, 0, []),
  (59, .if_icmp .ge 48, 3, 107, 0, []),
  (62, .ldc 25, 2, 1000001, 0, [253, 1]),
  (64, .iload 4, 2, 0, 0, []),
  (66, .invokevirtual 33, 3, 303, 90, [264, 1]),
  (69, .bipush 32, 2, 0, 0, []),
  (71, .if_icmp .ne 18, 3, 89, 0, []),
  (74, .aload_n 0, 1, 0, 0, []),
  (75, .getfield 9, 3, 8, 0, [306, 1]),
  (78, .iload_n 3, 1, 0, 0, []),
  (79, .lload_n 1, 1, 0, 0, []),
  (80, .lastore, 1, 0, 0, []),
  (81, .iinc 3 1, 3, 0, 0, []),
  (84, .lconst 0, 1, 0, 0, []),
  (85, .lstore_n 1, 1, 0, 0, []),
  (86, .goto 15, 3, 101, 0, []),
  (89, .lload_n 1, 1, 0, 0, []),
  (90, .ldc 25, 2, 1000001, 0, [253, 1]),
  (92, .iload 4, 2, 0, 0, []),
  (94, .invokevirtual 33, 3, 303, 90, [264, 1]),
  (97, .invokestatic 37, 3, 117, 0, [302, 2]),
  (100, .lstore_n 1, 1, 0, 0, []),
  (101, .iinc 4 1, 3, 0, 0, []),
  (104, .goto (-58), 3, 46, 0, []),
  (107, .return_, 1, 0, 0, [])]
def mX8_init : ab_M := (yX8_init, cX8_init, 5, none, 4, 1230, 2, kX8_init)
def kX8_withLetter : List ab_I := [(0, .lload_n 0, 1, 0, 0, []),
  (1, .ldc2_w 41, 3, 32, 0, [305]),
  (4, .lmul, 1, 0, 0, []),
  (5, .iload_n 2, 1, 0, 0, []),
  (6, .bipush 97, 2, 0, 0, []),
  (8, .isub, 1, 0, 0, []),
  (9, .iconst 1, 1, 0, 0, []),
  (10, .iadd, 1, 0, 0, []),
  (11, .i2l, 1, 0, 0, []),
  (12, .ladd, 1, 0, 0, []),
  (13, .lreturn, 1, 0, 0, [])]
def mX8_withLetter : ab_M := (yX8_withLetter, cX8_withLetter, 3, (some (FieldType.long)), 0, 0, 0, kX8_withLetter)
def kX8_isLetter : List ab_I := [(0, .iload_n 0, 1, 0, 0, []),
  (1, .bipush 97, 2, 0, 0, []),
  (3, .if_icmp .lt 13, 3, 16, 0, []),
  (6, .iload_n 0, 1, 0, 0, []),
  (7, .bipush 122, 2, 0, 0, []),
  (9, .if_icmp .gt 7, 3, 16, 0, []),
  (12, .iconst 1, 1, 0, 0, []),
  (13, .goto 4, 3, 17, 0, []),
  (16, .iconst 0, 1, 0, 0, []),
  (17, .ireturn, 1, 0, 0, [])]
def mX8_isLetter : ab_M := (yX8_isLetter, cX8_isLetter, 1, (some (FieldType.boolean)), 0, 0, 0, kX8_isLetter)
def kX8_isDigit : List ab_I := [(0, .iload_n 0, 1, 0, 0, []),
  (1, .bipush 48, 2, 0, 0, []),
  (3, .if_icmp .lt 13, 3, 16, 0, []),
  (6, .iload_n 0, 1, 0, 0, []),
  (7, .bipush 57, 2, 0, 0, []),
  (9, .if_icmp .gt 7, 3, 16, 0, []),
  (12, .iconst 1, 1, 0, 0, []),
  (13, .goto 4, 3, 17, 0, []),
  (16, .iconst 0, 1, 0, 0, []),
  (17, .ireturn, 1, 0, 0, [])]
def mX8_isDigit : ab_M := (yX8_isDigit, cX8_isDigit, 1, (some (FieldType.boolean)), 0, 0, 0, kX8_isDigit)
def kX8_isBlank : List ab_I := [(0, .iload_n 0, 1, 0, 0, []),
  (1, .bipush 32, 2, 0, 0, []),
  (3, .if_icmp .eq 21, 3, 24, 0, []),
  (6, .iload_n 0, 1, 0, 0, []),
  (7, .bipush 9, 2, 0, 0, []),
  (9, .if_icmp .eq 15, 3, 24, 0, []),
  (12, .iload_n 0, 1, 0, 0, []),
  (13, .bipush 10, 2, 0, 0, []),
  (15, .if_icmp .eq 9, 3, 24, 0, []),
  (18, .iload_n 0, 1, 0, 0, []),
  (19, .bipush 13, 2, 0, 0, []),
  (21, .if_icmp .ne 7, 3, 28, 0, []),
  (24, .iconst 1, 1, 0, 0, []),
  (25, .goto 4, 3, 29, 0, []),
  (28, .iconst 0, 1, 0, 0, []),
  (29, .ireturn, 1, 0, 0, [])]
def mX8_isBlank : ab_M := (yX8_isBlank, cX8_isBlank, 1, (some (FieldType.boolean)), 0, 0, 0, kX8_isBlank)
def kX8_kindAt : List ab_I := [(0, .iload_n 1, 1, 0, 0, []),
  (1, .ifCond .lt 20, 3, 21, 0, []),
  (4, .iload_n 1, 1, 0, 0, []),
  (5, .aload_n 0, 1, 0, 0, []),
  (6, .getfield 43, 3, 8, 4, [310]),
  (9, .if_icmp .ge 12, 3, 21, 0, []),
  (12, .aload_n 0, 1, 0, 0, []),
  (13, .getfield 15, 3, 8, 1, [307, 1]),
  (16, .iload_n 1, 1, 0, 0, []),
  (17, .iaload, 1, 0, 0, []),
  (18, .goto 5, 3, 23, 0, []),
  (21, .bipush 26, 2, 0, 0, []),
  (23, .ireturn, 1, 0, 0, [])]
def mX8_kindAt : ab_M := (yX8_kindAt, cX8_kindAt, 2, (some (FieldType.int)), 0, 0, 1, kX8_kindAt)
def kX8_placeAt : List ab_I := [(0, .iload_n 1, 1, 0, 0, []),
  (1, .ifCond .lt 20, 3, 21, 0, []),
  (4, .iload_n 1, 1, 0, 0, []),
  (5, .aload_n 0, 1, 0, 0, []),
  (6, .getfield 43, 3, 8, 4, [310]),
  (9, .if_icmp .ge 12, 3, 21, 0, []),
  (12, .aload_n 0, 1, 0, 0, []),
  (13, .getfield 19, 3, 8, 2, [308, 1]),
  (16, .iload_n 1, 1, 0, 0, []),
  (17, .iaload, 1, 0, 0, []),
  (18, .goto 4, 3, 22, 0, []),
  (21, .iconst (-1), 1, 0, 0, []),
  (22, .ireturn, 1, 0, 0, [])]
def mX8_placeAt : ab_M := (yX8_placeAt, cX8_placeAt, 2, (some (FieldType.int)), 0, 0, 1, kX8_placeAt)
def kX8_valueAt : List ab_I := [(0, .iload_n 1, 1, 0, 0, []),
  (1, .ifCond .lt 20, 3, 21, 0, []),
  (4, .iload_n 1, 1, 0, 0, []),
  (5, .aload_n 0, 1, 0, 0, []),
  (6, .getfield 43, 3, 8, 4, [310]),
  (9, .if_icmp .ge 12, 3, 21, 0, []),
  (12, .aload_n 0, 1, 0, 0, []),
  (13, .getfield 22, 3, 8, 3, [309, 1]),
  (16, .iload_n 1, 1, 0, 0, []),
  (17, .laload, 1, 0, 0, []),
  (18, .goto 4, 3, 22, 0, []),
  (21, .lconst 0, 1, 0, 0, []),
  (22, .lreturn, 1, 0, 0, [])]
def mX8_valueAt : ab_M := (yX8_valueAt, cX8_valueAt, 2, (some (FieldType.long)), 0, 0, 1, kX8_valueAt)
def kX8_scan : List ab_I := [(0, .aload_n 0, 1, 0, 0, []),
  (1, .iconst 0, 1, 0, 0, []),
  (2, .putfield 43, 3, 8, 4, [310]),
  (5, .iconst 1, 1, 0, 0, []),
  (6, .istore_n 2, 1, 0, 0, []),
  (7, .iconst 0, 1, 0, 0, []),
  (8, .istore_n 3, 1, 0, 0, []),
  (9, .iload_n 3, 1, 0, 0, []),
  (10, .aload_n 1, 1, 0, 0, []),
  (11, .invokevirtual 47, 3, 85, 6, [552, 0]),
  (14, .if_icmp .ge 72, 3, 86, 0, []),
  (17, .iload_n 2, 1, 0, 0, []),
  (18, .ifCond .eq 68, 3, 86, 0, []),
  (21, .aload_n 1, 1, 0, 0, []),
  (22, .iload_n 3, 1, 0, 0, []),
  (23, .invokevirtual 50, 3, 88, 6, [553, 1]),
  (26, .istore 4, 2, 0, 0, []),
  (28, .iload 4, 2, 0, 0, []),
  (30, .invokestatic 54, 3, 120, 0, [557, 1]),
  (33, .ifCond .ne 47, 3, 80, 0, []),
  (36, .iload_n 3, 1, 0, 0, []),
  (37, .aload_n 0, 1, 0, 0, []),
  (38, .aload_n 1, 1, 0, 0, []),
  (39, .iload_n 3, 1, 0, 0, []),
  (40, .iload 4, 2, 0, 0, []),
  (42, .invokevirtual 58, 3, 125, 8, [560, 3]),
  (45, .invokestatic 62, 3, 299, 0, [646, 2]),
  (48, .istore_n 3, 1, 0, 0, []),
  (49, .aload_n 0, 1, 0, 0, []),
  (50, .getfield 43, 3, 8, 4, [310]),
  (53, .sipush 400, 3, 0, 0, []),
  (56, .if_icmp .gt 22, 3, 78, 0, []),
  (59, .aload_n 0, 1, 0, 0, []),
  (60, .aload_n 0, 1, 0, 0, []),
  (61, .getfield 43, 3, 8, 4, [310]),
  (64, .iconst 1, 1, 0, 0, []),
  (65, .isub, 1, 0, 0, []),
  (66, .invokevirtual 68, 3, 121, 8, [647, 1]),
  (69, .bipush 27, 2, 0, 0, []),
  (71, .if_icmp .eq 7, 3, 78, 0, []),
  (74, .iconst 1, 1, 0, 0, []),
  (75, .goto 4, 3, 79, 0, []),
  (78, .iconst 0, 1, 0, 0, []),
  (79, .istore_n 2, 1, 0, 0, []),
  (80, .iinc 3 1, 3, 0, 0, []),
  (83, .goto (-74), 3, 9, 0, []),
  (86, .iload_n 2, 1, 0, 0, []),
  (87, .ifCond .eq 14, 3, 101, 0, []),
  (90, .aload_n 0, 1, 0, 0, []),
  (91, .bipush 26, 2, 0, 0, []),
  (93, .aload_n 1, 1, 0, 0, []),
  (94, .invokevirtual 47, 3, 85, 6, [552, 0]),
  (97, .lconst 0, 1, 0, 0, []),
  (98, .invokevirtual 71, 3, 129, 8, [575, 3]),
  (101, .return_, 1, 0, 0, [])]
def mX8_scan : ab_M := (yX8_scan, cX8_scan, 5, none, 0, 0, 1, kX8_scan)
def kX8_addToken : List ab_I := [(0, .iload_n 3, 1, 0, 0, []),
  (1, .invokestatic 75, 3, 118, 0, [564, 1]),
  (4, .ifCond .eq 10, 3, 14, 0, []),
  (7, .aload_n 0, 1, 0, 0, []),
  (8, .aload_n 1, 1, 0, 0, []),
  (9, .iload_n 2, 1, 0, 0, []),
  (10, .invokevirtual 78, 3, 126, 8, [567, 2]),
  (13, .ireturn, 1, 0, 0, []),
  (14, .iload_n 3, 1, 0, 0, []),
  (15, .invokestatic 82, 3, 119, 0, [579, 1]),
  (18, .ifCond .eq 10, 3, 28, 0, []),
  (21, .aload_n 0, 1, 0, 0, []),
  (22, .aload_n 1, 1, 0, 0, []),
  (23, .iload_n 2, 1, 0, 0, []),
  (24, .invokevirtual 85, 3, 127, 8, [582, 2]),
  (27, .ireturn, 1, 0, 0, []),
  (28, .aload_n 0, 1, 0, 0, []),
  (29, .ldc 88, 2, 1000002, 0, [586, 1]),
  (31, .iload_n 3, 1, 0, 0, []),
  (32, .i2c, 1, 0, 0, []),
  (33, .invokevirtual 90, 3, 304, 90, [587, 1]),
  (36, .ifCond .lt 7, 3, 43, 0, []),
  (39, .iload_n 3, 1, 0, 0, []),
  (40, .goto 5, 3, 45, 0, []),
  (43, .bipush 27, 2, 0, 0, []),
  (45, .iload_n 2, 1, 0, 0, []),
  (46, .lconst 0, 1, 0, 0, []),
  (47, .invokevirtual 71, 3, 129, 8, [575, 3]),
  (50, .iload_n 2, 1, 0, 0, []),
  (51, .ireturn, 1, 0, 0, [])]
def mX8_addToken : ab_M := (yX8_addToken, cX8_addToken, 4, (some (FieldType.int)), 0, 0, 1, kX8_addToken)
def kX8_addLetters : List ab_I := [(0, .lconst 0, 1, 0, 0, []),
  (1, .lstore_n 3, 1, 0, 0, []),
  (2, .iload_n 2, 1, 0, 0, []),
  (3, .istore 5, 2, 0, 0, []),
  (5, .iload 5, 2, 0, 0, []),
  (7, .aload_n 1, 1, 0, 0, []),
  (8, .invokevirtual 47, 3, 85, 6, [552, 0]),
  (11, .if_icmp .ge 32, 3, 43, 0, []),
  (14, .aload_n 1, 1, 0, 0, []),
  (15, .iload 5, 2, 0, 0, []),
  (17, .invokevirtual 50, 3, 88, 6, [553, 1]),
  (20, .invokestatic 75, 3, 118, 0, [564, 1]),
  (23, .ifCond .eq 20, 3, 43, 0, []),
  (26, .lload_n 3, 1, 0, 0, []),
  (27, .aload_n 1, 1, 0, 0, []),
  (28, .iload 5, 2, 0, 0, []),
  (30, .invokevirtual 50, 3, 88, 6, [553, 1]),
  (33, .invokestatic 37, 3, 117, 0, [302, 2]),
  (36, .lstore_n 3, 1, 0, 0, []),
  (37, .iinc 5 1, 3, 0, 0, []),
  (40, .goto (-35), 3, 5, 0, []),
  (43, .aload_n 0, 1, 0, 0, []),
  (44, .iload 5, 2, 0, 0, []),
  (46, .iload_n 2, 1, 0, 0, []),
  (47, .isub, 1, 0, 0, []),
  (48, .bipush 8, 2, 0, 0, []),
  (50, .if_icmp .le 8, 3, 58, 0, []),
  (53, .bipush 27, 2, 0, 0, []),
  (55, .goto 8, 3, 63, 0, []),
  (58, .aload_n 0, 1, 0, 0, []),
  (59, .lload_n 3, 1, 0, 0, []),
  (60, .invokevirtual 93, 3, 128, 8, [571, 1]),
  (63, .iload_n 2, 1, 0, 0, []),
  (64, .lload_n 3, 1, 0, 0, []),
  (65, .invokevirtual 71, 3, 129, 8, [575, 3]),
  (68, .iload 5, 2, 0, 0, []),
  (70, .iconst 1, 1, 0, 0, []),
  (71, .isub, 1, 0, 0, []),
  (72, .ireturn, 1, 0, 0, [])]
def mX8_addLetters : ab_M := (yX8_addLetters, cX8_addLetters, 6, (some (FieldType.int)), 0, 0, 1, kX8_addLetters)
def kX8_addDigits : List ab_I := [(0, .iconst 0, 1, 0, 0, []),
  (1, .istore_n 3, 1, 0, 0, []),
  (2, .iload_n 2, 1, 0, 0, []),
  (3, .istore 4, 2, 0, 0, []),
  (5, .iload 4, 2, 0, 0, []),
  (7, .aload_n 1, 1, 0, 0, []),
  (8, .invokevirtual 47, 3, 85, 6, [552, 0]),
  (11, .if_icmp .ge 36, 3, 47, 0, []),
  (14, .aload_n 1, 1, 0, 0, []),
  (15, .iload 4, 2, 0, 0, []),
  (17, .invokevirtual 50, 3, 88, 6, [553, 1]),
  (20, .invokestatic 82, 3, 119, 0, [579, 1]),
  (23, .ifCond .eq 24, 3, 47, 0, []),
  (26, .iload_n 3, 1, 0, 0, []),
  (27, .bipush 10, 2, 0, 0, []),
  (29, .imul, 1, 0, 0, []),
  (30, .aload_n 1, 1, 0, 0, []),
  (31, .iload 4, 2, 0, 0, []),
  (33, .invokevirtual 50, 3, 88, 6, [553, 1]),
  (36, .bipush 48, 2, 0, 0, []),
  (38, .isub, 1, 0, 0, []),
  (39, .iadd, 1, 0, 0, []),
  (40, .istore_n 3, 1, 0, 0, []),
  (41, .iinc 4 1, 3, 0, 0, []),
  (44, .goto (-39), 3, 5, 0, []),
  (47, .aload_n 0, 1, 0, 0, []),
  (48, .iload 4, 2, 0, 0, []),
  (50, .iload_n 2, 1, 0, 0, []),
  (51, .isub, 1, 0, 0, []),
  (52, .iconst 4, 1, 0, 0, []),
  (53, .if_icmp .le 8, 3, 61, 0, []),
  (56, .bipush 27, 2, 0, 0, []),
  (58, .goto 5, 3, 63, 0, []),
  (61, .bipush 25, 2, 0, 0, []),
  (63, .iload_n 2, 1, 0, 0, []),
  (64, .iload_n 3, 1, 0, 0, []),
  (65, .i2l, 1, 0, 0, []),
  (66, .invokevirtual 71, 3, 129, 8, [575, 3]),
  (69, .iload 4, 2, 0, 0, []),
  (71, .iconst 1, 1, 0, 0, []),
  (72, .isub, 1, 0, 0, []),
  (73, .ireturn, 1, 0, 0, [])]
def mX8_addDigits : ab_M := (yX8_addDigits, cX8_addDigits, 5, (some (FieldType.int)), 0, 0, 1, kX8_addDigits)
def kX8_wordKind : List ab_I := [(0, .iconst 0, 1, 0, 0, []),
  (1, .istore_n 3, 1, 0, 0, []),
  (2, .iload_n 3, 1, 0, 0, []),
  (3, .bipush 24, 2, 0, 0, []),
  (5, .if_icmp .ge 22, 3, 27, 0, []),
  (8, .aload_n 0, 1, 0, 0, []),
  (9, .getfield 9, 3, 8, 0, [306, 1]),
  (12, .iload_n 3, 1, 0, 0, []),
  (13, .laload, 1, 0, 0, []),
  (14, .lload_n 1, 1, 0, 0, []),
  (15, .lcmp, 1, 0, 0, []),
  (16, .ifCond .ne 5, 3, 21, 0, []),
  (19, .iload_n 3, 1, 0, 0, []),
  (20, .ireturn, 1, 0, 0, []),
  (21, .iinc 3 1, 3, 0, 0, []),
  (24, .goto (-22), 3, 2, 0, []),
  (27, .bipush 24, 2, 0, 0, []),
  (29, .ireturn, 1, 0, 0, [])]
def mX8_wordKind : ab_M := (yX8_wordKind, cX8_wordKind, 4, (some (FieldType.int)), 0, 0, 1, kX8_wordKind)
def kX8_put : List ab_I := [(0, .aload_n 0, 1, 0, 0, []),
  (1, .getfield 43, 3, 8, 4, [310]),
  (4, .ifCond .lt 55, 3, 59, 0, []),
  (7, .aload_n 0, 1, 0, 0, []),
  (8, .getfield 43, 3, 8, 4, [310]),
  (11, .aload_n 0, 1, 0, 0, []),
  (12, .getfield 15, 3, 8, 1, [307, 1]),
  (15, .arraylength, 1, 0, 0, []),
  (16, .if_icmp .ge 43, 3, 59, 0, []),
  (19, .aload_n 0, 1, 0, 0, []),
  (20, .getfield 15, 3, 8, 1, [307, 1]),
  (23, .aload_n 0, 1, 0, 0, []),
  (24, .getfield 43, 3, 8, 4, [310]),
  (27, .iload_n 1, 1, 0, 0, []),
  (28, .iastore, 1, 0, 0, []),
  (29, .aload_n 0, 1, 0, 0, []),
  (30, .getfield 19, 3, 8, 2, [308, 1]),
  (33, .aload_n 0, 1, 0, 0, []),
  (34, .getfield 43, 3, 8, 4, [310]),
  (37, .iload_n 2, 1, 0, 0, []),
  (38, .iastore, 1, 0, 0, []),
  (39, .aload_n 0, 1, 0, 0, []),
  (40, .getfield 22, 3, 8, 3, [309, 1]),
  (43, .aload_n 0, 1, 0, 0, []),
  (44, .getfield 43, 3, 8, 4, [310]),
  (47, .lload_n 3, 1, 0, 0, []),
  (48, .lastore, 1, 0, 0, []),
  (49, .aload_n 0, 1, 0, 0, []),
  (50, .dup, 1, 0, 0, []),
  (51, .getfield 43, 3, 8, 4, [310]),
  (54, .iconst 1, 1, 0, 0, []),
  (55, .iadd, 1, 0, 0, []),
  (56, .putfield 43, 3, 8, 4, [310]),
  (59, .return_, 1, 0, 0, [])]
def mX8_put : ab_M := (yX8_put, cX8_put, 5, none, 0, 0, 1, kX8_put)
def kX9_init : List ab_I := [(0, .aload_n 0, 1, 0, 0, []),
  (1, .invokespecial 3, 3, 0, 0, [433]),
  (4, .aload_n 0, 1, 0, 0, []),
  (5, .bipush 20, 2, 0, 0, []),
  (7, .newarray .int, 2, 0, 0, []),
  (9, .putfield 9, 3, 9, 0, [434, 1, 1]),
  (12, .aload_n 0, 1, 0, 0, []),
  (13, .bipush 20, 2, 0, 0, []),
  (15, .newarray .boolean, 2, 0, 0, []),
  (17, .putfield 15, 3, 9, 1, [435, 1, 1]),
  (20, .return_, 1, 0, 0, [])]
def mX9_init : ab_M := (yX9_init, cX9_init, 1, none, 2, 40, 2, kX9_init)
def kX9_clear : List ab_I := [(0, .aload_n 0, 1, 0, 0, []),
  (1, .iconst 0, 1, 0, 0, []),
  (2, .putfield 19, 3, 9, 2, [436]),
  (5, .return_, 1, 0, 0, [])]
def mX9_clear : ab_M := (yX9_clear, cX9_clear, 1, none, 0, 0, 1, kX9_clear)
def kX9_size : List ab_I := [(0, .aload_n 0, 1, 0, 0, []),
  (1, .getfield 19, 3, 9, 2, [436]),
  (4, .ireturn, 1, 0, 0, [])]
def mX9_size : ab_M := (yX9_size, cX9_size, 1, (some (FieldType.int)), 0, 0, 1, kX9_size)
def kX9_add : List ab_I := [(0, .aload_n 0, 1, 0, 0, []),
  (1, .getfield 19, 3, 9, 2, [436]),
  (4, .bipush 20, 2, 0, 0, []),
  (6, .if_icmp .lt 5, 3, 11, 0, []),
  (9, .iconst (-1), 1, 0, 0, []),
  (10, .ireturn, 1, 0, 0, []),
  (11, .aload_n 0, 1, 0, 0, []),
  (12, .getfield 9, 3, 9, 0, [434, 1]),
  (15, .aload_n 0, 1, 0, 0, []),
  (16, .getfield 19, 3, 9, 2, [436]),
  (19, .iload_n 1, 1, 0, 0, []),
  (20, .iastore, 1, 0, 0, []),
  (21, .aload_n 0, 1, 0, 0, []),
  (22, .getfield 15, 3, 9, 1, [435, 1]),
  (25, .aload_n 0, 1, 0, 0, []),
  (26, .getfield 19, 3, 9, 2, [436]),
  (29, .iload_n 2, 1, 0, 0, []),
  (30, .bastore, 1, 0, 0, []),
  (31, .aload_n 0, 1, 0, 0, []),
  (32, .dup, 1, 0, 0, []),
  (33, .getfield 19, 3, 9, 2, [436]),
  (36, .iconst 1, 1, 0, 0, []),
  (37, .iadd, 1, 0, 0, []),
  (38, .putfield 19, 3, 9, 2, [436]),
  (41, .aload_n 0, 1, 0, 0, []),
  (42, .getfield 19, 3, 9, 2, [436]),
  (45, .iconst 1, 1, 0, 0, []),
  (46, .isub, 1, 0, 0, []),
  (47, .ireturn, 1, 0, 0, [])]
def mX9_add : ab_M := (yX9_add, cX9_add, 3, (some (FieldType.int)), 0, 0, 1, kX9_add)
def kX9_relicsLeft : List ab_I := [(0, .iconst 1, 1, 0, 0, []),
  (1, .iload_n 2, 1, 0, 0, []),
  (2, .ishl, 1, 0, 0, []),
  (3, .iconst 1, 1, 0, 0, []),
  (4, .isub, 1, 0, 0, []),
  (5, .istore 4, 2, 0, 0, []),
  (7, .iconst 0, 1, 0, 0, []),
  (8, .istore 5, 2, 0, 0, []),
  (10, .iload 5, 2, 0, 0, []),
  (12, .iload_n 1, 1, 0, 0, []),
  (13, .if_icmp .ge 55, 3, 68, 0, []),
  (16, .iload 5, 2, 0, 0, []),
  (18, .aload_n 0, 1, 0, 0, []),
  (19, .getfield 19, 3, 9, 2, [436]),
  (22, .if_icmp .ge 46, 3, 68, 0, []),
  (25, .aload_n 3, 1, 0, 0, []),
  (26, .aload_n 0, 1, 0, 0, []),
  (27, .getfield 9, 3, 9, 0, [434, 1]),
  (30, .iload 5, 2, 0, 0, []),
  (32, .iaload, 1, 0, 0, []),
  (33, .invokevirtual 23, 3, 3, 0, [1197, 1]),
  (36, .istore 6, 2, 0, 0, []),
  (38, .iload 4, 2, 0, 0, []),
  (40, .aload_n 0, 1, 0, 0, []),
  (41, .getfield 15, 3, 9, 1, [435, 1]),
  (44, .iload 5, 2, 0, 0, []),
  (46, .baload, 1, 0, 0, []),
  (47, .ifCond .eq 8, 3, 55, 0, []),
  (50, .iload 6, 2, 0, 0, []),
  (52, .goto 7, 3, 59, 0, []),
  (55, .iload 6, 2, 0, 0, []),
  (57, .iconst (-1), 1, 0, 0, []),
  (58, .ixor, 1, 0, 0, []),
  (59, .iand, 1, 0, 0, []),
  (60, .istore 4, 2, 0, 0, []),
  (62, .iinc 5 1, 3, 0, 0, []),
  (65, .goto (-55), 3, 10, 0, []),
  (68, .iload 4, 2, 0, 0, []),
  (70, .ireturn, 1, 0, 0, [])]
def mX9_relicsLeft : ab_M := (yX9_relicsLeft, cX9_relicsLeft, 7, (some (FieldType.int)), 0, 0, 1, kX9_relicsLeft)
def kX9_bestToAsk : List ab_I := [(0, .bipush (-2), 2, 0, 0, []),
  (2, .istore 4, 2, 0, 0, []),
  (4, .iconst 0, 1, 0, 0, []),
  (5, .istore 5, 2, 0, 0, []),
  (7, .iconst 0, 1, 0, 0, []),
  (8, .istore 6, 2, 0, 0, []),
  (10, .iload 6, 2, 0, 0, []),
  (12, .iload_n 2, 1, 0, 0, []),
  (13, .if_icmp .ge 56, 3, 69, 0, []),
  (16, .iload_n 1, 1, 0, 0, []),
  (17, .aload_n 3, 1, 0, 0, []),
  (18, .iload 6, 2, 0, 0, []),
  (20, .invokevirtual 23, 3, 3, 0, [1197, 1]),
  (23, .iand, 1, 0, 0, []),
  (24, .invokestatic 29, 3, 298, 0, [1209, 1]),
  (27, .istore 7, 2, 0, 0, []),
  (29, .iload 7, 2, 0, 0, []),
  (31, .iload_n 1, 1, 0, 0, []),
  (32, .invokestatic 29, 3, 298, 0, [1209, 1]),
  (35, .iload 7, 2, 0, 0, []),
  (37, .isub, 1, 0, 0, []),
  (38, .invokestatic 34, 3, 299, 0, [1210, 2]),
  (41, .istore 8, 2, 0, 0, []),
  (43, .iload 4, 2, 0, 0, []),
  (45, .ifCond .lt 10, 3, 55, 0, []),
  (48, .iload 8, 2, 0, 0, []),
  (50, .iload 5, 2, 0, 0, []),
  (52, .if_icmp .ge 11, 3, 63, 0, []),
  (55, .iload 6, 2, 0, 0, []),
  (57, .istore 4, 2, 0, 0, []),
  (59, .iload 8, 2, 0, 0, []),
  (61, .istore 5, 2, 0, 0, []),
  (63, .iinc 6 1, 3, 0, 0, []),
  (66, .goto (-56), 3, 10, 0, []),
  (69, .iload 4, 2, 0, 0, []),
  (71, .ireturn, 1, 0, 0, [])]
def mX9_bestToAsk : ab_M := (yX9_bestToAsk, cX9_bestToAsk, 9, (some (FieldType.int)), 0, 0, 1, kX9_bestToAsk)
def kX10_init : List ab_I := [(0, .aload_n 0, 1, 0, 0, []),
  (1, .invokespecial 3, 3, 0, 0, [122]),
  (4, .aload_n 0, 1, 0, 0, []),
  (5, .new 9, 3, 7, 16, [125]),
  (8, .dup, 1, 0, 0, []),
  (9, .invokespecial 11, 3, 89, 0, [127, 0]),
  (12, .putfield 12, 3, 10, 0, [487, 1, 1]),
  (15, .aload_n 0, 1, 0, 0, []),
  (16, .new 9, 3, 7, 16, [125]),
  (19, .dup, 1, 0, 0, []),
  (20, .invokespecial 11, 3, 89, 0, [127, 0]),
  (23, .putfield 16, 3, 10, 1, [488, 1, 1]),
  (26, .aload_n 0, 1, 0, 0, []),
  (27, .new 19, 3, 6, 2, [227]),
  (30, .dup, 1, 0, 0, []),
  (31, .invokespecial 21, 3, 84, 0, [229, 0, 1]),
  (34, .putfield 22, 3, 10, 2, [489, 1, 1]),
  (37, .aload_n 0, 1, 0, 0, []),
  (38, .new 26, 3, 4, 9, [241]),
  (41, .dup, 1, 0, 0, []),
  (42, .aload_n 0, 1, 0, 0, []),
  (43, .getfield 16, 3, 10, 1, [488, 1]),
  (46, .invokespecial 28, 3, 53, 0, [243, 1]),
  (49, .putfield 31, 3, 10, 3, [490, 1, 1]),
  (52, .aload_n 0, 1, 0, 0, []),
  (53, .new 35, 3, 5, 1, [354]),
  (56, .dup, 1, 0, 0, []),
  (57, .invokespecial 37, 3, 73, 0, [356, 0, 1]),
  (60, .putfield 38, 3, 10, 4, [491, 1, 1]),
  (63, .aload_n 0, 1, 0, 0, []),
  (64, .new 42, 3, 0, 4, [364]),
  (67, .dup, 1, 0, 0, []),
  (68, .aload_n 0, 1, 0, 0, []),
  (69, .getfield 12, 3, 10, 0, [487, 1]),
  (72, .invokespecial 44, 3, 0, 0, [366, 1]),
  (75, .putfield 45, 3, 10, 5, [492, 1, 1]),
  (78, .aload_n 0, 1, 0, 0, []),
  (79, .new 49, 3, 1, 4, [384]),
  (82, .dup, 1, 0, 0, []),
  (83, .aload_n 0, 1, 0, 0, []),
  (84, .getfield 45, 3, 10, 5, [492, 1]),
  (87, .aload_n 0, 1, 0, 0, []),
  (88, .getfield 38, 3, 10, 4, [491, 1]),
  (91, .invokespecial 51, 3, 21, 0, [386, 2]),
  (94, .putfield 54, 3, 10, 6, [493, 1, 1]),
  (97, .aload_n 0, 1, 0, 0, []),
  (98, .new 58, 3, 3, 5, [405]),
  (101, .dup, 1, 0, 0, []),
  (102, .invokespecial 60, 3, 45, 0, [407, 0, 1]),
  (105, .putfield 61, 3, 10, 7, [494, 1, 1]),
  (108, .aload_n 0, 1, 0, 0, []),
  (109, .new 65, 3, 9, 3, [428]),
  (112, .dup, 1, 0, 0, []),
  (113, .invokespecial 67, 3, 130, 0, [430, 0, 1]),
  (116, .putfield 68, 3, 10, 8, [495, 1, 1]),
  (119, .aload_n 0, 1, 0, 0, []),
  (120, .invokevirtual 72, 3, 140, 10, [444, 0]),
  (123, .return_, 1, 0, 0, [])]
def mX10_init : ab_M := (yX10_init, cX10_init, 1, none, 54, 7762, 2, kX10_init)
def kX10_feed : List ab_I := [(0, .aload_n 0, 1, 0, 0, []),
  (1, .getfield 22, 3, 10, 2, [489, 1]),
  (4, .invokevirtual 75, 3, 85, 6, [519, 0]),
  (7, .sipush 1980, 3, 0, 0, []),
  (10, .if_icmp .le 5, 3, 15, 0, []),
  (13, .iconst (-1), 1, 0, 0, []),
  (14, .ireturn, 1, 0, 0, []),
  (15, .aload_n 0, 1, 0, 0, []),
  (16, .getfield 22, 3, 10, 2, [489, 1]),
  (19, .iload_n 1, 1, 0, 0, []),
  (20, .invokevirtual 79, 3, 86, 6, [523, 1]),
  (23, .aload_n 0, 1, 0, 0, []),
  (24, .getfield 22, 3, 10, 2, [489, 1]),
  (27, .iload_n 2, 1, 0, 0, []),
  (28, .invokevirtual 79, 3, 86, 6, [523, 1]),
  (31, .aload_n 0, 1, 0, 0, []),
  (32, .getfield 22, 3, 10, 2, [489, 1]),
  (35, .iload_n 3, 1, 0, 0, []),
  (36, .invokevirtual 79, 3, 86, 6, [523, 1]),
  (39, .aload_n 0, 1, 0, 0, []),
  (40, .getfield 22, 3, 10, 2, [489, 1]),
  (43, .iload 4, 2, 0, 0, []),
  (45, .invokevirtual 79, 3, 86, 6, [523, 1]),
  (48, .aload_n 0, 1, 0, 0, []),
  (49, .getfield 22, 3, 10, 2, [489, 1]),
  (52, .iload 5, 2, 0, 0, []),
  (54, .invokevirtual 79, 3, 86, 6, [523, 1]),
  (57, .aload_n 0, 1, 0, 0, []),
  (58, .getfield 22, 3, 10, 2, [489, 1]),
  (61, .invokevirtual 75, 3, 85, 6, [519, 0]),
  (64, .ireturn, 1, 0, 0, [])]
def mX10_feed : ab_M := (yX10_feed, cX10_feed, 6, (some (FieldType.int)), 0, 0, 1, kX10_feed)
def kX10_back : List ab_I := [(0, .iload_n 1, 1, 0, 0, []),
  (1, .ifCond .lt 14, 3, 15, 0, []),
  (4, .iload_n 1, 1, 0, 0, []),
  (5, .aload_n 0, 1, 0, 0, []),
  (6, .getfield 22, 3, 10, 2, [489, 1]),
  (9, .invokevirtual 75, 3, 85, 6, [519, 0]),
  (12, .if_icmp .le 5, 3, 17, 0, []),
  (15, .iconst (-1), 1, 0, 0, []),
  (16, .ireturn, 1, 0, 0, []),
  (17, .aload_n 0, 1, 0, 0, []),
  (18, .getfield 22, 3, 10, 2, [489, 1]),
  (21, .aload_n 0, 1, 0, 0, []),
  (22, .getfield 22, 3, 10, 2, [489, 1]),
  (25, .invokevirtual 75, 3, 85, 6, [519, 0]),
  (28, .iload_n 1, 1, 0, 0, []),
  (29, .isub, 1, 0, 0, []),
  (30, .invokevirtual 83, 3, 87, 6, [531, 1]),
  (33, .aload_n 0, 1, 0, 0, []),
  (34, .getfield 22, 3, 10, 2, [489, 1]),
  (37, .invokevirtual 75, 3, 85, 6, [519, 0]),
  (40, .ireturn, 1, 0, 0, [])]
def mX10_back : ab_M := (yX10_back, cX10_back, 2, (some (FieldType.int)), 0, 0, 1, kX10_back)
def kX10_read : List ab_I := [(0, .aload_n 0, 1, 0, 0, []),
  (1, .getfield 31, 3, 10, 3, [490, 1]),
  (4, .aload_n 0, 1, 0, 0, []),
  (5, .getfield 16, 3, 10, 1, [488, 1]),
  (8, .aload_n 0, 1, 0, 0, []),
  (9, .getfield 22, 3, 10, 2, [489, 1]),
  (12, .invokevirtual 86, 3, 55, 4, [540, 2]),
  (15, .istore_n 1, 1, 0, 0, []),
  (16, .aload_n 0, 1, 0, 0, []),
  (17, .getfield 22, 3, 10, 2, [489, 1]),
  (20, .iconst 0, 1, 0, 0, []),
  (21, .invokevirtual 83, 3, 87, 6, [531, 1]),
  (24, .iload_n 1, 1, 0, 0, []),
  (25, .ifCond .ne 25, 3, 50, 0, []),
  (28, .aload_n 0, 1, 0, 0, []),
  (29, .getfield 12, 3, 10, 0, [487, 1]),
  (32, .astore_n 2, 1, 0, 0, []),
  (33, .aload_n 0, 1, 0, 0, []),
  (34, .aload_n 0, 1, 0, 0, []),
  (35, .getfield 16, 3, 10, 1, [488, 1]),
  (38, .putfield 12, 3, 10, 0, [487, 1, 1]),
  (41, .aload_n 0, 1, 0, 0, []),
  (42, .aload_n 2, 1, 0, 0, []),
  (43, .putfield 16, 3, 10, 1, [488, 1, 1]),
  (46, .aload_n 0, 1, 0, 0, []),
  (47, .invokevirtual 72, 3, 140, 10, [444, 0]),
  (50, .iload_n 1, 1, 0, 0, []),
  (51, .ireturn, 1, 0, 0, [])]
def mX10_read : ab_M := (yX10_read, cX10_read, 3, (some (FieldType.int)), 0, 0, 1, kX10_read)
def kX10_startText : List ab_I := [(0, .aload_n 0, 1, 0, 0, []),
  (1, .getfield 38, 3, 10, 4, [491, 1]),
  (4, .aload_n 0, 1, 0, 0, []),
  (5, .getfield 12, 3, 10, 0, [487, 1]),
  (8, .invokevirtual 90, 3, 80, 5, [448, 1]),
  (11, .aload_n 0, 1, 0, 0, []),
  (12, .getfield 45, 3, 10, 5, [492, 1]),
  (15, .aload_n 0, 1, 0, 0, []),
  (16, .getfield 12, 3, 10, 0, [487, 1]),
  (19, .invokevirtual 93, 3, 1, 0, [475, 1]),
  (22, .aload_n 0, 1, 0, 0, []),
  (23, .getfield 61, 3, 10, 7, [494, 1]),
  (26, .invokevirtual 96, 3, 46, 3, [479, 0]),
  (29, .aload_n 0, 1, 0, 0, []),
  (30, .getfield 68, 3, 10, 8, [495, 1]),
  (33, .invokevirtual 99, 3, 131, 9, [483, 0]),
  (36, .return_, 1, 0, 0, [])]
def mX10_startText : ab_M := (yX10_startText, cX10_startText, 1, none, 0, 0, 1, kX10_startText)
def kX10_place : List ab_I := [(0, .aload_n 0, 1, 0, 0, []),
  (1, .getfield 31, 3, 10, 3, [490, 1]),
  (4, .invokevirtual 100, 3, 54, 4, [793, 0]),
  (7, .ireturn, 1, 0, 0, [])]
def mX10_place : ab_M := (yX10_place, cX10_place, 1, (some (FieldType.int)), 0, 0, 1, kX10_place)
def kX10_church : List ab_I := [(0, .aload_n 0, 1, 0, 0, []),
  (1, .getfield 12, 3, 10, 0, [487, 1]),
  (4, .iload_n 1, 1, 0, 0, []),
  (5, .invokevirtual 103, 3, 98, 7, [801, 1]),
  (8, .ifCond .ne 5, 3, 13, 0, []),
  (11, .iconst (-1), 1, 0, 0, []),
  (12, .ireturn, 1, 0, 0, []),
  (13, .iload_n 2, 1, 0, 0, []),
  (14, .tableswitch 104 0 4 #[34, 45, 57, 69, 81], 34, 118, 0, [48, 59, 71, 83, 95]),
  (48, .aload_n 0, 1, 0, 0, []),
  (49, .getfield 38, 3, 10, 4, [491, 1]),
  (52, .iconst 0, 1, 0, 0, []),
  (53, .iload_n 1, 1, 0, 0, []),
  (54, .iadd, 1, 0, 0, []),
  (55, .invokevirtual 107, 3, 74, 5, [802, 1]),
  (58, .ireturn, 1, 0, 0, []),
  (59, .aload_n 0, 1, 0, 0, []),
  (60, .getfield 38, 3, 10, 4, [491, 1]),
  (63, .bipush 18, 2, 0, 0, []),
  (65, .iload_n 1, 1, 0, 0, []),
  (66, .iadd, 1, 0, 0, []),
  (67, .invokevirtual 107, 3, 74, 5, [802, 1]),
  (70, .ireturn, 1, 0, 0, []),
  (71, .aload_n 0, 1, 0, 0, []),
  (72, .getfield 38, 3, 10, 4, [491, 1]),
  (75, .bipush 6, 2, 0, 0, []),
  (77, .iload_n 1, 1, 0, 0, []),
  (78, .iadd, 1, 0, 0, []),
  (79, .invokevirtual 107, 3, 74, 5, [802, 1]),
  (82, .ireturn, 1, 0, 0, []),
  (83, .aload_n 0, 1, 0, 0, []),
  (84, .getfield 38, 3, 10, 4, [491, 1]),
  (87, .bipush 12, 2, 0, 0, []),
  (89, .iload_n 1, 1, 0, 0, []),
  (90, .iadd, 1, 0, 0, []),
  (91, .invokevirtual 107, 3, 74, 5, [802, 1]),
  (94, .ireturn, 1, 0, 0, []),
  (95, .aload_n 0, 1, 0, 0, []),
  (96, .getfield 38, 3, 10, 4, [491, 1]),
  (99, .bipush 18, 2, 0, 0, []),
  (101, .iload_n 1, 1, 0, 0, []),
  (102, .iadd, 1, 0, 0, []),
  (103, .invokevirtual 107, 3, 74, 5, [802, 1]),
  (106, .aload_n 0, 1, 0, 0, []),
  (107, .getfield 12, 3, 10, 0, [487, 1]),
  (110, .invokevirtual 111, 3, 95, 7, [803, 0]),
  (113, .iand, 1, 0, 0, []),
  (114, .invokestatic 114, 3, 298, 0, [807, 1]),
  (117, .ireturn, 1, 0, 0, []),
  (118, .iconst (-1), 1, 0, 0, []),
  (119, .ireturn, 1, 0, 0, [])]
def mX10_church : ab_M := (yX10_church, cX10_church, 3, (some (FieldType.int)), 0, 0, 1, kX10_church)
def kX10_relic : List ab_I := [(0, .aload_n 0, 1, 0, 0, []),
  (1, .getfield 12, 3, 10, 0, [487, 1]),
  (4, .iload_n 1, 1, 0, 0, []),
  (5, .invokevirtual 119, 3, 99, 7, [817, 1]),
  (8, .ifCond .ne 5, 3, 13, 0, []),
  (11, .iconst (-1), 1, 0, 0, []),
  (12, .ireturn, 1, 0, 0, []),
  (13, .iload_n 2, 1, 0, 0, []),
  (14, .tableswitch 75 0 3 #[30, 42, 51, 63], 30, 89, 0, [44, 56, 65, 77]),
  (44, .aload_n 0, 1, 0, 0, []),
  (45, .getfield 38, 3, 10, 4, [491, 1]),
  (48, .bipush 24, 2, 0, 0, []),
  (50, .iload_n 1, 1, 0, 0, []),
  (51, .iadd, 1, 0, 0, []),
  (52, .invokevirtual 107, 3, 74, 5, [802, 1]),
  (55, .ireturn, 1, 0, 0, []),
  (56, .aload_n 0, 1, 0, 0, []),
  (57, .getfield 12, 3, 10, 0, [487, 1]),
  (60, .iload_n 1, 1, 0, 0, []),
  (61, .invokevirtual 122, 3, 101, 7, [821, 1]),
  (64, .ireturn, 1, 0, 0, []),
  (65, .aload_n 0, 1, 0, 0, []),
  (66, .getfield 38, 3, 10, 4, [491, 1]),
  (69, .bipush 30, 2, 0, 0, []),
  (71, .iload_n 1, 1, 0, 0, []),
  (72, .iadd, 1, 0, 0, []),
  (73, .invokevirtual 107, 3, 74, 5, [802, 1]),
  (76, .ireturn, 1, 0, 0, []),
  (77, .aload_n 0, 1, 0, 0, []),
  (78, .getfield 38, 3, 10, 4, [491, 1]),
  (81, .bipush 36, 2, 0, 0, []),
  (83, .iload_n 1, 1, 0, 0, []),
  (84, .iadd, 1, 0, 0, []),
  (85, .invokevirtual 107, 3, 74, 5, [802, 1]),
  (88, .ireturn, 1, 0, 0, []),
  (89, .iconst (-1), 1, 0, 0, []),
  (90, .ireturn, 1, 0, 0, [])]
def mX10_relic : ab_M := (yX10_relic, cX10_relic, 3, (some (FieldType.int)), 0, 0, 1, kX10_relic)
def kX10_pilgrim : List ab_I := [(0, .aload_n 0, 1, 0, 0, []),
  (1, .getfield 12, 3, 10, 0, [487, 1]),
  (4, .iload_n 1, 1, 0, 0, []),
  (5, .invokevirtual 125, 3, 100, 7, [829, 1]),
  (8, .ifCond .ne 5, 3, 13, 0, []),
  (11, .iconst (-1), 1, 0, 0, []),
  (12, .ireturn, 1, 0, 0, []),
  (13, .iload_n 2, 1, 0, 0, []),
  (14, .tableswitch 85 0 4 #[34, 43, 52, 61, 73], 34, 99, 0, [48, 57, 66, 75, 87]),
  (48, .aload_n 0, 1, 0, 0, []),
  (49, .getfield 12, 3, 10, 0, [487, 1]),
  (52, .iload_n 1, 1, 0, 0, []),
  (53, .invokevirtual 128, 3, 104, 7, [833, 1]),
  (56, .ireturn, 1, 0, 0, []),
  (57, .aload_n 0, 1, 0, 0, []),
  (58, .getfield 12, 3, 10, 0, [487, 1]),
  (61, .iload_n 1, 1, 0, 0, []),
  (62, .invokevirtual 131, 3, 105, 7, [837, 1]),
  (65, .ireturn, 1, 0, 0, []),
  (66, .aload_n 0, 1, 0, 0, []),
  (67, .getfield 12, 3, 10, 0, [487, 1]),
  (70, .iload_n 1, 1, 0, 0, []),
  (71, .invokevirtual 134, 3, 106, 7, [841, 1]),
  (74, .ireturn, 1, 0, 0, []),
  (75, .aload_n 0, 1, 0, 0, []),
  (76, .getfield 38, 3, 10, 4, [491, 1]),
  (79, .bipush 42, 2, 0, 0, []),
  (81, .iload_n 1, 1, 0, 0, []),
  (82, .iadd, 1, 0, 0, []),
  (83, .invokevirtual 107, 3, 74, 5, [802, 1]),
  (86, .ireturn, 1, 0, 0, []),
  (87, .aload_n 0, 1, 0, 0, []),
  (88, .getfield 38, 3, 10, 4, [491, 1]),
  (91, .bipush 47, 2, 0, 0, []),
  (93, .iload_n 1, 1, 0, 0, []),
  (94, .iadd, 1, 0, 0, []),
  (95, .invokevirtual 107, 3, 74, 5, [802, 1]),
  (98, .ireturn, 1, 0, 0, []),
  (99, .iconst (-1), 1, 0, 0, []),
  (100, .ireturn, 1, 0, 0, [])]
def mX10_pilgrim : ab_M := (yX10_pilgrim, cX10_pilgrim, 3, (some (FieldType.int)), 0, 0, 1, kX10_pilgrim)
def kX10_tells : List ab_I := [(0, .aload_n 0, 1, 0, 0, []),
  (1, .getfield 12, 3, 10, 0, [487, 1]),
  (4, .iload_n 1, 1, 0, 0, []),
  (5, .invokevirtual 125, 3, 100, 7, [829, 1]),
  (8, .ifCond .eq 14, 3, 22, 0, []),
  (11, .aload_n 0, 1, 0, 0, []),
  (12, .getfield 12, 3, 10, 0, [487, 1]),
  (15, .iload_n 2, 1, 0, 0, []),
  (16, .invokevirtual 103, 3, 98, 7, [801, 1]),
  (19, .ifCond .ne 6, 3, 25, 0, []),
  (22, .ldc 137, 2, 4294867296, 0, [849]),
  (24, .ireturn, 1, 0, 0, []),
  (25, .iload_n 3, 1, 0, 0, []),
  (26, .tableswitch 73 0 2 #[26, 41, 56], 26, 99, 0, [52, 67, 82]),
  (52, .aload_n 0, 1, 0, 0, []),
  (53, .getfield 45, 3, 10, 5, [492, 1]),
  (56, .iconst 0, 1, 0, 0, []),
  (57, .aload_n 0, 1, 0, 0, []),
  (58, .getfield 38, 3, 10, 4, [491, 1]),
  (61, .iload_n 1, 1, 0, 0, []),
  (62, .iload_n 2, 1, 0, 0, []),
  (63, .invokevirtual 138, 3, 9, 0, [850, 4]),
  (66, .ireturn, 1, 0, 0, []),
  (67, .aload_n 0, 1, 0, 0, []),
  (68, .getfield 45, 3, 10, 5, [492, 1]),
  (71, .iconst 2, 1, 0, 0, []),
  (72, .aload_n 0, 1, 0, 0, []),
  (73, .getfield 38, 3, 10, 4, [491, 1]),
  (76, .iload_n 1, 1, 0, 0, []),
  (77, .iload_n 2, 1, 0, 0, []),
  (78, .invokevirtual 138, 3, 9, 0, [850, 4]),
  (81, .ireturn, 1, 0, 0, []),
  (82, .aload_n 0, 1, 0, 0, []),
  (83, .getfield 12, 3, 10, 0, [487, 1]),
  (86, .aload_n 0, 1, 0, 0, []),
  (87, .getfield 12, 3, 10, 0, [487, 1]),
  (90, .iload_n 1, 1, 0, 0, []),
  (91, .invokevirtual 128, 3, 104, 7, [833, 1]),
  (94, .iload_n 2, 1, 0, 0, []),
  (95, .invokevirtual 142, 3, 107, 7, [894, 2]),
  (98, .ireturn, 1, 0, 0, []),
  (99, .ldc 137, 2, 4294867296, 0, [849]),
  (101, .ireturn, 1, 0, 0, [])]
def mX10_tells : ab_M := (yX10_tells, cX10_tells, 4, (some (FieldType.int)), 0, 0, 1, kX10_tells)
def kX10_heals : List ab_I := [(0, .aload_n 0, 1, 0, 0, []),
  (1, .getfield 12, 3, 10, 0, [487, 1]),
  (4, .iload_n 1, 1, 0, 0, []),
  (5, .invokevirtual 119, 3, 99, 7, [817, 1]),
  (8, .ifCond .eq 14, 3, 22, 0, []),
  (11, .aload_n 0, 1, 0, 0, []),
  (12, .getfield 12, 3, 10, 0, [487, 1]),
  (15, .iload_n 2, 1, 0, 0, []),
  (16, .invokevirtual 125, 3, 100, 7, [829, 1]),
  (19, .ifCond .ne 5, 3, 24, 0, []),
  (22, .iconst (-1), 1, 0, 0, []),
  (23, .ireturn, 1, 0, 0, []),
  (24, .aload_n 0, 1, 0, 0, []),
  (25, .getfield 45, 3, 10, 5, [492, 1]),
  (28, .aload_n 0, 1, 0, 0, []),
  (29, .getfield 38, 3, 10, 4, [491, 1]),
  (32, .iload_n 1, 1, 0, 0, []),
  (33, .iload_n 2, 1, 0, 0, []),
  (34, .aload_n 0, 1, 0, 0, []),
  (35, .getfield 12, 3, 10, 0, [487, 1]),
  (38, .iload_n 1, 1, 0, 0, []),
  (39, .invokevirtual 122, 3, 101, 7, [821, 1]),
  (42, .invokevirtual 146, 3, 10, 0, [899, 4]),
  (45, .ireturn, 1, 0, 0, [])]
def mX10_heals : ab_M := (yX10_heals, cX10_heals, 3, (some (FieldType.int)), 0, 0, 1, kX10_heals)
def kX10_steal : List ab_I := [(0, .aload_n 0, 1, 0, 0, []),
  (1, .getfield 12, 3, 10, 0, [487, 1]),
  (4, .iload_n 1, 1, 0, 0, []),
  (5, .invokevirtual 119, 3, 99, 7, [817, 1]),
  (8, .ifCond .eq 24, 3, 32, 0, []),
  (11, .aload_n 0, 1, 0, 0, []),
  (12, .getfield 12, 3, 10, 0, [487, 1]),
  (15, .iload_n 2, 1, 0, 0, []),
  (16, .invokevirtual 103, 3, 98, 7, [801, 1]),
  (19, .ifCond .eq 13, 3, 32, 0, []),
  (22, .iload_n 3, 1, 0, 0, []),
  (23, .iconst 1, 1, 0, 0, []),
  (24, .bipush 9, 2, 0, 0, []),
  (26, .invokestatic 150, 3, 180, 0, [907, 3]),
  (29, .ifCond .ne 5, 3, 34, 0, []),
  (32, .iconst (-1), 1, 0, 0, []),
  (33, .ireturn, 1, 0, 0, []),
  (34, .aload_n 0, 1, 0, 0, []),
  (35, .getfield 38, 3, 10, 4, [491, 1]),
  (38, .bipush 24, 2, 0, 0, []),
  (40, .iload_n 1, 1, 0, 0, []),
  (41, .iadd, 1, 0, 0, []),
  (42, .invokevirtual 107, 3, 74, 5, [802, 1]),
  (45, .iload_n 2, 1, 0, 0, []),
  (46, .if_icmp .ne 6, 3, 52, 0, []),
  (49, .bipush (-2), 2, 0, 0, []),
  (51, .ireturn, 1, 0, 0, []),
  (52, .aload_n 0, 1, 0, 0, []),
  (53, .getfield 61, 3, 10, 7, [494, 1]),
  (56, .aload_n 0, 1, 0, 0, []),
  (57, .getfield 38, 3, 10, 4, [491, 1]),
  (60, .invokevirtual 154, 3, 49, 3, [908, 1]),
  (63, .aload_n 0, 1, 0, 0, []),
  (64, .getfield 45, 3, 10, 5, [492, 1]),
  (67, .aload_n 0, 1, 0, 0, []),
  (68, .getfield 38, 3, 10, 4, [491, 1]),
  (71, .iload_n 1, 1, 0, 0, []),
  (72, .iload_n 2, 1, 0, 0, []),
  (73, .iload_n 3, 1, 0, 0, []),
  (74, .invokevirtual 158, 3, 16, 0, [917, 4]),
  (77, .ireturn, 1, 0, 0, [])]
def mX10_steal : ab_M := (yX10_steal, cX10_steal, 4, (some (FieldType.int)), 0, 0, 1, kX10_steal)
def kX10_swap : List ab_I := [(0, .aload_n 0, 1, 0, 0, []),
  (1, .getfield 12, 3, 10, 0, [487, 1]),
  (4, .iload_n 1, 1, 0, 0, []),
  (5, .invokevirtual 119, 3, 99, 7, [817, 1]),
  (8, .ifCond .eq 14, 3, 22, 0, []),
  (11, .aload_n 0, 1, 0, 0, []),
  (12, .getfield 12, 3, 10, 0, [487, 1]),
  (15, .iload_n 2, 1, 0, 0, []),
  (16, .invokevirtual 119, 3, 99, 7, [817, 1]),
  (19, .ifCond .ne 5, 3, 24, 0, []),
  (22, .iconst 0, 1, 0, 0, []),
  (23, .ireturn, 1, 0, 0, []),
  (24, .aload_n 0, 1, 0, 0, []),
  (25, .getfield 38, 3, 10, 4, [491, 1]),
  (28, .bipush 24, 2, 0, 0, []),
  (30, .iload_n 1, 1, 0, 0, []),
  (31, .iadd, 1, 0, 0, []),
  (32, .invokevirtual 107, 3, 74, 5, [802, 1]),
  (35, .aload_n 0, 1, 0, 0, []),
  (36, .getfield 38, 3, 10, 4, [491, 1]),
  (39, .bipush 24, 2, 0, 0, []),
  (41, .iload_n 2, 1, 0, 0, []),
  (42, .iadd, 1, 0, 0, []),
  (43, .invokevirtual 107, 3, 74, 5, [802, 1]),
  (46, .if_icmp .ne 5, 3, 51, 0, []),
  (49, .iconst 0, 1, 0, 0, []),
  (50, .ireturn, 1, 0, 0, []),
  (51, .aload_n 0, 1, 0, 0, []),
  (52, .getfield 61, 3, 10, 7, [494, 1]),
  (55, .aload_n 0, 1, 0, 0, []),
  (56, .getfield 38, 3, 10, 4, [491, 1]),
  (59, .invokevirtual 154, 3, 49, 3, [908, 1]),
  (62, .aload_n 0, 1, 0, 0, []),
  (63, .getfield 38, 3, 10, 4, [491, 1]),
  (66, .iload_n 1, 1, 0, 0, []),
  (67, .iload_n 2, 1, 0, 0, []),
  (68, .invokevirtual 161, 3, 79, 5, [957, 2]),
  (71, .iconst 1, 1, 0, 0, []),
  (72, .ireturn, 1, 0, 0, [])]
def mX10_swap : ab_M := (yX10_swap, cX10_swap, 3, (some (FieldType.boolean)), 0, 0, 1, kX10_swap)
def kX10_watch : List ab_I := [(0, .aload_n 0, 1, 0, 0, []),
  (1, .getfield 12, 3, 10, 0, [487, 1]),
  (4, .iload_n 1, 1, 0, 0, []),
  (5, .invokevirtual 103, 3, 98, 7, [801, 1]),
  (8, .ifCond .eq 13, 3, 21, 0, []),
  (11, .iload_n 2, 1, 0, 0, []),
  (12, .iconst 0, 1, 0, 0, []),
  (13, .bipush 9, 2, 0, 0, []),
  (15, .invokestatic 150, 3, 180, 0, [907, 3]),
  (18, .ifCond .ne 5, 3, 23, 0, []),
  (21, .iconst 0, 1, 0, 0, []),
  (22, .ireturn, 1, 0, 0, []),
  (23, .aload_n 0, 1, 0, 0, []),
  (24, .getfield 38, 3, 10, 4, [491, 1]),
  (27, .iconst 0, 1, 0, 0, []),
  (28, .iload_n 1, 1, 0, 0, []),
  (29, .iadd, 1, 0, 0, []),
  (30, .invokevirtual 107, 3, 74, 5, [802, 1]),
  (33, .iload_n 2, 1, 0, 0, []),
  (34, .if_icmp .ne 5, 3, 39, 0, []),
  (37, .iconst 0, 1, 0, 0, []),
  (38, .ireturn, 1, 0, 0, []),
  (39, .aload_n 0, 1, 0, 0, []),
  (40, .getfield 61, 3, 10, 7, [494, 1]),
  (43, .aload_n 0, 1, 0, 0, []),
  (44, .getfield 38, 3, 10, 4, [491, 1]),
  (47, .invokevirtual 154, 3, 49, 3, [908, 1]),
  (50, .aload_n 0, 1, 0, 0, []),
  (51, .getfield 38, 3, 10, 4, [491, 1]),
  (54, .iconst 0, 1, 0, 0, []),
  (55, .iload_n 1, 1, 0, 0, []),
  (56, .iadd, 1, 0, 0, []),
  (57, .iload_n 2, 1, 0, 0, []),
  (58, .invokevirtual 165, 3, 75, 5, [965, 2]),
  (61, .iconst 1, 1, 0, 0, []),
  (62, .ireturn, 1, 0, 0, [])]
def mX10_watch : ab_M := (yX10_watch, cX10_watch, 3, (some (FieldType.boolean)), 0, 0, 1, kX10_watch)
def kX10_years : List ab_I := [(0, .iload_n 1, 1, 0, 0, []),
  (1, .iconst 0, 1, 0, 0, []),
  (2, .bipush 60, 2, 0, 0, []),
  (4, .invokestatic 150, 3, 180, 0, [907, 3]),
  (7, .ifCond .ne 5, 3, 12, 0, []),
  (10, .iconst (-1), 1, 0, 0, []),
  (11, .ireturn, 1, 0, 0, []),
  (12, .iload_n 1, 1, 0, 0, []),
  (13, .ifCond .le 33, 3, 46, 0, []),
  (16, .aload_n 0, 1, 0, 0, []),
  (17, .getfield 61, 3, 10, 7, [494, 1]),
  (20, .aload_n 0, 1, 0, 0, []),
  (21, .getfield 38, 3, 10, 4, [491, 1]),
  (24, .invokevirtual 154, 3, 49, 3, [908, 1]),
  (27, .aload_n 0, 1, 0, 0, []),
  (28, .getfield 45, 3, 10, 5, [492, 1]),
  (31, .aload_n 0, 1, 0, 0, []),
  (32, .getfield 38, 3, 10, 4, [491, 1]),
  (35, .aload_n 0, 1, 0, 0, []),
  (36, .getfield 12, 3, 10, 0, [487, 1]),
  (39, .invokevirtual 168, 3, 97, 7, [970, 0]),
  (42, .iload_n 1, 1, 0, 0, []),
  (43, .invokevirtual 171, 3, 14, 0, [971, 3]),
  (46, .aload_n 0, 1, 0, 0, []),
  (47, .getfield 38, 3, 10, 4, [491, 1]),
  (50, .bipush 52, 2, 0, 0, []),
  (52, .invokevirtual 107, 3, 74, 5, [802, 1]),
  (55, .ireturn, 1, 0, 0, [])]
def mX10_years : ab_M := (yX10_years, cX10_years, 2, (some (FieldType.int)), 0, 0, 1, kX10_years)
def kX10_undo : List ab_I := [(0, .aload_n 0, 1, 0, 0, []),
  (1, .getfield 61, 3, 10, 7, [494, 1]),
  (4, .aload_n 0, 1, 0, 0, []),
  (5, .getfield 38, 3, 10, 4, [491, 1]),
  (8, .invokevirtual 175, 3, 50, 3, [991, 1]),
  (11, .ireturn, 1, 0, 0, [])]
def mX10_undo : ab_M := (yX10_undo, cX10_undo, 1, (some (FieldType.boolean)), 0, 0, 1, kX10_undo)
def kX10_goes : List ab_I := [(0, .aload_n 0, 1, 0, 0, []),
  (1, .getfield 12, 3, 10, 0, [487, 1]),
  (4, .iload_n 1, 1, 0, 0, []),
  (5, .invokevirtual 125, 3, 100, 7, [829, 1]),
  (8, .ifCond .eq 18, 3, 26, 0, []),
  (11, .aload_n 0, 1, 0, 0, []),
  (12, .getfield 45, 3, 10, 5, [492, 1]),
  (15, .aload_n 0, 1, 0, 0, []),
  (16, .getfield 38, 3, 10, 4, [491, 1]),
  (19, .iload_n 1, 1, 0, 0, []),
  (20, .invokevirtual 179, 3, 13, 0, [1003, 2]),
  (23, .goto 4, 3, 27, 0, []),
  (26, .iconst (-1), 1, 0, 0, []),
  (27, .ireturn, 1, 0, 0, [])]
def mX10_goes : ab_M := (yX10_goes, cX10_goes, 2, (some (FieldType.int)), 0, 0, 1, kX10_goes)
def kX10_theft : List ab_I := [(0, .aload_n 0, 1, 0, 0, []),
  (1, .getfield 12, 3, 10, 0, [487, 1]),
  (4, .iload_n 1, 1, 0, 0, []),
  (5, .invokevirtual 119, 3, 99, 7, [817, 1]),
  (8, .ifCond .eq 13, 3, 21, 0, []),
  (11, .iload_n 2, 1, 0, 0, []),
  (12, .iconst 1, 1, 0, 0, []),
  (13, .bipush 9, 2, 0, 0, []),
  (15, .invokestatic 150, 3, 180, 0, [907, 3]),
  (18, .ifCond .ne 5, 3, 23, 0, []),
  (21, .iconst (-1), 1, 0, 0, []),
  (22, .ireturn, 1, 0, 0, []),
  (23, .aload_n 0, 1, 0, 0, []),
  (24, .getfield 45, 3, 10, 5, [492, 1]),
  (27, .aload_n 0, 1, 0, 0, []),
  (28, .getfield 38, 3, 10, 4, [491, 1]),
  (31, .iload_n 1, 1, 0, 0, []),
  (32, .iload_n 2, 1, 0, 0, []),
  (33, .invokevirtual 183, 3, 17, 0, [1008, 3]),
  (36, .ireturn, 1, 0, 0, [])]
def mX10_theft : ab_M := (yX10_theft, cX10_theft, 3, (some (FieldType.int)), 0, 0, 1, kX10_theft)
def kX10_nights : List ab_I := [(0, .aload_n 0, 1, 0, 0, []),
  (1, .getfield 12, 3, 10, 0, [487, 1]),
  (4, .iload_n 1, 1, 0, 0, []),
  (5, .invokevirtual 119, 3, 99, 7, [817, 1]),
  (8, .ifCond .eq 18, 3, 26, 0, []),
  (11, .aload_n 0, 1, 0, 0, []),
  (12, .getfield 45, 3, 10, 5, [492, 1]),
  (15, .aload_n 0, 1, 0, 0, []),
  (16, .getfield 38, 3, 10, 4, [491, 1]),
  (19, .iload_n 1, 1, 0, 0, []),
  (20, .invokevirtual 187, 3, 18, 0, [1016, 2]),
  (23, .goto 4, 3, 27, 0, []),
  (26, .iconst (-1), 1, 0, 0, []),
  (27, .ireturn, 1, 0, 0, [])]
def mX10_nights : ab_M := (yX10_nights, cX10_nights, 2, (some (FieldType.int)), 0, 0, 1, kX10_nights)
def kX10_worth : List ab_I := [(0, .aload_n 0, 1, 0, 0, []),
  (1, .getfield 12, 3, 10, 0, [487, 1]),
  (4, .iload_n 1, 1, 0, 0, []),
  (5, .invokevirtual 119, 3, 99, 7, [817, 1]),
  (8, .ifCond .eq 22, 3, 30, 0, []),
  (11, .iload_n 2, 1, 0, 0, []),
  (12, .iconst 1, 1, 0, 0, []),
  (13, .bipush 24, 2, 0, 0, []),
  (15, .invokestatic 150, 3, 180, 0, [907, 3]),
  (18, .ifCond .eq 12, 3, 30, 0, []),
  (21, .iload_n 3, 1, 0, 0, []),
  (22, .iconst 0, 1, 0, 0, []),
  (23, .iconst 1, 1, 0, 0, []),
  (24, .invokestatic 150, 3, 180, 0, [907, 3]),
  (27, .ifCond .ne 6, 3, 33, 0, []),
  (30, .ldc 137, 2, 4294867296, 0, [849]),
  (32, .ireturn, 1, 0, 0, []),
  (33, .aload_n 0, 1, 0, 0, []),
  (34, .getfield 54, 3, 10, 6, [493, 1]),
  (37, .iload_n 1, 1, 0, 0, []),
  (38, .iload_n 2, 1, 0, 0, []),
  (39, .iload_n 3, 1, 0, 0, []),
  (40, .iconst 1, 1, 0, 0, []),
  (41, .if_icmp .ne 7, 3, 48, 0, []),
  (44, .iconst 1, 1, 0, 0, []),
  (45, .goto 4, 3, 49, 0, []),
  (48, .iconst 0, 1, 0, 0, []),
  (49, .invokevirtual 190, 3, 27, 1, [1025, 3]),
  (52, .ireturn, 1, 0, 0, [])]
def mX10_worth : ab_M := (yX10_worth, cX10_worth, 4, (some (FieldType.int)), 0, 0, 1, kX10_worth)
def kX10_guard : List ab_I := [(0, .aload_n 0, 1, 0, 0, []),
  (1, .getfield 12, 3, 10, 0, [487, 1]),
  (4, .iload_n 1, 1, 0, 0, []),
  (5, .invokevirtual 103, 3, 98, 7, [801, 1]),
  (8, .ifCond .eq 23, 3, 31, 0, []),
  (11, .iload_n 2, 1, 0, 0, []),
  (12, .iconst 1, 1, 0, 0, []),
  (13, .bipush 100, 2, 0, 0, []),
  (15, .invokestatic 150, 3, 180, 0, [907, 3]),
  (18, .ifCond .eq 13, 3, 31, 0, []),
  (21, .iload_n 3, 1, 0, 0, []),
  (22, .iconst 1, 1, 0, 0, []),
  (23, .bipush 9, 2, 0, 0, []),
  (25, .invokestatic 150, 3, 180, 0, [907, 3]),
  (28, .ifCond .ne 5, 3, 33, 0, []),
  (31, .iconst (-1), 1, 0, 0, []),
  (32, .ireturn, 1, 0, 0, []),
  (33, .aload_n 0, 1, 0, 0, []),
  (34, .getfield 45, 3, 10, 5, [492, 1]),
  (37, .aload_n 0, 1, 0, 0, []),
  (38, .getfield 38, 3, 10, 4, [491, 1]),
  (41, .iload_n 1, 1, 0, 0, []),
  (42, .iload_n 2, 1, 0, 0, []),
  (43, .iload_n 3, 1, 0, 0, []),
  (44, .invokevirtual 194, 3, 20, 0, [1059, 4]),
  (47, .ireturn, 1, 0, 0, [])]
def mX10_guard : ab_M := (yX10_guard, cX10_guard, 4, (some (FieldType.int)), 0, 0, 1, kX10_guard)
def kX10_guards : List ab_I := [(0, .iload_n 1, 1, 0, 0, []),
  (1, .iconst 1, 1, 0, 0, []),
  (2, .bipush 100, 2, 0, 0, []),
  (4, .invokestatic 150, 3, 180, 0, [907, 3]),
  (7, .ifCond .eq 13, 3, 20, 0, []),
  (10, .iload_n 2, 1, 0, 0, []),
  (11, .iconst 1, 1, 0, 0, []),
  (12, .bipush 9, 2, 0, 0, []),
  (14, .invokestatic 150, 3, 180, 0, [907, 3]),
  (17, .ifCond .ne 5, 3, 22, 0, []),
  (20, .iconst (-1), 1, 0, 0, []),
  (21, .ireturn, 1, 0, 0, []),
  (22, .iconst 0, 1, 0, 0, []),
  (23, .istore_n 3, 1, 0, 0, []),
  (24, .iconst 0, 1, 0, 0, []),
  (25, .istore 4, 2, 0, 0, []),
  (27, .iload 4, 2, 0, 0, []),
  (29, .aload_n 0, 1, 0, 0, []),
  (30, .getfield 12, 3, 10, 0, [487, 1]),
  (33, .invokevirtual 197, 3, 92, 7, [1067, 0]),
  (36, .if_icmp .ge 54, 3, 90, 0, []),
  (39, .aload_n 0, 1, 0, 0, []),
  (40, .getfield 38, 3, 10, 4, [491, 1]),
  (43, .bipush 18, 2, 0, 0, []),
  (45, .iload 4, 2, 0, 0, []),
  (47, .iadd, 1, 0, 0, []),
  (48, .invokevirtual 107, 3, 74, 5, [802, 1]),
  (51, .ifCond .eq 33, 3, 84, 0, []),
  (54, .aload_n 0, 1, 0, 0, []),
  (55, .getfield 45, 3, 10, 5, [492, 1]),
  (58, .aload_n 0, 1, 0, 0, []),
  (59, .getfield 38, 3, 10, 4, [491, 1]),
  (62, .iload 4, 2, 0, 0, []),
  (64, .iload_n 1, 1, 0, 0, []),
  (65, .iload_n 2, 1, 0, 0, []),
  (66, .invokevirtual 194, 3, 20, 0, [1059, 4]),
  (69, .istore 5, 2, 0, 0, []),
  (71, .iload 5, 2, 0, 0, []),
  (73, .ifCond .ge 6, 3, 79, 0, []),
  (76, .bipush (-2), 2, 0, 0, []),
  (78, .ireturn, 1, 0, 0, []),
  (79, .iload_n 3, 1, 0, 0, []),
  (80, .iload 5, 2, 0, 0, []),
  (82, .iadd, 1, 0, 0, []),
  (83, .istore_n 3, 1, 0, 0, []),
  (84, .iinc 4 1, 3, 0, 0, []),
  (87, .goto (-60), 3, 27, 0, []),
  (90, .iload_n 3, 1, 0, 0, []),
  (91, .ireturn, 1, 0, 0, [])]
def mX10_guards : ab_M := (yX10_guards, cX10_guards, 6, (some (FieldType.int)), 0, 0, 1, kX10_guards)
def kX10_weak : List ab_I := [(0, .iload_n 1, 1, 0, 0, []),
  (1, .iconst 0, 1, 0, 0, []),
  (2, .iconst 2, 1, 0, 0, []),
  (3, .invokestatic 150, 3, 180, 0, [907, 3]),
  (6, .ifCond .ne 5, 3, 11, 0, []),
  (9, .iconst (-1), 1, 0, 0, []),
  (10, .ireturn, 1, 0, 0, []),
  (11, .aload_n 0, 1, 0, 0, []),
  (12, .getfield 45, 3, 10, 5, [492, 1]),
  (15, .aload_n 0, 1, 0, 0, []),
  (16, .getfield 38, 3, 10, 4, [491, 1]),
  (19, .invokevirtual 200, 3, 19, 0, [1072, 1]),
  (22, .istore_n 2, 1, 0, 0, []),
  (23, .iload_n 2, 1, 0, 0, []),
  (24, .ifCond .lt 7, 3, 31, 0, []),
  (27, .iload_n 1, 1, 0, 0, []),
  (28, .ifCond .ne 5, 3, 33, 0, []),
  (31, .iload_n 2, 1, 0, 0, []),
  (32, .ireturn, 1, 0, 0, []),
  (33, .aload_n 0, 1, 0, 0, []),
  (34, .getfield 45, 3, 10, 5, [492, 1]),
  (37, .aload_n 0, 1, 0, 0, []),
  (38, .getfield 38, 3, 10, 4, [491, 1]),
  (41, .iload_n 2, 1, 0, 0, []),
  (42, .invokevirtual 187, 3, 18, 0, [1016, 2]),
  (45, .istore_n 3, 1, 0, 0, []),
  (46, .iload_n 1, 1, 0, 0, []),
  (47, .iconst 1, 1, 0, 0, []),
  (48, .if_icmp .ne 7, 3, 55, 0, []),
  (51, .iload_n 3, 1, 0, 0, []),
  (52, .goto 16, 3, 68, 0, []),
  (55, .aload_n 0, 1, 0, 0, []),
  (56, .getfield 45, 3, 10, 5, [492, 1]),
  (59, .aload_n 0, 1, 0, 0, []),
  (60, .getfield 38, 3, 10, 4, [491, 1]),
  (63, .iload_n 2, 1, 0, 0, []),
  (64, .iload_n 3, 1, 0, 0, []),
  (65, .invokevirtual 183, 3, 17, 0, [1008, 3]),
  (68, .ireturn, 1, 0, 0, [])]
def mX10_weak : ab_M := (yX10_weak, cX10_weak, 4, (some (FieldType.int)), 0, 0, 1, kX10_weak)
def kX10_barter : List ab_I := [(0, .iload_n 1, 1, 0, 0, []),
  (1, .iconst 1, 1, 0, 0, []),
  (2, .bipush 24, 2, 0, 0, []),
  (4, .invokestatic 150, 3, 180, 0, [907, 3]),
  (7, .ifCond .eq 12, 3, 19, 0, []),
  (10, .iload_n 2, 1, 0, 0, []),
  (11, .iconst 0, 1, 0, 0, []),
  (12, .iconst 1, 1, 0, 0, []),
  (13, .invokestatic 150, 3, 180, 0, [907, 3]),
  (16, .ifCond .ne 5, 3, 21, 0, []),
  (19, .iconst (-1), 1, 0, 0, []),
  (20, .ireturn, 1, 0, 0, []),
  (21, .aload_n 0, 1, 0, 0, []),
  (22, .getfield 54, 3, 10, 6, [493, 1]),
  (25, .iload_n 1, 1, 0, 0, []),
  (26, .iload_n 2, 1, 0, 0, []),
  (27, .iconst 1, 1, 0, 0, []),
  (28, .if_icmp .ne 7, 3, 35, 0, []),
  (31, .iconst 1, 1, 0, 0, []),
  (32, .goto 4, 3, 36, 0, []),
  (35, .iconst 0, 1, 0, 0, []),
  (36, .invokevirtual 204, 3, 28, 1, [1082, 2]),
  (39, .ireturn, 1, 0, 0, [])]
def mX10_barter : ab_M := (yX10_barter, cX10_barter, 3, (some (FieldType.int)), 0, 0, 1, kX10_barter)
def kX10_took : List ab_I := [(0, .aload_n 0, 1, 0, 0, []),
  (1, .getfield 12, 3, 10, 0, [487, 1]),
  (4, .iload_n 1, 1, 0, 0, []),
  (5, .invokevirtual 103, 3, 98, 7, [801, 1]),
  (8, .ifCond .eq 13, 3, 21, 0, []),
  (11, .iload_n 2, 1, 0, 0, []),
  (12, .iconst 0, 1, 0, 0, []),
  (13, .bipush 60, 2, 0, 0, []),
  (15, .invokestatic 150, 3, 180, 0, [907, 3]),
  (18, .ifCond .ne 5, 3, 23, 0, []),
  (21, .iconst (-1), 1, 0, 0, []),
  (22, .ireturn, 1, 0, 0, []),
  (23, .aload_n 0, 1, 0, 0, []),
  (24, .getfield 54, 3, 10, 6, [493, 1]),
  (27, .bipush 12, 2, 0, 0, []),
  (29, .iload_n 1, 1, 0, 0, []),
  (30, .iadd, 1, 0, 0, []),
  (31, .iload_n 2, 1, 0, 0, []),
  (32, .invokevirtual 208, 3, 23, 1, [1100, 2]),
  (35, .ireturn, 1, 0, 0, [])]
def mX10_took : ab_M := (yX10_took, cX10_took, 3, (some (FieldType.int)), 0, 0, 1, kX10_took)
def kX10_wonders : List ab_I := [(0, .aload_n 0, 1, 0, 0, []),
  (1, .getfield 12, 3, 10, 0, [487, 1]),
  (4, .iload_n 1, 1, 0, 0, []),
  (5, .invokevirtual 119, 3, 99, 7, [817, 1]),
  (8, .ifCond .eq 13, 3, 21, 0, []),
  (11, .iload_n 2, 1, 0, 0, []),
  (12, .iconst 0, 1, 0, 0, []),
  (13, .bipush 60, 2, 0, 0, []),
  (15, .invokestatic 150, 3, 180, 0, [907, 3]),
  (18, .ifCond .ne 5, 3, 23, 0, []),
  (21, .iconst (-1), 1, 0, 0, []),
  (22, .ireturn, 1, 0, 0, []),
  (23, .aload_n 0, 1, 0, 0, []),
  (24, .getfield 54, 3, 10, 6, [493, 1]),
  (27, .bipush 30, 2, 0, 0, []),
  (29, .iload_n 1, 1, 0, 0, []),
  (30, .iadd, 1, 0, 0, []),
  (31, .iload_n 2, 1, 0, 0, []),
  (32, .invokevirtual 208, 3, 23, 1, [1100, 2]),
  (35, .ireturn, 1, 0, 0, [])]
def mX10_wonders : ab_M := (yX10_wonders, cX10_wonders, 3, (some (FieldType.int)), 0, 0, 1, kX10_wonders)
def kX10_goesIn : List ab_I := [(0, .aload_n 0, 1, 0, 0, []),
  (1, .getfield 12, 3, 10, 0, [487, 1]),
  (4, .iload_n 1, 1, 0, 0, []),
  (5, .invokevirtual 125, 3, 100, 7, [829, 1]),
  (8, .ifCond .eq 13, 3, 21, 0, []),
  (11, .iload_n 2, 1, 0, 0, []),
  (12, .iconst 0, 1, 0, 0, []),
  (13, .bipush 60, 2, 0, 0, []),
  (15, .invokestatic 150, 3, 180, 0, [907, 3]),
  (18, .ifCond .ne 5, 3, 23, 0, []),
  (21, .iconst (-1), 1, 0, 0, []),
  (22, .ireturn, 1, 0, 0, []),
  (23, .aload_n 0, 1, 0, 0, []),
  (24, .getfield 45, 3, 10, 5, [492, 1]),
  (27, .aload_n 0, 1, 0, 0, []),
  (28, .getfield 54, 3, 10, 6, [493, 1]),
  (31, .iload_n 2, 1, 0, 0, []),
  (32, .invokevirtual 211, 3, 22, 1, [1112, 1]),
  (35, .iload_n 1, 1, 0, 0, []),
  (36, .invokevirtual 179, 3, 13, 0, [1003, 2]),
  (39, .ireturn, 1, 0, 0, [])]
def mX10_goesIn : ab_M := (yX10_goesIn, cX10_goesIn, 3, (some (FieldType.int)), 0, 0, 1, kX10_goesIn)
def kX10_rich : List ab_I := [(0, .iload_n 1, 1, 0, 0, []),
  (1, .iconst 0, 1, 0, 0, []),
  (2, .bipush 60, 2, 0, 0, []),
  (4, .invokestatic 150, 3, 180, 0, [907, 3]),
  (7, .ifCond .eq 12, 3, 19, 0, []),
  (10, .iload_n 2, 1, 0, 0, []),
  (11, .iconst 0, 1, 0, 0, []),
  (12, .iconst 1, 1, 0, 0, []),
  (13, .invokestatic 150, 3, 180, 0, [907, 3]),
  (16, .ifCond .ne 5, 3, 21, 0, []),
  (19, .iconst (-1), 1, 0, 0, []),
  (20, .ireturn, 1, 0, 0, []),
  (21, .aload_n 0, 1, 0, 0, []),
  (22, .getfield 54, 3, 10, 6, [493, 1]),
  (25, .iload_n 1, 1, 0, 0, []),
  (26, .iload_n 2, 1, 0, 0, []),
  (27, .iconst 1, 1, 0, 0, []),
  (28, .if_icmp .ne 7, 3, 35, 0, []),
  (31, .iconst 1, 1, 0, 0, []),
  (32, .goto 4, 3, 36, 0, []),
  (35, .iconst 0, 1, 0, 0, []),
  (36, .invokevirtual 215, 3, 30, 1, [1117, 2]),
  (39, .ireturn, 1, 0, 0, [])]
def mX10_rich : ab_M := (yX10_rich, cX10_rich, 3, (some (FieldType.int)), 0, 0, 1, kX10_rich)
def kX10_hub : List ab_I := [(0, .bipush (-2), 2, 0, 0, []),
  (2, .istore_n 1, 1, 0, 0, []),
  (3, .iconst 0, 1, 0, 0, []),
  (4, .istore_n 2, 1, 0, 0, []),
  (5, .iconst 0, 1, 0, 0, []),
  (6, .istore_n 3, 1, 0, 0, []),
  (7, .iload_n 3, 1, 0, 0, []),
  (8, .aload_n 0, 1, 0, 0, []),
  (9, .getfield 12, 3, 10, 0, [487, 1]),
  (12, .invokevirtual 197, 3, 92, 7, [1067, 0]),
  (15, .if_icmp .ge 63, 3, 78, 0, []),
  (18, .iconst 0, 1, 0, 0, []),
  (19, .istore 4, 2, 0, 0, []),
  (21, .iconst 0, 1, 0, 0, []),
  (22, .istore 5, 2, 0, 0, []),
  (24, .iload 5, 2, 0, 0, []),
  (26, .aload_n 0, 1, 0, 0, []),
  (27, .getfield 12, 3, 10, 0, [487, 1]),
  (30, .invokevirtual 197, 3, 92, 7, [1067, 0]),
  (33, .if_icmp .ge 24, 3, 57, 0, []),
  (36, .iload 4, 2, 0, 0, []),
  (38, .aload_n 0, 1, 0, 0, []),
  (39, .getfield 12, 3, 10, 0, [487, 1]),
  (42, .iload_n 3, 1, 0, 0, []),
  (43, .iload 5, 2, 0, 0, []),
  (45, .invokevirtual 142, 3, 107, 7, [894, 2]),
  (48, .iadd, 1, 0, 0, []),
  (49, .istore 4, 2, 0, 0, []),
  (51, .iinc 5 1, 3, 0, 0, []),
  (54, .goto (-30), 3, 24, 0, []),
  (57, .iload_n 1, 1, 0, 0, []),
  (58, .ifCond .lt 9, 3, 67, 0, []),
  (61, .iload 4, 2, 0, 0, []),
  (63, .iload_n 2, 1, 0, 0, []),
  (64, .if_icmp .ge 8, 3, 72, 0, []),
  (67, .iload_n 3, 1, 0, 0, []),
  (68, .istore_n 1, 1, 0, 0, []),
  (69, .iload 4, 2, 0, 0, []),
  (71, .istore_n 2, 1, 0, 0, []),
  (72, .iinc 3 1, 3, 0, 0, []),
  (75, .goto (-68), 3, 7, 0, []),
  (78, .iload_n 1, 1, 0, 0, []),
  (79, .ireturn, 1, 0, 0, [])]
def mX10_hub : ab_M := (yX10_hub, cX10_hub, 6, (some (FieldType.int)), 0, 0, 1, kX10_hub)
def kX10_crowd : List ab_I := [(0, .aload_n 0, 1, 0, 0, []),
  (1, .getfield 12, 3, 10, 0, [487, 1]),
  (4, .iload_n 1, 1, 0, 0, []),
  (5, .invokevirtual 103, 3, 98, 7, [801, 1]),
  (8, .ifCond .ne 5, 3, 13, 0, []),
  (11, .iconst (-1), 1, 0, 0, []),
  (12, .ireturn, 1, 0, 0, []),
  (13, .iconst 0, 1, 0, 0, []),
  (14, .istore_n 2, 1, 0, 0, []),
  (15, .iconst 0, 1, 0, 0, []),
  (16, .istore_n 3, 1, 0, 0, []),
  (17, .iload_n 3, 1, 0, 0, []),
  (18, .aload_n 0, 1, 0, 0, []),
  (19, .getfield 12, 3, 10, 0, [487, 1]),
  (22, .invokevirtual 218, 3, 96, 7, [1129, 0]),
  (25, .if_icmp .ge 31, 3, 56, 0, []),
  (28, .aload_n 0, 1, 0, 0, []),
  (29, .getfield 45, 3, 10, 5, [492, 1]),
  (32, .aload_n 0, 1, 0, 0, []),
  (33, .getfield 38, 3, 10, 4, [491, 1]),
  (36, .iload_n 3, 1, 0, 0, []),
  (37, .invokevirtual 179, 3, 13, 0, [1003, 2]),
  (40, .iload_n 1, 1, 0, 0, []),
  (41, .if_icmp .ne 9, 3, 50, 0, []),
  (44, .iload_n 2, 1, 0, 0, []),
  (45, .iconst 1, 1, 0, 0, []),
  (46, .iload_n 3, 1, 0, 0, []),
  (47, .ishl, 1, 0, 0, []),
  (48, .ior, 1, 0, 0, []),
  (49, .istore_n 2, 1, 0, 0, []),
  (50, .iinc 3 1, 3, 0, 0, []),
  (53, .goto (-36), 3, 17, 0, []),
  (56, .iload_n 2, 1, 0, 0, []),
  (57, .ireturn, 1, 0, 0, [])]
def mX10_crowd : ab_M := (yX10_crowd, cX10_crowd, 4, (some (FieldType.int)), 0, 0, 1, kX10_crowd)
def kX10_healed : List ab_I := [(0, .aload_n 0, 1, 0, 0, []),
  (1, .getfield 12, 3, 10, 0, [487, 1]),
  (4, .iload_n 1, 1, 0, 0, []),
  (5, .invokevirtual 125, 3, 100, 7, [829, 1]),
  (8, .ifCond .eq 13, 3, 21, 0, []),
  (11, .iload_n 2, 1, 0, 0, []),
  (12, .iconst 0, 1, 0, 0, []),
  (13, .bipush 60, 2, 0, 0, []),
  (15, .invokestatic 150, 3, 180, 0, [907, 3]),
  (18, .ifCond .ne 5, 3, 23, 0, []),
  (21, .iconst (-1), 1, 0, 0, []),
  (22, .ireturn, 1, 0, 0, []),
  (23, .aload_n 0, 1, 0, 0, []),
  (24, .getfield 54, 3, 10, 6, [493, 1]),
  (27, .bipush 47, 2, 0, 0, []),
  (29, .iload_n 1, 1, 0, 0, []),
  (30, .iadd, 1, 0, 0, []),
  (31, .iload_n 2, 1, 0, 0, []),
  (32, .invokevirtual 208, 3, 23, 1, [1100, 2]),
  (35, .ireturn, 1, 0, 0, [])]
def mX10_healed : ab_M := (yX10_healed, cX10_healed, 3, (some (FieldType.int)), 0, 0, 1, kX10_healed)
def kX10_famed : List ab_I := [(0, .iload_n 1, 1, 0, 0, []),
  (1, .iconst 0, 1, 0, 0, []),
  (2, .bipush 60, 2, 0, 0, []),
  (4, .invokestatic 150, 3, 180, 0, [907, 3]),
  (7, .ifCond .eq 14, 3, 21, 0, []),
  (10, .aload_n 0, 1, 0, 0, []),
  (11, .getfield 54, 3, 10, 6, [493, 1]),
  (14, .iload_n 1, 1, 0, 0, []),
  (15, .invokevirtual 221, 3, 31, 1, [1138, 1]),
  (18, .goto 4, 3, 22, 0, []),
  (21, .iconst (-1), 1, 0, 0, []),
  (22, .ireturn, 1, 0, 0, [])]
def mX10_famed : ab_M := (yX10_famed, cX10_famed, 2, (some (FieldType.int)), 0, 0, 1, kX10_famed)
def kX10_year : List ab_I := [(0, .aload_n 0, 1, 0, 0, []),
  (1, .getfield 12, 3, 10, 0, [487, 1]),
  (4, .iload_n 1, 1, 0, 0, []),
  (5, .invokevirtual 119, 3, 99, 7, [817, 1]),
  (8, .ifCond .eq 23, 3, 31, 0, []),
  (11, .iload_n 2, 1, 0, 0, []),
  (12, .iconst 0, 1, 0, 0, []),
  (13, .bipush 60, 2, 0, 0, []),
  (15, .invokestatic 150, 3, 180, 0, [907, 3]),
  (18, .ifCond .eq 13, 3, 31, 0, []),
  (21, .iload_n 3, 1, 0, 0, []),
  (22, .iconst 1, 1, 0, 0, []),
  (23, .bipush 20, 2, 0, 0, []),
  (25, .invokestatic 150, 3, 180, 0, [907, 3]),
  (28, .ifCond .ne 5, 3, 33, 0, []),
  (31, .iconst (-1), 1, 0, 0, []),
  (32, .ireturn, 1, 0, 0, []),
  (33, .aload_n 0, 1, 0, 0, []),
  (34, .getfield 54, 3, 10, 6, [493, 1]),
  (37, .iload_n 1, 1, 0, 0, []),
  (38, .iload_n 2, 1, 0, 0, []),
  (39, .iload_n 3, 1, 0, 0, []),
  (40, .invokevirtual 224, 3, 32, 1, [1146, 3]),
  (43, .ireturn, 1, 0, 0, [])]
def mX10_year : ab_M := (yX10_year, cX10_year, 4, (some (FieldType.int)), 0, 0, 1, kX10_year)
def kX10_belief : List ab_I := [(0, .aload_n 0, 1, 0, 0, []),
  (1, .getfield 12, 3, 10, 0, [487, 1]),
  (4, .iload_n 1, 1, 0, 0, []),
  (5, .invokevirtual 119, 3, 99, 7, [817, 1]),
  (8, .ifCond .eq 14, 3, 22, 0, []),
  (11, .aload_n 0, 1, 0, 0, []),
  (12, .getfield 12, 3, 10, 0, [487, 1]),
  (15, .iload_n 2, 1, 0, 0, []),
  (16, .invokevirtual 125, 3, 100, 7, [829, 1]),
  (19, .ifCond .ne 5, 3, 24, 0, []),
  (22, .iconst (-1), 1, 0, 0, []),
  (23, .ireturn, 1, 0, 0, []),
  (24, .iload_n 3, 1, 0, 0, []),
  (25, .iconst 0, 1, 0, 0, []),
  (26, .iconst 4, 1, 0, 0, []),
  (27, .invokestatic 150, 3, 180, 0, [907, 3]),
  (30, .ifCond .eq 13, 3, 43, 0, []),
  (33, .iload 4, 2, 0, 0, []),
  (35, .iconst 0, 1, 0, 0, []),
  (36, .iload_n 3, 1, 0, 0, []),
  (37, .invokestatic 150, 3, 180, 0, [907, 3]),
  (40, .ifCond .ne 5, 3, 45, 0, []),
  (43, .iconst (-1), 1, 0, 0, []),
  (44, .ireturn, 1, 0, 0, []),
  (45, .aload_n 0, 1, 0, 0, []),
  (46, .getfield 45, 3, 10, 5, [492, 1]),
  (49, .aload_n 0, 1, 0, 0, []),
  (50, .getfield 38, 3, 10, 4, [491, 1]),
  (53, .iload_n 1, 1, 0, 0, []),
  (54, .iload_n 2, 1, 0, 0, []),
  (55, .iconst 1, 1, 0, 0, []),
  (56, .invokevirtual 146, 3, 10, 0, [899, 4]),
  (59, .iload_n 3, 1, 0, 0, []),
  (60, .iload 4, 2, 0, 0, []),
  (62, .invokestatic 228, 3, 178, 0, [1158, 3]),
  (65, .lstore 6, 2, 0, 0, []),
  (67, .aload_n 0, 1, 0, 0, []),
  (68, .getfield 45, 3, 10, 5, [492, 1]),
  (71, .aload_n 0, 1, 0, 0, []),
  (72, .getfield 38, 3, 10, 4, [491, 1]),
  (75, .iload_n 1, 1, 0, 0, []),
  (76, .iload_n 2, 1, 0, 0, []),
  (77, .iconst 0, 1, 0, 0, []),
  (78, .invokevirtual 146, 3, 10, 0, [899, 4]),
  (81, .iload_n 3, 1, 0, 0, []),
  (82, .iload 4, 2, 0, 0, []),
  (84, .invokestatic 228, 3, 178, 0, [1158, 3]),
  (87, .lstore 8, 2, 0, 0, []),
  (89, .lload 6, 2, 0, 0, []),
  (91, .lload 8, 2, 0, 0, []),
  (93, .ladd, 1, 0, 0, []),
  (94, .lstore 10, 2, 0, 0, []),
  (96, .lload 10, 2, 0, 0, []),
  (98, .lconst 0, 1, 0, 0, []),
  (99, .lcmp, 1, 0, 0, []),
  (100, .ifCond .ne 14, 3, 114, 0, []),
  (103, .iload 5, 2, 0, 0, []),
  (105, .ifCond .eq 7, 3, 112, 0, []),
  (108, .iconst 2, 1, 0, 0, []),
  (109, .goto 4, 3, 113, 0, []),
  (112, .iconst 1, 1, 0, 0, []),
  (113, .ireturn, 1, 0, 0, []),
  (114, .lload 10, 2, 0, 0, []),
  (116, .lload 6, 2, 0, 0, []),
  (118, .invokestatic 232, 3, 179, 0, [1161, 2]),
  (121, .lstore 12, 2, 0, 0, []),
  (123, .iload 5, 2, 0, 0, []),
  (125, .ifCond .eq 8, 3, 133, 0, []),
  (128, .lload 10, 2, 0, 0, []),
  (130, .goto 5, 3, 135, 0, []),
  (133, .lload 6, 2, 0, 0, []),
  (135, .lload 12, 2, 0, 0, []),
  (137, .ldiv, 1, 0, 0, []),
  (138, .l2i, 1, 0, 0, []),
  (139, .ireturn, 1, 0, 0, [])]
def mX10_belief : ab_M := (yX10_belief, cX10_belief, 14, (some (FieldType.int)), 0, 0, 1, kX10_belief)
def kX10_certain : List ab_I := [(0, .aload_n 0, 1, 0, 0, []),
  (1, .getfield 12, 3, 10, 0, [487, 1]),
  (4, .iload_n 1, 1, 0, 0, []),
  (5, .invokevirtual 119, 3, 99, 7, [817, 1]),
  (8, .ifCond .eq 24, 3, 32, 0, []),
  (11, .aload_n 0, 1, 0, 0, []),
  (12, .getfield 12, 3, 10, 0, [487, 1]),
  (15, .iload_n 2, 1, 0, 0, []),
  (16, .invokevirtual 125, 3, 100, 7, [829, 1]),
  (19, .ifCond .eq 13, 3, 32, 0, []),
  (22, .iload_n 3, 1, 0, 0, []),
  (23, .iconst 0, 1, 0, 0, []),
  (24, .bipush 100, 2, 0, 0, []),
  (26, .invokestatic 150, 3, 180, 0, [907, 3]),
  (29, .ifCond .ne 5, 3, 34, 0, []),
  (32, .iconst (-1), 1, 0, 0, []),
  (33, .ireturn, 1, 0, 0, []),
  (34, .aload_n 0, 1, 0, 0, []),
  (35, .getfield 45, 3, 10, 5, [492, 1]),
  (38, .aload_n 0, 1, 0, 0, []),
  (39, .getfield 38, 3, 10, 4, [491, 1]),
  (42, .iload_n 1, 1, 0, 0, []),
  (43, .iload_n 2, 1, 0, 0, []),
  (44, .iconst 1, 1, 0, 0, []),
  (45, .invokevirtual 146, 3, 10, 0, [899, 4]),
  (48, .istore 4, 2, 0, 0, []),
  (50, .aload_n 0, 1, 0, 0, []),
  (51, .getfield 45, 3, 10, 5, [492, 1]),
  (54, .aload_n 0, 1, 0, 0, []),
  (55, .getfield 38, 3, 10, 4, [491, 1]),
  (58, .iload_n 1, 1, 0, 0, []),
  (59, .iload_n 2, 1, 0, 0, []),
  (60, .iconst 0, 1, 0, 0, []),
  (61, .invokevirtual 146, 3, 10, 0, [899, 4]),
  (64, .istore 5, 2, 0, 0, []),
  (66, .iconst 0, 1, 0, 0, []),
  (67, .istore 6, 2, 0, 0, []),
  (69, .iload 6, 2, 0, 0, []),
  (71, .iconst 4, 1, 0, 0, []),
  (72, .if_icmp .gt 85, 3, 157, 0, []),
  (75, .iload 4, 2, 0, 0, []),
  (77, .iload 6, 2, 0, 0, []),
  (79, .iload 6, 2, 0, 0, []),
  (81, .invokestatic 228, 3, 178, 0, [1158, 3]),
  (84, .lstore 7, 2, 0, 0, []),
  (86, .iload 5, 2, 0, 0, []),
  (88, .iload 6, 2, 0, 0, []),
  (90, .iload 6, 2, 0, 0, []),
  (92, .invokestatic 228, 3, 178, 0, [1158, 3]),
  (95, .lstore 9, 2, 0, 0, []),
  (97, .lload 7, 2, 0, 0, []),
  (99, .lload 9, 2, 0, 0, []),
  (101, .ladd, 1, 0, 0, []),
  (102, .lconst 0, 1, 0, 0, []),
  (103, .lcmp, 1, 0, 0, []),
  (104, .ifCond .le 7, 3, 111, 0, []),
  (107, .iconst 1, 1, 0, 0, []),
  (108, .goto 4, 3, 112, 0, []),
  (111, .iconst 0, 1, 0, 0, []),
  (112, .istore 11, 2, 0, 0, []),
  (114, .iload 11, 2, 0, 0, []),
  (116, .ifCond .eq 24, 3, 140, 0, []),
  (119, .lload 7, 2, 0, 0, []),
  (121, .ldc2_w 236, 3, 100, 0, [1171]),
  (124, .lmul, 1, 0, 0, []),
  (125, .iload_n 3, 1, 0, 0, []),
  (126, .i2l, 1, 0, 0, []),
  (127, .lload 7, 2, 0, 0, []),
  (129, .lload 9, 2, 0, 0, []),
  (131, .ladd, 1, 0, 0, []),
  (132, .lmul, 1, 0, 0, []),
  (133, .lcmp, 1, 0, 0, []),
  (134, .ifCond .lt 17, 3, 151, 0, []),
  (137, .goto 11, 3, 148, 0, []),
  (140, .bipush 100, 2, 0, 0, []),
  (142, .iload_n 3, 1, 0, 0, []),
  (143, .iconst 2, 1, 0, 0, []),
  (144, .imul, 1, 0, 0, []),
  (145, .if_icmp .lt 6, 3, 151, 0, []),
  (148, .iload 6, 2, 0, 0, []),
  (150, .ireturn, 1, 0, 0, []),
  (151, .iinc 6 1, 3, 0, 0, []),
  (154, .goto (-85), 3, 69, 0, []),
  (157, .bipush (-2), 2, 0, 0, []),
  (159, .ireturn, 1, 0, 0, [])]
def mX10_certain : ab_M := (yX10_certain, cX10_certain, 12, (some (FieldType.int)), 0, 0, 1, kX10_certain)
def kX10_tell : List ab_I := [(0, .aload_n 0, 1, 0, 0, []),
  (1, .getfield 12, 3, 10, 0, [487, 1]),
  (4, .iload_n 1, 1, 0, 0, []),
  (5, .invokevirtual 125, 3, 100, 7, [829, 1]),
  (8, .ifCond .eq 15, 3, 23, 0, []),
  (11, .aload_n 0, 1, 0, 0, []),
  (12, .getfield 68, 3, 10, 8, [495, 1]),
  (15, .iload_n 1, 1, 0, 0, []),
  (16, .iload_n 2, 1, 0, 0, []),
  (17, .invokevirtual 238, 3, 133, 9, [1176, 2]),
  (20, .goto 4, 3, 24, 0, []),
  (23, .iconst (-1), 1, 0, 0, []),
  (24, .ireturn, 1, 0, 0, [])]
def mX10_tell : ab_M := (yX10_tell, cX10_tell, 3, (some (FieldType.int)), 0, 0, 1, kX10_tell)
def kX10_forget : List ab_I := [(0, .aload_n 0, 1, 0, 0, []),
  (1, .getfield 68, 3, 10, 8, [495, 1]),
  (4, .invokevirtual 241, 3, 132, 9, [1184, 0]),
  (7, .istore_n 1, 1, 0, 0, []),
  (8, .aload_n 0, 1, 0, 0, []),
  (9, .getfield 68, 3, 10, 8, [495, 1]),
  (12, .invokevirtual 99, 3, 131, 9, [483, 0]),
  (15, .iload_n 1, 1, 0, 0, []),
  (16, .ireturn, 1, 0, 0, [])]
def mX10_forget : ab_M := (yX10_forget, cX10_forget, 2, (some (FieldType.int)), 0, 0, 1, kX10_forget)
def kX10_whose : List ab_I := [(0, .iload_n 1, 1, 0, 0, []),
  (1, .iconst 0, 1, 0, 0, []),
  (2, .aload_n 0, 1, 0, 0, []),
  (3, .getfield 68, 3, 10, 8, [495, 1]),
  (6, .invokevirtual 241, 3, 132, 9, [1184, 0]),
  (9, .invokestatic 150, 3, 180, 0, [907, 3]),
  (12, .ifCond .eq 12, 3, 24, 0, []),
  (15, .iload_n 2, 1, 0, 0, []),
  (16, .iconst 0, 1, 0, 0, []),
  (17, .iconst 1, 1, 0, 0, []),
  (18, .invokestatic 150, 3, 180, 0, [907, 3]),
  (21, .ifCond .ne 5, 3, 26, 0, []),
  (24, .iconst (-1), 1, 0, 0, []),
  (25, .ireturn, 1, 0, 0, []),
  (26, .aload_n 0, 1, 0, 0, []),
  (27, .getfield 54, 3, 10, 6, [493, 1]),
  (30, .iconst 1, 1, 0, 0, []),
  (31, .invokevirtual 211, 3, 22, 1, [1112, 1]),
  (34, .pop, 1, 0, 0, []),
  (35, .aload_n 0, 1, 0, 0, []),
  (36, .getfield 68, 3, 10, 8, [495, 1]),
  (39, .iload_n 1, 1, 0, 0, []),
  (40, .aload_n 0, 1, 0, 0, []),
  (41, .getfield 12, 3, 10, 0, [487, 1]),
  (44, .invokevirtual 244, 3, 94, 7, [1192, 0]),
  (47, .aload_n 0, 1, 0, 0, []),
  (48, .getfield 45, 3, 10, 5, [492, 1]),
  (51, .invokevirtual 247, 3, 134, 9, [1193, 3]),
  (54, .istore_n 3, 1, 0, 0, []),
  (55, .iload_n 2, 1, 0, 0, []),
  (56, .ifCond .ne 10, 3, 66, 0, []),
  (59, .iload_n 3, 1, 0, 0, []),
  (60, .invokestatic 114, 3, 298, 0, [807, 1]),
  (63, .goto 4, 3, 67, 0, []),
  (66, .iload_n 3, 1, 0, 0, []),
  (67, .ireturn, 1, 0, 0, [])]
def mX10_whose : ab_M := (yX10_whose, cX10_whose, 4, (some (FieldType.int)), 0, 0, 1, kX10_whose)
def kX10_ask : List ab_I := [(0, .iload_n 1, 1, 0, 0, []),
  (1, .iconst 0, 1, 0, 0, []),
  (2, .aload_n 0, 1, 0, 0, []),
  (3, .getfield 68, 3, 10, 8, [495, 1]),
  (6, .invokevirtual 241, 3, 132, 9, [1184, 0]),
  (9, .invokestatic 150, 3, 180, 0, [907, 3]),
  (12, .ifCond .ne 5, 3, 17, 0, []),
  (15, .iconst (-1), 1, 0, 0, []),
  (16, .ireturn, 1, 0, 0, []),
  (17, .aload_n 0, 1, 0, 0, []),
  (18, .getfield 54, 3, 10, 6, [493, 1]),
  (21, .iconst 1, 1, 0, 0, []),
  (22, .invokevirtual 211, 3, 22, 1, [1112, 1]),
  (25, .pop, 1, 0, 0, []),
  (26, .aload_n 0, 1, 0, 0, []),
  (27, .getfield 68, 3, 10, 8, [495, 1]),
  (30, .iload_n 1, 1, 0, 0, []),
  (31, .aload_n 0, 1, 0, 0, []),
  (32, .getfield 12, 3, 10, 0, [487, 1]),
  (35, .invokevirtual 244, 3, 94, 7, [1192, 0]),
  (38, .aload_n 0, 1, 0, 0, []),
  (39, .getfield 45, 3, 10, 5, [492, 1]),
  (42, .invokevirtual 247, 3, 134, 9, [1193, 3]),
  (45, .istore_n 2, 1, 0, 0, []),
  (46, .iload_n 2, 1, 0, 0, []),
  (47, .ifCond .ne 8, 3, 55, 0, []),
  (50, .bipush (-2), 2, 0, 0, []),
  (52, .goto 22, 3, 74, 0, []),
  (55, .aload_n 0, 1, 0, 0, []),
  (56, .getfield 68, 3, 10, 8, [495, 1]),
  (59, .iload_n 2, 1, 0, 0, []),
  (60, .aload_n 0, 1, 0, 0, []),
  (61, .getfield 12, 3, 10, 0, [487, 1]),
  (64, .invokevirtual 218, 3, 96, 7, [1129, 0]),
  (67, .aload_n 0, 1, 0, 0, []),
  (68, .getfield 45, 3, 10, 5, [492, 1]),
  (71, .invokevirtual 251, 3, 135, 9, [1205, 3]),
  (74, .ireturn, 1, 0, 0, [])]
def mX10_ask : ab_M := (yX10_ask, cX10_ask, 3, (some (FieldType.int)), 0, 0, 1, kX10_ask)
def kX10_hold : List ab_I := [(0, .aload_n 0, 1, 0, 0, []),
  (1, .getfield 61, 3, 10, 7, [494, 1]),
  (4, .aload_n 0, 1, 0, 0, []),
  (5, .getfield 38, 3, 10, 4, [491, 1]),
  (8, .iload_n 1, 1, 0, 0, []),
  (9, .invokevirtual 254, 3, 51, 3, [1215, 2]),
  (12, .ireturn, 1, 0, 0, [])]
def mX10_hold : ab_M := (yX10_hold, cX10_hold, 2, (some (FieldType.boolean)), 0, 0, 1, kX10_hold)
def kX10_restore : List ab_I := [(0, .aload_n 0, 1, 0, 0, []),
  (1, .getfield 61, 3, 10, 7, [494, 1]),
  (4, .aload_n 0, 1, 0, 0, []),
  (5, .getfield 38, 3, 10, 4, [491, 1]),
  (8, .iload_n 1, 1, 0, 0, []),
  (9, .invokevirtual 258, 3, 52, 3, [1224, 2]),
  (12, .ireturn, 1, 0, 0, [])]
def mX10_restore : ab_M := (yX10_restore, cX10_restore, 2, (some (FieldType.boolean)), 0, 0, 1, kX10_restore)
def kX10_count : List ab_I := [(0, .iload_n 1, 1, 0, 0, []),
  (1, .tableswitch 228 0 15 #[79, 87, 95, 103, 111, 121, 133, 145, 155, 165, 177, 185, 193, 201, 209, 220], 79, 229, 0, [80, 88, 96, 104, 112, 122, 134, 146, 156, 166, 178, 186, 194, 202, 210, 221]),
  (80, .aload_n 0, 1, 0, 0, []),
  (81, .getfield 12, 3, 10, 0, [487, 1]),
  (84, .invokevirtual 197, 3, 92, 7, [1067, 0]),
  (87, .ireturn, 1, 0, 0, []),
  (88, .aload_n 0, 1, 0, 0, []),
  (89, .getfield 12, 3, 10, 0, [487, 1]),
  (92, .invokevirtual 261, 3, 93, 7, [1232, 0]),
  (95, .ireturn, 1, 0, 0, []),
  (96, .aload_n 0, 1, 0, 0, []),
  (97, .getfield 12, 3, 10, 0, [487, 1]),
  (100, .invokevirtual 244, 3, 94, 7, [1192, 0]),
  (103, .ireturn, 1, 0, 0, []),
  (104, .aload_n 0, 1, 0, 0, []),
  (105, .getfield 12, 3, 10, 0, [487, 1]),
  (108, .invokevirtual 218, 3, 96, 7, [1129, 0]),
  (111, .ireturn, 1, 0, 0, []),
  (112, .aload_n 0, 1, 0, 0, []),
  (113, .getfield 38, 3, 10, 4, [491, 1]),
  (116, .bipush 52, 2, 0, 0, []),
  (118, .invokevirtual 107, 3, 74, 5, [802, 1]),
  (121, .ireturn, 1, 0, 0, []),
  (122, .aload_n 0, 1, 0, 0, []),
  (123, .getfield 38, 3, 10, 4, [491, 1]),
  (126, .bipush 12, 2, 0, 0, []),
  (128, .bipush 6, 2, 0, 0, []),
  (130, .invokevirtual 264, 3, 77, 5, [1233, 2]),
  (133, .ireturn, 1, 0, 0, []),
  (134, .aload_n 0, 1, 0, 0, []),
  (135, .getfield 38, 3, 10, 4, [491, 1]),
  (138, .bipush 6, 2, 0, 0, []),
  (140, .bipush 6, 2, 0, 0, []),
  (142, .invokevirtual 264, 3, 77, 5, [1233, 2]),
  (145, .ireturn, 1, 0, 0, []),
  (146, .aload_n 0, 1, 0, 0, []),
  (147, .getfield 38, 3, 10, 4, [491, 1]),
  (150, .bipush 53, 2, 0, 0, []),
  (152, .invokevirtual 107, 3, 74, 5, [802, 1]),
  (155, .ireturn, 1, 0, 0, []),
  (156, .aload_n 0, 1, 0, 0, []),
  (157, .getfield 38, 3, 10, 4, [491, 1]),
  (160, .bipush 54, 2, 0, 0, []),
  (162, .invokevirtual 107, 3, 74, 5, [802, 1]),
  (165, .ireturn, 1, 0, 0, []),
  (166, .aload_n 0, 1, 0, 0, []),
  (167, .getfield 38, 3, 10, 4, [491, 1]),
  (170, .bipush 36, 2, 0, 0, []),
  (172, .bipush 6, 2, 0, 0, []),
  (174, .invokevirtual 264, 3, 77, 5, [1233, 2]),
  (177, .ireturn, 1, 0, 0, []),
  (178, .aload_n 0, 1, 0, 0, []),
  (179, .getfield 22, 3, 10, 2, [489, 1]),
  (182, .invokevirtual 75, 3, 85, 6, [519, 0]),
  (185, .ireturn, 1, 0, 0, []),
  (186, .aload_n 0, 1, 0, 0, []),
  (187, .getfield 61, 3, 10, 7, [494, 1]),
  (190, .invokevirtual 267, 3, 47, 3, [1237, 0]),
  (193, .ireturn, 1, 0, 0, []),
  (194, .aload_n 0, 1, 0, 0, []),
  (195, .getfield 68, 3, 10, 8, [495, 1]),
  (198, .invokevirtual 241, 3, 132, 9, [1184, 0]),
  (201, .ireturn, 1, 0, 0, []),
  (202, .aload_n 0, 1, 0, 0, []),
  (203, .getfield 61, 3, 10, 7, [494, 1]),
  (206, .invokevirtual 268, 3, 48, 3, [1241, 0]),
  (209, .ireturn, 1, 0, 0, []),
  (210, .aload_n 0, 1, 0, 0, []),
  (211, .getfield 38, 3, 10, 4, [491, 1]),
  (214, .iconst 0, 1, 0, 0, []),
  (215, .bipush 6, 2, 0, 0, []),
  (217, .invokevirtual 264, 3, 77, 5, [1233, 2]),
  (220, .ireturn, 1, 0, 0, []),
  (221, .aload_n 0, 1, 0, 0, []),
  (222, .getfield 12, 3, 10, 0, [487, 1]),
  (225, .invokevirtual 111, 3, 95, 7, [803, 0]),
  (228, .ireturn, 1, 0, 0, []),
  (229, .iconst (-1), 1, 0, 0, []),
  (230, .ireturn, 1, 0, 0, [])]
def mX10_count : ab_M := (yX10_count, cX10_count, 2, (some (FieldType.int)), 0, 0, 1, kX10_count)
def kX10_likelyRow : List ab_I := [(0, .lconst 1, 1, 0, 0, []),
  (1, .lstore_n 3, 1, 0, 0, []),
  (2, .iconst 0, 1, 0, 0, []),
  (3, .istore 5, 2, 0, 0, []),
  (5, .iload 5, 2, 0, 0, []),
  (7, .iload_n 1, 1, 0, 0, []),
  (8, .if_icmp .ge 28, 3, 36, 0, []),
  (11, .lload_n 3, 1, 0, 0, []),
  (12, .iload 5, 2, 0, 0, []),
  (14, .iload_n 2, 1, 0, 0, []),
  (15, .if_icmp .ge 8, 3, 23, 0, []),
  (18, .iload_n 0, 1, 0, 0, []),
  (19, .i2l, 1, 0, 0, []),
  (20, .goto 8, 3, 28, 0, []),
  (23, .bipush 100, 2, 0, 0, []),
  (25, .iload_n 0, 1, 0, 0, []),
  (26, .isub, 1, 0, 0, []),
  (27, .i2l, 1, 0, 0, []),
  (28, .lmul, 1, 0, 0, []),
  (29, .lstore_n 3, 1, 0, 0, []),
  (30, .iinc 5 1, 3, 0, 0, []),
  (33, .goto (-28), 3, 5, 0, []),
  (36, .lload_n 3, 1, 0, 0, []),
  (37, .lreturn, 1, 0, 0, [])]
def mX10_likelyRow : ab_M := (yX10_likelyRow, cX10_likelyRow, 6, (some (FieldType.long)), 0, 0, 0, kX10_likelyRow)
def kX10_commonDivisor : List ab_I := [(0, .lload_n 0, 1, 0, 0, []),
  (1, .lstore 4, 2, 0, 0, []),
  (3, .lload_n 2, 1, 0, 0, []),
  (4, .lstore 6, 2, 0, 0, []),
  (6, .iconst 0, 1, 0, 0, []),
  (7, .istore 8, 2, 0, 0, []),
  (9, .iload 8, 2, 0, 0, []),
  (11, .sipush 200, 3, 0, 0, []),
  (14, .if_icmp .ge 31, 3, 45, 0, []),
  (17, .lload 6, 2, 0, 0, []),
  (19, .lconst 0, 1, 0, 0, []),
  (20, .lcmp, 1, 0, 0, []),
  (21, .ifCond .le 24, 3, 45, 0, []),
  (24, .lload 4, 2, 0, 0, []),
  (26, .lload 6, 2, 0, 0, []),
  (28, .lrem, 1, 0, 0, []),
  (29, .lstore 9, 2, 0, 0, []),
  (31, .lload 6, 2, 0, 0, []),
  (33, .lstore 4, 2, 0, 0, []),
  (35, .lload 9, 2, 0, 0, []),
  (37, .lstore 6, 2, 0, 0, []),
  (39, .iinc 8 1, 3, 0, 0, []),
  (42, .goto (-33), 3, 9, 0, []),
  (45, .lconst 1, 1, 0, 0, []),
  (46, .lload 4, 2, 0, 0, []),
  (48, .invokestatic 271, 3, 300, 0, [1164, 2]),
  (51, .lreturn, 1, 0, 0, [])]
def mX10_commonDivisor : ab_M := (yX10_commonDivisor, cX10_commonDivisor, 11, (some (FieldType.long)), 0, 0, 0, kX10_commonDivisor)
def kX10_isWithin : List ab_I := [(0, .iload_n 0, 1, 0, 0, []),
  (1, .iload_n 1, 1, 0, 0, []),
  (2, .if_icmp .lt 12, 3, 14, 0, []),
  (5, .iload_n 0, 1, 0, 0, []),
  (6, .iload_n 2, 1, 0, 0, []),
  (7, .if_icmp .gt 7, 3, 14, 0, []),
  (10, .iconst 1, 1, 0, 0, []),
  (11, .goto 4, 3, 15, 0, []),
  (14, .iconst 0, 1, 0, 0, []),
  (15, .ireturn, 1, 0, 0, [])]
def mX10_isWithin : ab_M := (yX10_isWithin, cX10_isWithin, 3, (some (FieldType.boolean)), 0, 0, 0, kX10_isWithin)
def kX10_heldTo : List ab_I := [(0, .iconst 0, 1, 0, 0, []),
  (1, .iload_n 1, 1, 0, 0, []),
  (2, .iload_n 0, 1, 0, 0, []),
  (3, .invokestatic 276, 3, 301, 0, [892, 2]),
  (6, .invokestatic 279, 3, 299, 0, [893, 2]),
  (9, .ireturn, 1, 0, 0, [])]
def mX10_heldTo : ab_M := (yX10_heldTo, cX10_heldTo, 2, (some (FieldType.int)), 0, 0, 0, kX10_heldTo)
def kX11_init : List ab_I := [(0, .aload_n 0, 1, 0, 0, []),
  (1, .invokespecial 7, 3, 0, 0, [1250]),
  (4, .aload_n 0, 1, 0, 0, []),
  (5, .sipush 2000, 3, 0, 0, []),
  (8, .newarray .byte, 2, 0, 0, []),
  (10, .putfield 13, 3, 11, 1, [1270, 1, 1]),
  (13, .aload_n 0, 1, 0, 0, []),
  (14, .sipush 2000, 3, 0, 0, []),
  (17, .newarray .byte, 2, 0, 0, []),
  (19, .putfield 17, 3, 11, 3, [1272, 1, 1]),
  (22, .aload_n 0, 1, 0, 0, []),
  (23, .sipush 403, 3, 0, 0, []),
  (26, .newarray .int, 2, 0, 0, []),
  (28, .putfield 20, 3, 11, 5, [1274, 1, 1]),
  (31, .aload_n 0, 1, 0, 0, []),
  (32, .sipush 403, 3, 0, 0, []),
  (35, .newarray .int, 2, 0, 0, []),
  (37, .putfield 24, 3, 11, 6, [1275, 1, 1]),
  (40, .aload_n 0, 1, 0, 0, []),
  (41, .sipush 403, 3, 0, 0, []),
  (44, .newarray .int, 2, 0, 0, []),
  (46, .putfield 27, 3, 11, 7, [1276, 1, 1]),
  (49, .aload_n 0, 1, 0, 0, []),
  (50, .sipush 403, 3, 0, 0, []),
  (53, .newarray .long, 2, 0, 0, []),
  (55, .putfield 30, 3, 11, 8, [1277, 1, 1]),
  (58, .aload_n 0, 1, 0, 0, []),
  (59, .bipush 24, 2, 0, 0, []),
  (61, .newarray .long, 2, 0, 0, []),
  (63, .putfield 34, 3, 11, 9, [1278, 1, 1]),
  (66, .aload_n 0, 1, 0, 0, []),
  (67, .iconst (-1), 1, 0, 0, []),
  (68, .putfield 37, 3, 11, 17, [1286]),
  (71, .aload_n 0, 1, 0, 0, []),
  (72, .bipush 17, 2, 0, 0, []),
  (74, .newarray .long, 2, 0, 0, []),
  (76, .putfield 40, 3, 11, 21, [1290, 1, 1]),
  (79, .aload_n 0, 1, 0, 0, []),
  (80, .bipush 17, 2, 0, 0, []),
  (82, .newarray .int, 2, 0, 0, []),
  (84, .putfield 43, 3, 11, 22, [1291, 1, 1]),
  (87, .aload_n 0, 1, 0, 0, []),
  (88, .iconst 2, 1, 0, 0, []),
  (89, .newarray .int, 2, 0, 0, []),
  (91, .putfield 46, 3, 11, 23, [1292, 1, 1]),
  (94, .aload_n 0, 1, 0, 0, []),
  (95, .bipush 12, 2, 0, 0, []),
  (97, .newarray .int, 2, 0, 0, []),
  (99, .putfield 49, 3, 11, 24, [1293, 1, 1]),
  (102, .aload_n 0, 1, 0, 0, []),
  (103, .iconst 2, 1, 0, 0, []),
  (104, .newarray .int, 2, 0, 0, []),
  (106, .putfield 52, 3, 11, 25, [1294, 1, 1]),
  (109, .aload_n 0, 1, 0, 0, []),
  (110, .bipush 72, 2, 0, 0, []),
  (112, .newarray .int, 2, 0, 0, []),
  (114, .putfield 55, 3, 11, 26, [1295, 1, 1]),
  (117, .aload_n 0, 1, 0, 0, []),
  (118, .iconst 2, 1, 0, 0, []),
  (119, .newarray .int, 2, 0, 0, []),
  (121, .putfield 58, 3, 11, 27, [1296, 1, 1]),
  (124, .aload_n 0, 1, 0, 0, []),
  (125, .bipush 12, 2, 0, 0, []),
  (127, .newarray .int, 2, 0, 0, []),
  (129, .putfield 61, 3, 11, 28, [1297, 1, 1]),
  (132, .aload_n 0, 1, 0, 0, []),
  (133, .bipush 12, 2, 0, 0, []),
  (135, .newarray .int, 2, 0, 0, []),
  (137, .putfield 64, 3, 11, 29, [1298, 1, 1]),
  (140, .aload_n 0, 1, 0, 0, []),
  (141, .iconst 2, 1, 0, 0, []),
  (142, .newarray .int, 2, 0, 0, []),
  (144, .putfield 67, 3, 11, 30, [1299, 1, 1]),
  (147, .aload_n 0, 1, 0, 0, []),
  (148, .bipush 10, 2, 0, 0, []),
  (150, .newarray .int, 2, 0, 0, []),
  (152, .putfield 70, 3, 11, 31, [1300, 1, 1]),
  (155, .aload_n 0, 1, 0, 0, []),
  (156, .bipush 10, 2, 0, 0, []),
  (158, .newarray .int, 2, 0, 0, []),
  (160, .putfield 73, 3, 11, 32, [1301, 1, 1]),
  (163, .aload_n 0, 1, 0, 0, []),
  (164, .bipush 10, 2, 0, 0, []),
  (166, .newarray .int, 2, 0, 0, []),
  (168, .putfield 76, 3, 11, 33, [1302, 1, 1]),
  (171, .aload_n 0, 1, 0, 0, []),
  (172, .iconst 2, 1, 0, 0, []),
  (173, .newarray .int, 2, 0, 0, []),
  (175, .putfield 79, 3, 11, 34, [1303, 1, 1]),
  (178, .aload_n 0, 1, 0, 0, []),
  (179, .bipush 10, 2, 0, 0, []),
  (181, .newarray .int, 2, 0, 0, []),
  (183, .putfield 82, 3, 11, 35, [1304, 1, 1]),
  (186, .aload_n 0, 1, 0, 0, []),
  (187, .bipush 10, 2, 0, 0, []),
  (189, .newarray .int, 2, 0, 0, []),
  (191, .putfield 85, 3, 11, 36, [1305, 1, 1]),
  (194, .aload_n 0, 1, 0, 0, []),
  (195, .sipush 260, 3, 0, 0, []),
  (198, .newarray .boolean, 2, 0, 0, []),
  (200, .putfield 88, 3, 11, 38, [1307, 1, 1]),
  (203, .aload_n 0, 1, 0, 0, []),
  (204, .sipush 260, 3, 0, 0, []),
  (207, .newarray .int, 2, 0, 0, []),
  (209, .putfield 92, 3, 11, 39, [1308, 1, 1]),
  (212, .aload_n 0, 1, 0, 0, []),
  (213, .sipush 260, 3, 0, 0, []),
  (216, .newarray .int, 2, 0, 0, []),
  (218, .putfield 95, 3, 11, 40, [1309, 1, 1]),
  (221, .aload_n 0, 1, 0, 0, []),
  (222, .sipush 260, 3, 0, 0, []),
  (225, .newarray .int, 2, 0, 0, []),
  (227, .putfield 98, 3, 11, 41, [1310, 1, 1]),
  (230, .aload_n 0, 1, 0, 0, []),
  (231, .sipush 260, 3, 0, 0, []),
  (234, .newarray .int, 2, 0, 0, []),
  (236, .putfield 101, 3, 11, 42, [1311, 1, 1]),
  (239, .aload_n 0, 1, 0, 0, []),
  (240, .sipush 840, 3, 0, 0, []),
  (243, .newarray .int, 2, 0, 0, []),
  (245, .putfield 104, 3, 11, 44, [1313, 1, 1]),
  (248, .aload_n 0, 1, 0, 0, []),
  (249, .sipush 840, 3, 0, 0, []),
  (252, .newarray .int, 2, 0, 0, []),
  (254, .putfield 107, 3, 11, 45, [1314, 1, 1]),
  (257, .aload_n 0, 1, 0, 0, []),
  (258, .bipush 64, 2, 0, 0, []),
  (260, .newarray .int, 2, 0, 0, []),
  (262, .putfield 110, 3, 11, 46, [1315, 1, 1]),
  (265, .aload_n 0, 1, 0, 0, []),
  (266, .bipush 9, 2, 0, 0, []),
  (268, .newarray .int, 2, 0, 0, []),
  (270, .putfield 113, 3, 11, 48, [1317, 1, 1]),
  (273, .aload_n 0, 1, 0, 0, []),
  (274, .sipush 400, 3, 0, 0, []),
  (277, .newarray .int, 2, 0, 0, []),
  (279, .putfield 116, 3, 11, 49, [1318, 1, 1]),
  (282, .aload_n 0, 1, 0, 0, []),
  (283, .bipush 36, 2, 0, 0, []),
  (285, .newarray .int, 2, 0, 0, []),
  (287, .putfield 119, 3, 11, 51, [1320, 1, 1]),
  (290, .aload_n 0, 1, 0, 0, []),
  (291, .bipush 49, 2, 0, 0, []),
  (293, .newarray .int, 2, 0, 0, []),
  (295, .putfield 122, 3, 11, 52, [1321, 1, 1]),
  (298, .aload_n 0, 1, 0, 0, []),
  (299, .bipush 49, 2, 0, 0, []),
  (301, .newarray .int, 2, 0, 0, []),
  (303, .putfield 125, 3, 11, 53, [1322, 1, 1]),
  (306, .aload_n 0, 1, 0, 0, []),
  (307, .iconst 5, 1, 0, 0, []),
  (308, .newarray .int, 2, 0, 0, []),
  (310, .putfield 128, 3, 11, 55, [1324, 1, 1]),
  (313, .aload_n 0, 1, 0, 0, []),
  (314, .bipush 30, 2, 0, 0, []),
  (316, .newarray .boolean, 2, 0, 0, []),
  (318, .putfield 131, 3, 11, 56, [1325, 1, 1]),
  (321, .aload_n 0, 1, 0, 0, []),
  (322, .sipush 1960, 3, 0, 0, []),
  (325, .newarray .int, 2, 0, 0, []),
  (327, .putfield 134, 3, 11, 58, [1327, 1, 1]),
  (330, .aload_n 0, 1, 0, 0, []),
  (331, .bipush 20, 2, 0, 0, []),
  (333, .newarray .int, 2, 0, 0, []),
  (335, .putfield 137, 3, 11, 62, [1331, 1, 1]),
  (338, .aload_n 0, 1, 0, 0, []),
  (339, .bipush 20, 2, 0, 0, []),
  (341, .newarray .boolean, 2, 0, 0, []),
  (343, .putfield 140, 3, 11, 63, [1332, 1, 1]),
  (346, .aload_n 0, 1, 0, 0, []),
  (347, .iconst 3, 1, 0, 0, []),
  (348, .newarray .boolean, 2, 0, 0, []),
  (350, .putfield 143, 3, 11, 64, [1333, 1, 1]),
  (353, .aload_n 0, 1, 0, 0, []),
  (354, .sipush 147, 3, 0, 0, []),
  (357, .newarray .int, 2, 0, 0, []),
  (359, .putfield 146, 3, 11, 65, [1334, 1, 1]),
  (362, .aload_n 0, 1, 0, 0, []),
  (363, .iconst 0, 1, 0, 0, []),
  (364, .invokevirtual 149, 3, 199, 11, [1251, 1]),
  (367, .aload_n 0, 1, 0, 0, []),
  (368, .getfield 34, 3, 11, 9, [1278, 1]),
  (371, .iconst 0, 1, 0, 0, []),
  (372, .bipush 99, 2, 0, 0, []),
  (374, .bipush 104, 2, 0, 0, []),
  (376, .bipush 117, 2, 0, 0, []),
  (378, .bipush 114, 2, 0, 0, []),
  (380, .bipush 99, 2, 0, 0, []),
  (382, .bipush 104, 2, 0, 0, []),
  (384, .iconst 0, 1, 0, 0, []),
  (385, .invokestatic 153, 3, 190, 0, [1255, 7]),
  (388, .lastore, 1, 0, 0, []),
  (389, .aload_n 0, 1, 0, 0, []),
  (390, .getfield 34, 3, 11, 9, [1278, 1]),
  (393, .iconst 1, 1, 0, 0, []),
  (394, .bipush 114, 2, 0, 0, []),
  (396, .bipush 111, 2, 0, 0, []),
  (398, .bipush 97, 2, 0, 0, []),
  (400, .bipush 100, 2, 0, 0, []),
  (402, .iconst 0, 1, 0, 0, []),
  (403, .iconst 0, 1, 0, 0, []),
  (404, .iconst 0, 1, 0, 0, []),
  (405, .invokestatic 153, 3, 190, 0, [1255, 7]),
  (408, .lastore, 1, 0, 0, []),
  (409, .aload_n 0, 1, 0, 0, []),
  (410, .getfield 34, 3, 11, 9, [1278, 1]),
  (413, .iconst 2, 1, 0, 0, []),
  (414, .bipush 114, 2, 0, 0, []),
  (416, .bipush 101, 2, 0, 0, []),
  (418, .bipush 108, 2, 0, 0, []),
  (420, .bipush 105, 2, 0, 0, []),
  (422, .bipush 99, 2, 0, 0, []),
  (424, .iconst 0, 1, 0, 0, []),
  (425, .iconst 0, 1, 0, 0, []),
  (426, .invokestatic 153, 3, 190, 0, [1255, 7]),
  (429, .lastore, 1, 0, 0, []),
  (430, .aload_n 0, 1, 0, 0, []),
  (431, .getfield 34, 3, 11, 9, [1278, 1]),
  (434, .iconst 3, 1, 0, 0, []),
  (435, .bipush 112, 2, 0, 0, []),
  (437, .bipush 105, 2, 0, 0, []),
  (439, .bipush 108, 2, 0, 0, []),
  (441, .bipush 103, 2, 0, 0, []),
  (443, .bipush 114, 2, 0, 0, []),
  (445, .bipush 105, 2, 0, 0, []),
  (447, .bipush 109, 2, 0, 0, []),
  (449, .invokestatic 153, 3, 190, 0, [1255, 7]),
  (452, .lastore, 1, 0, 0, []),
  (453, .aload_n 0, 1, 0, 0, []),
  (454, .getfield 34, 3, 11, 9, [1278, 1]),
  (457, .iconst 4, 1, 0, 0, []),
  (458, .bipush 116, 2, 0, 0, []),
  (460, .bipush 114, 2, 0, 0, []),
  (462, .bipush 117, 2, 0, 0, []),
  (464, .bipush 101, 2, 0, 0, []),
  (466, .iconst 0, 1, 0, 0, []),
  (467, .iconst 0, 1, 0, 0, []),
  (468, .iconst 0, 1, 0, 0, []),
  (469, .invokestatic 153, 3, 190, 0, [1255, 7]),
  (472, .lastore, 1, 0, 0, []),
  (473, .aload_n 0, 1, 0, 0, []),
  (474, .getfield 34, 3, 11, 9, [1278, 1]),
  (477, .iconst 5, 1, 0, 0, []),
  (478, .bipush 99, 2, 0, 0, []),
  (480, .bipush 111, 2, 0, 0, []),
  (482, .bipush 112, 2, 0, 0, []),
  (484, .bipush 121, 2, 0, 0, []),
  (486, .iconst 0, 1, 0, 0, []),
  (487, .iconst 0, 1, 0, 0, []),
  (488, .iconst 0, 1, 0, 0, []),
  (489, .invokestatic 153, 3, 190, 0, [1255, 7]),
  (492, .lastore, 1, 0, 0, []),
  (493, .aload_n 0, 1, 0, 0, []),
  (494, .getfield 34, 3, 11, 9, [1278, 1]),
  (497, .bipush 6, 2, 0, 0, []),
  (499, .bipush 100, 2, 0, 0, []),
  (501, .bipush 114, 2, 0, 0, []),
  (503, .bipush 97, 2, 0, 0, []),
  (505, .bipush 119, 2, 0, 0, []),
  (507, .bipush 115, 2, 0, 0, []),
  (509, .iconst 0, 1, 0, 0, []),
  (510, .iconst 0, 1, 0, 0, []),
  (511, .invokestatic 153, 3, 190, 0, [1255, 7]),
  (514, .lastore, 1, 0, 0, []),
  (515, .aload_n 0, 1, 0, 0, []),
  (516, .getfield 34, 3, 11, 9, [1278, 1]),
  (519, .bipush 7, 2, 0, 0, []),
  (521, .bipush 104, 2, 0, 0, []),
  (523, .bipush 101, 2, 0, 0, []),
  (525, .bipush 97, 2, 0, 0, []),
  (527, .bipush 108, 2, 0, 0, []),
  (529, .bipush 115, 2, 0, 0, []),
  (531, .iconst 0, 1, 0, 0, []),
  (532, .iconst 0, 1, 0, 0, []),
  (533, .invokestatic 153, 3, 190, 0, [1255, 7]),
  (536, .lastore, 1, 0, 0, []),
  (537, .aload_n 0, 1, 0, 0, []),
  (538, .getfield 34, 3, 11, 9, [1278, 1]),
  (541, .bipush 8, 2, 0, 0, []),
  (543, .bipush 103, 2, 0, 0, []),
  (545, .bipush 105, 2, 0, 0, []),
  (547, .bipush 118, 2, 0, 0, []),
  (549, .bipush 101, 2, 0, 0, []),
  (551, .bipush 115, 2, 0, 0, []),
  (553, .iconst 0, 1, 0, 0, []),
  (554, .iconst 0, 1, 0, 0, []),
  (555, .invokestatic 153, 3, 190, 0, [1255, 7]),
  (558, .lastore, 1, 0, 0, []),
  (559, .aload_n 0, 1, 0, 0, []),
  (560, .getfield 34, 3, 11, 9, [1278, 1]),
  (563, .bipush 9, 2, 0, 0, []),
  (565, .bipush 108, 2, 0, 0, []),
  (567, .bipush 101, 2, 0, 0, []),
  (569, .bipush 97, 2, 0, 0, []),
  (571, .bipush 118, 2, 0, 0, []),
  (573, .bipush 101, 2, 0, 0, []),
  (575, .iconst 0, 1, 0, 0, []),
  (576, .iconst 0, 1, 0, 0, []),
  (577, .invokestatic 153, 3, 190, 0, [1255, 7]),
  (580, .lastore, 1, 0, 0, []),
  (581, .aload_n 0, 1, 0, 0, []),
  (582, .getfield 34, 3, 11, 9, [1278, 1]),
  (585, .bipush 10, 2, 0, 0, []),
  (587, .bipush 99, 2, 0, 0, []),
  (589, .bipush 97, 2, 0, 0, []),
  (591, .bipush 117, 2, 0, 0, []),
  (593, .bipush 103, 2, 0, 0, []),
  (595, .bipush 104, 2, 0, 0, []),
  (597, .bipush 116, 2, 0, 0, []),
  (599, .iconst 0, 1, 0, 0, []),
  (600, .invokestatic 153, 3, 190, 0, [1255, 7]),
  (603, .lastore, 1, 0, 0, []),
  (604, .aload_n 0, 1, 0, 0, []),
  (605, .getfield 34, 3, 11, 9, [1278, 1]),
  (608, .bipush 11, 2, 0, 0, []),
  (610, .bipush 115, 2, 0, 0, []),
  (612, .bipush 101, 2, 0, 0, []),
  (614, .bipush 101, 2, 0, 0, []),
  (616, .bipush 100, 2, 0, 0, []),
  (618, .iconst 0, 1, 0, 0, []),
  (619, .iconst 0, 1, 0, 0, []),
  (620, .iconst 0, 1, 0, 0, []),
  (621, .invokestatic 153, 3, 190, 0, [1255, 7]),
  (624, .lastore, 1, 0, 0, []),
  (625, .aload_n 0, 1, 0, 0, []),
  (626, .getfield 34, 3, 11, 9, [1278, 1]),
  (629, .bipush 12, 2, 0, 0, []),
  (631, .bipush 105, 2, 0, 0, []),
  (633, .bipush 102, 2, 0, 0, []),
  (635, .iconst 0, 1, 0, 0, []),
  (636, .iconst 0, 1, 0, 0, []),
  (637, .iconst 0, 1, 0, 0, []),
  (638, .iconst 0, 1, 0, 0, []),
  (639, .iconst 0, 1, 0, 0, []),
  (640, .invokestatic 153, 3, 190, 0, [1255, 7]),
  (643, .lastore, 1, 0, 0, []),
  (644, .aload_n 0, 1, 0, 0, []),
  (645, .getfield 34, 3, 11, 9, [1278, 1]),
  (648, .bipush 13, 2, 0, 0, []),
  (650, .bipush 116, 2, 0, 0, []),
  (652, .bipush 104, 2, 0, 0, []),
  (654, .bipush 101, 2, 0, 0, []),
  (656, .bipush 110, 2, 0, 0, []),
  (658, .iconst 0, 1, 0, 0, []),
  (659, .iconst 0, 1, 0, 0, []),
  (660, .iconst 0, 1, 0, 0, []),
  (661, .invokestatic 153, 3, 190, 0, [1255, 7]),
  (664, .lastore, 1, 0, 0, []),
  (665, .aload_n 0, 1, 0, 0, []),
  (666, .getfield 34, 3, 11, 9, [1278, 1]),
  (669, .bipush 14, 2, 0, 0, []),
  (671, .bipush 101, 2, 0, 0, []),
  (673, .bipush 108, 2, 0, 0, []),
  (675, .bipush 115, 2, 0, 0, []),
  (677, .bipush 101, 2, 0, 0, []),
  (679, .iconst 0, 1, 0, 0, []),
  (680, .iconst 0, 1, 0, 0, []),
  (681, .iconst 0, 1, 0, 0, []),
  (682, .invokestatic 153, 3, 190, 0, [1255, 7]),
  (685, .lastore, 1, 0, 0, []),
  (686, .aload_n 0, 1, 0, 0, []),
  (687, .getfield 34, 3, 11, 9, [1278, 1]),
  (690, .bipush 15, 2, 0, 0, []),
  (692, .bipush 114, 2, 0, 0, []),
  (694, .bipush 101, 2, 0, 0, []),
  (696, .bipush 108, 2, 0, 0, []),
  (698, .bipush 105, 2, 0, 0, []),
  (700, .bipush 99, 2, 0, 0, []),
  (702, .bipush 115, 2, 0, 0, []),
  (704, .iconst 0, 1, 0, 0, []),
  (705, .invokestatic 153, 3, 190, 0, [1255, 7]),
  (708, .lastore, 1, 0, 0, []),
  (709, .aload_n 0, 1, 0, 0, []),
  (710, .getfield 34, 3, 11, 9, [1278, 1]),
  (713, .bipush 16, 2, 0, 0, []),
  (715, .bipush 119, 2, 0, 0, []),
  (717, .bipush 111, 2, 0, 0, []),
  (719, .bipush 110, 2, 0, 0, []),
  (721, .bipush 100, 2, 0, 0, []),
  (723, .bipush 101, 2, 0, 0, []),
  (725, .bipush 114, 2, 0, 0, []),
  (727, .bipush 115, 2, 0, 0, []),
  (729, .invokestatic 153, 3, 190, 0, [1255, 7]),
  (732, .lastore, 1, 0, 0, []),
  (733, .aload_n 0, 1, 0, 0, []),
  (734, .getfield 34, 3, 11, 9, [1278, 1]),
  (737, .bipush 17, 2, 0, 0, []),
  (739, .bipush 102, 2, 0, 0, []),
  (741, .bipush 97, 2, 0, 0, []),
  (743, .bipush 114, 2, 0, 0, []),
  (745, .iconst 0, 1, 0, 0, []),
  (746, .iconst 0, 1, 0, 0, []),
  (747, .iconst 0, 1, 0, 0, []),
  (748, .iconst 0, 1, 0, 0, []),
  (749, .invokestatic 153, 3, 190, 0, [1255, 7]),
  (752, .lastore, 1, 0, 0, []),
  (753, .aload_n 0, 1, 0, 0, []),
  (754, .getfield 34, 3, 11, 9, [1278, 1]),
  (757, .bipush 18, 2, 0, 0, []),
  (759, .bipush 110, 2, 0, 0, []),
  (761, .bipush 101, 2, 0, 0, []),
  (763, .bipush 101, 2, 0, 0, []),
  (765, .bipush 100, 2, 0, 0, []),
  (767, .iconst 0, 1, 0, 0, []),
  (768, .iconst 0, 1, 0, 0, []),
  (769, .iconst 0, 1, 0, 0, []),
  (770, .invokestatic 153, 3, 190, 0, [1255, 7]),
  (773, .lastore, 1, 0, 0, []),
  (774, .aload_n 0, 1, 0, 0, []),
  (775, .getfield 34, 3, 11, 9, [1278, 1]),
  (778, .bipush 19, 2, 0, 0, []),
  (780, .bipush 103, 2, 0, 0, []),
  (782, .bipush 105, 2, 0, 0, []),
  (784, .bipush 102, 2, 0, 0, []),
  (786, .bipush 116, 2, 0, 0, []),
  (788, .iconst 0, 1, 0, 0, []),
  (789, .iconst 0, 1, 0, 0, []),
  (790, .iconst 0, 1, 0, 0, []),
  (791, .invokestatic 153, 3, 190, 0, [1255, 7]),
  (794, .lastore, 1, 0, 0, []),
  (795, .aload_n 0, 1, 0, 0, []),
  (796, .getfield 34, 3, 11, 9, [1278, 1]),
  (799, .bipush 20, 2, 0, 0, []),
  (801, .bipush 110, 2, 0, 0, []),
  (803, .bipush 105, 2, 0, 0, []),
  (805, .bipush 103, 2, 0, 0, []),
  (807, .bipush 104, 2, 0, 0, []),
  (809, .bipush 116, 2, 0, 0, []),
  (811, .bipush 115, 2, 0, 0, []),
  (813, .iconst 0, 1, 0, 0, []),
  (814, .invokestatic 153, 3, 190, 0, [1255, 7]),
  (817, .lastore, 1, 0, 0, []),
  (818, .aload_n 0, 1, 0, 0, []),
  (819, .getfield 34, 3, 11, 9, [1278, 1]),
  (822, .bipush 21, 2, 0, 0, []),
  (824, .bipush 119, 2, 0, 0, []),
  (826, .bipush 97, 2, 0, 0, []),
  (828, .bipush 116, 2, 0, 0, []),
  (830, .bipush 99, 2, 0, 0, []),
  (832, .bipush 104, 2, 0, 0, []),
  (834, .iconst 0, 1, 0, 0, []),
  (835, .iconst 0, 1, 0, 0, []),
  (836, .invokestatic 153, 3, 190, 0, [1255, 7]),
  (839, .lastore, 1, 0, 0, []),
  (840, .aload_n 0, 1, 0, 0, []),
  (841, .getfield 34, 3, 11, 9, [1278, 1]),
  (844, .bipush 22, 2, 0, 0, []),
  (846, .bipush 121, 2, 0, 0, []),
  (848, .bipush 101, 2, 0, 0, []),
  (850, .bipush 97, 2, 0, 0, []),
  (852, .bipush 114, 2, 0, 0, []),
  (854, .bipush 115, 2, 0, 0, []),
  (856, .iconst 0, 1, 0, 0, []),
  (857, .iconst 0, 1, 0, 0, []),
  (858, .invokestatic 153, 3, 190, 0, [1255, 7]),
  (861, .lastore, 1, 0, 0, []),
  (862, .aload_n 0, 1, 0, 0, []),
  (863, .getfield 34, 3, 11, 9, [1278, 1]),
  (866, .bipush 23, 2, 0, 0, []),
  (868, .bipush 116, 2, 0, 0, []),
  (870, .bipush 114, 2, 0, 0, []),
  (872, .bipush 117, 2, 0, 0, []),
  (874, .bipush 116, 2, 0, 0, []),
  (876, .bipush 104, 2, 0, 0, []),
  (878, .iconst 0, 1, 0, 0, []),
  (879, .iconst 0, 1, 0, 0, []),
  (880, .invokestatic 153, 3, 190, 0, [1255, 7]),
  (883, .lastore, 1, 0, 0, []),
  (884, .aload_n 0, 1, 0, 0, []),
  (885, .invokevirtual 157, 3, 224, 11, [1262, 0]),
  (888, .aload_n 0, 1, 0, 0, []),
  (889, .invokevirtual 160, 3, 225, 11, [1266, 0]),
  (892, .return_, 1, 0, 0, [])]
def mX11_init : ab_M := (yX11_init, cX11_init, 1, none, 43, 11610, 2, kX11_init)
def kX11_feed : List ab_I := [(0, .aload_n 0, 1, 0, 0, []),
  (1, .getfield 163, 3, 11, 2, [1271]),
  (4, .bipush 20, 2, 0, 0, []),
  (6, .iadd, 1, 0, 0, []),
  (7, .sipush 2000, 3, 0, 0, []),
  (10, .if_icmp .le 5, 3, 15, 0, []),
  (13, .iconst (-1), 1, 0, 0, []),
  (14, .ireturn, 1, 0, 0, []),
  (15, .aload_n 0, 1, 0, 0, []),
  (16, .iload_n 1, 1, 0, 0, []),
  (17, .invokevirtual 166, 3, 184, 11, [1472, 1]),
  (20, .aload_n 0, 1, 0, 0, []),
  (21, .iload_n 2, 1, 0, 0, []),
  (22, .invokevirtual 166, 3, 184, 11, [1472, 1]),
  (25, .aload_n 0, 1, 0, 0, []),
  (26, .iload_n 3, 1, 0, 0, []),
  (27, .invokevirtual 166, 3, 184, 11, [1472, 1]),
  (30, .aload_n 0, 1, 0, 0, []),
  (31, .iload 4, 2, 0, 0, []),
  (33, .invokevirtual 166, 3, 184, 11, [1472, 1]),
  (36, .aload_n 0, 1, 0, 0, []),
  (37, .iload 5, 2, 0, 0, []),
  (39, .invokevirtual 166, 3, 184, 11, [1472, 1]),
  (42, .aload_n 0, 1, 0, 0, []),
  (43, .getfield 163, 3, 11, 2, [1271]),
  (46, .ireturn, 1, 0, 0, [])]
def mX11_feed : ab_M := (yX11_feed, cX11_feed, 6, (some (FieldType.int)), 0, 0, 1, kX11_feed)
def kX11_put : List ab_I := [(0, .bipush 24, 2, 0, 0, []),
  (2, .istore_n 2, 1, 0, 0, []),
  (3, .iload_n 2, 1, 0, 0, []),
  (4, .ifCond .lt 32, 3, 36, 0, []),
  (7, .aload_n 0, 1, 0, 0, []),
  (8, .getfield 13, 3, 11, 1, [1270, 1]),
  (11, .aload_n 0, 1, 0, 0, []),
  (12, .getfield 163, 3, 11, 2, [1271]),
  (15, .iload_n 1, 1, 0, 0, []),
  (16, .iload_n 2, 1, 0, 0, []),
  (17, .ishr, 1, 0, 0, []),
  (18, .i2b, 1, 0, 0, []),
  (19, .bastore, 1, 0, 0, []),
  (20, .aload_n 0, 1, 0, 0, []),
  (21, .dup, 1, 0, 0, []),
  (22, .getfield 163, 3, 11, 2, [1271]),
  (25, .iconst 1, 1, 0, 0, []),
  (26, .iadd, 1, 0, 0, []),
  (27, .putfield 163, 3, 11, 2, [1271]),
  (30, .iinc 2 (-8), 3, 0, 0, []),
  (33, .goto (-30), 3, 3, 0, []),
  (36, .return_, 1, 0, 0, [])]
def mX11_put : ab_M := (yX11_put, cX11_put, 3, none, 0, 0, 1, kX11_put)
def kX11_back : List ab_I := [(0, .iload_n 1, 1, 0, 0, []),
  (1, .ifCond .lt 11, 3, 12, 0, []),
  (4, .iload_n 1, 1, 0, 0, []),
  (5, .aload_n 0, 1, 0, 0, []),
  (6, .getfield 163, 3, 11, 2, [1271]),
  (9, .if_icmp .le 5, 3, 14, 0, []),
  (12, .iconst (-1), 1, 0, 0, []),
  (13, .ireturn, 1, 0, 0, []),
  (14, .aload_n 0, 1, 0, 0, []),
  (15, .dup, 1, 0, 0, []),
  (16, .getfield 163, 3, 11, 2, [1271]),
  (19, .iload_n 1, 1, 0, 0, []),
  (20, .isub, 1, 0, 0, []),
  (21, .putfield 163, 3, 11, 2, [1271]),
  (24, .aload_n 0, 1, 0, 0, []),
  (25, .getfield 163, 3, 11, 2, [1271]),
  (28, .ireturn, 1, 0, 0, [])]
def mX11_back : ab_M := (yX11_back, cX11_back, 2, (some (FieldType.int)), 0, 0, 1, kX11_back)
def kX11_byteAt : List ab_I := [(0, .iload_n 1, 1, 0, 0, []),
  (1, .aload_n 0, 1, 0, 0, []),
  (2, .getfield 169, 3, 11, 4, [1273]),
  (5, .if_icmp .ge 16, 3, 21, 0, []),
  (8, .aload_n 0, 1, 0, 0, []),
  (9, .getfield 17, 3, 11, 3, [1272, 1]),
  (12, .iload_n 1, 1, 0, 0, []),
  (13, .baload, 1, 0, 0, []),
  (14, .sipush 255, 3, 0, 0, []),
  (17, .iand, 1, 0, 0, []),
  (18, .goto 4, 3, 22, 0, []),
  (21, .iconst 0, 1, 0, 0, []),
  (22, .ireturn, 1, 0, 0, [])]
def mX11_byteAt : ab_M := (yX11_byteAt, cX11_byteAt, 2, (some (FieldType.int)), 0, 0, 1, kX11_byteAt)
def kX11_isDigit : List ab_I := [(0, .iload_n 0, 1, 0, 0, []),
  (1, .bipush 48, 2, 0, 0, []),
  (3, .if_icmp .lt 13, 3, 16, 0, []),
  (6, .iload_n 0, 1, 0, 0, []),
  (7, .bipush 57, 2, 0, 0, []),
  (9, .if_icmp .gt 7, 3, 16, 0, []),
  (12, .iconst 1, 1, 0, 0, []),
  (13, .goto 4, 3, 17, 0, []),
  (16, .iconst 0, 1, 0, 0, []),
  (17, .ireturn, 1, 0, 0, [])]
def mX11_isDigit : ab_M := (yX11_isDigit, cX11_isDigit, 1, (some (FieldType.boolean)), 0, 0, 0, kX11_isDigit)
def kX11_isLetter : List ab_I := [(0, .iload_n 0, 1, 0, 0, []),
  (1, .bipush 97, 2, 0, 0, []),
  (3, .if_icmp .lt 13, 3, 16, 0, []),
  (6, .iload_n 0, 1, 0, 0, []),
  (7, .bipush 122, 2, 0, 0, []),
  (9, .if_icmp .gt 7, 3, 16, 0, []),
  (12, .iconst 1, 1, 0, 0, []),
  (13, .goto 4, 3, 17, 0, []),
  (16, .iconst 0, 1, 0, 0, []),
  (17, .ireturn, 1, 0, 0, [])]
def mX11_isLetter : ab_M := (yX11_isLetter, cX11_isLetter, 1, (some (FieldType.boolean)), 0, 0, 0, kX11_isLetter)
def kX11_appends : List ab_I := [(0, .iload_n 2, 1, 0, 0, []),
  (1, .ifCond .ne 7, 3, 8, 0, []),
  (4, .lload_n 0, 1, 0, 0, []),
  (5, .goto 16, 3, 21, 0, []),
  (8, .ldc2_w 172, 3, 27, 0, [1261]),
  (11, .lload_n 0, 1, 0, 0, []),
  (12, .lmul, 1, 0, 0, []),
  (13, .iload_n 2, 1, 0, 0, []),
  (14, .bipush 97, 2, 0, 0, []),
  (16, .isub, 1, 0, 0, []),
  (17, .iconst 1, 1, 0, 0, []),
  (18, .iadd, 1, 0, 0, []),
  (19, .i2l, 1, 0, 0, []),
  (20, .ladd, 1, 0, 0, []),
  (21, .lreturn, 1, 0, 0, [])]
def mX11_appends : ab_M := (yX11_appends, cX11_appends, 3, (some (FieldType.long)), 0, 0, 0, kX11_appends)
def kX11_word : List ab_I := [(0, .lconst 0, 1, 0, 0, []),
  (1, .iload_n 0, 1, 0, 0, []),
  (2, .invokestatic 174, 3, 189, 0, [1258, 2]),
  (5, .iload_n 1, 1, 0, 0, []),
  (6, .invokestatic 174, 3, 189, 0, [1258, 2]),
  (9, .iload_n 2, 1, 0, 0, []),
  (10, .invokestatic 174, 3, 189, 0, [1258, 2]),
  (13, .iload_n 3, 1, 0, 0, []),
  (14, .invokestatic 174, 3, 189, 0, [1258, 2]),
  (17, .iload 4, 2, 0, 0, []),
  (19, .invokestatic 174, 3, 189, 0, [1258, 2]),
  (22, .iload 5, 2, 0, 0, []),
  (24, .invokestatic 174, 3, 189, 0, [1258, 2]),
  (27, .iload 6, 2, 0, 0, []),
  (29, .invokestatic 174, 3, 189, 0, [1258, 2]),
  (32, .lreturn, 1, 0, 0, [])]
def mX11_word : ab_M := (yX11_word, cX11_word, 7, (some (FieldType.long)), 0, 0, 0, kX11_word)
def kX11_token : List ab_I := [(0, .aload_n 0, 1, 0, 0, []),
  (1, .getfield 20, 3, 11, 5, [1274, 1]),
  (4, .aload_n 0, 1, 0, 0, []),
  (5, .getfield 178, 3, 11, 10, [1279]),
  (8, .iload_n 1, 1, 0, 0, []),
  (9, .iastore, 1, 0, 0, []),
  (10, .aload_n 0, 1, 0, 0, []),
  (11, .getfield 24, 3, 11, 6, [1275, 1]),
  (14, .aload_n 0, 1, 0, 0, []),
  (15, .getfield 178, 3, 11, 10, [1279]),
  (18, .iload_n 2, 1, 0, 0, []),
  (19, .iastore, 1, 0, 0, []),
  (20, .aload_n 0, 1, 0, 0, []),
  (21, .getfield 27, 3, 11, 7, [1276, 1]),
  (24, .aload_n 0, 1, 0, 0, []),
  (25, .getfield 178, 3, 11, 10, [1279]),
  (28, .iload_n 3, 1, 0, 0, []),
  (29, .iastore, 1, 0, 0, []),
  (30, .aload_n 0, 1, 0, 0, []),
  (31, .getfield 30, 3, 11, 8, [1277, 1]),
  (34, .aload_n 0, 1, 0, 0, []),
  (35, .getfield 178, 3, 11, 10, [1279]),
  (38, .lload 4, 2, 0, 0, []),
  (40, .lastore, 1, 0, 0, []),
  (41, .aload_n 0, 1, 0, 0, []),
  (42, .dup, 1, 0, 0, []),
  (43, .getfield 178, 3, 11, 10, [1279]),
  (46, .iconst 1, 1, 0, 0, []),
  (47, .iadd, 1, 0, 0, []),
  (48, .putfield 178, 3, 11, 10, [1279]),
  (51, .return_, 1, 0, 0, [])]
def mX11_token : ab_M := (yX11_token, cX11_token, 6, none, 0, 0, 1, kX11_token)
def kX11_cut : List ab_I := [(0, .aload_n 0, 1, 0, 0, []),
  (1, .iconst 0, 1, 0, 0, []),
  (2, .putfield 178, 3, 11, 10, [1279]),
  (5, .iconst 0, 1, 0, 0, []),
  (6, .istore_n 1, 1, 0, 0, []),
  (7, .aload_n 0, 1, 0, 0, []),
  (8, .getfield 178, 3, 11, 10, [1279]),
  (11, .sipush 400, 3, 0, 0, []),
  (14, .if_icmp .gt 280, 3, 294, 0, []),
  (17, .aload_n 0, 1, 0, 0, []),
  (18, .iload_n 1, 1, 0, 0, []),
  (19, .invokevirtual 181, 3, 186, 11, [1488, 1]),
  (22, .istore_n 2, 1, 0, 0, []),
  (23, .iload_n 1, 1, 0, 0, []),
  (24, .aload_n 0, 1, 0, 0, []),
  (25, .getfield 169, 3, 11, 4, [1273]),
  (28, .if_icmp .lt 15, 3, 43, 0, []),
  (31, .aload_n 0, 1, 0, 0, []),
  (32, .iconst 0, 1, 0, 0, []),
  (33, .aload_n 0, 1, 0, 0, []),
  (34, .getfield 169, 3, 11, 4, [1273]),
  (37, .iconst 0, 1, 0, 0, []),
  (38, .lconst 0, 1, 0, 0, []),
  (39, .invokevirtual 185, 3, 191, 11, [1492, 4]),
  (42, .return_, 1, 0, 0, []),
  (43, .iload_n 2, 1, 0, 0, []),
  (44, .bipush 9, 2, 0, 0, []),
  (46, .if_icmp .eq 21, 3, 67, 0, []),
  (49, .iload_n 2, 1, 0, 0, []),
  (50, .bipush 10, 2, 0, 0, []),
  (52, .if_icmp .eq 15, 3, 67, 0, []),
  (55, .iload_n 2, 1, 0, 0, []),
  (56, .bipush 13, 2, 0, 0, []),
  (58, .if_icmp .eq 9, 3, 67, 0, []),
  (61, .iload_n 2, 1, 0, 0, []),
  (62, .bipush 32, 2, 0, 0, []),
  (64, .if_icmp .ne 9, 3, 73, 0, []),
  (67, .iinc 1 1, 3, 0, 0, []),
  (70, .goto 221, 3, 291, 0, []),
  (73, .iload_n 2, 1, 0, 0, []),
  (74, .invokestatic 189, 3, 188, 0, [1496, 1]),
  (77, .ifCond .eq 119, 3, 196, 0, []),
  (80, .iconst 0, 1, 0, 0, []),
  (81, .istore_n 3, 1, 0, 0, []),
  (82, .lconst 0, 1, 0, 0, []),
  (83, .lstore 4, 2, 0, 0, []),
  (85, .aload_n 0, 1, 0, 0, []),
  (86, .iload_n 1, 1, 0, 0, []),
  (87, .iload_n 3, 1, 0, 0, []),
  (88, .iadd, 1, 0, 0, []),
  (89, .invokevirtual 181, 3, 186, 11, [1488, 1]),
  (92, .invokestatic 189, 3, 188, 0, [1496, 1]),
  (95, .ifCond .eq 29, 3, 124, 0, []),
  (98, .iload_n 3, 1, 0, 0, []),
  (99, .bipush 8, 2, 0, 0, []),
  (101, .if_icmp .ge 17, 3, 118, 0, []),
  (104, .lload 4, 2, 0, 0, []),
  (106, .aload_n 0, 1, 0, 0, []),
  (107, .iload_n 1, 1, 0, 0, []),
  (108, .iload_n 3, 1, 0, 0, []),
  (109, .iadd, 1, 0, 0, []),
  (110, .invokevirtual 181, 3, 186, 11, [1488, 1]),
  (113, .invokestatic 174, 3, 189, 0, [1258, 2]),
  (116, .lstore 4, 2, 0, 0, []),
  (118, .iinc 3 1, 3, 0, 0, []),
  (121, .goto (-36), 3, 85, 0, []),
  (124, .iload_n 3, 1, 0, 0, []),
  (125, .bipush 8, 2, 0, 0, []),
  (127, .if_icmp .le 7, 3, 134, 0, []),
  (130, .iconst 3, 1, 0, 0, []),
  (131, .goto 4, 3, 135, 0, []),
  (134, .iconst 1, 1, 0, 0, []),
  (135, .istore 6, 2, 0, 0, []),
  (137, .iload_n 3, 1, 0, 0, []),
  (138, .bipush 8, 2, 0, 0, []),
  (140, .if_icmp .gt 39, 3, 179, 0, []),
  (143, .iconst 0, 1, 0, 0, []),
  (144, .istore 7, 2, 0, 0, []),
  (146, .iload 7, 2, 0, 0, []),
  (148, .bipush 24, 2, 0, 0, []),
  (150, .if_icmp .ge 29, 3, 179, 0, []),
  (153, .aload_n 0, 1, 0, 0, []),
  (154, .getfield 34, 3, 11, 9, [1278, 1]),
  (157, .iload 7, 2, 0, 0, []),
  (159, .laload, 1, 0, 0, []),
  (160, .lload 4, 2, 0, 0, []),
  (162, .lcmp, 1, 0, 0, []),
  (163, .ifCond .ne 10, 3, 173, 0, []),
  (166, .bipush 20, 2, 0, 0, []),
  (168, .iload 7, 2, 0, 0, []),
  (170, .iadd, 1, 0, 0, []),
  (171, .istore 6, 2, 0, 0, []),
  (173, .iinc 7 1, 3, 0, 0, []),
  (176, .goto (-30), 3, 146, 0, []),
  (179, .aload_n 0, 1, 0, 0, []),
  (180, .iload 6, 2, 0, 0, []),
  (182, .iload_n 1, 1, 0, 0, []),
  (183, .iconst 0, 1, 0, 0, []),
  (184, .lload 4, 2, 0, 0, []),
  (186, .invokevirtual 185, 3, 191, 11, [1492, 4]),
  (189, .iload_n 1, 1, 0, 0, []),
  (190, .iload_n 3, 1, 0, 0, []),
  (191, .iadd, 1, 0, 0, []),
  (192, .istore_n 1, 1, 0, 0, []),
  (193, .goto 98, 3, 291, 0, []),
  (196, .iload_n 2, 1, 0, 0, []),
  (197, .invokestatic 193, 3, 187, 0, [1499, 1]),
  (200, .ifCond .eq 75, 3, 275, 0, []),
  (203, .iconst 0, 1, 0, 0, []),
  (204, .istore_n 3, 1, 0, 0, []),
  (205, .iconst 0, 1, 0, 0, []),
  (206, .istore 4, 2, 0, 0, []),
  (208, .aload_n 0, 1, 0, 0, []),
  (209, .iload_n 1, 1, 0, 0, []),
  (210, .iload_n 3, 1, 0, 0, []),
  (211, .iadd, 1, 0, 0, []),
  (212, .invokevirtual 181, 3, 186, 11, [1488, 1]),
  (215, .invokestatic 193, 3, 187, 0, [1499, 1]),
  (218, .ifCond .eq 32, 3, 250, 0, []),
  (221, .iload_n 3, 1, 0, 0, []),
  (222, .iconst 4, 1, 0, 0, []),
  (223, .if_icmp .ge 21, 3, 244, 0, []),
  (226, .bipush 10, 2, 0, 0, []),
  (228, .iload 4, 2, 0, 0, []),
  (230, .imul, 1, 0, 0, []),
  (231, .aload_n 0, 1, 0, 0, []),
  (232, .iload_n 1, 1, 0, 0, []),
  (233, .iload_n 3, 1, 0, 0, []),
  (234, .iadd, 1, 0, 0, []),
  (235, .invokevirtual 181, 3, 186, 11, [1488, 1]),
  (238, .iadd, 1, 0, 0, []),
  (239, .bipush 48, 2, 0, 0, []),
  (241, .isub, 1, 0, 0, []),
  (242, .istore 4, 2, 0, 0, []),
  (244, .iinc 3 1, 3, 0, 0, []),
  (247, .goto (-39), 3, 208, 0, []),
  (250, .aload_n 0, 1, 0, 0, []),
  (251, .iload_n 3, 1, 0, 0, []),
  (252, .iconst 4, 1, 0, 0, []),
  (253, .if_icmp .le 7, 3, 260, 0, []),
  (256, .iconst 3, 1, 0, 0, []),
  (257, .goto 4, 3, 261, 0, []),
  (260, .iconst 2, 1, 0, 0, []),
  (261, .iload_n 1, 1, 0, 0, []),
  (262, .iload 4, 2, 0, 0, []),
  (264, .lconst 0, 1, 0, 0, []),
  (265, .invokevirtual 185, 3, 191, 11, [1492, 4]),
  (268, .iload_n 1, 1, 0, 0, []),
  (269, .iload_n 3, 1, 0, 0, []),
  (270, .iadd, 1, 0, 0, []),
  (271, .istore_n 1, 1, 0, 0, []),
  (272, .goto 19, 3, 291, 0, []),
  (275, .iload_n 1, 1, 0, 0, []),
  (276, .aload_n 0, 1, 0, 0, []),
  (277, .iload_n 1, 1, 0, 0, []),
  (278, .iload_n 2, 1, 0, 0, []),
  (279, .aload_n 0, 1, 0, 0, []),
  (280, .iload_n 1, 1, 0, 0, []),
  (281, .iconst 1, 1, 0, 0, []),
  (282, .iadd, 1, 0, 0, []),
  (283, .invokevirtual 181, 3, 186, 11, [1488, 1]),
  (286, .invokevirtual 196, 3, 193, 11, [1502, 3]),
  (289, .iadd, 1, 0, 0, []),
  (290, .istore_n 1, 1, 0, 0, []),
  (291, .goto (-284), 3, 7, 0, []),
  (294, .return_, 1, 0, 0, [])]
def mX11_cut : ab_M := (yX11_cut, cX11_cut, 8, none, 0, 0, 1, kX11_cut)
def kX11_sign : List ab_I := [(0, .iload_n 2, 1, 0, 0, []),
  (1, .bipush 59, 2, 0, 0, []),
  (3, .if_icmp .ne 7, 3, 10, 0, []),
  (6, .iconst 4, 1, 0, 0, []),
  (7, .goto 36, 3, 43, 0, []),
  (10, .iload_n 2, 1, 0, 0, []),
  (11, .bipush 61, 2, 0, 0, []),
  (13, .if_icmp .ne 7, 3, 20, 0, []),
  (16, .iconst 5, 1, 0, 0, []),
  (17, .goto 26, 3, 43, 0, []),
  (20, .iload_n 2, 1, 0, 0, []),
  (21, .bipush 40, 2, 0, 0, []),
  (23, .if_icmp .ne 8, 3, 31, 0, []),
  (26, .bipush 6, 2, 0, 0, []),
  (28, .goto 15, 3, 43, 0, []),
  (31, .iload_n 2, 1, 0, 0, []),
  (32, .bipush 41, 2, 0, 0, []),
  (34, .if_icmp .ne 8, 3, 42, 0, []),
  (37, .bipush 7, 2, 0, 0, []),
  (39, .goto 4, 3, 43, 0, []),
  (42, .iconst 3, 1, 0, 0, []),
  (43, .istore 4, 2, 0, 0, []),
  (45, .iload_n 2, 1, 0, 0, []),
  (46, .bipush 43, 2, 0, 0, []),
  (48, .if_icmp .ne 7, 3, 55, 0, []),
  (51, .bipush 8, 2, 0, 0, []),
  (53, .istore 4, 2, 0, 0, []),
  (55, .iload_n 2, 1, 0, 0, []),
  (56, .bipush 45, 2, 0, 0, []),
  (58, .if_icmp .ne 7, 3, 65, 0, []),
  (61, .bipush 9, 2, 0, 0, []),
  (63, .istore 4, 2, 0, 0, []),
  (65, .iload_n 2, 1, 0, 0, []),
  (66, .bipush 42, 2, 0, 0, []),
  (68, .if_icmp .ne 7, 3, 75, 0, []),
  (71, .bipush 10, 2, 0, 0, []),
  (73, .istore 4, 2, 0, 0, []),
  (75, .iload_n 2, 1, 0, 0, []),
  (76, .bipush 47, 2, 0, 0, []),
  (78, .if_icmp .ne 7, 3, 85, 0, []),
  (81, .bipush 15, 2, 0, 0, []),
  (83, .istore 4, 2, 0, 0, []),
  (85, .iload_n 2, 1, 0, 0, []),
  (86, .bipush 60, 2, 0, 0, []),
  (88, .if_icmp .ne 7, 3, 95, 0, []),
  (91, .bipush 13, 2, 0, 0, []),
  (93, .istore 4, 2, 0, 0, []),
  (95, .aload_n 0, 1, 0, 0, []),
  (96, .iload 4, 2, 0, 0, []),
  (98, .iload_n 1, 1, 0, 0, []),
  (99, .iconst 0, 1, 0, 0, []),
  (100, .lconst 0, 1, 0, 0, []),
  (101, .invokevirtual 185, 3, 191, 11, [1492, 4]),
  (104, .iconst 1, 1, 0, 0, []),
  (105, .ireturn, 1, 0, 0, [])]
def mX11_sign : ab_M := (yX11_sign, cX11_sign, 5, (some (FieldType.int)), 0, 0, 1, kX11_sign)
def kX11_is : List ab_I := [(0, .aload_n 0, 1, 0, 0, []),
  (1, .getfield 200, 3, 11, 13, [1282]),
  (4, .ifCond .ne 20, 3, 24, 0, []),
  (7, .aload_n 0, 1, 0, 0, []),
  (8, .getfield 20, 3, 11, 5, [1274, 1]),
  (11, .aload_n 0, 1, 0, 0, []),
  (12, .getfield 203, 3, 11, 11, [1280]),
  (15, .iaload, 1, 0, 0, []),
  (16, .iload_n 1, 1, 0, 0, []),
  (17, .if_icmp .ne 7, 3, 24, 0, []),
  (20, .iconst 1, 1, 0, 0, []),
  (21, .goto 4, 3, 25, 0, []),
  (24, .iconst 0, 1, 0, 0, []),
  (25, .ireturn, 1, 0, 0, [])]
def mX11_is : ab_M := (yX11_is, cX11_is, 2, (some (FieldType.boolean)), 0, 0, 1, kX11_is)
def kX11_fail : List ab_I := [(0, .aload_n 0, 1, 0, 0, []),
  (1, .getfield 200, 3, 11, 13, [1282]),
  (4, .ifCond .le 4, 3, 8, 0, []),
  (7, .return_, 1, 0, 0, []),
  (8, .aload_n 0, 1, 0, 0, []),
  (9, .iload_n 1, 1, 0, 0, []),
  (10, .putfield 200, 3, 11, 13, [1282]),
  (13, .aload_n 0, 1, 0, 0, []),
  (14, .aload_n 0, 1, 0, 0, []),
  (15, .getfield 24, 3, 11, 6, [1275, 1]),
  (18, .aload_n 0, 1, 0, 0, []),
  (19, .getfield 203, 3, 11, 11, [1280]),
  (22, .iaload, 1, 0, 0, []),
  (23, .putfield 206, 3, 11, 14, [1283]),
  (26, .return_, 1, 0, 0, [])]
def mX11_fail : ab_M := (yX11_fail, cX11_fail, 2, none, 0, 0, 1, kX11_fail)
def kX11_wrong : List ab_I := [(0, .aload_n 0, 1, 0, 0, []),
  (1, .getfield 24, 3, 11, 6, [1275, 1]),
  (4, .iload_n 2, 1, 0, 0, []),
  (5, .iaload, 1, 0, 0, []),
  (6, .istore_n 3, 1, 0, 0, []),
  (7, .aload_n 0, 1, 0, 0, []),
  (8, .getfield 200, 3, 11, 13, [1282]),
  (11, .ifCond .gt 34, 3, 45, 0, []),
  (14, .aload_n 0, 1, 0, 0, []),
  (15, .getfield 209, 3, 11, 15, [1284]),
  (18, .ifCond .eq 28, 3, 46, 0, []),
  (21, .iload_n 3, 1, 0, 0, []),
  (22, .aload_n 0, 1, 0, 0, []),
  (23, .getfield 212, 3, 11, 16, [1285]),
  (26, .if_icmp .gt 19, 3, 45, 0, []),
  (29, .iload_n 3, 1, 0, 0, []),
  (30, .aload_n 0, 1, 0, 0, []),
  (31, .getfield 212, 3, 11, 16, [1285]),
  (34, .if_icmp .ne 12, 3, 46, 0, []),
  (37, .iload_n 1, 1, 0, 0, []),
  (38, .aload_n 0, 1, 0, 0, []),
  (39, .getfield 209, 3, 11, 15, [1284]),
  (42, .if_icmp .lt 4, 3, 46, 0, []),
  (45, .return_, 1, 0, 0, []),
  (46, .aload_n 0, 1, 0, 0, []),
  (47, .iload_n 1, 1, 0, 0, []),
  (48, .putfield 209, 3, 11, 15, [1284]),
  (51, .aload_n 0, 1, 0, 0, []),
  (52, .iload_n 3, 1, 0, 0, []),
  (53, .putfield 212, 3, 11, 16, [1285]),
  (56, .return_, 1, 0, 0, [])]
def mX11_wrong : ab_M := (yX11_wrong, cX11_wrong, 4, none, 0, 0, 1, kX11_wrong)
def kX11_goesOn : List ab_I := [(0, .aload_n 0, 1, 0, 0, []),
  (1, .getfield 203, 3, 11, 11, [1280]),
  (4, .sipush 400, 3, 0, 0, []),
  (7, .if_icmp .ne 11, 3, 18, 0, []),
  (10, .aload_n 0, 1, 0, 0, []),
  (11, .iconst 2, 1, 0, 0, []),
  (12, .invokevirtual 215, 3, 195, 11, [1518, 1]),
  (15, .goto 13, 3, 28, 0, []),
  (18, .aload_n 0, 1, 0, 0, []),
  (19, .dup, 1, 0, 0, []),
  (20, .getfield 203, 3, 11, 11, [1280]),
  (23, .iconst 1, 1, 0, 0, []),
  (24, .iadd, 1, 0, 0, []),
  (25, .putfield 203, 3, 11, 11, [1280]),
  (28, .return_, 1, 0, 0, [])]
def mX11_goesOn : ab_M := (yX11_goesOn, cX11_goesOn, 1, none, 0, 0, 1, kX11_goesOn)
def kX11_must : List ab_I := [(0, .aload_n 0, 1, 0, 0, []),
  (1, .iload_n 1, 1, 0, 0, []),
  (2, .invokevirtual 218, 3, 194, 11, [1506, 1]),
  (5, .ifCond .eq 10, 3, 15, 0, []),
  (8, .aload_n 0, 1, 0, 0, []),
  (9, .invokevirtual 221, 3, 197, 11, [1522, 0]),
  (12, .goto 8, 3, 20, 0, []),
  (15, .aload_n 0, 1, 0, 0, []),
  (16, .iconst 1, 1, 0, 0, []),
  (17, .invokevirtual 215, 3, 195, 11, [1518, 1]),
  (20, .return_, 1, 0, 0, [])]
def mX11_must : ab_M := (yX11_must, cX11_must, 2, none, 0, 0, 1, kX11_must)
def kX11_plain : List ab_I := [(0, .aload_n 0, 1, 0, 0, []),
  (1, .getfield 46, 3, 11, 23, [1292, 1]),
  (4, .iload_n 1, 1, 0, 0, []),
  (5, .iconst 0, 1, 0, 0, []),
  (6, .iastore, 1, 0, 0, []),
  (7, .aload_n 0, 1, 0, 0, []),
  (8, .getfield 52, 3, 11, 25, [1294, 1]),
  (11, .iload_n 1, 1, 0, 0, []),
  (12, .iconst 0, 1, 0, 0, []),
  (13, .iastore, 1, 0, 0, []),
  (14, .aload_n 0, 1, 0, 0, []),
  (15, .getfield 58, 3, 11, 27, [1296, 1]),
  (18, .iload_n 1, 1, 0, 0, []),
  (19, .iconst 0, 1, 0, 0, []),
  (20, .iastore, 1, 0, 0, []),
  (21, .aload_n 0, 1, 0, 0, []),
  (22, .getfield 67, 3, 11, 30, [1299, 1]),
  (25, .iload_n 1, 1, 0, 0, []),
  (26, .iconst 0, 1, 0, 0, []),
  (27, .iastore, 1, 0, 0, []),
  (28, .aload_n 0, 1, 0, 0, []),
  (29, .getfield 79, 3, 11, 34, [1303, 1]),
  (32, .iload_n 1, 1, 0, 0, []),
  (33, .iconst 0, 1, 0, 0, []),
  (34, .iastore, 1, 0, 0, []),
  (35, .iconst 0, 1, 0, 0, []),
  (36, .istore_n 2, 1, 0, 0, []),
  (37, .iload_n 2, 1, 0, 0, []),
  (38, .bipush 36, 2, 0, 0, []),
  (40, .if_icmp .ge 38, 3, 78, 0, []),
  (43, .aload_n 0, 1, 0, 0, []),
  (44, .getfield 55, 3, 11, 26, [1295, 1]),
  (47, .bipush 36, 2, 0, 0, []),
  (49, .iload_n 1, 1, 0, 0, []),
  (50, .imul, 1, 0, 0, []),
  (51, .iload_n 2, 1, 0, 0, []),
  (52, .iadd, 1, 0, 0, []),
  (53, .iload_n 2, 1, 0, 0, []),
  (54, .bipush 6, 2, 0, 0, []),
  (56, .idiv, 1, 0, 0, []),
  (57, .iload_n 2, 1, 0, 0, []),
  (58, .bipush 6, 2, 0, 0, []),
  (60, .irem, 1, 0, 0, []),
  (61, .if_icmp .ne 7, 3, 68, 0, []),
  (64, .iconst 0, 1, 0, 0, []),
  (65, .goto 6, 3, 71, 0, []),
  (68, .sipush 999, 3, 0, 0, []),
  (71, .iastore, 1, 0, 0, []),
  (72, .iinc 2 1, 3, 0, 0, []),
  (75, .goto (-38), 3, 37, 0, []),
  (78, .iconst 0, 1, 0, 0, []),
  (79, .istore_n 2, 1, 0, 0, []),
  (80, .iload_n 2, 1, 0, 0, []),
  (81, .iconst 5, 1, 0, 0, []),
  (82, .if_icmp .ge 31, 3, 113, 0, []),
  (85, .aload_n 0, 1, 0, 0, []),
  (86, .getfield 82, 3, 11, 35, [1304, 1]),
  (89, .iconst 5, 1, 0, 0, []),
  (90, .iload_n 1, 1, 0, 0, []),
  (91, .imul, 1, 0, 0, []),
  (92, .iload_n 2, 1, 0, 0, []),
  (93, .iadd, 1, 0, 0, []),
  (94, .iconst 0, 1, 0, 0, []),
  (95, .iastore, 1, 0, 0, []),
  (96, .aload_n 0, 1, 0, 0, []),
  (97, .getfield 85, 3, 11, 36, [1305, 1]),
  (100, .iconst 5, 1, 0, 0, []),
  (101, .iload_n 1, 1, 0, 0, []),
  (102, .imul, 1, 0, 0, []),
  (103, .iload_n 2, 1, 0, 0, []),
  (104, .iadd, 1, 0, 0, []),
  (105, .iconst 0, 1, 0, 0, []),
  (106, .iastore, 1, 0, 0, []),
  (107, .iinc 2 1, 3, 0, 0, []),
  (110, .goto (-30), 3, 80, 0, []),
  (113, .return_, 1, 0, 0, [])]
def mX11_plain : ab_M := (yX11_plain, cX11_plain, 3, none, 0, 0, 1, kX11_plain)
def kX11_read : List ab_I := [(0, .aload_n 0, 1, 0, 0, []),
  (1, .aload_n 0, 1, 0, 0, []),
  (2, .getfield 163, 3, 11, 2, [1271]),
  (5, .putfield 169, 3, 11, 4, [1273]),
  (8, .iconst 0, 1, 0, 0, []),
  (9, .istore_n 1, 1, 0, 0, []),
  (10, .iload_n 1, 1, 0, 0, []),
  (11, .aload_n 0, 1, 0, 0, []),
  (12, .getfield 169, 3, 11, 4, [1273]),
  (15, .if_icmp .ge 21, 3, 36, 0, []),
  (18, .aload_n 0, 1, 0, 0, []),
  (19, .getfield 17, 3, 11, 3, [1272, 1]),
  (22, .iload_n 1, 1, 0, 0, []),
  (23, .aload_n 0, 1, 0, 0, []),
  (24, .getfield 13, 3, 11, 1, [1270, 1]),
  (27, .iload_n 1, 1, 0, 0, []),
  (28, .baload, 1, 0, 0, []),
  (29, .bastore, 1, 0, 0, []),
  (30, .iinc 1 1, 3, 0, 0, []),
  (33, .goto (-23), 3, 10, 0, []),
  (36, .aload_n 0, 1, 0, 0, []),
  (37, .iconst 0, 1, 0, 0, []),
  (38, .putfield 163, 3, 11, 2, [1271]),
  (41, .aload_n 0, 1, 0, 0, []),
  (42, .invokevirtual 224, 3, 192, 11, [1484, 0]),
  (45, .aload_n 0, 1, 0, 0, []),
  (46, .iconst 0, 1, 0, 0, []),
  (47, .putfield 203, 3, 11, 11, [1280]),
  (50, .aload_n 0, 1, 0, 0, []),
  (51, .iconst 0, 1, 0, 0, []),
  (52, .putfield 227, 3, 11, 12, [1281]),
  (55, .aload_n 0, 1, 0, 0, []),
  (56, .iconst 0, 1, 0, 0, []),
  (57, .putfield 200, 3, 11, 13, [1282]),
  (60, .aload_n 0, 1, 0, 0, []),
  (61, .iconst 0, 1, 0, 0, []),
  (62, .putfield 209, 3, 11, 15, [1284]),
  (65, .aload_n 0, 1, 0, 0, []),
  (66, .iconst 1, 1, 0, 0, []),
  (67, .aload_n 0, 1, 0, 0, []),
  (68, .getfield 230, 3, 11, 18, [1287]),
  (71, .isub, 1, 0, 0, []),
  (72, .putfield 233, 3, 11, 19, [1288]),
  (75, .aload_n 0, 1, 0, 0, []),
  (76, .iconst 0, 1, 0, 0, []),
  (77, .putfield 236, 3, 11, 20, [1289]),
  (80, .aload_n 0, 1, 0, 0, []),
  (81, .aload_n 0, 1, 0, 0, []),
  (82, .getfield 233, 3, 11, 19, [1288]),
  (85, .invokevirtual 149, 3, 199, 11, [1251, 1]),
  (88, .aload_n 0, 1, 0, 0, []),
  (89, .sipush 130, 3, 0, 0, []),
  (92, .aload_n 0, 1, 0, 0, []),
  (93, .getfield 233, 3, 11, 19, [1288]),
  (96, .imul, 1, 0, 0, []),
  (97, .putfield 239, 3, 11, 37, [1306]),
  (100, .aload_n 0, 1, 0, 0, []),
  (101, .sipush 420, 3, 0, 0, []),
  (104, .aload_n 0, 1, 0, 0, []),
  (105, .getfield 233, 3, 11, 19, [1288]),
  (108, .imul, 1, 0, 0, []),
  (109, .putfield 242, 3, 11, 43, [1312]),
  (112, .aload_n 0, 1, 0, 0, []),
  (113, .getfield 200, 3, 11, 13, [1282]),
  (116, .ifCond .ne 18, 3, 134, 0, []),
  (119, .aload_n 0, 1, 0, 0, []),
  (120, .iconst 0, 1, 0, 0, []),
  (121, .invokevirtual 218, 3, 194, 11, [1506, 1]),
  (124, .ifCond .ne 10, 3, 134, 0, []),
  (127, .aload_n 0, 1, 0, 0, []),
  (128, .invokevirtual 245, 3, 203, 11, [1510, 0]),
  (131, .goto (-19), 3, 112, 0, []),
  (134, .aload_n 0, 1, 0, 0, []),
  (135, .aload_n 0, 1, 0, 0, []),
  (136, .getfield 200, 3, 11, 13, [1282]),
  (139, .ifCond .le 10, 3, 149, 0, []),
  (142, .aload_n 0, 1, 0, 0, []),
  (143, .getfield 206, 3, 11, 14, [1283]),
  (146, .goto 18, 3, 164, 0, []),
  (149, .aload_n 0, 1, 0, 0, []),
  (150, .getfield 209, 3, 11, 15, [1284]),
  (153, .ifCond .le 10, 3, 163, 0, []),
  (156, .aload_n 0, 1, 0, 0, []),
  (157, .getfield 212, 3, 11, 16, [1285]),
  (160, .goto 4, 3, 164, 0, []),
  (163, .iconst (-1), 1, 0, 0, []),
  (164, .putfield 37, 3, 11, 17, [1286]),
  (167, .aload_n 0, 1, 0, 0, []),
  (168, .getfield 200, 3, 11, 13, [1282]),
  (171, .ifCond .le 8, 3, 179, 0, []),
  (174, .aload_n 0, 1, 0, 0, []),
  (175, .getfield 200, 3, 11, 13, [1282]),
  (178, .ireturn, 1, 0, 0, []),
  (179, .aload_n 0, 1, 0, 0, []),
  (180, .getfield 209, 3, 11, 15, [1284]),
  (183, .ifCond .le 8, 3, 191, 0, []),
  (186, .aload_n 0, 1, 0, 0, []),
  (187, .getfield 209, 3, 11, 15, [1284]),
  (190, .ireturn, 1, 0, 0, []),
  (191, .aload_n 0, 1, 0, 0, []),
  (192, .aload_n 0, 1, 0, 0, []),
  (193, .getfield 233, 3, 11, 19, [1288]),
  (196, .putfield 230, 3, 11, 18, [1287]),
  (199, .aload_n 0, 1, 0, 0, []),
  (200, .invokevirtual 248, 3, 218, 11, [1586, 0]),
  (203, .aload_n 0, 1, 0, 0, []),
  (204, .invokevirtual 157, 3, 224, 11, [1262, 0]),
  (207, .aload_n 0, 1, 0, 0, []),
  (208, .invokevirtual 160, 3, 225, 11, [1266, 0]),
  (211, .aload_n 0, 1, 0, 0, []),
  (212, .iconst 0, 1, 0, 0, []),
  (213, .putfield 251, 3, 11, 57, [1326]),
  (216, .aload_n 0, 1, 0, 0, []),
  (217, .iconst 0, 1, 0, 0, []),
  (218, .putfield 254, 3, 11, 61, [1330]),
  (221, .iconst 0, 1, 0, 0, []),
  (222, .istore_n 1, 1, 0, 0, []),
  (223, .iload_n 1, 1, 0, 0, []),
  (224, .iconst 3, 1, 0, 0, []),
  (225, .if_icmp .ge 16, 3, 241, 0, []),
  (228, .aload_n 0, 1, 0, 0, []),
  (229, .getfield 143, 3, 11, 64, [1333, 1]),
  (232, .iload_n 1, 1, 0, 0, []),
  (233, .iconst 0, 1, 0, 0, []),
  (234, .bastore, 1, 0, 0, []),
  (235, .iinc 1 1, 3, 0, 0, []),
  (238, .goto (-15), 3, 223, 0, []),
  (241, .iconst 0, 1, 0, 0, []),
  (242, .ireturn, 1, 0, 0, [])]
def mX11_read : ab_M := (yX11_read, cX11_read, 2, (some (FieldType.int)), 0, 0, 1, kX11_read)
def kX11_place : List ab_I := [(0, .aload_n 0, 1, 0, 0, []),
  (1, .getfield 37, 3, 11, 17, [1286]),
  (4, .ireturn, 1, 0, 0, [])]
def mX11_place : ab_M := (yX11_place, cX11_place, 1, (some (FieldType.int)), 0, 0, 1, kX11_place)
def kX11_roomFor : List ab_I := [(0, .iload_n 1, 1, 0, 0, []),
  (1, .iload_n 2, 1, 0, 0, []),
  (2, .if_icmp .ne 8, 3, 10, 0, []),
  (5, .aload_n 0, 1, 0, 0, []),
  (6, .iconst 2, 1, 0, 0, []),
  (7, .invokevirtual 215, 3, 195, 11, [1518, 1]),
  (10, .aload_n 0, 1, 0, 0, []),
  (11, .getfield 200, 3, 11, 13, [1282]),
  (14, .ifCond .ne 7, 3, 21, 0, []),
  (17, .aload_n 0, 1, 0, 0, []),
  (18, .invokevirtual 221, 3, 197, 11, [1522, 0]),
  (21, .return_, 1, 0, 0, [])]
def mX11_roomFor : ab_M := (yX11_roomFor, cX11_roomFor, 3, none, 0, 0, 1, kX11_roomFor)
def kX11_tellOne : List ab_I := [(0, .aload_n 0, 1, 0, 0, []),
  (1, .getfield 20, 3, 11, 5, [1274, 1]),
  (4, .aload_n 0, 1, 0, 0, []),
  (5, .getfield 203, 3, 11, 11, [1280]),
  (8, .iaload, 1, 0, 0, []),
  (9, .tableswitch 272 20 31 #[63, 157, 186, 215, 272, 272, 272, 272, 272, 272, 272, 243], 63, 281, 0, [72, 166, 195, 224, 281, 281, 281, 281, 281, 281, 281, 252]),
  (72, .aload_n 0, 1, 0, 0, []),
  (73, .aload_n 0, 1, 0, 0, []),
  (74, .getfield 46, 3, 11, 23, [1292, 1]),
  (77, .aload_n 0, 1, 0, 0, []),
  (78, .getfield 233, 3, 11, 19, [1288]),
  (81, .iaload, 1, 0, 0, []),
  (82, .bipush 6, 2, 0, 0, []),
  (84, .invokevirtual 257, 3, 202, 11, [1514, 2]),
  (87, .aload_n 0, 1, 0, 0, []),
  (88, .getfield 200, 3, 11, 13, [1282]),
  (91, .ifCond .le 4, 3, 95, 0, []),
  (94, .return_, 1, 0, 0, []),
  (95, .aload_n 0, 1, 0, 0, []),
  (96, .invokevirtual 261, 3, 204, 11, [1526, 0]),
  (99, .istore_n 1, 1, 0, 0, []),
  (100, .aload_n 0, 1, 0, 0, []),
  (101, .getfield 49, 3, 11, 24, [1293, 1]),
  (104, .bipush 6, 2, 0, 0, []),
  (106, .aload_n 0, 1, 0, 0, []),
  (107, .getfield 233, 3, 11, 19, [1288]),
  (110, .imul, 1, 0, 0, []),
  (111, .aload_n 0, 1, 0, 0, []),
  (112, .getfield 46, 3, 11, 23, [1292, 1]),
  (115, .aload_n 0, 1, 0, 0, []),
  (116, .getfield 233, 3, 11, 19, [1288]),
  (119, .iaload, 1, 0, 0, []),
  (120, .iadd, 1, 0, 0, []),
  (121, .aload_n 0, 1, 0, 0, []),
  (122, .iconst 0, 1, 0, 0, []),
  (123, .bipush 9, 2, 0, 0, []),
  (125, .invokevirtual 265, 3, 207, 11, [1538, 2]),
  (128, .iastore, 1, 0, 0, []),
  (129, .aload_n 0, 1, 0, 0, []),
  (130, .iload_n 1, 1, 0, 0, []),
  (131, .aload_n 0, 1, 0, 0, []),
  (132, .getfield 46, 3, 11, 23, [1292, 1]),
  (135, .aload_n 0, 1, 0, 0, []),
  (136, .getfield 233, 3, 11, 19, [1288]),
  (139, .iaload, 1, 0, 0, []),
  (140, .invokevirtual 269, 3, 205, 11, [1542, 2]),
  (143, .aload_n 0, 1, 0, 0, []),
  (144, .getfield 200, 3, 11, 13, [1282]),
  (147, .ifCond .ne 187, 3, 334, 0, []),
  (150, .aload_n 0, 1, 0, 0, []),
  (151, .getfield 46, 3, 11, 23, [1292, 1]),
  (154, .aload_n 0, 1, 0, 0, []),
  (155, .getfield 233, 3, 11, 19, [1288]),
  (158, .dup2, 1, 0, 0, []),
  (159, .iaload, 1, 0, 0, []),
  (160, .iconst 1, 1, 0, 0, []),
  (161, .iadd, 1, 0, 0, []),
  (162, .iastore, 1, 0, 0, []),
  (163, .goto 171, 3, 334, 0, []),
  (166, .aload_n 0, 1, 0, 0, []),
  (167, .aload_n 0, 1, 0, 0, []),
  (168, .getfield 52, 3, 11, 25, [1294, 1]),
  (171, .aload_n 0, 1, 0, 0, []),
  (172, .getfield 233, 3, 11, 19, [1288]),
  (175, .iaload, 1, 0, 0, []),
  (176, .bipush 9, 2, 0, 0, []),
  (178, .invokevirtual 257, 3, 202, 11, [1514, 2]),
  (181, .aload_n 0, 1, 0, 0, []),
  (182, .getfield 200, 3, 11, 13, [1282]),
  (185, .ifCond .ne 149, 3, 334, 0, []),
  (188, .aload_n 0, 1, 0, 0, []),
  (189, .invokevirtual 272, 3, 208, 11, [1546, 0]),
  (192, .goto 142, 3, 334, 0, []),
  (195, .aload_n 0, 1, 0, 0, []),
  (196, .aload_n 0, 1, 0, 0, []),
  (197, .getfield 58, 3, 11, 27, [1296, 1]),
  (200, .aload_n 0, 1, 0, 0, []),
  (201, .getfield 233, 3, 11, 19, [1288]),
  (204, .iaload, 1, 0, 0, []),
  (205, .bipush 6, 2, 0, 0, []),
  (207, .invokevirtual 257, 3, 202, 11, [1514, 2]),
  (210, .aload_n 0, 1, 0, 0, []),
  (211, .getfield 200, 3, 11, 13, [1282]),
  (214, .ifCond .ne 120, 3, 334, 0, []),
  (217, .aload_n 0, 1, 0, 0, []),
  (218, .invokevirtual 275, 3, 209, 11, [1554, 0]),
  (221, .goto 113, 3, 334, 0, []),
  (224, .aload_n 0, 1, 0, 0, []),
  (225, .aload_n 0, 1, 0, 0, []),
  (226, .getfield 67, 3, 11, 30, [1299, 1]),
  (229, .aload_n 0, 1, 0, 0, []),
  (230, .getfield 233, 3, 11, 19, [1288]),
  (233, .iaload, 1, 0, 0, []),
  (234, .iconst 5, 1, 0, 0, []),
  (235, .invokevirtual 257, 3, 202, 11, [1514, 2]),
  (238, .aload_n 0, 1, 0, 0, []),
  (239, .getfield 200, 3, 11, 13, [1282]),
  (242, .ifCond .ne 92, 3, 334, 0, []),
  (245, .aload_n 0, 1, 0, 0, []),
  (246, .invokevirtual 278, 3, 210, 11, [1558, 0]),
  (249, .goto 85, 3, 334, 0, []),
  (252, .aload_n 0, 1, 0, 0, []),
  (253, .invokevirtual 221, 3, 197, 11, [1522, 0]),
  (256, .aload_n 0, 1, 0, 0, []),
  (257, .getfield 79, 3, 11, 34, [1303, 1]),
  (260, .aload_n 0, 1, 0, 0, []),
  (261, .getfield 233, 3, 11, 19, [1288]),
  (264, .aload_n 0, 1, 0, 0, []),
  (265, .iconst 0, 1, 0, 0, []),
  (266, .sipush 9999, 3, 0, 0, []),
  (269, .invokevirtual 265, 3, 207, 11, [1538, 2]),
  (272, .iastore, 1, 0, 0, []),
  (273, .aload_n 0, 1, 0, 0, []),
  (274, .iconst 4, 1, 0, 0, []),
  (275, .invokevirtual 281, 3, 198, 11, [1530, 1]),
  (278, .goto 56, 3, 334, 0, []),
  (281, .aload_n 0, 1, 0, 0, []),
  (282, .getfield 20, 3, 11, 5, [1274, 1]),
  (285, .aload_n 0, 1, 0, 0, []),
  (286, .getfield 203, 3, 11, 11, [1280]),
  (289, .iaload, 1, 0, 0, []),
  (290, .bipush 26, 2, 0, 0, []),
  (292, .isub, 1, 0, 0, []),
  (293, .istore_n 1, 1, 0, 0, []),
  (294, .iload_n 1, 1, 0, 0, []),
  (295, .ifCond .lt 17, 3, 312, 0, []),
  (298, .aload_n 0, 1, 0, 0, []),
  (299, .getfield 20, 3, 11, 5, [1274, 1]),
  (302, .aload_n 0, 1, 0, 0, []),
  (303, .getfield 203, 3, 11, 11, [1280]),
  (306, .iaload, 1, 0, 0, []),
  (307, .bipush 30, 2, 0, 0, []),
  (309, .if_icmp .le 8, 3, 317, 0, []),
  (312, .aload_n 0, 1, 0, 0, []),
  (313, .iconst 1, 1, 0, 0, []),
  (314, .invokevirtual 215, 3, 195, 11, [1518, 1]),
  (317, .aload_n 0, 1, 0, 0, []),
  (318, .getfield 200, 3, 11, 13, [1282]),
  (321, .ifCond .le 4, 3, 325, 0, []),
  (324, .return_, 1, 0, 0, []),
  (325, .aload_n 0, 1, 0, 0, []),
  (326, .invokevirtual 221, 3, 197, 11, [1522, 0]),
  (329, .aload_n 0, 1, 0, 0, []),
  (330, .iload_n 1, 1, 0, 0, []),
  (331, .invokevirtual 284, 3, 211, 11, [1562, 1]),
  (334, .return_, 1, 0, 0, [])]
def mX11_tellOne : ab_M := (yX11_tellOne, cX11_tellOne, 2, none, 0, 0, 1, kX11_tellOne)
def kX11_named : List ab_I := [(0, .aload_n 0, 1, 0, 0, []),
  (1, .getfield 203, 3, 11, 11, [1280]),
  (4, .istore_n 1, 1, 0, 0, []),
  (5, .aload_n 0, 1, 0, 0, []),
  (6, .iconst 1, 1, 0, 0, []),
  (7, .invokevirtual 281, 3, 198, 11, [1530, 1]),
  (10, .iconst 0, 1, 0, 0, []),
  (11, .istore_n 2, 1, 0, 0, []),
  (12, .iload_n 2, 1, 0, 0, []),
  (13, .aload_n 0, 1, 0, 0, []),
  (14, .getfield 236, 3, 11, 20, [1289]),
  (17, .if_icmp .ge 38, 3, 55, 0, []),
  (20, .aload_n 0, 1, 0, 0, []),
  (21, .getfield 200, 3, 11, 13, [1282]),
  (24, .ifCond .ne 31, 3, 55, 0, []),
  (27, .aload_n 0, 1, 0, 0, []),
  (28, .getfield 40, 3, 11, 21, [1290, 1]),
  (31, .iload_n 2, 1, 0, 0, []),
  (32, .laload, 1, 0, 0, []),
  (33, .aload_n 0, 1, 0, 0, []),
  (34, .getfield 30, 3, 11, 8, [1277, 1]),
  (37, .iload_n 1, 1, 0, 0, []),
  (38, .laload, 1, 0, 0, []),
  (39, .lcmp, 1, 0, 0, []),
  (40, .ifCond .ne 9, 3, 49, 0, []),
  (43, .aload_n 0, 1, 0, 0, []),
  (44, .iconst 3, 1, 0, 0, []),
  (45, .iload_n 1, 1, 0, 0, []),
  (46, .invokevirtual 287, 3, 196, 11, [1534, 2]),
  (49, .iinc 2 1, 3, 0, 0, []),
  (52, .goto (-40), 3, 12, 0, []),
  (55, .iload_n 1, 1, 0, 0, []),
  (56, .ireturn, 1, 0, 0, [])]
def mX11_named : ab_M := (yX11_named, cX11_named, 3, (some (FieldType.int)), 0, 0, 1, kX11_named)
def kX11_ends : List ab_I := [(0, .aload_n 0, 1, 0, 0, []),
  (1, .iconst 4, 1, 0, 0, []),
  (2, .invokevirtual 281, 3, 198, 11, [1530, 1]),
  (5, .aload_n 0, 1, 0, 0, []),
  (6, .getfield 200, 3, 11, 13, [1282]),
  (9, .ifCond .le 4, 3, 13, 0, []),
  (12, .return_, 1, 0, 0, []),
  (13, .aload_n 0, 1, 0, 0, []),
  (14, .getfield 40, 3, 11, 21, [1290, 1]),
  (17, .aload_n 0, 1, 0, 0, []),
  (18, .getfield 236, 3, 11, 20, [1289]),
  (21, .aload_n 0, 1, 0, 0, []),
  (22, .getfield 30, 3, 11, 8, [1277, 1]),
  (25, .iload_n 1, 1, 0, 0, []),
  (26, .laload, 1, 0, 0, []),
  (27, .lastore, 1, 0, 0, []),
  (28, .aload_n 0, 1, 0, 0, []),
  (29, .getfield 43, 3, 11, 22, [1291, 1]),
  (32, .aload_n 0, 1, 0, 0, []),
  (33, .getfield 236, 3, 11, 20, [1289]),
  (36, .iload_n 2, 1, 0, 0, []),
  (37, .iastore, 1, 0, 0, []),
  (38, .aload_n 0, 1, 0, 0, []),
  (39, .dup, 1, 0, 0, []),
  (40, .getfield 236, 3, 11, 20, [1289]),
  (43, .iconst 1, 1, 0, 0, []),
  (44, .iadd, 1, 0, 0, []),
  (45, .putfield 236, 3, 11, 20, [1289]),
  (48, .return_, 1, 0, 0, [])]
def mX11_ends : ab_M := (yX11_ends, cX11_ends, 3, none, 0, 0, 1, kX11_ends)
def kX11_knownChurch : List ab_I := [(0, .aload_n 0, 1, 0, 0, []),
  (1, .getfield 203, 3, 11, 11, [1280]),
  (4, .istore_n 1, 1, 0, 0, []),
  (5, .aload_n 0, 1, 0, 0, []),
  (6, .iconst 1, 1, 0, 0, []),
  (7, .invokevirtual 281, 3, 198, 11, [1530, 1]),
  (10, .aload_n 0, 1, 0, 0, []),
  (11, .getfield 200, 3, 11, 13, [1282]),
  (14, .ifCond .le 5, 3, 19, 0, []),
  (17, .iconst (-1), 1, 0, 0, []),
  (18, .ireturn, 1, 0, 0, []),
  (19, .iconst 0, 1, 0, 0, []),
  (20, .istore_n 2, 1, 0, 0, []),
  (21, .iload_n 2, 1, 0, 0, []),
  (22, .aload_n 0, 1, 0, 0, []),
  (23, .getfield 236, 3, 11, 20, [1289]),
  (26, .if_icmp .ge 41, 3, 67, 0, []),
  (29, .aload_n 0, 1, 0, 0, []),
  (30, .getfield 40, 3, 11, 21, [1290, 1]),
  (33, .iload_n 2, 1, 0, 0, []),
  (34, .laload, 1, 0, 0, []),
  (35, .aload_n 0, 1, 0, 0, []),
  (36, .getfield 30, 3, 11, 8, [1277, 1]),
  (39, .iload_n 1, 1, 0, 0, []),
  (40, .laload, 1, 0, 0, []),
  (41, .lcmp, 1, 0, 0, []),
  (42, .ifCond .ne 19, 3, 61, 0, []),
  (45, .aload_n 0, 1, 0, 0, []),
  (46, .getfield 43, 3, 11, 22, [1291, 1]),
  (49, .iload_n 2, 1, 0, 0, []),
  (50, .iaload, 1, 0, 0, []),
  (51, .ifCond .lt 10, 3, 61, 0, []),
  (54, .aload_n 0, 1, 0, 0, []),
  (55, .getfield 43, 3, 11, 22, [1291, 1]),
  (58, .iload_n 2, 1, 0, 0, []),
  (59, .iaload, 1, 0, 0, []),
  (60, .ireturn, 1, 0, 0, []),
  (61, .iinc 2 1, 3, 0, 0, []),
  (64, .goto (-43), 3, 21, 0, []),
  (67, .aload_n 0, 1, 0, 0, []),
  (68, .iconst 4, 1, 0, 0, []),
  (69, .iload_n 1, 1, 0, 0, []),
  (70, .invokevirtual 287, 3, 196, 11, [1534, 2]),
  (73, .iconst (-1), 1, 0, 0, []),
  (74, .ireturn, 1, 0, 0, [])]
def mX11_knownChurch : ab_M := (yX11_knownChurch, cX11_knownChurch, 3, (some (FieldType.int)), 0, 0, 1, kX11_knownChurch)
def kX11_bounded : List ab_I := [(0, .aload_n 0, 1, 0, 0, []),
  (1, .getfield 200, 3, 11, 13, [1282]),
  (4, .ifCond .gt 11, 3, 15, 0, []),
  (7, .aload_n 0, 1, 0, 0, []),
  (8, .iconst 2, 1, 0, 0, []),
  (9, .invokevirtual 218, 3, 194, 11, [1506, 1]),
  (12, .ifCond .ne 10, 3, 22, 0, []),
  (15, .aload_n 0, 1, 0, 0, []),
  (16, .iconst 1, 1, 0, 0, []),
  (17, .invokevirtual 215, 3, 195, 11, [1518, 1]),
  (20, .iload_n 1, 1, 0, 0, []),
  (21, .ireturn, 1, 0, 0, []),
  (22, .aload_n 0, 1, 0, 0, []),
  (23, .getfield 27, 3, 11, 7, [1276, 1]),
  (26, .aload_n 0, 1, 0, 0, []),
  (27, .getfield 203, 3, 11, 11, [1280]),
  (30, .iaload, 1, 0, 0, []),
  (31, .istore_n 3, 1, 0, 0, []),
  (32, .iload_n 3, 1, 0, 0, []),
  (33, .iload_n 1, 1, 0, 0, []),
  (34, .if_icmp .lt 8, 3, 42, 0, []),
  (37, .iload_n 3, 1, 0, 0, []),
  (38, .iload_n 2, 1, 0, 0, []),
  (39, .if_icmp .le 12, 3, 51, 0, []),
  (42, .aload_n 0, 1, 0, 0, []),
  (43, .iconst 5, 1, 0, 0, []),
  (44, .aload_n 0, 1, 0, 0, []),
  (45, .getfield 203, 3, 11, 11, [1280]),
  (48, .invokevirtual 287, 3, 196, 11, [1534, 2]),
  (51, .aload_n 0, 1, 0, 0, []),
  (52, .invokevirtual 221, 3, 197, 11, [1522, 0]),
  (55, .iload_n 3, 1, 0, 0, []),
  (56, .ireturn, 1, 0, 0, [])]
def mX11_bounded : ab_M := (yX11_bounded, cX11_bounded, 4, (some (FieldType.int)), 0, 0, 1, kX11_bounded)
def kX11_tellRoad : List ab_I := [(0, .aload_n 0, 1, 0, 0, []),
  (1, .invokevirtual 290, 3, 206, 11, [1550, 0]),
  (4, .istore_n 1, 1, 0, 0, []),
  (5, .aload_n 0, 1, 0, 0, []),
  (6, .getfield 203, 3, 11, 11, [1280]),
  (9, .istore_n 2, 1, 0, 0, []),
  (10, .aload_n 0, 1, 0, 0, []),
  (11, .invokevirtual 290, 3, 206, 11, [1550, 0]),
  (14, .istore_n 3, 1, 0, 0, []),
  (15, .aload_n 0, 1, 0, 0, []),
  (16, .getfield 200, 3, 11, 13, [1282]),
  (19, .ifCond .ne 15, 3, 34, 0, []),
  (22, .iload_n 1, 1, 0, 0, []),
  (23, .ifCond .lt 11, 3, 34, 0, []),
  (26, .iload_n 3, 1, 0, 0, []),
  (27, .ifCond .lt 7, 3, 34, 0, []),
  (30, .iconst 1, 1, 0, 0, []),
  (31, .goto 4, 3, 35, 0, []),
  (34, .iconst 0, 1, 0, 0, []),
  (35, .istore 4, 2, 0, 0, []),
  (37, .iload 4, 2, 0, 0, []),
  (39, .ifCond .eq 34, 3, 73, 0, []),
  (42, .aload_n 0, 1, 0, 0, []),
  (43, .getfield 55, 3, 11, 26, [1295, 1]),
  (46, .bipush 36, 2, 0, 0, []),
  (48, .aload_n 0, 1, 0, 0, []),
  (49, .getfield 233, 3, 11, 19, [1288]),
  (52, .imul, 1, 0, 0, []),
  (53, .bipush 6, 2, 0, 0, []),
  (55, .iload_n 1, 1, 0, 0, []),
  (56, .imul, 1, 0, 0, []),
  (57, .iadd, 1, 0, 0, []),
  (58, .iload_n 3, 1, 0, 0, []),
  (59, .iadd, 1, 0, 0, []),
  (60, .iaload, 1, 0, 0, []),
  (61, .sipush 999, 3, 0, 0, []),
  (64, .if_icmp .ge 9, 3, 73, 0, []),
  (67, .aload_n 0, 1, 0, 0, []),
  (68, .iconst 3, 1, 0, 0, []),
  (69, .iload_n 2, 1, 0, 0, []),
  (70, .invokevirtual 287, 3, 196, 11, [1534, 2]),
  (73, .aload_n 0, 1, 0, 0, []),
  (74, .iconst 1, 1, 0, 0, []),
  (75, .bipush 99, 2, 0, 0, []),
  (77, .invokevirtual 265, 3, 207, 11, [1538, 2]),
  (80, .istore 5, 2, 0, 0, []),
  (82, .aload_n 0, 1, 0, 0, []),
  (83, .iconst 4, 1, 0, 0, []),
  (84, .invokevirtual 281, 3, 198, 11, [1530, 1]),
  (87, .aload_n 0, 1, 0, 0, []),
  (88, .getfield 200, 3, 11, 13, [1282]),
  (91, .ifCond .le 4, 3, 95, 0, []),
  (94, .return_, 1, 0, 0, []),
  (95, .aload_n 0, 1, 0, 0, []),
  (96, .getfield 52, 3, 11, 25, [1294, 1]),
  (99, .aload_n 0, 1, 0, 0, []),
  (100, .getfield 233, 3, 11, 19, [1288]),
  (103, .dup2, 1, 0, 0, []),
  (104, .iaload, 1, 0, 0, []),
  (105, .iconst 1, 1, 0, 0, []),
  (106, .iadd, 1, 0, 0, []),
  (107, .iastore, 1, 0, 0, []),
  (108, .iload 4, 2, 0, 0, []),
  (110, .ifCond .eq 8, 3, 118, 0, []),
  (113, .iload_n 1, 1, 0, 0, []),
  (114, .iload_n 3, 1, 0, 0, []),
  (115, .if_icmp .ne 4, 3, 119, 0, []),
  (118, .return_, 1, 0, 0, []),
  (119, .aload_n 0, 1, 0, 0, []),
  (120, .getfield 55, 3, 11, 26, [1295, 1]),
  (123, .bipush 36, 2, 0, 0, []),
  (125, .aload_n 0, 1, 0, 0, []),
  (126, .getfield 233, 3, 11, 19, [1288]),
  (129, .imul, 1, 0, 0, []),
  (130, .bipush 6, 2, 0, 0, []),
  (132, .iload_n 1, 1, 0, 0, []),
  (133, .imul, 1, 0, 0, []),
  (134, .iadd, 1, 0, 0, []),
  (135, .iload_n 3, 1, 0, 0, []),
  (136, .iadd, 1, 0, 0, []),
  (137, .iload 5, 2, 0, 0, []),
  (139, .iastore, 1, 0, 0, []),
  (140, .aload_n 0, 1, 0, 0, []),
  (141, .getfield 55, 3, 11, 26, [1295, 1]),
  (144, .bipush 36, 2, 0, 0, []),
  (146, .aload_n 0, 1, 0, 0, []),
  (147, .getfield 233, 3, 11, 19, [1288]),
  (150, .imul, 1, 0, 0, []),
  (151, .bipush 6, 2, 0, 0, []),
  (153, .iload_n 3, 1, 0, 0, []),
  (154, .imul, 1, 0, 0, []),
  (155, .iadd, 1, 0, 0, []),
  (156, .iload_n 1, 1, 0, 0, []),
  (157, .iadd, 1, 0, 0, []),
  (158, .iload 5, 2, 0, 0, []),
  (160, .iastore, 1, 0, 0, []),
  (161, .return_, 1, 0, 0, [])]
def mX11_tellRoad : ab_M := (yX11_tellRoad, cX11_tellRoad, 6, none, 0, 0, 1, kX11_tellRoad)
def kX11_tellRelic : List ab_I := [(0, .bipush 6, 2, 0, 0, []),
  (2, .aload_n 0, 1, 0, 0, []),
  (3, .getfield 233, 3, 11, 19, [1288]),
  (6, .imul, 1, 0, 0, []),
  (7, .aload_n 0, 1, 0, 0, []),
  (8, .getfield 58, 3, 11, 27, [1296, 1]),
  (11, .aload_n 0, 1, 0, 0, []),
  (12, .getfield 233, 3, 11, 19, [1288]),
  (15, .iaload, 1, 0, 0, []),
  (16, .iadd, 1, 0, 0, []),
  (17, .istore_n 1, 1, 0, 0, []),
  (18, .aload_n 0, 1, 0, 0, []),
  (19, .invokevirtual 261, 3, 204, 11, [1526, 0]),
  (22, .istore_n 2, 1, 0, 0, []),
  (23, .aload_n 0, 1, 0, 0, []),
  (24, .getfield 61, 3, 11, 28, [1297, 1]),
  (27, .iload_n 1, 1, 0, 0, []),
  (28, .aload_n 0, 1, 0, 0, []),
  (29, .invokevirtual 290, 3, 206, 11, [1550, 0]),
  (32, .iastore, 1, 0, 0, []),
  (33, .aload_n 0, 1, 0, 0, []),
  (34, .getfield 200, 3, 11, 13, [1282]),
  (37, .ifCond .ne 26, 3, 63, 0, []),
  (40, .aload_n 0, 1, 0, 0, []),
  (41, .bipush 24, 2, 0, 0, []),
  (43, .invokevirtual 218, 3, 194, 11, [1506, 1]),
  (46, .ifCond .ne 17, 3, 63, 0, []),
  (49, .aload_n 0, 1, 0, 0, []),
  (50, .bipush 25, 2, 0, 0, []),
  (52, .invokevirtual 218, 3, 194, 11, [1506, 1]),
  (55, .ifCond .ne 8, 3, 63, 0, []),
  (58, .aload_n 0, 1, 0, 0, []),
  (59, .iconst 1, 1, 0, 0, []),
  (60, .invokevirtual 215, 3, 195, 11, [1518, 1]),
  (63, .aload_n 0, 1, 0, 0, []),
  (64, .getfield 64, 3, 11, 29, [1298, 1]),
  (67, .iload_n 1, 1, 0, 0, []),
  (68, .aload_n 0, 1, 0, 0, []),
  (69, .bipush 24, 2, 0, 0, []),
  (71, .invokevirtual 218, 3, 194, 11, [1506, 1]),
  (74, .ifCond .eq 7, 3, 81, 0, []),
  (77, .iconst 1, 1, 0, 0, []),
  (78, .goto 4, 3, 82, 0, []),
  (81, .iconst 0, 1, 0, 0, []),
  (82, .iastore, 1, 0, 0, []),
  (83, .aload_n 0, 1, 0, 0, []),
  (84, .getfield 200, 3, 11, 13, [1282]),
  (87, .ifCond .ne 7, 3, 94, 0, []),
  (90, .aload_n 0, 1, 0, 0, []),
  (91, .invokevirtual 221, 3, 197, 11, [1522, 0]),
  (94, .aload_n 0, 1, 0, 0, []),
  (95, .iload_n 2, 1, 0, 0, []),
  (96, .iconst (-1), 1, 0, 0, []),
  (97, .invokevirtual 269, 3, 205, 11, [1542, 2]),
  (100, .aload_n 0, 1, 0, 0, []),
  (101, .getfield 200, 3, 11, 13, [1282]),
  (104, .ifCond .ne 16, 3, 120, 0, []),
  (107, .aload_n 0, 1, 0, 0, []),
  (108, .getfield 58, 3, 11, 27, [1296, 1]),
  (111, .aload_n 0, 1, 0, 0, []),
  (112, .getfield 233, 3, 11, 19, [1288]),
  (115, .dup2, 1, 0, 0, []),
  (116, .iaload, 1, 0, 0, []),
  (117, .iconst 1, 1, 0, 0, []),
  (118, .iadd, 1, 0, 0, []),
  (119, .iastore, 1, 0, 0, []),
  (120, .return_, 1, 0, 0, [])]
def mX11_tellRelic : ab_M := (yX11_tellRelic, cX11_tellRelic, 3, none, 0, 0, 1, kX11_tellRelic)
def kX11_tellPilgrim : List ab_I := [(0, .iconst 5, 1, 0, 0, []),
  (1, .aload_n 0, 1, 0, 0, []),
  (2, .getfield 233, 3, 11, 19, [1288]),
  (5, .imul, 1, 0, 0, []),
  (6, .aload_n 0, 1, 0, 0, []),
  (7, .getfield 67, 3, 11, 30, [1299, 1]),
  (10, .aload_n 0, 1, 0, 0, []),
  (11, .getfield 233, 3, 11, 19, [1288]),
  (14, .iaload, 1, 0, 0, []),
  (15, .iadd, 1, 0, 0, []),
  (16, .istore_n 1, 1, 0, 0, []),
  (17, .aload_n 0, 1, 0, 0, []),
  (18, .invokevirtual 261, 3, 204, 11, [1526, 0]),
  (21, .istore_n 2, 1, 0, 0, []),
  (22, .aload_n 0, 1, 0, 0, []),
  (23, .getfield 70, 3, 11, 31, [1300, 1]),
  (26, .iload_n 1, 1, 0, 0, []),
  (27, .aload_n 0, 1, 0, 0, []),
  (28, .invokevirtual 290, 3, 206, 11, [1550, 0]),
  (31, .iastore, 1, 0, 0, []),
  (32, .aload_n 0, 1, 0, 0, []),
  (33, .getfield 73, 3, 11, 32, [1301, 1]),
  (36, .iload_n 1, 1, 0, 0, []),
  (37, .aload_n 0, 1, 0, 0, []),
  (38, .iconst 0, 1, 0, 0, []),
  (39, .bipush 9, 2, 0, 0, []),
  (41, .invokevirtual 265, 3, 207, 11, [1538, 2]),
  (44, .iastore, 1, 0, 0, []),
  (45, .aload_n 0, 1, 0, 0, []),
  (46, .getfield 76, 3, 11, 33, [1302, 1]),
  (49, .iload_n 1, 1, 0, 0, []),
  (50, .aload_n 0, 1, 0, 0, []),
  (51, .iconst 0, 1, 0, 0, []),
  (52, .bipush 9, 2, 0, 0, []),
  (54, .invokevirtual 265, 3, 207, 11, [1538, 2]),
  (57, .iastore, 1, 0, 0, []),
  (58, .aload_n 0, 1, 0, 0, []),
  (59, .iload_n 2, 1, 0, 0, []),
  (60, .iconst (-1), 1, 0, 0, []),
  (61, .invokevirtual 269, 3, 205, 11, [1542, 2]),
  (64, .aload_n 0, 1, 0, 0, []),
  (65, .getfield 200, 3, 11, 13, [1282]),
  (68, .ifCond .ne 16, 3, 84, 0, []),
  (71, .aload_n 0, 1, 0, 0, []),
  (72, .getfield 67, 3, 11, 30, [1299, 1]),
  (75, .aload_n 0, 1, 0, 0, []),
  (76, .getfield 233, 3, 11, 19, [1288]),
  (79, .dup2, 1, 0, 0, []),
  (80, .iaload, 1, 0, 0, []),
  (81, .iconst 1, 1, 0, 0, []),
  (82, .iadd, 1, 0, 0, []),
  (83, .iastore, 1, 0, 0, []),
  (84, .return_, 1, 0, 0, [])]
def mX11_tellPilgrim : ab_M := (yX11_tellPilgrim, cX11_tellPilgrim, 3, none, 0, 0, 1, kX11_tellPilgrim)
def kX11_tellLaw : List ab_I := [(0, .aload_n 0, 1, 0, 0, []),
  (1, .iconst 5, 1, 0, 0, []),
  (2, .invokevirtual 281, 3, 198, 11, [1530, 1]),
  (5, .aload_n 0, 1, 0, 0, []),
  (6, .getfield 239, 3, 11, 37, [1306]),
  (9, .istore_n 2, 1, 0, 0, []),
  (10, .iconst 0, 1, 0, 0, []),
  (11, .istore_n 3, 1, 0, 0, []),
  (12, .aload_n 0, 1, 0, 0, []),
  (13, .getfield 200, 3, 11, 13, [1282]),
  (16, .ifCond .ne 113, 3, 129, 0, []),
  (19, .aload_n 0, 1, 0, 0, []),
  (20, .bipush 32, 2, 0, 0, []),
  (22, .invokevirtual 218, 3, 194, 11, [1506, 1]),
  (25, .ifCond .eq 104, 3, 129, 0, []),
  (28, .iload_n 3, 1, 0, 0, []),
  (29, .iconst 4, 1, 0, 0, []),
  (30, .if_icmp .ne 8, 3, 38, 0, []),
  (33, .aload_n 0, 1, 0, 0, []),
  (34, .iconst 2, 1, 0, 0, []),
  (35, .invokevirtual 215, 3, 195, 11, [1518, 1]),
  (38, .aload_n 0, 1, 0, 0, []),
  (39, .getfield 200, 3, 11, 13, [1282]),
  (42, .ifCond .le 4, 3, 46, 0, []),
  (45, .return_, 1, 0, 0, []),
  (46, .iinc 3 1, 3, 0, 0, []),
  (49, .aload_n 0, 1, 0, 0, []),
  (50, .invokevirtual 221, 3, 197, 11, [1522, 0]),
  (53, .aload_n 0, 1, 0, 0, []),
  (54, .getfield 88, 3, 11, 38, [1307, 1]),
  (57, .aload_n 0, 1, 0, 0, []),
  (58, .getfield 239, 3, 11, 37, [1306]),
  (61, .iconst 1, 1, 0, 0, []),
  (62, .bastore, 1, 0, 0, []),
  (63, .aload_n 0, 1, 0, 0, []),
  (64, .getfield 92, 3, 11, 39, [1308, 1]),
  (67, .aload_n 0, 1, 0, 0, []),
  (68, .getfield 239, 3, 11, 37, [1306]),
  (71, .aload_n 0, 1, 0, 0, []),
  (72, .getfield 242, 3, 11, 43, [1312]),
  (75, .iastore, 1, 0, 0, []),
  (76, .aload_n 0, 1, 0, 0, []),
  (77, .invokevirtual 293, 3, 215, 11, [1566, 0]),
  (80, .aload_n 0, 1, 0, 0, []),
  (81, .bipush 13, 2, 0, 0, []),
  (83, .invokevirtual 281, 3, 198, 11, [1530, 1]),
  (86, .aload_n 0, 1, 0, 0, []),
  (87, .getfield 95, 3, 11, 40, [1309, 1]),
  (90, .aload_n 0, 1, 0, 0, []),
  (91, .getfield 239, 3, 11, 37, [1306]),
  (94, .aload_n 0, 1, 0, 0, []),
  (95, .getfield 242, 3, 11, 43, [1312]),
  (98, .iastore, 1, 0, 0, []),
  (99, .aload_n 0, 1, 0, 0, []),
  (100, .getfield 200, 3, 11, 13, [1282]),
  (103, .ifCond .ne 7, 3, 110, 0, []),
  (106, .aload_n 0, 1, 0, 0, []),
  (107, .invokevirtual 293, 3, 215, 11, [1566, 0]),
  (110, .aload_n 0, 1, 0, 0, []),
  (111, .bipush 33, 2, 0, 0, []),
  (113, .invokevirtual 281, 3, 198, 11, [1530, 1]),
  (116, .aload_n 0, 1, 0, 0, []),
  (117, .invokevirtual 296, 3, 212, 11, [1582, 0]),
  (120, .aload_n 0, 1, 0, 0, []),
  (121, .bipush 34, 2, 0, 0, []),
  (123, .invokevirtual 281, 3, 198, 11, [1530, 1]),
  (126, .goto (-114), 3, 12, 0, []),
  (129, .aload_n 0, 1, 0, 0, []),
  (130, .getfield 88, 3, 11, 38, [1307, 1]),
  (133, .aload_n 0, 1, 0, 0, []),
  (134, .getfield 239, 3, 11, 37, [1306]),
  (137, .iconst 0, 1, 0, 0, []),
  (138, .bastore, 1, 0, 0, []),
  (139, .aload_n 0, 1, 0, 0, []),
  (140, .invokevirtual 296, 3, 212, 11, [1582, 0]),
  (143, .aload_n 0, 1, 0, 0, []),
  (144, .iconst 4, 1, 0, 0, []),
  (145, .invokevirtual 281, 3, 198, 11, [1530, 1]),
  (148, .aload_n 0, 1, 0, 0, []),
  (149, .getfield 200, 3, 11, 13, [1282]),
  (152, .ifCond .le 4, 3, 156, 0, []),
  (155, .return_, 1, 0, 0, []),
  (156, .aload_n 0, 1, 0, 0, []),
  (157, .getfield 82, 3, 11, 35, [1304, 1]),
  (160, .iconst 5, 1, 0, 0, []),
  (161, .aload_n 0, 1, 0, 0, []),
  (162, .getfield 233, 3, 11, 19, [1288]),
  (165, .imul, 1, 0, 0, []),
  (166, .iload_n 1, 1, 0, 0, []),
  (167, .iadd, 1, 0, 0, []),
  (168, .iload_n 2, 1, 0, 0, []),
  (169, .iastore, 1, 0, 0, []),
  (170, .aload_n 0, 1, 0, 0, []),
  (171, .getfield 85, 3, 11, 36, [1305, 1]),
  (174, .iconst 5, 1, 0, 0, []),
  (175, .aload_n 0, 1, 0, 0, []),
  (176, .getfield 233, 3, 11, 19, [1288]),
  (179, .imul, 1, 0, 0, []),
  (180, .iload_n 1, 1, 0, 0, []),
  (181, .iadd, 1, 0, 0, []),
  (182, .aload_n 0, 1, 0, 0, []),
  (183, .getfield 239, 3, 11, 37, [1306]),
  (186, .iastore, 1, 0, 0, []),
  (187, .return_, 1, 0, 0, [])]
def mX11_tellLaw : ab_M := (yX11_tellLaw, cX11_tellLaw, 4, none, 0, 0, 1, kX11_tellLaw)
def kX11_term : List ab_I := [(0, .aload_n 0, 1, 0, 0, []),
  (1, .getfield 98, 3, 11, 41, [1310, 1]),
  (4, .aload_n 0, 1, 0, 0, []),
  (5, .getfield 239, 3, 11, 37, [1306]),
  (8, .aload_n 0, 1, 0, 0, []),
  (9, .getfield 242, 3, 11, 43, [1312]),
  (12, .iastore, 1, 0, 0, []),
  (13, .aload_n 0, 1, 0, 0, []),
  (14, .getfield 200, 3, 11, 13, [1282]),
  (17, .ifCond .ne 7, 3, 24, 0, []),
  (20, .aload_n 0, 1, 0, 0, []),
  (21, .invokevirtual 293, 3, 215, 11, [1566, 0]),
  (24, .aload_n 0, 1, 0, 0, []),
  (25, .getfield 101, 3, 11, 42, [1311, 1]),
  (28, .aload_n 0, 1, 0, 0, []),
  (29, .getfield 239, 3, 11, 37, [1306]),
  (32, .aload_n 0, 1, 0, 0, []),
  (33, .getfield 242, 3, 11, 43, [1312]),
  (36, .iastore, 1, 0, 0, []),
  (37, .aload_n 0, 1, 0, 0, []),
  (38, .dup, 1, 0, 0, []),
  (39, .getfield 239, 3, 11, 37, [1306]),
  (42, .iconst 1, 1, 0, 0, []),
  (43, .iadd, 1, 0, 0, []),
  (44, .putfield 239, 3, 11, 37, [1306]),
  (47, .return_, 1, 0, 0, [])]
def mX11_term : ab_M := (yX11_term, cX11_term, 1, none, 0, 0, 1, kX11_term)
def kX11_emit : List ab_I := [(0, .aload_n 0, 1, 0, 0, []),
  (1, .getfield 104, 3, 11, 44, [1313, 1]),
  (4, .aload_n 0, 1, 0, 0, []),
  (5, .getfield 242, 3, 11, 43, [1312]),
  (8, .iload_n 1, 1, 0, 0, []),
  (9, .iastore, 1, 0, 0, []),
  (10, .aload_n 0, 1, 0, 0, []),
  (11, .getfield 107, 3, 11, 45, [1314, 1]),
  (14, .aload_n 0, 1, 0, 0, []),
  (15, .getfield 242, 3, 11, 43, [1312]),
  (18, .iload_n 2, 1, 0, 0, []),
  (19, .iastore, 1, 0, 0, []),
  (20, .aload_n 0, 1, 0, 0, []),
  (21, .dup, 1, 0, 0, []),
  (22, .getfield 242, 3, 11, 43, [1312]),
  (25, .iconst 1, 1, 0, 0, []),
  (26, .iadd, 1, 0, 0, []),
  (27, .putfield 242, 3, 11, 43, [1312]),
  (30, .return_, 1, 0, 0, [])]
def mX11_emit : ab_M := (yX11_emit, cX11_emit, 3, none, 0, 0, 1, kX11_emit)
def kX11_comesOut : List ab_I := [(0, .aload_n 0, 1, 0, 0, []),
  (1, .getfield 299, 3, 11, 47, [1316]),
  (4, .ifCond .le 87, 3, 91, 0, []),
  (7, .aload_n 0, 1, 0, 0, []),
  (8, .getfield 110, 3, 11, 46, [1315, 1]),
  (11, .aload_n 0, 1, 0, 0, []),
  (12, .getfield 299, 3, 11, 47, [1316]),
  (15, .iconst 1, 1, 0, 0, []),
  (16, .isub, 1, 0, 0, []),
  (17, .iaload, 1, 0, 0, []),
  (18, .istore_n 2, 1, 0, 0, []),
  (19, .iload_n 2, 1, 0, 0, []),
  (20, .bipush 6, 2, 0, 0, []),
  (22, .if_icmp .eq 19, 3, 41, 0, []),
  (25, .iload_n 1, 1, 0, 0, []),
  (26, .ifCond .eq 16, 3, 42, 0, []),
  (29, .iload_n 2, 1, 0, 0, []),
  (30, .bipush 8, 2, 0, 0, []),
  (32, .if_icmp .eq 9, 3, 41, 0, []),
  (35, .iload_n 2, 1, 0, 0, []),
  (36, .bipush 9, 2, 0, 0, []),
  (38, .if_icmp .ne 4, 3, 42, 0, []),
  (41, .return_, 1, 0, 0, []),
  (42, .aload_n 0, 1, 0, 0, []),
  (43, .dup, 1, 0, 0, []),
  (44, .getfield 299, 3, 11, 47, [1316]),
  (47, .iconst 1, 1, 0, 0, []),
  (48, .isub, 1, 0, 0, []),
  (49, .putfield 299, 3, 11, 47, [1316]),
  (52, .aload_n 0, 1, 0, 0, []),
  (53, .iload_n 2, 1, 0, 0, []),
  (54, .bipush 8, 2, 0, 0, []),
  (56, .if_icmp .ne 7, 3, 63, 0, []),
  (59, .iconst 2, 1, 0, 0, []),
  (60, .goto 24, 3, 84, 0, []),
  (63, .iload_n 2, 1, 0, 0, []),
  (64, .bipush 9, 2, 0, 0, []),
  (66, .if_icmp .ne 7, 3, 73, 0, []),
  (69, .iconst 3, 1, 0, 0, []),
  (70, .goto 14, 3, 84, 0, []),
  (73, .iload_n 2, 1, 0, 0, []),
  (74, .bipush 10, 2, 0, 0, []),
  (76, .if_icmp .ne 7, 3, 83, 0, []),
  (79, .iconst 4, 1, 0, 0, []),
  (80, .goto 4, 3, 84, 0, []),
  (83, .iconst 5, 1, 0, 0, []),
  (84, .iconst 0, 1, 0, 0, []),
  (85, .invokevirtual 302, 3, 213, 11, [1574, 2]),
  (88, .goto (-88), 3, 0, 0, []),
  (91, .return_, 1, 0, 0, [])]
def mX11_comesOut : ab_M := (yX11_comesOut, cX11_comesOut, 3, none, 0, 0, 1, kX11_comesOut)
def kX11_expression : List ab_I := [(0, .aload_n 0, 1, 0, 0, []),
  (1, .iconst 0, 1, 0, 0, []),
  (2, .putfield 299, 3, 11, 47, [1316]),
  (5, .aload_n 0, 1, 0, 0, []),
  (6, .getfield 227, 3, 11, 12, [1281]),
  (9, .istore_n 1, 1, 0, 0, []),
  (10, .iconst 1, 1, 0, 0, []),
  (11, .istore_n 2, 1, 0, 0, []),
  (12, .iload_n 2, 1, 0, 0, []),
  (13, .ifCond .eq 259, 3, 272, 0, []),
  (16, .aload_n 0, 1, 0, 0, []),
  (17, .getfield 200, 3, 11, 13, [1282]),
  (20, .ifCond .ne 252, 3, 272, 0, []),
  (23, .aload_n 0, 1, 0, 0, []),
  (24, .bipush 6, 2, 0, 0, []),
  (26, .invokevirtual 218, 3, 194, 11, [1506, 1]),
  (29, .ifCond .eq 55, 3, 84, 0, []),
  (32, .aload_n 0, 1, 0, 0, []),
  (33, .getfield 227, 3, 11, 12, [1281]),
  (36, .bipush 6, 2, 0, 0, []),
  (38, .if_icmp .ne 8, 3, 46, 0, []),
  (41, .aload_n 0, 1, 0, 0, []),
  (42, .iconst 2, 1, 0, 0, []),
  (43, .invokevirtual 215, 3, 195, 11, [1518, 1]),
  (46, .aload_n 0, 1, 0, 0, []),
  (47, .dup, 1, 0, 0, []),
  (48, .getfield 227, 3, 11, 12, [1281]),
  (51, .iconst 1, 1, 0, 0, []),
  (52, .iadd, 1, 0, 0, []),
  (53, .putfield 227, 3, 11, 12, [1281]),
  (56, .aload_n 0, 1, 0, 0, []),
  (57, .invokevirtual 221, 3, 197, 11, [1522, 0]),
  (60, .aload_n 0, 1, 0, 0, []),
  (61, .getfield 110, 3, 11, 46, [1315, 1]),
  (64, .aload_n 0, 1, 0, 0, []),
  (65, .getfield 299, 3, 11, 47, [1316]),
  (68, .bipush 6, 2, 0, 0, []),
  (70, .iastore, 1, 0, 0, []),
  (71, .aload_n 0, 1, 0, 0, []),
  (72, .dup, 1, 0, 0, []),
  (73, .getfield 299, 3, 11, 47, [1316]),
  (76, .iconst 1, 1, 0, 0, []),
  (77, .iadd, 1, 0, 0, []),
  (78, .putfield 299, 3, 11, 47, [1316]),
  (81, .goto (-58), 3, 23, 0, []),
  (84, .aload_n 0, 1, 0, 0, []),
  (85, .invokevirtual 305, 3, 216, 11, [1570, 0]),
  (88, .aload_n 0, 1, 0, 0, []),
  (89, .getfield 200, 3, 11, 13, [1282]),
  (92, .ifCond .le 4, 3, 96, 0, []),
  (95, .return_, 1, 0, 0, []),
  (96, .aload_n 0, 1, 0, 0, []),
  (97, .bipush 7, 2, 0, 0, []),
  (99, .invokevirtual 218, 3, 194, 11, [1506, 1]),
  (102, .ifCond .eq 43, 3, 145, 0, []),
  (105, .aload_n 0, 1, 0, 0, []),
  (106, .getfield 227, 3, 11, 12, [1281]),
  (109, .iload_n 1, 1, 0, 0, []),
  (110, .if_icmp .le 35, 3, 145, 0, []),
  (113, .aload_n 0, 1, 0, 0, []),
  (114, .iconst 0, 1, 0, 0, []),
  (115, .invokevirtual 308, 3, 214, 11, [1578, 1]),
  (118, .aload_n 0, 1, 0, 0, []),
  (119, .dup, 1, 0, 0, []),
  (120, .getfield 299, 3, 11, 47, [1316]),
  (123, .iconst 1, 1, 0, 0, []),
  (124, .isub, 1, 0, 0, []),
  (125, .putfield 299, 3, 11, 47, [1316]),
  (128, .aload_n 0, 1, 0, 0, []),
  (129, .dup, 1, 0, 0, []),
  (130, .getfield 227, 3, 11, 12, [1281]),
  (133, .iconst 1, 1, 0, 0, []),
  (134, .isub, 1, 0, 0, []),
  (135, .putfield 227, 3, 11, 12, [1281]),
  (138, .aload_n 0, 1, 0, 0, []),
  (139, .invokevirtual 221, 3, 197, 11, [1522, 0]),
  (142, .goto (-46), 3, 96, 0, []),
  (145, .aload_n 0, 1, 0, 0, []),
  (146, .bipush 8, 2, 0, 0, []),
  (148, .invokevirtual 218, 3, 194, 11, [1506, 1]),
  (151, .ifCond .ne 30, 3, 181, 0, []),
  (154, .aload_n 0, 1, 0, 0, []),
  (155, .bipush 9, 2, 0, 0, []),
  (157, .invokevirtual 218, 3, 194, 11, [1506, 1]),
  (160, .ifCond .ne 21, 3, 181, 0, []),
  (163, .aload_n 0, 1, 0, 0, []),
  (164, .bipush 10, 2, 0, 0, []),
  (166, .invokevirtual 218, 3, 194, 11, [1506, 1]),
  (169, .ifCond .ne 12, 3, 181, 0, []),
  (172, .aload_n 0, 1, 0, 0, []),
  (173, .bipush 15, 2, 0, 0, []),
  (175, .invokevirtual 218, 3, 194, 11, [1506, 1]),
  (178, .ifCond .eq 7, 3, 185, 0, []),
  (181, .iconst 1, 1, 0, 0, []),
  (182, .goto 4, 3, 186, 0, []),
  (185, .iconst 0, 1, 0, 0, []),
  (186, .istore_n 2, 1, 0, 0, []),
  (187, .iload_n 2, 1, 0, 0, []),
  (188, .ifCond .ne 22, 3, 210, 0, []),
  (191, .aload_n 0, 1, 0, 0, []),
  (192, .getfield 227, 3, 11, 12, [1281]),
  (195, .iload_n 1, 1, 0, 0, []),
  (196, .if_icmp .le 8, 3, 204, 0, []),
  (199, .aload_n 0, 1, 0, 0, []),
  (200, .iconst 1, 1, 0, 0, []),
  (201, .invokevirtual 215, 3, 195, 11, [1518, 1]),
  (204, .aload_n 0, 1, 0, 0, []),
  (205, .iconst 0, 1, 0, 0, []),
  (206, .invokevirtual 308, 3, 214, 11, [1578, 1]),
  (209, .return_, 1, 0, 0, []),
  (210, .aload_n 0, 1, 0, 0, []),
  (211, .aload_n 0, 1, 0, 0, []),
  (212, .bipush 10, 2, 0, 0, []),
  (214, .invokevirtual 218, 3, 194, 11, [1506, 1]),
  (217, .ifCond .ne 12, 3, 229, 0, []),
  (220, .aload_n 0, 1, 0, 0, []),
  (221, .bipush 15, 2, 0, 0, []),
  (223, .invokevirtual 218, 3, 194, 11, [1506, 1]),
  (226, .ifCond .eq 7, 3, 233, 0, []),
  (229, .iconst 1, 1, 0, 0, []),
  (230, .goto 4, 3, 234, 0, []),
  (233, .iconst 0, 1, 0, 0, []),
  (234, .invokevirtual 308, 3, 214, 11, [1578, 1]),
  (237, .aload_n 0, 1, 0, 0, []),
  (238, .getfield 110, 3, 11, 46, [1315, 1]),
  (241, .aload_n 0, 1, 0, 0, []),
  (242, .getfield 299, 3, 11, 47, [1316]),
  (245, .aload_n 0, 1, 0, 0, []),
  (246, .getfield 20, 3, 11, 5, [1274, 1]),
  (249, .aload_n 0, 1, 0, 0, []),
  (250, .getfield 203, 3, 11, 11, [1280]),
  (253, .iaload, 1, 0, 0, []),
  (254, .iastore, 1, 0, 0, []),
  (255, .aload_n 0, 1, 0, 0, []),
  (256, .dup, 1, 0, 0, []),
  (257, .getfield 299, 3, 11, 47, [1316]),
  (260, .iconst 1, 1, 0, 0, []),
  (261, .iadd, 1, 0, 0, []),
  (262, .putfield 299, 3, 11, 47, [1316]),
  (265, .aload_n 0, 1, 0, 0, []),
  (266, .invokevirtual 221, 3, 197, 11, [1522, 0]),
  (269, .goto (-257), 3, 12, 0, []),
  (272, .return_, 1, 0, 0, [])]
def mX11_expression : ab_M := (yX11_expression, cX11_expression, 3, none, 0, 0, 1, kX11_expression)
def kX11_unit : List ab_I := [(0, .aload_n 0, 1, 0, 0, []),
  (1, .iconst 2, 1, 0, 0, []),
  (2, .invokevirtual 218, 3, 194, 11, [1506, 1]),
  (5, .ifCond .eq 24, 3, 29, 0, []),
  (8, .aload_n 0, 1, 0, 0, []),
  (9, .iconst 0, 1, 0, 0, []),
  (10, .aload_n 0, 1, 0, 0, []),
  (11, .getfield 27, 3, 11, 7, [1276, 1]),
  (14, .aload_n 0, 1, 0, 0, []),
  (15, .getfield 203, 3, 11, 11, [1280]),
  (18, .iaload, 1, 0, 0, []),
  (19, .invokevirtual 302, 3, 213, 11, [1574, 2]),
  (22, .aload_n 0, 1, 0, 0, []),
  (23, .invokevirtual 221, 3, 197, 11, [1522, 0]),
  (26, .goto 67, 3, 93, 0, []),
  (29, .aload_n 0, 1, 0, 0, []),
  (30, .getfield 200, 3, 11, 13, [1282]),
  (33, .ifCond .ne 55, 3, 88, 0, []),
  (36, .aload_n 0, 1, 0, 0, []),
  (37, .getfield 20, 3, 11, 5, [1274, 1]),
  (40, .aload_n 0, 1, 0, 0, []),
  (41, .getfield 203, 3, 11, 11, [1280]),
  (44, .iaload, 1, 0, 0, []),
  (45, .bipush 35, 2, 0, 0, []),
  (47, .if_icmp .lt 41, 3, 88, 0, []),
  (50, .aload_n 0, 1, 0, 0, []),
  (51, .getfield 20, 3, 11, 5, [1274, 1]),
  (54, .aload_n 0, 1, 0, 0, []),
  (55, .getfield 203, 3, 11, 11, [1280]),
  (58, .iaload, 1, 0, 0, []),
  (59, .bipush 43, 2, 0, 0, []),
  (61, .if_icmp .gt 27, 3, 88, 0, []),
  (64, .aload_n 0, 1, 0, 0, []),
  (65, .iconst 1, 1, 0, 0, []),
  (66, .aload_n 0, 1, 0, 0, []),
  (67, .getfield 20, 3, 11, 5, [1274, 1]),
  (70, .aload_n 0, 1, 0, 0, []),
  (71, .getfield 203, 3, 11, 11, [1280]),
  (74, .iaload, 1, 0, 0, []),
  (75, .bipush 35, 2, 0, 0, []),
  (77, .isub, 1, 0, 0, []),
  (78, .invokevirtual 302, 3, 213, 11, [1574, 2]),
  (81, .aload_n 0, 1, 0, 0, []),
  (82, .invokevirtual 221, 3, 197, 11, [1522, 0]),
  (85, .goto 8, 3, 93, 0, []),
  (88, .aload_n 0, 1, 0, 0, []),
  (89, .iconst 1, 1, 0, 0, []),
  (90, .invokevirtual 215, 3, 195, 11, [1518, 1]),
  (93, .return_, 1, 0, 0, [])]
def mX11_unit : ab_M := (yX11_unit, cX11_unit, 1, none, 0, 0, 1, kX11_unit)
def kX11_termOf : List ab_I := [(0, .iconst 0, 1, 0, 0, []),
  (1, .istore_n 3, 1, 0, 0, []),
  (2, .iload_n 1, 1, 0, 0, []),
  (3, .istore 4, 2, 0, 0, []),
  (5, .iload 4, 2, 0, 0, []),
  (7, .iload_n 2, 1, 0, 0, []),
  (8, .if_icmp .ge 157, 3, 165, 0, []),
  (11, .aload_n 0, 1, 0, 0, []),
  (12, .getfield 104, 3, 11, 44, [1313, 1]),
  (15, .iload 4, 2, 0, 0, []),
  (17, .iaload, 1, 0, 0, []),
  (18, .istore 5, 2, 0, 0, []),
  (20, .iload 5, 2, 0, 0, []),
  (22, .iconst 2, 1, 0, 0, []),
  (23, .if_icmp .ge 42, 3, 65, 0, []),
  (26, .aload_n 0, 1, 0, 0, []),
  (27, .getfield 116, 3, 11, 49, [1318, 1]),
  (30, .iload_n 3, 1, 0, 0, []),
  (31, .iload 5, 2, 0, 0, []),
  (33, .ifCond .ne 13, 3, 46, 0, []),
  (36, .aload_n 0, 1, 0, 0, []),
  (37, .getfield 107, 3, 11, 45, [1314, 1]),
  (40, .iload 4, 2, 0, 0, []),
  (42, .iaload, 1, 0, 0, []),
  (43, .goto 15, 3, 58, 0, []),
  (46, .aload_n 0, 1, 0, 0, []),
  (47, .getfield 113, 3, 11, 48, [1317, 1]),
  (50, .aload_n 0, 1, 0, 0, []),
  (51, .getfield 107, 3, 11, 45, [1314, 1]),
  (54, .iload 4, 2, 0, 0, []),
  (56, .iaload, 1, 0, 0, []),
  (57, .iaload, 1, 0, 0, []),
  (58, .iastore, 1, 0, 0, []),
  (59, .iinc 3 1, 3, 0, 0, []),
  (62, .goto 97, 3, 159, 0, []),
  (65, .iinc 3 (-1), 3, 0, 0, []),
  (68, .aload_n 0, 1, 0, 0, []),
  (69, .getfield 116, 3, 11, 49, [1318, 1]),
  (72, .iload_n 3, 1, 0, 0, []),
  (73, .iconst 1, 1, 0, 0, []),
  (74, .isub, 1, 0, 0, []),
  (75, .iaload, 1, 0, 0, []),
  (76, .istore 6, 2, 0, 0, []),
  (78, .aload_n 0, 1, 0, 0, []),
  (79, .getfield 116, 3, 11, 49, [1318, 1]),
  (82, .iload_n 3, 1, 0, 0, []),
  (83, .iaload, 1, 0, 0, []),
  (84, .istore 7, 2, 0, 0, []),
  (86, .iload 5, 2, 0, 0, []),
  (88, .iconst 5, 1, 0, 0, []),
  (89, .if_icmp .ne 15, 3, 104, 0, []),
  (92, .iload 7, 2, 0, 0, []),
  (94, .ifCond .ne 10, 3, 104, 0, []),
  (97, .aload_n 0, 1, 0, 0, []),
  (98, .iconst 1, 1, 0, 0, []),
  (99, .putfield 312, 3, 11, 50, [1319, 1]),
  (102, .iconst 0, 1, 0, 0, []),
  (103, .ireturn, 1, 0, 0, []),
  (104, .aload_n 0, 1, 0, 0, []),
  (105, .getfield 116, 3, 11, 49, [1318, 1]),
  (108, .iload_n 3, 1, 0, 0, []),
  (109, .iconst 1, 1, 0, 0, []),
  (110, .isub, 1, 0, 0, []),
  (111, .iload 5, 2, 0, 0, []),
  (113, .iconst 2, 1, 0, 0, []),
  (114, .if_icmp .ne 11, 3, 125, 0, []),
  (117, .iload 6, 2, 0, 0, []),
  (119, .iload 7, 2, 0, 0, []),
  (121, .iadd, 1, 0, 0, []),
  (122, .goto 36, 3, 158, 0, []),
  (125, .iload 5, 2, 0, 0, []),
  (127, .iconst 3, 1, 0, 0, []),
  (128, .if_icmp .ne 11, 3, 139, 0, []),
  (131, .iload 6, 2, 0, 0, []),
  (133, .iload 7, 2, 0, 0, []),
  (135, .isub, 1, 0, 0, []),
  (136, .goto 22, 3, 158, 0, []),
  (139, .iload 5, 2, 0, 0, []),
  (141, .iconst 4, 1, 0, 0, []),
  (142, .if_icmp .ne 11, 3, 153, 0, []),
  (145, .iload 6, 2, 0, 0, []),
  (147, .iload 7, 2, 0, 0, []),
  (149, .imul, 1, 0, 0, []),
  (150, .goto 8, 3, 158, 0, []),
  (153, .iload 6, 2, 0, 0, []),
  (155, .iload 7, 2, 0, 0, []),
  (157, .idiv, 1, 0, 0, []),
  (158, .iastore, 1, 0, 0, []),
  (159, .iinc 4 1, 3, 0, 0, []),
  (162, .goto (-157), 3, 5, 0, []),
  (165, .aload_n 0, 1, 0, 0, []),
  (166, .getfield 116, 3, 11, 49, [1318, 1]),
  (169, .iconst 0, 1, 0, 0, []),
  (170, .iaload, 1, 0, 0, []),
  (171, .ireturn, 1, 0, 0, [])]
def mX11_termOf : ab_M := (yX11_termOf, cX11_termOf, 8, (some (FieldType.int)), 0, 0, 1, kX11_termOf)
def kX11_fillsFar : List ab_I := [(0, .iconst 0, 1, 0, 0, []),
  (1, .istore_n 1, 1, 0, 0, []),
  (2, .iload_n 1, 1, 0, 0, []),
  (3, .bipush 36, 2, 0, 0, []),
  (5, .if_icmp .ge 29, 3, 34, 0, []),
  (8, .aload_n 0, 1, 0, 0, []),
  (9, .getfield 119, 3, 11, 51, [1320, 1]),
  (12, .iload_n 1, 1, 0, 0, []),
  (13, .aload_n 0, 1, 0, 0, []),
  (14, .getfield 55, 3, 11, 26, [1295, 1]),
  (17, .bipush 36, 2, 0, 0, []),
  (19, .aload_n 0, 1, 0, 0, []),
  (20, .getfield 230, 3, 11, 18, [1287]),
  (23, .imul, 1, 0, 0, []),
  (24, .iload_n 1, 1, 0, 0, []),
  (25, .iadd, 1, 0, 0, []),
  (26, .iaload, 1, 0, 0, []),
  (27, .iastore, 1, 0, 0, []),
  (28, .iinc 1 1, 3, 0, 0, []),
  (31, .goto (-29), 3, 2, 0, []),
  (34, .iconst 0, 1, 0, 0, []),
  (35, .istore_n 1, 1, 0, 0, []),
  (36, .iload_n 1, 1, 0, 0, []),
  (37, .bipush 6, 2, 0, 0, []),
  (39, .if_icmp .ge 96, 3, 135, 0, []),
  (42, .iconst 0, 1, 0, 0, []),
  (43, .istore_n 2, 1, 0, 0, []),
  (44, .iload_n 2, 1, 0, 0, []),
  (45, .bipush 36, 2, 0, 0, []),
  (47, .if_icmp .ge 82, 3, 129, 0, []),
  (50, .aload_n 0, 1, 0, 0, []),
  (51, .getfield 119, 3, 11, 51, [1320, 1]),
  (54, .iload_n 2, 1, 0, 0, []),
  (55, .bipush 6, 2, 0, 0, []),
  (57, .idiv, 1, 0, 0, []),
  (58, .bipush 6, 2, 0, 0, []),
  (60, .imul, 1, 0, 0, []),
  (61, .iload_n 1, 1, 0, 0, []),
  (62, .iadd, 1, 0, 0, []),
  (63, .iaload, 1, 0, 0, []),
  (64, .aload_n 0, 1, 0, 0, []),
  (65, .getfield 119, 3, 11, 51, [1320, 1]),
  (68, .bipush 6, 2, 0, 0, []),
  (70, .iload_n 1, 1, 0, 0, []),
  (71, .imul, 1, 0, 0, []),
  (72, .iload_n 2, 1, 0, 0, []),
  (73, .bipush 6, 2, 0, 0, []),
  (75, .irem, 1, 0, 0, []),
  (76, .iadd, 1, 0, 0, []),
  (77, .iaload, 1, 0, 0, []),
  (78, .iadd, 1, 0, 0, []),
  (79, .aload_n 0, 1, 0, 0, []),
  (80, .getfield 119, 3, 11, 51, [1320, 1]),
  (83, .iload_n 2, 1, 0, 0, []),
  (84, .iaload, 1, 0, 0, []),
  (85, .if_icmp .ge 38, 3, 123, 0, []),
  (88, .aload_n 0, 1, 0, 0, []),
  (89, .getfield 119, 3, 11, 51, [1320, 1]),
  (92, .iload_n 2, 1, 0, 0, []),
  (93, .aload_n 0, 1, 0, 0, []),
  (94, .getfield 119, 3, 11, 51, [1320, 1]),
  (97, .iload_n 2, 1, 0, 0, []),
  (98, .bipush 6, 2, 0, 0, []),
  (100, .idiv, 1, 0, 0, []),
  (101, .bipush 6, 2, 0, 0, []),
  (103, .imul, 1, 0, 0, []),
  (104, .iload_n 1, 1, 0, 0, []),
  (105, .iadd, 1, 0, 0, []),
  (106, .iaload, 1, 0, 0, []),
  (107, .aload_n 0, 1, 0, 0, []),
  (108, .getfield 119, 3, 11, 51, [1320, 1]),
  (111, .bipush 6, 2, 0, 0, []),
  (113, .iload_n 1, 1, 0, 0, []),
  (114, .imul, 1, 0, 0, []),
  (115, .iload_n 2, 1, 0, 0, []),
  (116, .bipush 6, 2, 0, 0, []),
  (118, .irem, 1, 0, 0, []),
  (119, .iadd, 1, 0, 0, []),
  (120, .iaload, 1, 0, 0, []),
  (121, .iadd, 1, 0, 0, []),
  (122, .iastore, 1, 0, 0, []),
  (123, .iinc 2 1, 3, 0, 0, []),
  (126, .goto (-82), 3, 44, 0, []),
  (129, .iinc 1 1, 3, 0, 0, []),
  (132, .goto (-96), 3, 36, 0, []),
  (135, .return_, 1, 0, 0, [])]
def mX11_fillsFar : ab_M := (yX11_fillsFar, cX11_fillsFar, 3, none, 0, 0, 1, kX11_fillsFar)
def kX11_in : List ab_I := [(0, .iload_n 0, 1, 0, 0, []),
  (1, .iload_n 1, 1, 0, 0, []),
  (2, .if_icmp .lt 12, 3, 14, 0, []),
  (5, .iload_n 0, 1, 0, 0, []),
  (6, .iload_n 2, 1, 0, 0, []),
  (7, .if_icmp .gt 7, 3, 14, 0, []),
  (10, .iconst 1, 1, 0, 0, []),
  (11, .goto 4, 3, 15, 0, []),
  (14, .iconst 0, 1, 0, 0, []),
  (15, .ireturn, 1, 0, 0, [])]
def mX11_in : ab_M := (yX11_in, cX11_in, 3, (some (FieldType.boolean)), 0, 0, 0, kX11_in)
def kX11_held : List ab_I := [(0, .iload_n 0, 1, 0, 0, []),
  (1, .iload_n 1, 1, 0, 0, []),
  (2, .if_icmp .ge 7, 3, 9, 0, []),
  (5, .iload_n 1, 1, 0, 0, []),
  (6, .goto 13, 3, 19, 0, []),
  (9, .iload_n 0, 1, 0, 0, []),
  (10, .iload_n 2, 1, 0, 0, []),
  (11, .if_icmp .le 7, 3, 18, 0, []),
  (14, .iload_n 2, 1, 0, 0, []),
  (15, .goto 4, 3, 19, 0, []),
  (18, .iload_n 0, 1, 0, 0, []),
  (19, .ireturn, 1, 0, 0, [])]
def mX11_held : ab_M := (yX11_held, cX11_held, 3, (some (FieldType.int)), 0, 0, 0, kX11_held)
def kX11_isChurch : List ab_I := [(0, .iload_n 1, 1, 0, 0, []),
  (1, .iconst 0, 1, 0, 0, []),
  (2, .aload_n 0, 1, 0, 0, []),
  (3, .getfield 46, 3, 11, 23, [1292, 1]),
  (6, .aload_n 0, 1, 0, 0, []),
  (7, .getfield 230, 3, 11, 18, [1287]),
  (10, .iaload, 1, 0, 0, []),
  (11, .iconst 1, 1, 0, 0, []),
  (12, .isub, 1, 0, 0, []),
  (13, .invokestatic 316, 3, 219, 0, [1602, 3]),
  (16, .ireturn, 1, 0, 0, [])]
def mX11_isChurch : ab_M := (yX11_isChurch, cX11_isChurch, 2, (some (FieldType.boolean)), 0, 0, 1, kX11_isChurch)
def kX11_isRelic : List ab_I := [(0, .iload_n 1, 1, 0, 0, []),
  (1, .iconst 0, 1, 0, 0, []),
  (2, .aload_n 0, 1, 0, 0, []),
  (3, .getfield 58, 3, 11, 27, [1296, 1]),
  (6, .aload_n 0, 1, 0, 0, []),
  (7, .getfield 230, 3, 11, 18, [1287]),
  (10, .iaload, 1, 0, 0, []),
  (11, .iconst 1, 1, 0, 0, []),
  (12, .isub, 1, 0, 0, []),
  (13, .invokestatic 316, 3, 219, 0, [1602, 3]),
  (16, .ireturn, 1, 0, 0, [])]
def mX11_isRelic : ab_M := (yX11_isRelic, cX11_isRelic, 2, (some (FieldType.boolean)), 0, 0, 1, kX11_isRelic)
def kX11_isPilgrim : List ab_I := [(0, .iload_n 1, 1, 0, 0, []),
  (1, .iconst 0, 1, 0, 0, []),
  (2, .aload_n 0, 1, 0, 0, []),
  (3, .getfield 67, 3, 11, 30, [1299, 1]),
  (6, .aload_n 0, 1, 0, 0, []),
  (7, .getfield 230, 3, 11, 18, [1287]),
  (10, .iaload, 1, 0, 0, []),
  (11, .iconst 1, 1, 0, 0, []),
  (12, .isub, 1, 0, 0, []),
  (13, .invokestatic 316, 3, 219, 0, [1602, 3]),
  (16, .ireturn, 1, 0, 0, [])]
def mX11_isPilgrim : ab_M := (yX11_isPilgrim, cX11_isPilgrim, 2, (some (FieldType.boolean)), 0, 0, 1, kX11_isPilgrim)
def kX11_begins : List ab_I := [(0, .iconst 0, 1, 0, 0, []),
  (1, .istore_n 1, 1, 0, 0, []),
  (2, .iload_n 1, 1, 0, 0, []),
  (3, .bipush 49, 2, 0, 0, []),
  (5, .if_icmp .ge 16, 3, 21, 0, []),
  (8, .aload_n 0, 1, 0, 0, []),
  (9, .getfield 125, 3, 11, 53, [1322, 1]),
  (12, .iload_n 1, 1, 0, 0, []),
  (13, .iconst 0, 1, 0, 0, []),
  (14, .iastore, 1, 0, 0, []),
  (15, .iinc 1 1, 3, 0, 0, []),
  (18, .goto (-16), 3, 2, 0, []),
  (21, .iconst 0, 1, 0, 0, []),
  (22, .istore_n 1, 1, 0, 0, []),
  (23, .iload_n 1, 1, 0, 0, []),
  (24, .aload_n 0, 1, 0, 0, []),
  (25, .getfield 46, 3, 11, 23, [1292, 1]),
  (28, .aload_n 0, 1, 0, 0, []),
  (29, .getfield 230, 3, 11, 18, [1287]),
  (32, .iaload, 1, 0, 0, []),
  (33, .if_icmp .ge 29, 3, 62, 0, []),
  (36, .aload_n 0, 1, 0, 0, []),
  (37, .getfield 125, 3, 11, 53, [1322, 1]),
  (40, .iload_n 1, 1, 0, 0, []),
  (41, .aload_n 0, 1, 0, 0, []),
  (42, .getfield 49, 3, 11, 24, [1293, 1]),
  (45, .bipush 6, 2, 0, 0, []),
  (47, .aload_n 0, 1, 0, 0, []),
  (48, .getfield 230, 3, 11, 18, [1287]),
  (51, .imul, 1, 0, 0, []),
  (52, .iload_n 1, 1, 0, 0, []),
  (53, .iadd, 1, 0, 0, []),
  (54, .iaload, 1, 0, 0, []),
  (55, .iastore, 1, 0, 0, []),
  (56, .iinc 1 1, 3, 0, 0, []),
  (59, .goto (-36), 3, 23, 0, []),
  (62, .iconst 0, 1, 0, 0, []),
  (63, .istore_n 1, 1, 0, 0, []),
  (64, .iload_n 1, 1, 0, 0, []),
  (65, .bipush 6, 2, 0, 0, []),
  (67, .if_icmp .ge 49, 3, 116, 0, []),
  (70, .aload_n 0, 1, 0, 0, []),
  (71, .getfield 125, 3, 11, 53, [1322, 1]),
  (74, .bipush 6, 2, 0, 0, []),
  (76, .iload_n 1, 1, 0, 0, []),
  (77, .iadd, 1, 0, 0, []),
  (78, .iload_n 1, 1, 0, 0, []),
  (79, .aload_n 0, 1, 0, 0, []),
  (80, .getfield 58, 3, 11, 27, [1296, 1]),
  (83, .aload_n 0, 1, 0, 0, []),
  (84, .getfield 230, 3, 11, 18, [1287]),
  (87, .iaload, 1, 0, 0, []),
  (88, .if_icmp .ge 20, 3, 108, 0, []),
  (91, .aload_n 0, 1, 0, 0, []),
  (92, .getfield 61, 3, 11, 28, [1297, 1]),
  (95, .bipush 6, 2, 0, 0, []),
  (97, .aload_n 0, 1, 0, 0, []),
  (98, .getfield 230, 3, 11, 18, [1287]),
  (101, .imul, 1, 0, 0, []),
  (102, .iload_n 1, 1, 0, 0, []),
  (103, .iadd, 1, 0, 0, []),
  (104, .iaload, 1, 0, 0, []),
  (105, .goto 4, 3, 109, 0, []),
  (108, .iconst (-1), 1, 0, 0, []),
  (109, .iastore, 1, 0, 0, []),
  (110, .iinc 1 1, 3, 0, 0, []),
  (113, .goto (-49), 3, 64, 0, []),
  (116, .aload_n 0, 1, 0, 0, []),
  (117, .aload_n 0, 1, 0, 0, []),
  (118, .getfield 79, 3, 11, 34, [1303, 1]),
  (121, .aload_n 0, 1, 0, 0, []),
  (122, .getfield 230, 3, 11, 18, [1287]),
  (125, .iaload, 1, 0, 0, []),
  (126, .putfield 320, 3, 11, 54, [1323]),
  (129, .return_, 1, 0, 0, [])]
def mX11_begins : ab_M := (yX11_begins, cX11_begins, 2, none, 0, 0, 1, kX11_begins)
def kX11_keepsRow : List ab_I := [(0, .iconst 0, 1, 0, 0, []),
  (1, .istore_n 1, 1, 0, 0, []),
  (2, .iload_n 1, 1, 0, 0, []),
  (3, .bipush 49, 2, 0, 0, []),
  (5, .if_icmp .ge 21, 3, 26, 0, []),
  (8, .aload_n 0, 1, 0, 0, []),
  (9, .getfield 122, 3, 11, 52, [1321, 1]),
  (12, .iload_n 1, 1, 0, 0, []),
  (13, .aload_n 0, 1, 0, 0, []),
  (14, .getfield 125, 3, 11, 53, [1322, 1]),
  (17, .iload_n 1, 1, 0, 0, []),
  (18, .iaload, 1, 0, 0, []),
  (19, .iastore, 1, 0, 0, []),
  (20, .iinc 1 1, 3, 0, 0, []),
  (23, .goto (-21), 3, 2, 0, []),
  (26, .return_, 1, 0, 0, [])]
def mX11_keepsRow : ab_M := (yX11_keepsRow, cX11_keepsRow, 2, none, 0, 0, 1, kX11_keepsRow)
def kX11_copies : List ab_I := [(0, .iconst 0, 1, 0, 0, []),
  (1, .istore_n 1, 1, 0, 0, []),
  (2, .iload_n 1, 1, 0, 0, []),
  (3, .bipush 49, 2, 0, 0, []),
  (5, .if_icmp .ge 21, 3, 26, 0, []),
  (8, .aload_n 0, 1, 0, 0, []),
  (9, .getfield 125, 3, 11, 53, [1322, 1]),
  (12, .iload_n 1, 1, 0, 0, []),
  (13, .aload_n 0, 1, 0, 0, []),
  (14, .getfield 122, 3, 11, 52, [1321, 1]),
  (17, .iload_n 1, 1, 0, 0, []),
  (18, .iaload, 1, 0, 0, []),
  (19, .iastore, 1, 0, 0, []),
  (20, .iinc 1 1, 3, 0, 0, []),
  (23, .goto (-21), 3, 2, 0, []),
  (26, .aload_n 0, 1, 0, 0, []),
  (27, .aload_n 0, 1, 0, 0, []),
  (28, .getfield 79, 3, 11, 34, [1303, 1]),
  (31, .aload_n 0, 1, 0, 0, []),
  (32, .getfield 230, 3, 11, 18, [1287]),
  (35, .iaload, 1, 0, 0, []),
  (36, .putfield 320, 3, 11, 54, [1323]),
  (39, .return_, 1, 0, 0, [])]
def mX11_copies : ab_M := (yX11_copies, cX11_copies, 2, none, 0, 0, 1, kX11_copies)
def kX11_mixed : List ab_I := [(0, .iload_n 0, 1, 0, 0, []),
  (1, .iload_n 1, 1, 0, 0, []),
  (2, .ixor, 1, 0, 0, []),
  (3, .ldc_w 323, 3, 1103515245, 0, [1704]),
  (6, .imul, 1, 0, 0, []),
  (7, .sipush 12345, 3, 0, 0, []),
  (10, .iadd, 1, 0, 0, []),
  (11, .istore_n 2, 1, 0, 0, []),
  (12, .iload_n 2, 1, 0, 0, []),
  (13, .iload_n 2, 1, 0, 0, []),
  (14, .bipush 15, 2, 0, 0, []),
  (16, .iushr, 1, 0, 0, []),
  (17, .ixor, 1, 0, 0, []),
  (18, .ireturn, 1, 0, 0, [])]
def mX11_mixed : ab_M := (yX11_mixed, cX11_mixed, 3, (some (FieldType.int)), 0, 0, 0, kX11_mixed)
def kX11_lotOf : List ab_I := [(0, .aload_n 0, 1, 0, 0, []),
  (1, .getfield 320, 3, 11, 54, [1323]),
  (4, .bipush 111, 2, 0, 0, []),
  (6, .invokestatic 324, 3, 227, 0, [1701, 2]),
  (9, .iload_n 1, 1, 0, 0, []),
  (10, .invokestatic 324, 3, 227, 0, [1701, 2]),
  (13, .iconst 1, 1, 0, 0, []),
  (14, .iushr, 1, 0, 0, []),
  (15, .bipush 100, 2, 0, 0, []),
  (17, .irem, 1, 0, 0, []),
  (18, .ireturn, 1, 0, 0, [])]
def mX11_lotOf : ab_M := (yX11_lotOf, cX11_lotOf, 2, (some (FieldType.int)), 0, 0, 1, kX11_lotOf)
def kX11_relicsAt : List ab_I := [(0, .iconst 0, 1, 0, 0, []),
  (1, .istore_n 2, 1, 0, 0, []),
  (2, .iconst 0, 1, 0, 0, []),
  (3, .istore_n 3, 1, 0, 0, []),
  (4, .iload_n 3, 1, 0, 0, []),
  (5, .aload_n 0, 1, 0, 0, []),
  (6, .getfield 58, 3, 11, 27, [1296, 1]),
  (9, .aload_n 0, 1, 0, 0, []),
  (10, .getfield 230, 3, 11, 18, [1287]),
  (13, .iaload, 1, 0, 0, []),
  (14, .if_icmp .ge 25, 3, 39, 0, []),
  (17, .aload_n 0, 1, 0, 0, []),
  (18, .getfield 125, 3, 11, 53, [1322, 1]),
  (21, .bipush 6, 2, 0, 0, []),
  (23, .iload_n 3, 1, 0, 0, []),
  (24, .iadd, 1, 0, 0, []),
  (25, .iaload, 1, 0, 0, []),
  (26, .iload_n 1, 1, 0, 0, []),
  (27, .if_icmp .ne 6, 3, 33, 0, []),
  (30, .iinc 2 1, 3, 0, 0, []),
  (33, .iinc 3 1, 3, 0, 0, []),
  (36, .goto (-32), 3, 4, 0, []),
  (39, .iload_n 2, 1, 0, 0, []),
  (40, .ireturn, 1, 0, 0, [])]
def mX11_relicsAt : ab_M := (yX11_relicsAt, cX11_relicsAt, 4, (some (FieldType.int)), 0, 0, 1, kX11_relicsAt)
def kX11_trueAt : List ab_I := [(0, .iconst 0, 1, 0, 0, []),
  (1, .istore_n 2, 1, 0, 0, []),
  (2, .iconst 0, 1, 0, 0, []),
  (3, .istore_n 3, 1, 0, 0, []),
  (4, .iload_n 3, 1, 0, 0, []),
  (5, .aload_n 0, 1, 0, 0, []),
  (6, .getfield 58, 3, 11, 27, [1296, 1]),
  (9, .aload_n 0, 1, 0, 0, []),
  (10, .getfield 230, 3, 11, 18, [1287]),
  (13, .iaload, 1, 0, 0, []),
  (14, .if_icmp .ge 39, 3, 53, 0, []),
  (17, .aload_n 0, 1, 0, 0, []),
  (18, .getfield 125, 3, 11, 53, [1322, 1]),
  (21, .bipush 6, 2, 0, 0, []),
  (23, .iload_n 3, 1, 0, 0, []),
  (24, .iadd, 1, 0, 0, []),
  (25, .iaload, 1, 0, 0, []),
  (26, .iload_n 1, 1, 0, 0, []),
  (27, .if_icmp .ne 20, 3, 47, 0, []),
  (30, .iload_n 2, 1, 0, 0, []),
  (31, .aload_n 0, 1, 0, 0, []),
  (32, .getfield 64, 3, 11, 29, [1298, 1]),
  (35, .bipush 6, 2, 0, 0, []),
  (37, .aload_n 0, 1, 0, 0, []),
  (38, .getfield 230, 3, 11, 18, [1287]),
  (41, .imul, 1, 0, 0, []),
  (42, .iload_n 3, 1, 0, 0, []),
  (43, .iadd, 1, 0, 0, []),
  (44, .iaload, 1, 0, 0, []),
  (45, .iadd, 1, 0, 0, []),
  (46, .istore_n 2, 1, 0, 0, []),
  (47, .iinc 3 1, 3, 0, 0, []),
  (50, .goto (-46), 3, 4, 0, []),
  (53, .iload_n 2, 1, 0, 0, []),
  (54, .ireturn, 1, 0, 0, [])]
def mX11_trueAt : ab_M := (yX11_trueAt, cX11_trueAt, 4, (some (FieldType.int)), 0, 0, 1, kX11_trueAt)
def kX11_farFor : List ab_I := [(0, .aload_n 0, 1, 0, 0, []),
  (1, .getfield 119, 3, 11, 51, [1320, 1]),
  (4, .bipush 6, 2, 0, 0, []),
  (6, .aload_n 0, 1, 0, 0, []),
  (7, .getfield 70, 3, 11, 31, [1300, 1]),
  (10, .iconst 5, 1, 0, 0, []),
  (11, .aload_n 0, 1, 0, 0, []),
  (12, .getfield 230, 3, 11, 18, [1287]),
  (15, .imul, 1, 0, 0, []),
  (16, .iload_n 1, 1, 0, 0, []),
  (17, .iadd, 1, 0, 0, []),
  (18, .iaload, 1, 0, 0, []),
  (19, .imul, 1, 0, 0, []),
  (20, .iload_n 2, 1, 0, 0, []),
  (21, .iadd, 1, 0, 0, []),
  (22, .iaload, 1, 0, 0, []),
  (23, .ireturn, 1, 0, 0, [])]
def mX11_farFor : ab_M := (yX11_farFor, cX11_farFor, 3, (some (FieldType.int)), 0, 0, 1, kX11_farFor)
def kX11_looks : List ab_I := [(0, .iconst 0, 1, 0, 0, []),
  (1, .istore_n 1, 1, 0, 0, []),
  (2, .iload_n 1, 1, 0, 0, []),
  (3, .bipush 9, 2, 0, 0, []),
  (5, .if_icmp .ge 16, 3, 21, 0, []),
  (8, .aload_n 0, 1, 0, 0, []),
  (9, .getfield 113, 3, 11, 48, [1317, 1]),
  (12, .iload_n 1, 1, 0, 0, []),
  (13, .iconst 0, 1, 0, 0, []),
  (14, .iastore, 1, 0, 0, []),
  (15, .iinc 1 1, 3, 0, 0, []),
  (18, .goto (-16), 3, 2, 0, []),
  (21, .aload_n 0, 1, 0, 0, []),
  (22, .getfield 113, 3, 11, 48, [1317, 1]),
  (25, .bipush 7, 2, 0, 0, []),
  (27, .aload_n 0, 1, 0, 0, []),
  (28, .getfield 125, 3, 11, 53, [1322, 1]),
  (31, .bipush 46, 2, 0, 0, []),
  (33, .iaload, 1, 0, 0, []),
  (34, .iastore, 1, 0, 0, []),
  (35, .return_, 1, 0, 0, [])]
def mX11_looks : ab_M := (yX11_looks, cX11_looks, 2, none, 0, 0, 1, kX11_looks)
def kX11_looksAt : List ab_I := [(0, .aload_n 0, 1, 0, 0, []),
  (1, .invokevirtual 327, 3, 232, 11, [1646, 0]),
  (4, .aload_n 0, 1, 0, 0, []),
  (5, .getfield 113, 3, 11, 48, [1317, 1]),
  (8, .iconst 0, 1, 0, 0, []),
  (9, .aload_n 0, 1, 0, 0, []),
  (10, .iload_n 2, 1, 0, 0, []),
  (11, .invokevirtual 330, 3, 229, 11, [1650, 1]),
  (14, .iastore, 1, 0, 0, []),
  (15, .aload_n 0, 1, 0, 0, []),
  (16, .getfield 113, 3, 11, 48, [1317, 1]),
  (19, .iconst 1, 1, 0, 0, []),
  (20, .aload_n 0, 1, 0, 0, []),
  (21, .getfield 125, 3, 11, 53, [1322, 1]),
  (24, .bipush 12, 2, 0, 0, []),
  (26, .iload_n 2, 1, 0, 0, []),
  (27, .iadd, 1, 0, 0, []),
  (28, .iaload, 1, 0, 0, []),
  (29, .iastore, 1, 0, 0, []),
  (30, .aload_n 0, 1, 0, 0, []),
  (31, .getfield 113, 3, 11, 48, [1317, 1]),
  (34, .iconst 2, 1, 0, 0, []),
  (35, .aload_n 0, 1, 0, 0, []),
  (36, .iload_n 1, 1, 0, 0, []),
  (37, .iload_n 2, 1, 0, 0, []),
  (38, .invokevirtual 333, 3, 231, 11, [1654, 2]),
  (41, .iastore, 1, 0, 0, []),
  (42, .aload_n 0, 1, 0, 0, []),
  (43, .getfield 113, 3, 11, 48, [1317, 1]),
  (46, .iconst 3, 1, 0, 0, []),
  (47, .aload_n 0, 1, 0, 0, []),
  (48, .getfield 73, 3, 11, 32, [1301, 1]),
  (51, .iconst 5, 1, 0, 0, []),
  (52, .aload_n 0, 1, 0, 0, []),
  (53, .getfield 230, 3, 11, 18, [1287]),
  (56, .imul, 1, 0, 0, []),
  (57, .iload_n 1, 1, 0, 0, []),
  (58, .iadd, 1, 0, 0, []),
  (59, .iaload, 1, 0, 0, []),
  (60, .iastore, 1, 0, 0, []),
  (61, .aload_n 0, 1, 0, 0, []),
  (62, .getfield 113, 3, 11, 48, [1317, 1]),
  (65, .iconst 4, 1, 0, 0, []),
  (66, .aload_n 0, 1, 0, 0, []),
  (67, .getfield 76, 3, 11, 33, [1302, 1]),
  (70, .iconst 5, 1, 0, 0, []),
  (71, .aload_n 0, 1, 0, 0, []),
  (72, .getfield 230, 3, 11, 18, [1287]),
  (75, .imul, 1, 0, 0, []),
  (76, .iload_n 1, 1, 0, 0, []),
  (77, .iadd, 1, 0, 0, []),
  (78, .iaload, 1, 0, 0, []),
  (79, .iastore, 1, 0, 0, []),
  (80, .return_, 1, 0, 0, [])]
def mX11_looksAt : ab_M := (yX11_looksAt, cX11_looksAt, 3, none, 0, 0, 1, kX11_looksAt)
def kX11_lawTells : List ab_I := [(0, .iconst 5, 1, 0, 0, []),
  (1, .aload_n 0, 1, 0, 0, []),
  (2, .getfield 230, 3, 11, 18, [1287]),
  (5, .imul, 1, 0, 0, []),
  (6, .iload_n 1, 1, 0, 0, []),
  (7, .iadd, 1, 0, 0, []),
  (8, .istore_n 3, 1, 0, 0, []),
  (9, .aload_n 0, 1, 0, 0, []),
  (10, .getfield 82, 3, 11, 35, [1304, 1]),
  (13, .iload_n 3, 1, 0, 0, []),
  (14, .iaload, 1, 0, 0, []),
  (15, .aload_n 0, 1, 0, 0, []),
  (16, .getfield 85, 3, 11, 36, [1305, 1]),
  (19, .iload_n 3, 1, 0, 0, []),
  (20, .iaload, 1, 0, 0, []),
  (21, .if_icmp .ne 5, 3, 26, 0, []),
  (24, .iload_n 2, 1, 0, 0, []),
  (25, .ireturn, 1, 0, 0, []),
  (26, .aload_n 0, 1, 0, 0, []),
  (27, .iconst 0, 1, 0, 0, []),
  (28, .putfield 312, 3, 11, 50, [1319, 1]),
  (31, .aload_n 0, 1, 0, 0, []),
  (32, .getfield 82, 3, 11, 35, [1304, 1]),
  (35, .iload_n 3, 1, 0, 0, []),
  (36, .iaload, 1, 0, 0, []),
  (37, .istore 4, 2, 0, 0, []),
  (39, .iload 4, 2, 0, 0, []),
  (41, .aload_n 0, 1, 0, 0, []),
  (42, .getfield 85, 3, 11, 36, [1305, 1]),
  (45, .iload_n 3, 1, 0, 0, []),
  (46, .iaload, 1, 0, 0, []),
  (47, .if_icmp .ge 112, 3, 159, 0, []),
  (50, .aload_n 0, 1, 0, 0, []),
  (51, .getfield 88, 3, 11, 38, [1307, 1]),
  (54, .iload 4, 2, 0, 0, []),
  (56, .baload, 1, 0, 0, []),
  (57, .ifCond .eq 62, 3, 119, 0, []),
  (60, .aload_n 0, 1, 0, 0, []),
  (61, .aload_n 0, 1, 0, 0, []),
  (62, .getfield 92, 3, 11, 39, [1308, 1]),
  (65, .iload 4, 2, 0, 0, []),
  (67, .iaload, 1, 0, 0, []),
  (68, .aload_n 0, 1, 0, 0, []),
  (69, .getfield 95, 3, 11, 40, [1309, 1]),
  (72, .iload 4, 2, 0, 0, []),
  (74, .iaload, 1, 0, 0, []),
  (75, .invokevirtual 336, 3, 217, 11, [1662, 2]),
  (78, .istore 5, 2, 0, 0, []),
  (80, .aload_n 0, 1, 0, 0, []),
  (81, .aload_n 0, 1, 0, 0, []),
  (82, .getfield 95, 3, 11, 40, [1309, 1]),
  (85, .iload 4, 2, 0, 0, []),
  (87, .iaload, 1, 0, 0, []),
  (88, .aload_n 0, 1, 0, 0, []),
  (89, .getfield 98, 3, 11, 41, [1310, 1]),
  (92, .iload 4, 2, 0, 0, []),
  (94, .iaload, 1, 0, 0, []),
  (95, .invokevirtual 336, 3, 217, 11, [1662, 2]),
  (98, .istore 6, 2, 0, 0, []),
  (100, .aload_n 0, 1, 0, 0, []),
  (101, .getfield 312, 3, 11, 50, [1319]),
  (104, .ifCond .eq 5, 3, 109, 0, []),
  (107, .iconst 0, 1, 0, 0, []),
  (108, .ireturn, 1, 0, 0, []),
  (109, .iload 5, 2, 0, 0, []),
  (111, .iload 6, 2, 0, 0, []),
  (113, .if_icmp .lt 6, 3, 119, 0, []),
  (116, .goto 37, 3, 153, 0, []),
  (119, .aload_n 0, 1, 0, 0, []),
  (120, .aload_n 0, 1, 0, 0, []),
  (121, .getfield 98, 3, 11, 41, [1310, 1]),
  (124, .iload 4, 2, 0, 0, []),
  (126, .iaload, 1, 0, 0, []),
  (127, .aload_n 0, 1, 0, 0, []),
  (128, .getfield 101, 3, 11, 42, [1311, 1]),
  (131, .iload 4, 2, 0, 0, []),
  (133, .iaload, 1, 0, 0, []),
  (134, .invokevirtual 336, 3, 217, 11, [1662, 2]),
  (137, .istore 5, 2, 0, 0, []),
  (139, .aload_n 0, 1, 0, 0, []),
  (140, .getfield 312, 3, 11, 50, [1319]),
  (143, .ifCond .eq 7, 3, 150, 0, []),
  (146, .iconst 0, 1, 0, 0, []),
  (147, .goto 5, 3, 152, 0, []),
  (150, .iload 5, 2, 0, 0, []),
  (152, .ireturn, 1, 0, 0, []),
  (153, .iinc 4 1, 3, 0, 0, []),
  (156, .goto (-117), 3, 39, 0, []),
  (159, .iconst 0, 1, 0, 0, []),
  (160, .ireturn, 1, 0, 0, [])]
def mX11_lawTells : ab_M := (yX11_lawTells, cX11_lawTells, 7, (some (FieldType.int)), 0, 0, 1, kX11_lawTells)
def kX11_drawsOf : List ab_I := [(0, .aload_n 0, 1, 0, 0, []),
  (1, .iload_n 1, 1, 0, 0, []),
  (2, .iload_n 2, 1, 0, 0, []),
  (3, .invokevirtual 339, 3, 233, 11, [1642, 2]),
  (6, .aload_n 0, 1, 0, 0, []),
  (7, .getfield 113, 3, 11, 48, [1317, 1]),
  (10, .bipush 6, 2, 0, 0, []),
  (12, .aload_n 0, 1, 0, 0, []),
  (13, .getfield 125, 3, 11, 53, [1322, 1]),
  (16, .iload_n 2, 1, 0, 0, []),
  (17, .iaload, 1, 0, 0, []),
  (18, .iastore, 1, 0, 0, []),
  (19, .aload_n 0, 1, 0, 0, []),
  (20, .getfield 113, 3, 11, 48, [1317, 1]),
  (23, .bipush 8, 2, 0, 0, []),
  (25, .aload_n 0, 1, 0, 0, []),
  (26, .iload_n 2, 1, 0, 0, []),
  (27, .invokevirtual 342, 3, 230, 11, [1613, 1]),
  (30, .iastore, 1, 0, 0, []),
  (31, .aload_n 0, 1, 0, 0, []),
  (32, .iconst 0, 1, 0, 0, []),
  (33, .aload_n 0, 1, 0, 0, []),
  (34, .getfield 113, 3, 11, 48, [1317, 1]),
  (37, .iconst 0, 1, 0, 0, []),
  (38, .iaload, 1, 0, 0, []),
  (39, .invokevirtual 345, 3, 234, 11, [1658, 2]),
  (42, .ireturn, 1, 0, 0, [])]
def mX11_drawsOf : ab_M := (yX11_drawsOf, cX11_drawsOf, 3, (some (FieldType.int)), 0, 0, 1, kX11_drawsOf)
def kX11_givesOf : List ab_I := [(0, .aload_n 0, 1, 0, 0, []),
  (1, .iload_n 1, 1, 0, 0, []),
  (2, .iload_n 2, 1, 0, 0, []),
  (3, .invokevirtual 339, 3, 233, 11, [1642, 2]),
  (6, .aload_n 0, 1, 0, 0, []),
  (7, .getfield 113, 3, 11, 48, [1317, 1]),
  (10, .bipush 6, 2, 0, 0, []),
  (12, .aload_n 0, 1, 0, 0, []),
  (13, .getfield 125, 3, 11, 53, [1322, 1]),
  (16, .iload_n 2, 1, 0, 0, []),
  (17, .iaload, 1, 0, 0, []),
  (18, .iastore, 1, 0, 0, []),
  (19, .aload_n 0, 1, 0, 0, []),
  (20, .getfield 113, 3, 11, 48, [1317, 1]),
  (23, .bipush 8, 2, 0, 0, []),
  (25, .aload_n 0, 1, 0, 0, []),
  (26, .iload_n 2, 1, 0, 0, []),
  (27, .invokevirtual 342, 3, 230, 11, [1613, 1]),
  (30, .iastore, 1, 0, 0, []),
  (31, .aload_n 0, 1, 0, 0, []),
  (32, .iconst 2, 1, 0, 0, []),
  (33, .aload_n 0, 1, 0, 0, []),
  (34, .getfield 113, 3, 11, 48, [1317, 1]),
  (37, .iconst 4, 1, 0, 0, []),
  (38, .iaload, 1, 0, 0, []),
  (39, .invokevirtual 345, 3, 234, 11, [1658, 2]),
  (42, .iconst 0, 1, 0, 0, []),
  (43, .bipush 99, 2, 0, 0, []),
  (45, .invokestatic 348, 3, 220, 0, [1670, 3]),
  (48, .ireturn, 1, 0, 0, [])]
def mX11_givesOf : ab_M := (yX11_givesOf, cX11_givesOf, 3, (some (FieldType.int)), 0, 0, 1, kX11_givesOf)
def kX11_healsBy : List ab_I := [(0, .aload_n 0, 1, 0, 0, []),
  (1, .iload_n 2, 1, 0, 0, []),
  (2, .aload_n 0, 1, 0, 0, []),
  (3, .getfield 125, 3, 11, 53, [1322, 1]),
  (6, .bipush 6, 2, 0, 0, []),
  (8, .iload_n 1, 1, 0, 0, []),
  (9, .iadd, 1, 0, 0, []),
  (10, .iaload, 1, 0, 0, []),
  (11, .invokevirtual 339, 3, 233, 11, [1642, 2]),
  (14, .aload_n 0, 1, 0, 0, []),
  (15, .getfield 113, 3, 11, 48, [1317, 1]),
  (18, .bipush 8, 2, 0, 0, []),
  (20, .iload_n 3, 1, 0, 0, []),
  (21, .iastore, 1, 0, 0, []),
  (22, .aload_n 0, 1, 0, 0, []),
  (23, .iconst 1, 1, 0, 0, []),
  (24, .iload_n 3, 1, 0, 0, []),
  (25, .bipush 50, 2, 0, 0, []),
  (27, .imul, 1, 0, 0, []),
  (28, .invokevirtual 345, 3, 234, 11, [1658, 2]),
  (31, .iconst 0, 1, 0, 0, []),
  (32, .bipush 100, 2, 0, 0, []),
  (34, .invokestatic 348, 3, 220, 0, [1670, 3]),
  (37, .ireturn, 1, 0, 0, [])]
def mX11_healsBy : ab_M := (yX11_healsBy, cX11_healsBy, 4, (some (FieldType.int)), 0, 0, 1, kX11_healsBy)
def kX11_healsOf : List ab_I := [(0, .aload_n 0, 1, 0, 0, []),
  (1, .iload_n 1, 1, 0, 0, []),
  (2, .iload_n 2, 1, 0, 0, []),
  (3, .aload_n 0, 1, 0, 0, []),
  (4, .getfield 64, 3, 11, 29, [1298, 1]),
  (7, .bipush 6, 2, 0, 0, []),
  (9, .aload_n 0, 1, 0, 0, []),
  (10, .getfield 230, 3, 11, 18, [1287]),
  (13, .imul, 1, 0, 0, []),
  (14, .iload_n 1, 1, 0, 0, []),
  (15, .iadd, 1, 0, 0, []),
  (16, .iaload, 1, 0, 0, []),
  (17, .invokevirtual 351, 3, 237, 11, [1681, 3]),
  (20, .ireturn, 1, 0, 0, [])]
def mX11_healsOf : ab_M := (yX11_healsOf, cX11_healsOf, 3, (some (FieldType.int)), 0, 0, 1, kX11_healsOf)
def kX11_leaveOf : List ab_I := [(0, .aload_n 0, 1, 0, 0, []),
  (1, .getfield 125, 3, 11, 53, [1322, 1]),
  (4, .bipush 6, 2, 0, 0, []),
  (6, .iload_n 1, 1, 0, 0, []),
  (7, .iadd, 1, 0, 0, []),
  (8, .iaload, 1, 0, 0, []),
  (9, .istore_n 3, 1, 0, 0, []),
  (10, .aload_n 0, 1, 0, 0, []),
  (11, .invokevirtual 327, 3, 232, 11, [1646, 0]),
  (14, .aload_n 0, 1, 0, 0, []),
  (15, .getfield 113, 3, 11, 48, [1317, 1]),
  (18, .iconst 0, 1, 0, 0, []),
  (19, .aload_n 0, 1, 0, 0, []),
  (20, .iload_n 3, 1, 0, 0, []),
  (21, .invokevirtual 330, 3, 229, 11, [1650, 1]),
  (24, .iastore, 1, 0, 0, []),
  (25, .aload_n 0, 1, 0, 0, []),
  (26, .getfield 113, 3, 11, 48, [1317, 1]),
  (29, .iconst 1, 1, 0, 0, []),
  (30, .aload_n 0, 1, 0, 0, []),
  (31, .getfield 125, 3, 11, 53, [1322, 1]),
  (34, .bipush 12, 2, 0, 0, []),
  (36, .iload_n 3, 1, 0, 0, []),
  (37, .iadd, 1, 0, 0, []),
  (38, .iaload, 1, 0, 0, []),
  (39, .iastore, 1, 0, 0, []),
  (40, .aload_n 0, 1, 0, 0, []),
  (41, .getfield 113, 3, 11, 48, [1317, 1]),
  (44, .iconst 5, 1, 0, 0, []),
  (45, .iload_n 2, 1, 0, 0, []),
  (46, .iastore, 1, 0, 0, []),
  (47, .aload_n 0, 1, 0, 0, []),
  (48, .getfield 113, 3, 11, 48, [1317, 1]),
  (51, .bipush 8, 2, 0, 0, []),
  (53, .aload_n 0, 1, 0, 0, []),
  (54, .getfield 64, 3, 11, 29, [1298, 1]),
  (57, .bipush 6, 2, 0, 0, []),
  (59, .aload_n 0, 1, 0, 0, []),
  (60, .getfield 230, 3, 11, 18, [1287]),
  (63, .imul, 1, 0, 0, []),
  (64, .iload_n 1, 1, 0, 0, []),
  (65, .iadd, 1, 0, 0, []),
  (66, .iaload, 1, 0, 0, []),
  (67, .iastore, 1, 0, 0, []),
  (68, .aload_n 0, 1, 0, 0, []),
  (69, .iconst 3, 1, 0, 0, []),
  (70, .iload_n 2, 1, 0, 0, []),
  (71, .bipush 10, 2, 0, 0, []),
  (73, .imul, 1, 0, 0, []),
  (74, .invokevirtual 345, 3, 234, 11, [1658, 2]),
  (77, .iconst 0, 1, 0, 0, []),
  (78, .bipush 100, 2, 0, 0, []),
  (80, .invokestatic 348, 3, 220, 0, [1670, 3]),
  (83, .ireturn, 1, 0, 0, [])]
def mX11_leaveOf : ab_M := (yX11_leaveOf, cX11_leaveOf, 4, (some (FieldType.int)), 0, 0, 1, kX11_leaveOf)
def kX11_caughtBy : List ab_I := [(0, .aload_n 0, 1, 0, 0, []),
  (1, .invokevirtual 327, 3, 232, 11, [1646, 0]),
  (4, .aload_n 0, 1, 0, 0, []),
  (5, .getfield 113, 3, 11, 48, [1317, 1]),
  (8, .iconst 0, 1, 0, 0, []),
  (9, .aload_n 0, 1, 0, 0, []),
  (10, .iload_n 1, 1, 0, 0, []),
  (11, .invokevirtual 330, 3, 229, 11, [1650, 1]),
  (14, .iastore, 1, 0, 0, []),
  (15, .aload_n 0, 1, 0, 0, []),
  (16, .getfield 113, 3, 11, 48, [1317, 1]),
  (19, .iconst 5, 1, 0, 0, []),
  (20, .iload_n 3, 1, 0, 0, []),
  (21, .iastore, 1, 0, 0, []),
  (22, .aload_n 0, 1, 0, 0, []),
  (23, .getfield 113, 3, 11, 48, [1317, 1]),
  (26, .bipush 6, 2, 0, 0, []),
  (28, .iload_n 2, 1, 0, 0, []),
  (29, .iastore, 1, 0, 0, []),
  (30, .aload_n 0, 1, 0, 0, []),
  (31, .iconst 4, 1, 0, 0, []),
  (32, .iload_n 2, 1, 0, 0, []),
  (33, .bipush 10, 2, 0, 0, []),
  (35, .imul, 1, 0, 0, []),
  (36, .invokevirtual 345, 3, 234, 11, [1658, 2]),
  (39, .iconst 0, 1, 0, 0, []),
  (40, .bipush 100, 2, 0, 0, []),
  (42, .invokestatic 348, 3, 220, 0, [1670, 3]),
  (45, .ireturn, 1, 0, 0, [])]
def mX11_caughtBy : ab_M := (yX11_caughtBy, cX11_caughtBy, 4, (some (FieldType.int)), 0, 0, 1, kX11_caughtBy)
def kX11_goesNow : List ab_I := [(0, .bipush (-2), 2, 0, 0, []),
  (2, .istore_n 2, 1, 0, 0, []),
  (3, .iconst 0, 1, 0, 0, []),
  (4, .istore_n 3, 1, 0, 0, []),
  (5, .iconst 0, 1, 0, 0, []),
  (6, .istore 4, 2, 0, 0, []),
  (8, .iload 4, 2, 0, 0, []),
  (10, .aload_n 0, 1, 0, 0, []),
  (11, .getfield 46, 3, 11, 23, [1292, 1]),
  (14, .aload_n 0, 1, 0, 0, []),
  (15, .getfield 230, 3, 11, 18, [1287]),
  (18, .iaload, 1, 0, 0, []),
  (19, .if_icmp .ge 62, 3, 81, 0, []),
  (22, .aload_n 0, 1, 0, 0, []),
  (23, .iload_n 1, 1, 0, 0, []),
  (24, .iload 4, 2, 0, 0, []),
  (26, .invokevirtual 333, 3, 231, 11, [1654, 2]),
  (29, .sipush 999, 3, 0, 0, []),
  (32, .if_icmp .ge 43, 3, 75, 0, []),
  (35, .aload_n 0, 1, 0, 0, []),
  (36, .iload 4, 2, 0, 0, []),
  (38, .invokevirtual 330, 3, 229, 11, [1650, 1]),
  (41, .ifCond .ne 6, 3, 47, 0, []),
  (44, .goto 31, 3, 75, 0, []),
  (47, .aload_n 0, 1, 0, 0, []),
  (48, .iload_n 1, 1, 0, 0, []),
  (49, .iload 4, 2, 0, 0, []),
  (51, .invokevirtual 354, 3, 235, 11, [1638, 2]),
  (54, .istore 5, 2, 0, 0, []),
  (56, .iload_n 2, 1, 0, 0, []),
  (57, .ifCond .lt 12, 3, 69, 0, []),
  (60, .iload 5, 2, 0, 0, []),
  (62, .iload_n 3, 1, 0, 0, []),
  (63, .if_icmp .gt 6, 3, 69, 0, []),
  (66, .goto 9, 3, 75, 0, []),
  (69, .iload 4, 2, 0, 0, []),
  (71, .istore_n 2, 1, 0, 0, []),
  (72, .iload 5, 2, 0, 0, []),
  (74, .istore_n 3, 1, 0, 0, []),
  (75, .iinc 4 1, 3, 0, 0, []),
  (78, .goto (-70), 3, 8, 0, []),
  (81, .iload_n 2, 1, 0, 0, []),
  (82, .ireturn, 1, 0, 0, [])]
def mX11_goesNow : ab_M := (yX11_goesNow, cX11_goesNow, 6, (some (FieldType.int)), 0, 0, 1, kX11_goesNow)
def kX11_pilgrimGoes : List ab_I := [(0, .iconst 0, 1, 0, 0, []),
  (1, .istore_n 3, 1, 0, 0, []),
  (2, .iload_n 3, 1, 0, 0, []),
  (3, .aload_n 0, 1, 0, 0, []),
  (4, .getfield 58, 3, 11, 27, [1296, 1]),
  (7, .aload_n 0, 1, 0, 0, []),
  (8, .getfield 230, 3, 11, 18, [1287]),
  (11, .iaload, 1, 0, 0, []),
  (12, .if_icmp .ge 106, 3, 118, 0, []),
  (15, .aload_n 0, 1, 0, 0, []),
  (16, .getfield 125, 3, 11, 53, [1322, 1]),
  (19, .bipush 6, 2, 0, 0, []),
  (21, .iload_n 3, 1, 0, 0, []),
  (22, .iadd, 1, 0, 0, []),
  (23, .iaload, 1, 0, 0, []),
  (24, .iload_n 2, 1, 0, 0, []),
  (25, .if_icmp .ne 87, 3, 112, 0, []),
  (28, .aload_n 0, 1, 0, 0, []),
  (29, .bipush 64, 2, 0, 0, []),
  (31, .aload_n 0, 1, 0, 0, []),
  (32, .getfield 125, 3, 11, 53, [1322, 1]),
  (35, .bipush 46, 2, 0, 0, []),
  (37, .iaload, 1, 0, 0, []),
  (38, .imul, 1, 0, 0, []),
  (39, .bipush 8, 2, 0, 0, []),
  (41, .iload_n 1, 1, 0, 0, []),
  (42, .imul, 1, 0, 0, []),
  (43, .iadd, 1, 0, 0, []),
  (44, .iload_n 3, 1, 0, 0, []),
  (45, .iadd, 1, 0, 0, []),
  (46, .invokevirtual 357, 3, 228, 11, [1697, 1]),
  (49, .aload_n 0, 1, 0, 0, []),
  (50, .iload_n 3, 1, 0, 0, []),
  (51, .iload_n 1, 1, 0, 0, []),
  (52, .invokevirtual 360, 3, 238, 11, [1677, 2]),
  (55, .if_icmp .lt 6, 3, 61, 0, []),
  (58, .goto 54, 3, 112, 0, []),
  (61, .aload_n 0, 1, 0, 0, []),
  (62, .getfield 131, 3, 11, 56, [1325, 1]),
  (65, .bipush 6, 2, 0, 0, []),
  (67, .iload_n 1, 1, 0, 0, []),
  (68, .imul, 1, 0, 0, []),
  (69, .iload_n 3, 1, 0, 0, []),
  (70, .iadd, 1, 0, 0, []),
  (71, .iconst 1, 1, 0, 0, []),
  (72, .bastore, 1, 0, 0, []),
  (73, .aload_n 0, 1, 0, 0, []),
  (74, .getfield 125, 3, 11, 53, [1322, 1]),
  (77, .bipush 12, 2, 0, 0, []),
  (79, .iload_n 2, 1, 0, 0, []),
  (80, .iadd, 1, 0, 0, []),
  (81, .dup2, 1, 0, 0, []),
  (82, .iaload, 1, 0, 0, []),
  (83, .iconst 1, 1, 0, 0, []),
  (84, .iadd, 1, 0, 0, []),
  (85, .iastore, 1, 0, 0, []),
  (86, .aload_n 0, 1, 0, 0, []),
  (87, .getfield 125, 3, 11, 53, [1322, 1]),
  (90, .bipush 24, 2, 0, 0, []),
  (92, .iload_n 3, 1, 0, 0, []),
  (93, .iadd, 1, 0, 0, []),
  (94, .dup2, 1, 0, 0, []),
  (95, .iaload, 1, 0, 0, []),
  (96, .iconst 1, 1, 0, 0, []),
  (97, .iadd, 1, 0, 0, []),
  (98, .iastore, 1, 0, 0, []),
  (99, .aload_n 0, 1, 0, 0, []),
  (100, .getfield 125, 3, 11, 53, [1322, 1]),
  (103, .bipush 41, 2, 0, 0, []),
  (105, .iload_n 1, 1, 0, 0, []),
  (106, .iadd, 1, 0, 0, []),
  (107, .dup2, 1, 0, 0, []),
  (108, .iaload, 1, 0, 0, []),
  (109, .iconst 1, 1, 0, 0, []),
  (110, .iadd, 1, 0, 0, []),
  (111, .iastore, 1, 0, 0, []),
  (112, .iinc 3 1, 3, 0, 0, []),
  (115, .goto (-113), 3, 2, 0, []),
  (118, .aload_n 0, 1, 0, 0, []),
  (119, .iload_n 1, 1, 0, 0, []),
  (120, .iload_n 2, 1, 0, 0, []),
  (121, .invokevirtual 363, 3, 236, 11, [1666, 2]),
  (124, .istore_n 3, 1, 0, 0, []),
  (125, .aload_n 0, 1, 0, 0, []),
  (126, .getfield 125, 3, 11, 53, [1322, 1]),
  (129, .bipush 18, 2, 0, 0, []),
  (131, .iload_n 2, 1, 0, 0, []),
  (132, .iadd, 1, 0, 0, []),
  (133, .dup2, 1, 0, 0, []),
  (134, .iaload, 1, 0, 0, []),
  (135, .iload_n 3, 1, 0, 0, []),
  (136, .iadd, 1, 0, 0, []),
  (137, .iastore, 1, 0, 0, []),
  (138, .aload_n 0, 1, 0, 0, []),
  (139, .getfield 125, 3, 11, 53, [1322, 1]),
  (142, .bipush 36, 2, 0, 0, []),
  (144, .iload_n 1, 1, 0, 0, []),
  (145, .iadd, 1, 0, 0, []),
  (146, .dup2, 1, 0, 0, []),
  (147, .iaload, 1, 0, 0, []),
  (148, .iload_n 3, 1, 0, 0, []),
  (149, .iadd, 1, 0, 0, []),
  (150, .iastore, 1, 0, 0, []),
  (151, .return_, 1, 0, 0, [])]
def mX11_pilgrimGoes : ab_M := (yX11_pilgrimGoes, cX11_pilgrimGoes, 4, none, 0, 0, 1, kX11_pilgrimGoes)
def kX11_yearGoes : List ab_I := [(0, .iconst 0, 1, 0, 0, []),
  (1, .istore_n 1, 1, 0, 0, []),
  (2, .iload_n 1, 1, 0, 0, []),
  (3, .bipush 30, 2, 0, 0, []),
  (5, .if_icmp .ge 16, 3, 21, 0, []),
  (8, .aload_n 0, 1, 0, 0, []),
  (9, .getfield 131, 3, 11, 56, [1325, 1]),
  (12, .iload_n 1, 1, 0, 0, []),
  (13, .iconst 0, 1, 0, 0, []),
  (14, .bastore, 1, 0, 0, []),
  (15, .iinc 1 1, 3, 0, 0, []),
  (18, .goto (-16), 3, 2, 0, []),
  (21, .iconst 0, 1, 0, 0, []),
  (22, .istore_n 1, 1, 0, 0, []),
  (23, .iload_n 1, 1, 0, 0, []),
  (24, .aload_n 0, 1, 0, 0, []),
  (25, .getfield 67, 3, 11, 30, [1299, 1]),
  (28, .aload_n 0, 1, 0, 0, []),
  (29, .getfield 230, 3, 11, 18, [1287]),
  (32, .iaload, 1, 0, 0, []),
  (33, .if_icmp .ge 20, 3, 53, 0, []),
  (36, .aload_n 0, 1, 0, 0, []),
  (37, .getfield 128, 3, 11, 55, [1324, 1]),
  (40, .iload_n 1, 1, 0, 0, []),
  (41, .aload_n 0, 1, 0, 0, []),
  (42, .iload_n 1, 1, 0, 0, []),
  (43, .invokevirtual 366, 3, 241, 11, [1738, 1]),
  (46, .iastore, 1, 0, 0, []),
  (47, .iinc 1 1, 3, 0, 0, []),
  (50, .goto (-27), 3, 23, 0, []),
  (53, .iconst 0, 1, 0, 0, []),
  (54, .istore_n 1, 1, 0, 0, []),
  (55, .iload_n 1, 1, 0, 0, []),
  (56, .aload_n 0, 1, 0, 0, []),
  (57, .getfield 67, 3, 11, 30, [1299, 1]),
  (60, .aload_n 0, 1, 0, 0, []),
  (61, .getfield 230, 3, 11, 18, [1287]),
  (64, .iaload, 1, 0, 0, []),
  (65, .if_icmp .ge 29, 3, 94, 0, []),
  (68, .aload_n 0, 1, 0, 0, []),
  (69, .getfield 128, 3, 11, 55, [1324, 1]),
  (72, .iload_n 1, 1, 0, 0, []),
  (73, .iaload, 1, 0, 0, []),
  (74, .ifCond .lt 14, 3, 88, 0, []),
  (77, .aload_n 0, 1, 0, 0, []),
  (78, .iload_n 1, 1, 0, 0, []),
  (79, .aload_n 0, 1, 0, 0, []),
  (80, .getfield 128, 3, 11, 55, [1324, 1]),
  (83, .iload_n 1, 1, 0, 0, []),
  (84, .iaload, 1, 0, 0, []),
  (85, .invokevirtual 369, 3, 242, 11, [1742, 2]),
  (88, .iinc 1 1, 3, 0, 0, []),
  (91, .goto (-36), 3, 55, 0, []),
  (94, .aload_n 0, 1, 0, 0, []),
  (95, .getfield 125, 3, 11, 53, [1322, 1]),
  (98, .bipush 46, 2, 0, 0, []),
  (100, .dup2, 1, 0, 0, []),
  (101, .iaload, 1, 0, 0, []),
  (102, .iconst 1, 1, 0, 0, []),
  (103, .iadd, 1, 0, 0, []),
  (104, .iastore, 1, 0, 0, []),
  (105, .return_, 1, 0, 0, [])]
def mX11_yearGoes : ab_M := (yX11_yearGoes, cX11_yearGoes, 2, none, 0, 0, 1, kX11_yearGoes)
def kX11_yearsGo : List ab_I := [(0, .iconst 0, 1, 0, 0, []),
  (1, .istore_n 2, 1, 0, 0, []),
  (2, .iload_n 2, 1, 0, 0, []),
  (3, .iload_n 1, 1, 0, 0, []),
  (4, .if_icmp .ge 13, 3, 17, 0, []),
  (7, .aload_n 0, 1, 0, 0, []),
  (8, .invokevirtual 372, 3, 243, 11, [1734, 0]),
  (11, .iinc 2 1, 3, 0, 0, []),
  (14, .goto (-12), 3, 2, 0, []),
  (17, .return_, 1, 0, 0, [])]
def mX11_yearsGo : ab_M := (yX11_yearsGo, cX11_yearsGo, 3, none, 0, 0, 1, kX11_yearsGo)
def kX11_relicBits : List ab_I := [(0, .iconst 0, 1, 0, 0, []),
  (1, .istore_n 2, 1, 0, 0, []),
  (2, .iconst 0, 1, 0, 0, []),
  (3, .istore_n 3, 1, 0, 0, []),
  (4, .iload_n 3, 1, 0, 0, []),
  (5, .aload_n 0, 1, 0, 0, []),
  (6, .getfield 58, 3, 11, 27, [1296, 1]),
  (9, .aload_n 0, 1, 0, 0, []),
  (10, .getfield 230, 3, 11, 18, [1287]),
  (13, .iaload, 1, 0, 0, []),
  (14, .if_icmp .ge 28, 3, 42, 0, []),
  (17, .aload_n 0, 1, 0, 0, []),
  (18, .getfield 125, 3, 11, 53, [1322, 1]),
  (21, .bipush 6, 2, 0, 0, []),
  (23, .iload_n 3, 1, 0, 0, []),
  (24, .iadd, 1, 0, 0, []),
  (25, .iaload, 1, 0, 0, []),
  (26, .iload_n 1, 1, 0, 0, []),
  (27, .if_icmp .ne 9, 3, 36, 0, []),
  (30, .iload_n 2, 1, 0, 0, []),
  (31, .iconst 1, 1, 0, 0, []),
  (32, .iload_n 3, 1, 0, 0, []),
  (33, .ishl, 1, 0, 0, []),
  (34, .ior, 1, 0, 0, []),
  (35, .istore_n 2, 1, 0, 0, []),
  (36, .iinc 3 1, 3, 0, 0, []),
  (39, .goto (-35), 3, 4, 0, []),
  (42, .iload_n 2, 1, 0, 0, []),
  (43, .ireturn, 1, 0, 0, [])]
def mX11_relicBits : ab_M := (yX11_relicBits, cX11_relicBits, 4, (some (FieldType.int)), 0, 0, 1, kX11_relicBits)
def kX11_church : List ab_I := [(0, .aload_n 0, 1, 0, 0, []),
  (1, .iload_n 1, 1, 0, 0, []),
  (2, .invokevirtual 375, 3, 221, 11, [1598, 1]),
  (5, .ifCond .ne 5, 3, 10, 0, []),
  (8, .iconst (-1), 1, 0, 0, []),
  (9, .ireturn, 1, 0, 0, []),
  (10, .aload_n 0, 1, 0, 0, []),
  (11, .invokevirtual 378, 3, 226, 11, [1605, 0]),
  (14, .iload_n 2, 1, 0, 0, []),
  (15, .tableswitch 72 0 4 #[33, 40, 46, 56, 66], 33, 87, 0, [48, 55, 61, 71, 81]),
  (48, .aload_n 0, 1, 0, 0, []),
  (49, .getfield 125, 3, 11, 53, [1322, 1]),
  (52, .iload_n 1, 1, 0, 0, []),
  (53, .iaload, 1, 0, 0, []),
  (54, .ireturn, 1, 0, 0, []),
  (55, .aload_n 0, 1, 0, 0, []),
  (56, .iload_n 1, 1, 0, 0, []),
  (57, .invokevirtual 381, 3, 245, 11, [1609, 1]),
  (60, .ireturn, 1, 0, 0, []),
  (61, .aload_n 0, 1, 0, 0, []),
  (62, .getfield 125, 3, 11, 53, [1322, 1]),
  (65, .bipush 12, 2, 0, 0, []),
  (67, .iload_n 1, 1, 0, 0, []),
  (68, .iadd, 1, 0, 0, []),
  (69, .iaload, 1, 0, 0, []),
  (70, .ireturn, 1, 0, 0, []),
  (71, .aload_n 0, 1, 0, 0, []),
  (72, .getfield 125, 3, 11, 53, [1322, 1]),
  (75, .bipush 18, 2, 0, 0, []),
  (77, .iload_n 1, 1, 0, 0, []),
  (78, .iadd, 1, 0, 0, []),
  (79, .iaload, 1, 0, 0, []),
  (80, .ireturn, 1, 0, 0, []),
  (81, .aload_n 0, 1, 0, 0, []),
  (82, .iload_n 1, 1, 0, 0, []),
  (83, .invokevirtual 342, 3, 230, 11, [1613, 1]),
  (86, .ireturn, 1, 0, 0, []),
  (87, .iconst (-1), 1, 0, 0, []),
  (88, .ireturn, 1, 0, 0, [])]
def mX11_church : ab_M := (yX11_church, cX11_church, 3, (some (FieldType.int)), 0, 0, 1, kX11_church)
def kX11_relic : List ab_I := [(0, .aload_n 0, 1, 0, 0, []),
  (1, .iload_n 1, 1, 0, 0, []),
  (2, .invokevirtual 384, 3, 222, 11, [1621, 1]),
  (5, .ifCond .ne 5, 3, 10, 0, []),
  (8, .iconst (-1), 1, 0, 0, []),
  (9, .ireturn, 1, 0, 0, []),
  (10, .iload_n 2, 1, 0, 0, []),
  (11, .tableswitch 74 0 3 #[29, 39, 54, 64], 29, 85, 0, [40, 50, 65, 75]),
  (40, .aload_n 0, 1, 0, 0, []),
  (41, .getfield 122, 3, 11, 52, [1321, 1]),
  (44, .bipush 6, 2, 0, 0, []),
  (46, .iload_n 1, 1, 0, 0, []),
  (47, .iadd, 1, 0, 0, []),
  (48, .iaload, 1, 0, 0, []),
  (49, .ireturn, 1, 0, 0, []),
  (50, .aload_n 0, 1, 0, 0, []),
  (51, .getfield 64, 3, 11, 29, [1298, 1]),
  (54, .bipush 6, 2, 0, 0, []),
  (56, .aload_n 0, 1, 0, 0, []),
  (57, .getfield 230, 3, 11, 18, [1287]),
  (60, .imul, 1, 0, 0, []),
  (61, .iload_n 1, 1, 0, 0, []),
  (62, .iadd, 1, 0, 0, []),
  (63, .iaload, 1, 0, 0, []),
  (64, .ireturn, 1, 0, 0, []),
  (65, .aload_n 0, 1, 0, 0, []),
  (66, .getfield 122, 3, 11, 52, [1321, 1]),
  (69, .bipush 24, 2, 0, 0, []),
  (71, .iload_n 1, 1, 0, 0, []),
  (72, .iadd, 1, 0, 0, []),
  (73, .iaload, 1, 0, 0, []),
  (74, .ireturn, 1, 0, 0, []),
  (75, .aload_n 0, 1, 0, 0, []),
  (76, .getfield 122, 3, 11, 52, [1321, 1]),
  (79, .bipush 30, 2, 0, 0, []),
  (81, .iload_n 1, 1, 0, 0, []),
  (82, .iadd, 1, 0, 0, []),
  (83, .iaload, 1, 0, 0, []),
  (84, .ireturn, 1, 0, 0, []),
  (85, .iconst (-1), 1, 0, 0, []),
  (86, .ireturn, 1, 0, 0, [])]
def mX11_relic : ab_M := (yX11_relic, cX11_relic, 3, (some (FieldType.int)), 0, 0, 1, kX11_relic)
def kX11_pilgrim : List ab_I := [(0, .aload_n 0, 1, 0, 0, []),
  (1, .iload_n 1, 1, 0, 0, []),
  (2, .invokevirtual 387, 3, 223, 11, [1629, 1]),
  (5, .ifCond .ne 5, 3, 10, 0, []),
  (8, .iconst (-1), 1, 0, 0, []),
  (9, .ireturn, 1, 0, 0, []),
  (10, .iload_n 2, 1, 0, 0, []),
  (11, .tableswitch 95 0 4 #[33, 47, 61, 75, 85], 33, 106, 0, [44, 58, 72, 86, 96]),
  (44, .aload_n 0, 1, 0, 0, []),
  (45, .getfield 70, 3, 11, 31, [1300, 1]),
  (48, .iconst 5, 1, 0, 0, []),
  (49, .aload_n 0, 1, 0, 0, []),
  (50, .getfield 230, 3, 11, 18, [1287]),
  (53, .imul, 1, 0, 0, []),
  (54, .iload_n 1, 1, 0, 0, []),
  (55, .iadd, 1, 0, 0, []),
  (56, .iaload, 1, 0, 0, []),
  (57, .ireturn, 1, 0, 0, []),
  (58, .aload_n 0, 1, 0, 0, []),
  (59, .getfield 73, 3, 11, 32, [1301, 1]),
  (62, .iconst 5, 1, 0, 0, []),
  (63, .aload_n 0, 1, 0, 0, []),
  (64, .getfield 230, 3, 11, 18, [1287]),
  (67, .imul, 1, 0, 0, []),
  (68, .iload_n 1, 1, 0, 0, []),
  (69, .iadd, 1, 0, 0, []),
  (70, .iaload, 1, 0, 0, []),
  (71, .ireturn, 1, 0, 0, []),
  (72, .aload_n 0, 1, 0, 0, []),
  (73, .getfield 76, 3, 11, 33, [1302, 1]),
  (76, .iconst 5, 1, 0, 0, []),
  (77, .aload_n 0, 1, 0, 0, []),
  (78, .getfield 230, 3, 11, 18, [1287]),
  (81, .imul, 1, 0, 0, []),
  (82, .iload_n 1, 1, 0, 0, []),
  (83, .iadd, 1, 0, 0, []),
  (84, .iaload, 1, 0, 0, []),
  (85, .ireturn, 1, 0, 0, []),
  (86, .aload_n 0, 1, 0, 0, []),
  (87, .getfield 122, 3, 11, 52, [1321, 1]),
  (90, .bipush 36, 2, 0, 0, []),
  (92, .iload_n 1, 1, 0, 0, []),
  (93, .iadd, 1, 0, 0, []),
  (94, .iaload, 1, 0, 0, []),
  (95, .ireturn, 1, 0, 0, []),
  (96, .aload_n 0, 1, 0, 0, []),
  (97, .getfield 122, 3, 11, 52, [1321, 1]),
  (100, .bipush 41, 2, 0, 0, []),
  (102, .iload_n 1, 1, 0, 0, []),
  (103, .iadd, 1, 0, 0, []),
  (104, .iaload, 1, 0, 0, []),
  (105, .ireturn, 1, 0, 0, []),
  (106, .iconst (-1), 1, 0, 0, []),
  (107, .ireturn, 1, 0, 0, [])]
def mX11_pilgrim : ab_M := (yX11_pilgrim, cX11_pilgrim, 3, (some (FieldType.int)), 0, 0, 1, kX11_pilgrim)
def kX11_tells : List ab_I := [(0, .aload_n 0, 1, 0, 0, []),
  (1, .iload_n 1, 1, 0, 0, []),
  (2, .invokevirtual 387, 3, 223, 11, [1629, 1]),
  (5, .ifCond .eq 11, 3, 16, 0, []),
  (8, .aload_n 0, 1, 0, 0, []),
  (9, .iload_n 2, 1, 0, 0, []),
  (10, .invokevirtual 375, 3, 221, 11, [1598, 1]),
  (13, .ifCond .ne 7, 3, 20, 0, []),
  (16, .ldc_w 390, 3, 4294867296, 0, [1637]),
  (19, .ireturn, 1, 0, 0, []),
  (20, .aload_n 0, 1, 0, 0, []),
  (21, .invokevirtual 378, 3, 226, 11, [1605, 0]),
  (24, .iload_n 3, 1, 0, 0, []),
  (25, .tableswitch 48 0 2 #[27, 34, 41], 27, 73, 0, [52, 59, 66]),
  (52, .aload_n 0, 1, 0, 0, []),
  (53, .iload_n 1, 1, 0, 0, []),
  (54, .iload_n 2, 1, 0, 0, []),
  (55, .invokevirtual 354, 3, 235, 11, [1638, 2]),
  (58, .ireturn, 1, 0, 0, []),
  (59, .aload_n 0, 1, 0, 0, []),
  (60, .iload_n 1, 1, 0, 0, []),
  (61, .iload_n 2, 1, 0, 0, []),
  (62, .invokevirtual 363, 3, 236, 11, [1666, 2]),
  (65, .ireturn, 1, 0, 0, []),
  (66, .aload_n 0, 1, 0, 0, []),
  (67, .iload_n 1, 1, 0, 0, []),
  (68, .iload_n 2, 1, 0, 0, []),
  (69, .invokevirtual 333, 3, 231, 11, [1654, 2]),
  (72, .ireturn, 1, 0, 0, []),
  (73, .ldc_w 390, 3, 4294867296, 0, [1637]),
  (76, .ireturn, 1, 0, 0, [])]
def mX11_tells : ab_M := (yX11_tells, cX11_tells, 4, (some (FieldType.int)), 0, 0, 1, kX11_tells)
def kX11_heals : List ab_I := [(0, .aload_n 0, 1, 0, 0, []),
  (1, .iload_n 1, 1, 0, 0, []),
  (2, .invokevirtual 384, 3, 222, 11, [1621, 1]),
  (5, .ifCond .eq 11, 3, 16, 0, []),
  (8, .aload_n 0, 1, 0, 0, []),
  (9, .iload_n 2, 1, 0, 0, []),
  (10, .invokevirtual 387, 3, 223, 11, [1629, 1]),
  (13, .ifCond .ne 5, 3, 18, 0, []),
  (16, .iconst (-1), 1, 0, 0, []),
  (17, .ireturn, 1, 0, 0, []),
  (18, .aload_n 0, 1, 0, 0, []),
  (19, .invokevirtual 378, 3, 226, 11, [1605, 0]),
  (22, .aload_n 0, 1, 0, 0, []),
  (23, .iload_n 1, 1, 0, 0, []),
  (24, .iload_n 2, 1, 0, 0, []),
  (25, .invokevirtual 360, 3, 238, 11, [1677, 2]),
  (28, .ireturn, 1, 0, 0, [])]
def mX11_heals : ab_M := (yX11_heals, cX11_heals, 3, (some (FieldType.int)), 0, 0, 1, kX11_heals)
def kX11_records : List ab_I := [(0, .aload_n 0, 1, 0, 0, []),
  (1, .getfield 251, 3, 11, 57, [1326]),
  (4, .bipush 40, 2, 0, 0, []),
  (6, .if_icmp .ne 43, 3, 49, 0, []),
  (9, .iconst 0, 1, 0, 0, []),
  (10, .istore_n 1, 1, 0, 0, []),
  (11, .iload_n 1, 1, 0, 0, []),
  (12, .sipush 1911, 3, 0, 0, []),
  (15, .if_icmp .ge 24, 3, 39, 0, []),
  (18, .aload_n 0, 1, 0, 0, []),
  (19, .getfield 134, 3, 11, 58, [1327, 1]),
  (22, .iload_n 1, 1, 0, 0, []),
  (23, .aload_n 0, 1, 0, 0, []),
  (24, .getfield 134, 3, 11, 58, [1327, 1]),
  (27, .iload_n 1, 1, 0, 0, []),
  (28, .bipush 49, 2, 0, 0, []),
  (30, .iadd, 1, 0, 0, []),
  (31, .iaload, 1, 0, 0, []),
  (32, .iastore, 1, 0, 0, []),
  (33, .iinc 1 1, 3, 0, 0, []),
  (36, .goto (-25), 3, 11, 0, []),
  (39, .aload_n 0, 1, 0, 0, []),
  (40, .dup, 1, 0, 0, []),
  (41, .getfield 251, 3, 11, 57, [1326]),
  (44, .iconst 1, 1, 0, 0, []),
  (45, .isub, 1, 0, 0, []),
  (46, .putfield 251, 3, 11, 57, [1326]),
  (49, .iconst 0, 1, 0, 0, []),
  (50, .istore_n 1, 1, 0, 0, []),
  (51, .iload_n 1, 1, 0, 0, []),
  (52, .bipush 49, 2, 0, 0, []),
  (54, .if_icmp .ge 29, 3, 83, 0, []),
  (57, .aload_n 0, 1, 0, 0, []),
  (58, .getfield 134, 3, 11, 58, [1327, 1]),
  (61, .bipush 49, 2, 0, 0, []),
  (63, .aload_n 0, 1, 0, 0, []),
  (64, .getfield 251, 3, 11, 57, [1326]),
  (67, .imul, 1, 0, 0, []),
  (68, .iload_n 1, 1, 0, 0, []),
  (69, .iadd, 1, 0, 0, []),
  (70, .aload_n 0, 1, 0, 0, []),
  (71, .getfield 122, 3, 11, 52, [1321, 1]),
  (74, .iload_n 1, 1, 0, 0, []),
  (75, .iaload, 1, 0, 0, []),
  (76, .iastore, 1, 0, 0, []),
  (77, .iinc 1 1, 3, 0, 0, []),
  (80, .goto (-29), 3, 51, 0, []),
  (83, .aload_n 0, 1, 0, 0, []),
  (84, .dup, 1, 0, 0, []),
  (85, .getfield 251, 3, 11, 57, [1326]),
  (88, .iconst 1, 1, 0, 0, []),
  (89, .iadd, 1, 0, 0, []),
  (90, .putfield 251, 3, 11, 57, [1326]),
  (93, .aload_n 0, 1, 0, 0, []),
  (94, .invokevirtual 160, 3, 225, 11, [1266, 0]),
  (97, .return_, 1, 0, 0, [])]
def mX11_records : ab_M := (yX11_records, cX11_records, 2, none, 0, 0, 1, kX11_records)
def kX11_isNights : List ab_I := [(0, .iload_n 0, 1, 0, 0, []),
  (1, .iconst 1, 1, 0, 0, []),
  (2, .bipush 9, 2, 0, 0, []),
  (4, .invokestatic 316, 3, 219, 0, [1602, 3]),
  (7, .ireturn, 1, 0, 0, [])]
def mX11_isNights : ab_M := (yX11_isNights, cX11_isNights, 1, (some (FieldType.boolean)), 0, 0, 0, kX11_isNights)
def kX11_triesFor : List ab_I := [(0, .aload_n 0, 1, 0, 0, []),
  (1, .getfield 125, 3, 11, 53, [1322, 1]),
  (4, .bipush 6, 2, 0, 0, []),
  (6, .iload_n 1, 1, 0, 0, []),
  (7, .iadd, 1, 0, 0, []),
  (8, .iaload, 1, 0, 0, []),
  (9, .istore 4, 2, 0, 0, []),
  (11, .aload_n 0, 1, 0, 0, []),
  (12, .getfield 125, 3, 11, 53, [1322, 1]),
  (15, .bipush 47, 2, 0, 0, []),
  (17, .iaload, 1, 0, 0, []),
  (18, .istore 5, 2, 0, 0, []),
  (20, .aload_n 0, 1, 0, 0, []),
  (21, .getfield 125, 3, 11, 53, [1322, 1]),
  (24, .bipush 47, 2, 0, 0, []),
  (26, .dup2, 1, 0, 0, []),
  (27, .iaload, 1, 0, 0, []),
  (28, .iconst 1, 1, 0, 0, []),
  (29, .iadd, 1, 0, 0, []),
  (30, .iastore, 1, 0, 0, []),
  (31, .aload_n 0, 1, 0, 0, []),
  (32, .ldc_w 391, 3, 1000000, 0, [1696]),
  (35, .iload 5, 2, 0, 0, []),
  (37, .iadd, 1, 0, 0, []),
  (38, .invokevirtual 357, 3, 228, 11, [1697, 1]),
  (41, .aload_n 0, 1, 0, 0, []),
  (42, .iload 4, 2, 0, 0, []),
  (44, .aload_n 0, 1, 0, 0, []),
  (45, .getfield 125, 3, 11, 53, [1322, 1]),
  (48, .iload 4, 2, 0, 0, []),
  (50, .iaload, 1, 0, 0, []),
  (51, .iload_n 3, 1, 0, 0, []),
  (52, .invokevirtual 392, 3, 240, 11, [1705, 3]),
  (55, .if_icmp .ge 38, 3, 93, 0, []),
  (58, .aload_n 0, 1, 0, 0, []),
  (59, .getfield 125, 3, 11, 53, [1322, 1]),
  (62, .bipush 48, 2, 0, 0, []),
  (64, .dup2, 1, 0, 0, []),
  (65, .iaload, 1, 0, 0, []),
  (66, .iconst 1, 1, 0, 0, []),
  (67, .iadd, 1, 0, 0, []),
  (68, .iastore, 1, 0, 0, []),
  (69, .aload_n 0, 1, 0, 0, []),
  (70, .getfield 125, 3, 11, 53, [1322, 1]),
  (73, .iload 4, 2, 0, 0, []),
  (75, .aload_n 0, 1, 0, 0, []),
  (76, .getfield 125, 3, 11, 53, [1322, 1]),
  (79, .iload 4, 2, 0, 0, []),
  (81, .iaload, 1, 0, 0, []),
  (82, .iconst 1, 1, 0, 0, []),
  (83, .iadd, 1, 0, 0, []),
  (84, .iconst 0, 1, 0, 0, []),
  (85, .bipush 9, 2, 0, 0, []),
  (87, .invokestatic 348, 3, 220, 0, [1670, 3]),
  (90, .iastore, 1, 0, 0, []),
  (91, .iconst 2, 1, 0, 0, []),
  (92, .ireturn, 1, 0, 0, []),
  (93, .aload_n 0, 1, 0, 0, []),
  (94, .ldc_w 395, 3, 2000000, 0, [1709]),
  (97, .iload 5, 2, 0, 0, []),
  (99, .iadd, 1, 0, 0, []),
  (100, .invokevirtual 357, 3, 228, 11, [1697, 1]),
  (103, .aload_n 0, 1, 0, 0, []),
  (104, .iload_n 1, 1, 0, 0, []),
  (105, .iload_n 3, 1, 0, 0, []),
  (106, .invokevirtual 396, 3, 239, 11, [1710, 2]),
  (109, .if_icmp .lt 5, 3, 114, 0, []),
  (112, .iconst 0, 1, 0, 0, []),
  (113, .ireturn, 1, 0, 0, []),
  (114, .aload_n 0, 1, 0, 0, []),
  (115, .getfield 125, 3, 11, 53, [1322, 1]),
  (118, .bipush 6, 2, 0, 0, []),
  (120, .iload_n 1, 1, 0, 0, []),
  (121, .iadd, 1, 0, 0, []),
  (122, .iload_n 2, 1, 0, 0, []),
  (123, .iastore, 1, 0, 0, []),
  (124, .aload_n 0, 1, 0, 0, []),
  (125, .getfield 125, 3, 11, 53, [1322, 1]),
  (128, .bipush 30, 2, 0, 0, []),
  (130, .iload_n 1, 1, 0, 0, []),
  (131, .iadd, 1, 0, 0, []),
  (132, .dup2, 1, 0, 0, []),
  (133, .iaload, 1, 0, 0, []),
  (134, .iconst 1, 1, 0, 0, []),
  (135, .iadd, 1, 0, 0, []),
  (136, .iastore, 1, 0, 0, []),
  (137, .iconst 1, 1, 0, 0, []),
  (138, .ireturn, 1, 0, 0, [])]
def mX11_triesFor : ab_M := (yX11_triesFor, cX11_triesFor, 6, (some (FieldType.int)), 0, 0, 1, kX11_triesFor)
def kX11_steal : List ab_I := [(0, .aload_n 0, 1, 0, 0, []),
  (1, .iload_n 1, 1, 0, 0, []),
  (2, .invokevirtual 384, 3, 222, 11, [1621, 1]),
  (5, .ifCond .eq 18, 3, 23, 0, []),
  (8, .aload_n 0, 1, 0, 0, []),
  (9, .iload_n 2, 1, 0, 0, []),
  (10, .invokevirtual 375, 3, 221, 11, [1598, 1]),
  (13, .ifCond .eq 10, 3, 23, 0, []),
  (16, .iload_n 3, 1, 0, 0, []),
  (17, .invokestatic 399, 3, 252, 0, [1689, 1]),
  (20, .ifCond .ne 5, 3, 25, 0, []),
  (23, .iconst (-1), 1, 0, 0, []),
  (24, .ireturn, 1, 0, 0, []),
  (25, .aload_n 0, 1, 0, 0, []),
  (26, .getfield 122, 3, 11, 52, [1321, 1]),
  (29, .bipush 6, 2, 0, 0, []),
  (31, .iload_n 1, 1, 0, 0, []),
  (32, .iadd, 1, 0, 0, []),
  (33, .iaload, 1, 0, 0, []),
  (34, .iload_n 2, 1, 0, 0, []),
  (35, .if_icmp .ne 6, 3, 41, 0, []),
  (38, .bipush (-2), 2, 0, 0, []),
  (40, .ireturn, 1, 0, 0, []),
  (41, .aload_n 0, 1, 0, 0, []),
  (42, .invokevirtual 378, 3, 226, 11, [1605, 0]),
  (45, .aload_n 0, 1, 0, 0, []),
  (46, .iload_n 1, 1, 0, 0, []),
  (47, .iload_n 2, 1, 0, 0, []),
  (48, .iload_n 3, 1, 0, 0, []),
  (49, .invokevirtual 402, 3, 253, 11, [1692, 3]),
  (52, .istore 4, 2, 0, 0, []),
  (54, .aload_n 0, 1, 0, 0, []),
  (55, .invokevirtual 405, 3, 251, 11, [1714, 0]),
  (58, .iload 4, 2, 0, 0, []),
  (60, .ireturn, 1, 0, 0, [])]
def mX11_steal : ab_M := (yX11_steal, cX11_steal, 5, (some (FieldType.int)), 0, 0, 1, kX11_steal)
def kX11_swap : List ab_I := [(0, .aload_n 0, 1, 0, 0, []),
  (1, .iload_n 1, 1, 0, 0, []),
  (2, .invokevirtual 384, 3, 222, 11, [1621, 1]),
  (5, .ifCond .eq 32, 3, 37, 0, []),
  (8, .aload_n 0, 1, 0, 0, []),
  (9, .iload_n 2, 1, 0, 0, []),
  (10, .invokevirtual 384, 3, 222, 11, [1621, 1]),
  (13, .ifCond .eq 24, 3, 37, 0, []),
  (16, .aload_n 0, 1, 0, 0, []),
  (17, .getfield 122, 3, 11, 52, [1321, 1]),
  (20, .bipush 6, 2, 0, 0, []),
  (22, .iload_n 1, 1, 0, 0, []),
  (23, .iadd, 1, 0, 0, []),
  (24, .iaload, 1, 0, 0, []),
  (25, .aload_n 0, 1, 0, 0, []),
  (26, .getfield 122, 3, 11, 52, [1321, 1]),
  (29, .bipush 6, 2, 0, 0, []),
  (31, .iload_n 2, 1, 0, 0, []),
  (32, .iadd, 1, 0, 0, []),
  (33, .iaload, 1, 0, 0, []),
  (34, .if_icmp .ne 5, 3, 39, 0, []),
  (37, .iconst 0, 1, 0, 0, []),
  (38, .ireturn, 1, 0, 0, []),
  (39, .aload_n 0, 1, 0, 0, []),
  (40, .invokevirtual 378, 3, 226, 11, [1605, 0]),
  (43, .aload_n 0, 1, 0, 0, []),
  (44, .getfield 125, 3, 11, 53, [1322, 1]),
  (47, .bipush 6, 2, 0, 0, []),
  (49, .iload_n 1, 1, 0, 0, []),
  (50, .iadd, 1, 0, 0, []),
  (51, .aload_n 0, 1, 0, 0, []),
  (52, .getfield 122, 3, 11, 52, [1321, 1]),
  (55, .bipush 6, 2, 0, 0, []),
  (57, .iload_n 2, 1, 0, 0, []),
  (58, .iadd, 1, 0, 0, []),
  (59, .iaload, 1, 0, 0, []),
  (60, .iastore, 1, 0, 0, []),
  (61, .aload_n 0, 1, 0, 0, []),
  (62, .getfield 125, 3, 11, 53, [1322, 1]),
  (65, .bipush 6, 2, 0, 0, []),
  (67, .iload_n 2, 1, 0, 0, []),
  (68, .iadd, 1, 0, 0, []),
  (69, .aload_n 0, 1, 0, 0, []),
  (70, .getfield 122, 3, 11, 52, [1321, 1]),
  (73, .bipush 6, 2, 0, 0, []),
  (75, .iload_n 1, 1, 0, 0, []),
  (76, .iadd, 1, 0, 0, []),
  (77, .iaload, 1, 0, 0, []),
  (78, .iastore, 1, 0, 0, []),
  (79, .aload_n 0, 1, 0, 0, []),
  (80, .invokevirtual 405, 3, 251, 11, [1714, 0]),
  (83, .iconst 1, 1, 0, 0, []),
  (84, .ireturn, 1, 0, 0, [])]
def mX11_swap : ab_M := (yX11_swap, cX11_swap, 3, (some (FieldType.boolean)), 0, 0, 1, kX11_swap)
def kX11_watch : List ab_I := [(0, .aload_n 0, 1, 0, 0, []),
  (1, .iload_n 1, 1, 0, 0, []),
  (2, .invokevirtual 375, 3, 221, 11, [1598, 1]),
  (5, .ifCond .eq 23, 3, 28, 0, []),
  (8, .iload_n 2, 1, 0, 0, []),
  (9, .iconst 0, 1, 0, 0, []),
  (10, .bipush 9, 2, 0, 0, []),
  (12, .invokestatic 316, 3, 219, 0, [1602, 3]),
  (15, .ifCond .eq 13, 3, 28, 0, []),
  (18, .aload_n 0, 1, 0, 0, []),
  (19, .getfield 122, 3, 11, 52, [1321, 1]),
  (22, .iload_n 1, 1, 0, 0, []),
  (23, .iaload, 1, 0, 0, []),
  (24, .iload_n 2, 1, 0, 0, []),
  (25, .if_icmp .ne 5, 3, 30, 0, []),
  (28, .iconst 0, 1, 0, 0, []),
  (29, .ireturn, 1, 0, 0, []),
  (30, .aload_n 0, 1, 0, 0, []),
  (31, .invokevirtual 378, 3, 226, 11, [1605, 0]),
  (34, .aload_n 0, 1, 0, 0, []),
  (35, .getfield 125, 3, 11, 53, [1322, 1]),
  (38, .iload_n 1, 1, 0, 0, []),
  (39, .iload_n 2, 1, 0, 0, []),
  (40, .iastore, 1, 0, 0, []),
  (41, .aload_n 0, 1, 0, 0, []),
  (42, .invokevirtual 405, 3, 251, 11, [1714, 0]),
  (45, .iconst 1, 1, 0, 0, []),
  (46, .ireturn, 1, 0, 0, [])]
def mX11_watch : ab_M := (yX11_watch, cX11_watch, 3, (some (FieldType.boolean)), 0, 0, 1, kX11_watch)
def kX11_years : List ab_I := [(0, .iload_n 1, 1, 0, 0, []),
  (1, .iconst 0, 1, 0, 0, []),
  (2, .bipush 60, 2, 0, 0, []),
  (4, .invokestatic 316, 3, 219, 0, [1602, 3]),
  (7, .ifCond .ne 5, 3, 12, 0, []),
  (10, .iconst (-1), 1, 0, 0, []),
  (11, .ireturn, 1, 0, 0, []),
  (12, .iload_n 1, 1, 0, 0, []),
  (13, .ifCond .ne 11, 3, 24, 0, []),
  (16, .aload_n 0, 1, 0, 0, []),
  (17, .getfield 122, 3, 11, 52, [1321, 1]),
  (20, .bipush 46, 2, 0, 0, []),
  (22, .iaload, 1, 0, 0, []),
  (23, .ireturn, 1, 0, 0, []),
  (24, .aload_n 0, 1, 0, 0, []),
  (25, .invokevirtual 378, 3, 226, 11, [1605, 0]),
  (28, .aload_n 0, 1, 0, 0, []),
  (29, .iload_n 1, 1, 0, 0, []),
  (30, .invokevirtual 408, 3, 244, 11, [1730, 1]),
  (33, .aload_n 0, 1, 0, 0, []),
  (34, .invokevirtual 405, 3, 251, 11, [1714, 0]),
  (37, .aload_n 0, 1, 0, 0, []),
  (38, .getfield 122, 3, 11, 52, [1321, 1]),
  (41, .bipush 46, 2, 0, 0, []),
  (43, .iaload, 1, 0, 0, []),
  (44, .ireturn, 1, 0, 0, [])]
def mX11_years : ab_M := (yX11_years, cX11_years, 2, (some (FieldType.int)), 0, 0, 1, kX11_years)
def kX11_undo : List ab_I := [(0, .aload_n 0, 1, 0, 0, []),
  (1, .getfield 251, 3, 11, 57, [1326]),
  (4, .ifCond .ne 5, 3, 9, 0, []),
  (7, .iconst 0, 1, 0, 0, []),
  (8, .ireturn, 1, 0, 0, []),
  (9, .aload_n 0, 1, 0, 0, []),
  (10, .dup, 1, 0, 0, []),
  (11, .getfield 251, 3, 11, 57, [1326]),
  (14, .iconst 1, 1, 0, 0, []),
  (15, .isub, 1, 0, 0, []),
  (16, .putfield 251, 3, 11, 57, [1326]),
  (19, .iconst 0, 1, 0, 0, []),
  (20, .istore_n 1, 1, 0, 0, []),
  (21, .iload_n 1, 1, 0, 0, []),
  (22, .bipush 49, 2, 0, 0, []),
  (24, .if_icmp .ge 29, 3, 53, 0, []),
  (27, .aload_n 0, 1, 0, 0, []),
  (28, .getfield 122, 3, 11, 52, [1321, 1]),
  (31, .iload_n 1, 1, 0, 0, []),
  (32, .aload_n 0, 1, 0, 0, []),
  (33, .getfield 134, 3, 11, 58, [1327, 1]),
  (36, .bipush 49, 2, 0, 0, []),
  (38, .aload_n 0, 1, 0, 0, []),
  (39, .getfield 251, 3, 11, 57, [1326]),
  (42, .imul, 1, 0, 0, []),
  (43, .iload_n 1, 1, 0, 0, []),
  (44, .iadd, 1, 0, 0, []),
  (45, .iaload, 1, 0, 0, []),
  (46, .iastore, 1, 0, 0, []),
  (47, .iinc 1 1, 3, 0, 0, []),
  (50, .goto (-29), 3, 21, 0, []),
  (53, .iconst 1, 1, 0, 0, []),
  (54, .ireturn, 1, 0, 0, [])]
def mX11_undo : ab_M := (yX11_undo, cX11_undo, 2, (some (FieldType.boolean)), 0, 0, 1, kX11_undo)
def kX11_goes : List ab_I := [(0, .aload_n 0, 1, 0, 0, []),
  (1, .iload_n 1, 1, 0, 0, []),
  (2, .invokevirtual 387, 3, 223, 11, [1629, 1]),
  (5, .ifCond .ne 5, 3, 10, 0, []),
  (8, .iconst (-1), 1, 0, 0, []),
  (9, .ireturn, 1, 0, 0, []),
  (10, .aload_n 0, 1, 0, 0, []),
  (11, .invokevirtual 378, 3, 226, 11, [1605, 0]),
  (14, .aload_n 0, 1, 0, 0, []),
  (15, .iload_n 1, 1, 0, 0, []),
  (16, .invokevirtual 366, 3, 241, 11, [1738, 1]),
  (19, .ireturn, 1, 0, 0, [])]
def mX11_goes : ab_M := (yX11_goes, cX11_goes, 2, (some (FieldType.int)), 0, 0, 1, kX11_goes)
def kX11_theftNow : List ab_I := [(0, .aload_n 0, 1, 0, 0, []),
  (1, .getfield 125, 3, 11, 53, [1322, 1]),
  (4, .bipush 6, 2, 0, 0, []),
  (6, .iload_n 1, 1, 0, 0, []),
  (7, .iadd, 1, 0, 0, []),
  (8, .iaload, 1, 0, 0, []),
  (9, .istore_n 3, 1, 0, 0, []),
  (10, .aload_n 0, 1, 0, 0, []),
  (11, .iload_n 1, 1, 0, 0, []),
  (12, .iload_n 2, 1, 0, 0, []),
  (13, .invokevirtual 396, 3, 239, 11, [1710, 2]),
  (16, .bipush 100, 2, 0, 0, []),
  (18, .aload_n 0, 1, 0, 0, []),
  (19, .iload_n 3, 1, 0, 0, []),
  (20, .aload_n 0, 1, 0, 0, []),
  (21, .getfield 125, 3, 11, 53, [1322, 1]),
  (24, .iload_n 3, 1, 0, 0, []),
  (25, .iaload, 1, 0, 0, []),
  (26, .iload_n 2, 1, 0, 0, []),
  (27, .invokevirtual 392, 3, 240, 11, [1705, 3]),
  (30, .isub, 1, 0, 0, []),
  (31, .imul, 1, 0, 0, []),
  (32, .ireturn, 1, 0, 0, [])]
def mX11_theftNow : ab_M := (yX11_theftNow, cX11_theftNow, 4, (some (FieldType.int)), 0, 0, 1, kX11_theftNow)
def kX11_theft : List ab_I := [(0, .aload_n 0, 1, 0, 0, []),
  (1, .iload_n 1, 1, 0, 0, []),
  (2, .invokevirtual 384, 3, 222, 11, [1621, 1]),
  (5, .ifCond .eq 10, 3, 15, 0, []),
  (8, .iload_n 2, 1, 0, 0, []),
  (9, .invokestatic 399, 3, 252, 0, [1689, 1]),
  (12, .ifCond .ne 5, 3, 17, 0, []),
  (15, .iconst (-1), 1, 0, 0, []),
  (16, .ireturn, 1, 0, 0, []),
  (17, .aload_n 0, 1, 0, 0, []),
  (18, .invokevirtual 378, 3, 226, 11, [1605, 0]),
  (21, .aload_n 0, 1, 0, 0, []),
  (22, .iload_n 1, 1, 0, 0, []),
  (23, .iload_n 2, 1, 0, 0, []),
  (24, .invokevirtual 411, 3, 260, 11, [1758, 2]),
  (27, .ireturn, 1, 0, 0, [])]
def mX11_theft : ab_M := (yX11_theft, cX11_theft, 3, (some (FieldType.int)), 0, 0, 1, kX11_theft)
def kX11_nightsNow : List ab_I := [(0, .iconst 1, 1, 0, 0, []),
  (1, .istore_n 2, 1, 0, 0, []),
  (2, .iconst 2, 1, 0, 0, []),
  (3, .istore_n 3, 1, 0, 0, []),
  (4, .iload_n 3, 1, 0, 0, []),
  (5, .bipush 9, 2, 0, 0, []),
  (7, .if_icmp .gt 26, 3, 33, 0, []),
  (10, .aload_n 0, 1, 0, 0, []),
  (11, .iload_n 1, 1, 0, 0, []),
  (12, .iload_n 3, 1, 0, 0, []),
  (13, .invokevirtual 411, 3, 260, 11, [1758, 2]),
  (16, .aload_n 0, 1, 0, 0, []),
  (17, .iload_n 1, 1, 0, 0, []),
  (18, .iload_n 2, 1, 0, 0, []),
  (19, .invokevirtual 411, 3, 260, 11, [1758, 2]),
  (22, .if_icmp .le 5, 3, 27, 0, []),
  (25, .iload_n 3, 1, 0, 0, []),
  (26, .istore_n 2, 1, 0, 0, []),
  (27, .iinc 3 1, 3, 0, 0, []),
  (30, .goto (-26), 3, 4, 0, []),
  (33, .iload_n 2, 1, 0, 0, []),
  (34, .ireturn, 1, 0, 0, [])]
def mX11_nightsNow : ab_M := (yX11_nightsNow, cX11_nightsNow, 4, (some (FieldType.int)), 0, 0, 1, kX11_nightsNow)
def kX11_nights : List ab_I := [(0, .aload_n 0, 1, 0, 0, []),
  (1, .iload_n 1, 1, 0, 0, []),
  (2, .invokevirtual 384, 3, 222, 11, [1621, 1]),
  (5, .ifCond .ne 5, 3, 10, 0, []),
  (8, .iconst (-1), 1, 0, 0, []),
  (9, .ireturn, 1, 0, 0, []),
  (10, .aload_n 0, 1, 0, 0, []),
  (11, .invokevirtual 378, 3, 226, 11, [1605, 0]),
  (14, .aload_n 0, 1, 0, 0, []),
  (15, .iload_n 1, 1, 0, 0, []),
  (16, .invokevirtual 414, 3, 262, 11, [1766, 1]),
  (19, .ireturn, 1, 0, 0, [])]
def mX11_nights : ab_M := (yX11_nights, cX11_nights, 2, (some (FieldType.int)), 0, 0, 1, kX11_nights)
def kX11_guardOf : List ab_I := [(0, .iconst 0, 1, 0, 0, []),
  (1, .istore 4, 2, 0, 0, []),
  (3, .iload 4, 2, 0, 0, []),
  (5, .bipush 9, 2, 0, 0, []),
  (7, .if_icmp .gt 24, 3, 31, 0, []),
  (10, .aload_n 0, 1, 0, 0, []),
  (11, .iload_n 1, 1, 0, 0, []),
  (12, .iload 4, 2, 0, 0, []),
  (14, .iload_n 3, 1, 0, 0, []),
  (15, .invokevirtual 392, 3, 240, 11, [1705, 3]),
  (18, .iload_n 2, 1, 0, 0, []),
  (19, .if_icmp .lt 6, 3, 25, 0, []),
  (22, .iload 4, 2, 0, 0, []),
  (24, .ireturn, 1, 0, 0, []),
  (25, .iinc 4 1, 3, 0, 0, []),
  (28, .goto (-25), 3, 3, 0, []),
  (31, .bipush (-2), 2, 0, 0, []),
  (33, .ireturn, 1, 0, 0, [])]
def mX11_guardOf : ab_M := (yX11_guardOf, cX11_guardOf, 5, (some (FieldType.int)), 0, 0, 1, kX11_guardOf)
def kX11_isOdds : List ab_I := [(0, .iload_n 0, 1, 0, 0, []),
  (1, .iconst 1, 1, 0, 0, []),
  (2, .bipush 100, 2, 0, 0, []),
  (4, .invokestatic 316, 3, 219, 0, [1602, 3]),
  (7, .ireturn, 1, 0, 0, [])]
def mX11_isOdds : ab_M := (yX11_isOdds, cX11_isOdds, 1, (some (FieldType.boolean)), 0, 0, 0, kX11_isOdds)
def kX11_guard : List ab_I := [(0, .aload_n 0, 1, 0, 0, []),
  (1, .iload_n 1, 1, 0, 0, []),
  (2, .invokevirtual 375, 3, 221, 11, [1598, 1]),
  (5, .ifCond .eq 17, 3, 22, 0, []),
  (8, .iload_n 2, 1, 0, 0, []),
  (9, .invokestatic 417, 3, 265, 0, [1774, 1]),
  (12, .ifCond .eq 10, 3, 22, 0, []),
  (15, .iload_n 3, 1, 0, 0, []),
  (16, .invokestatic 399, 3, 252, 0, [1689, 1]),
  (19, .ifCond .ne 5, 3, 24, 0, []),
  (22, .iconst (-1), 1, 0, 0, []),
  (23, .ireturn, 1, 0, 0, []),
  (24, .aload_n 0, 1, 0, 0, []),
  (25, .invokevirtual 378, 3, 226, 11, [1605, 0]),
  (28, .aload_n 0, 1, 0, 0, []),
  (29, .iload_n 1, 1, 0, 0, []),
  (30, .iload_n 2, 1, 0, 0, []),
  (31, .iload_n 3, 1, 0, 0, []),
  (32, .invokevirtual 420, 3, 264, 11, [1777, 3]),
  (35, .ireturn, 1, 0, 0, [])]
def mX11_guard : ab_M := (yX11_guard, cX11_guard, 4, (some (FieldType.int)), 0, 0, 1, kX11_guard)
def kX11_guards : List ab_I := [(0, .iload_n 1, 1, 0, 0, []),
  (1, .invokestatic 417, 3, 265, 0, [1774, 1]),
  (4, .ifCond .eq 10, 3, 14, 0, []),
  (7, .iload_n 2, 1, 0, 0, []),
  (8, .invokestatic 399, 3, 252, 0, [1689, 1]),
  (11, .ifCond .ne 5, 3, 16, 0, []),
  (14, .iconst (-1), 1, 0, 0, []),
  (15, .ireturn, 1, 0, 0, []),
  (16, .aload_n 0, 1, 0, 0, []),
  (17, .invokevirtual 378, 3, 226, 11, [1605, 0]),
  (20, .iconst 0, 1, 0, 0, []),
  (21, .istore_n 3, 1, 0, 0, []),
  (22, .iconst 0, 1, 0, 0, []),
  (23, .istore 4, 2, 0, 0, []),
  (25, .iload 4, 2, 0, 0, []),
  (27, .aload_n 0, 1, 0, 0, []),
  (28, .getfield 46, 3, 11, 23, [1292, 1]),
  (31, .aload_n 0, 1, 0, 0, []),
  (32, .getfield 230, 3, 11, 18, [1287]),
  (35, .iaload, 1, 0, 0, []),
  (36, .if_icmp .ge 44, 3, 80, 0, []),
  (39, .aload_n 0, 1, 0, 0, []),
  (40, .iload 4, 2, 0, 0, []),
  (42, .invokevirtual 330, 3, 229, 11, [1650, 1]),
  (45, .ifCond .ne 6, 3, 51, 0, []),
  (48, .goto 26, 3, 74, 0, []),
  (51, .aload_n 0, 1, 0, 0, []),
  (52, .iload 4, 2, 0, 0, []),
  (54, .iload_n 1, 1, 0, 0, []),
  (55, .iload_n 2, 1, 0, 0, []),
  (56, .invokevirtual 420, 3, 264, 11, [1777, 3]),
  (59, .istore 5, 2, 0, 0, []),
  (61, .iload 5, 2, 0, 0, []),
  (63, .ifCond .ge 6, 3, 69, 0, []),
  (66, .bipush (-2), 2, 0, 0, []),
  (68, .ireturn, 1, 0, 0, []),
  (69, .iload_n 3, 1, 0, 0, []),
  (70, .iload 5, 2, 0, 0, []),
  (72, .iadd, 1, 0, 0, []),
  (73, .istore_n 3, 1, 0, 0, []),
  (74, .iinc 4 1, 3, 0, 0, []),
  (77, .goto (-52), 3, 25, 0, []),
  (80, .iload_n 3, 1, 0, 0, []),
  (81, .ireturn, 1, 0, 0, [])]
def mX11_guards : ab_M := (yX11_guards, cX11_guards, 6, (some (FieldType.int)), 0, 0, 1, kX11_guards)
def kX11_weak : List ab_I := [(0, .iload_n 1, 1, 0, 0, []),
  (1, .iconst 0, 1, 0, 0, []),
  (2, .iconst 2, 1, 0, 0, []),
  (3, .invokestatic 316, 3, 219, 0, [1602, 3]),
  (6, .ifCond .ne 5, 3, 11, 0, []),
  (9, .iconst (-1), 1, 0, 0, []),
  (10, .ireturn, 1, 0, 0, []),
  (11, .aload_n 0, 1, 0, 0, []),
  (12, .invokevirtual 378, 3, 226, 11, [1605, 0]),
  (15, .bipush (-2), 2, 0, 0, []),
  (17, .istore_n 2, 1, 0, 0, []),
  (18, .bipush (-2), 2, 0, 0, []),
  (20, .istore_n 3, 1, 0, 0, []),
  (21, .iconst 0, 1, 0, 0, []),
  (22, .istore 4, 2, 0, 0, []),
  (24, .iload 4, 2, 0, 0, []),
  (26, .aload_n 0, 1, 0, 0, []),
  (27, .getfield 58, 3, 11, 27, [1296, 1]),
  (30, .aload_n 0, 1, 0, 0, []),
  (31, .getfield 230, 3, 11, 18, [1287]),
  (34, .iaload, 1, 0, 0, []),
  (35, .if_icmp .ge 38, 3, 73, 0, []),
  (38, .aload_n 0, 1, 0, 0, []),
  (39, .iload 4, 2, 0, 0, []),
  (41, .aload_n 0, 1, 0, 0, []),
  (42, .iload 4, 2, 0, 0, []),
  (44, .invokevirtual 414, 3, 262, 11, [1766, 1]),
  (47, .invokevirtual 411, 3, 260, 11, [1758, 2]),
  (50, .istore 5, 2, 0, 0, []),
  (52, .iload 5, 2, 0, 0, []),
  (54, .iload_n 3, 1, 0, 0, []),
  (55, .if_icmp .gt 6, 3, 61, 0, []),
  (58, .goto 9, 3, 67, 0, []),
  (61, .iload 4, 2, 0, 0, []),
  (63, .istore_n 2, 1, 0, 0, []),
  (64, .iload 5, 2, 0, 0, []),
  (66, .istore_n 3, 1, 0, 0, []),
  (67, .iinc 4 1, 3, 0, 0, []),
  (70, .goto (-46), 3, 24, 0, []),
  (73, .iload_n 2, 1, 0, 0, []),
  (74, .ifCond .lt 7, 3, 81, 0, []),
  (77, .iload_n 1, 1, 0, 0, []),
  (78, .ifCond .ne 7, 3, 85, 0, []),
  (81, .iload_n 2, 1, 0, 0, []),
  (82, .goto 17, 3, 99, 0, []),
  (85, .iload_n 1, 1, 0, 0, []),
  (86, .iconst 1, 1, 0, 0, []),
  (87, .if_icmp .ne 11, 3, 98, 0, []),
  (90, .aload_n 0, 1, 0, 0, []),
  (91, .iload_n 2, 1, 0, 0, []),
  (92, .invokevirtual 414, 3, 262, 11, [1766, 1]),
  (95, .goto 4, 3, 99, 0, []),
  (98, .iload_n 3, 1, 0, 0, []),
  (99, .ireturn, 1, 0, 0, [])]
def mX11_weak : ab_M := (yX11_weak, cX11_weak, 6, (some (FieldType.int)), 0, 0, 1, kX11_weak)
def kX11_isFew : List ab_I := [(0, .iload_n 0, 1, 0, 0, []),
  (1, .iconst 1, 1, 0, 0, []),
  (2, .bipush 24, 2, 0, 0, []),
  (4, .invokestatic 316, 3, 219, 0, [1602, 3]),
  (7, .ireturn, 1, 0, 0, [])]
def mX11_isFew : ab_M := (yX11_isFew, cX11_isFew, 1, (some (FieldType.boolean)), 0, 0, 0, kX11_isFew)
def kX11_isLong : List ab_I := [(0, .iload_n 0, 1, 0, 0, []),
  (1, .iconst 0, 1, 0, 0, []),
  (2, .bipush 60, 2, 0, 0, []),
  (4, .invokestatic 316, 3, 219, 0, [1602, 3]),
  (7, .ireturn, 1, 0, 0, [])]
def mX11_isLong : ab_M := (yX11_isLong, cX11_isLong, 1, (some (FieldType.boolean)), 0, 0, 0, kX11_isLong)
def kX11_takesWith : List ab_I := [(0, .aload_n 0, 1, 0, 0, []),
  (1, .invokevirtual 378, 3, 226, 11, [1605, 0]),
  (4, .aload_n 0, 1, 0, 0, []),
  (5, .getfield 125, 3, 11, 53, [1322, 1]),
  (8, .bipush 6, 2, 0, 0, []),
  (10, .iload_n 1, 1, 0, 0, []),
  (11, .iadd, 1, 0, 0, []),
  (12, .iload_n 2, 1, 0, 0, []),
  (13, .iastore, 1, 0, 0, []),
  (14, .aload_n 0, 1, 0, 0, []),
  (15, .iload 4, 2, 0, 0, []),
  (17, .invokevirtual 408, 3, 244, 11, [1730, 1]),
  (20, .aload_n 0, 1, 0, 0, []),
  (21, .getfield 125, 3, 11, 53, [1322, 1]),
  (24, .bipush 18, 2, 0, 0, []),
  (26, .iload_n 3, 1, 0, 0, []),
  (27, .iadd, 1, 0, 0, []),
  (28, .iaload, 1, 0, 0, []),
  (29, .aload_n 0, 1, 0, 0, []),
  (30, .getfield 122, 3, 11, 52, [1321, 1]),
  (33, .bipush 18, 2, 0, 0, []),
  (35, .iload_n 3, 1, 0, 0, []),
  (36, .iadd, 1, 0, 0, []),
  (37, .iaload, 1, 0, 0, []),
  (38, .isub, 1, 0, 0, []),
  (39, .ireturn, 1, 0, 0, [])]
def mX11_takesWith : ab_M := (yX11_takesWith, cX11_takesWith, 5, (some (FieldType.int)), 0, 0, 1, kX11_takesWith)
def kX11_worth : List ab_I := [(0, .aload_n 0, 1, 0, 0, []),
  (1, .iload_n 1, 1, 0, 0, []),
  (2, .invokevirtual 384, 3, 222, 11, [1621, 1]),
  (5, .ifCond .eq 19, 3, 24, 0, []),
  (8, .iload_n 2, 1, 0, 0, []),
  (9, .invokestatic 423, 3, 269, 0, [1793, 1]),
  (12, .ifCond .eq 12, 3, 24, 0, []),
  (15, .iload_n 3, 1, 0, 0, []),
  (16, .iconst 0, 1, 0, 0, []),
  (17, .iconst 1, 1, 0, 0, []),
  (18, .invokestatic 316, 3, 219, 0, [1602, 3]),
  (21, .ifCond .ne 7, 3, 28, 0, []),
  (24, .ldc_w 390, 3, 4294867296, 0, [1637]),
  (27, .ireturn, 1, 0, 0, []),
  (28, .iconst (-1), 1, 0, 0, []),
  (29, .istore 4, 2, 0, 0, []),
  (31, .iconst 0, 1, 0, 0, []),
  (32, .istore 5, 2, 0, 0, []),
  (34, .iconst 0, 1, 0, 0, []),
  (35, .istore 6, 2, 0, 0, []),
  (37, .iload 6, 2, 0, 0, []),
  (39, .aload_n 0, 1, 0, 0, []),
  (40, .getfield 46, 3, 11, 23, [1292, 1]),
  (43, .aload_n 0, 1, 0, 0, []),
  (44, .getfield 230, 3, 11, 18, [1287]),
  (47, .iaload, 1, 0, 0, []),
  (48, .if_icmp .ge 54, 3, 102, 0, []),
  (51, .aload_n 0, 1, 0, 0, []),
  (52, .iload_n 1, 1, 0, 0, []),
  (53, .iload 6, 2, 0, 0, []),
  (55, .iload 6, 2, 0, 0, []),
  (57, .iload_n 2, 1, 0, 0, []),
  (58, .invokevirtual 426, 3, 271, 11, [1796, 4]),
  (61, .aload_n 0, 1, 0, 0, []),
  (62, .iload_n 1, 1, 0, 0, []),
  (63, .iconst (-1), 1, 0, 0, []),
  (64, .iload 6, 2, 0, 0, []),
  (66, .iload_n 2, 1, 0, 0, []),
  (67, .invokevirtual 426, 3, 271, 11, [1796, 4]),
  (70, .isub, 1, 0, 0, []),
  (71, .istore 7, 2, 0, 0, []),
  (73, .iload 4, 2, 0, 0, []),
  (75, .ifCond .lt 13, 3, 88, 0, []),
  (78, .iload 7, 2, 0, 0, []),
  (80, .iload 5, 2, 0, 0, []),
  (82, .if_icmp .gt 6, 3, 88, 0, []),
  (85, .goto 11, 3, 96, 0, []),
  (88, .iload 6, 2, 0, 0, []),
  (90, .istore 4, 2, 0, 0, []),
  (92, .iload 7, 2, 0, 0, []),
  (94, .istore 5, 2, 0, 0, []),
  (96, .iinc 6 1, 3, 0, 0, []),
  (99, .goto (-62), 3, 37, 0, []),
  (102, .iload_n 3, 1, 0, 0, []),
  (103, .ifCond .ne 8, 3, 111, 0, []),
  (106, .iload 4, 2, 0, 0, []),
  (108, .goto 5, 3, 113, 0, []),
  (111, .iload 5, 2, 0, 0, []),
  (113, .ireturn, 1, 0, 0, [])]
def mX11_worth : ab_M := (yX11_worth, cX11_worth, 8, (some (FieldType.int)), 0, 0, 1, kX11_worth)
def kX11_isBarter : List ab_I := [(0, .aload_n 0, 1, 0, 0, []),
  (1, .getfield 122, 3, 11, 52, [1321, 1]),
  (4, .bipush 6, 2, 0, 0, []),
  (6, .iload_n 1, 1, 0, 0, []),
  (7, .iadd, 1, 0, 0, []),
  (8, .iaload, 1, 0, 0, []),
  (9, .istore 4, 2, 0, 0, []),
  (11, .aload_n 0, 1, 0, 0, []),
  (12, .getfield 122, 3, 11, 52, [1321, 1]),
  (15, .bipush 6, 2, 0, 0, []),
  (17, .iload_n 2, 1, 0, 0, []),
  (18, .iadd, 1, 0, 0, []),
  (19, .iaload, 1, 0, 0, []),
  (20, .istore 5, 2, 0, 0, []),
  (22, .iload 4, 2, 0, 0, []),
  (24, .iload 5, 2, 0, 0, []),
  (26, .if_icmp .ne 5, 3, 31, 0, []),
  (29, .iconst 0, 1, 0, 0, []),
  (30, .ireturn, 1, 0, 0, []),
  (31, .aload_n 0, 1, 0, 0, []),
  (32, .iload_n 1, 1, 0, 0, []),
  (33, .iload 4, 2, 0, 0, []),
  (35, .iload 4, 2, 0, 0, []),
  (37, .iload_n 3, 1, 0, 0, []),
  (38, .invokevirtual 426, 3, 271, 11, [1796, 4]),
  (41, .istore 6, 2, 0, 0, []),
  (43, .aload_n 0, 1, 0, 0, []),
  (44, .iload_n 1, 1, 0, 0, []),
  (45, .iload 4, 2, 0, 0, []),
  (47, .iload 5, 2, 0, 0, []),
  (49, .iload_n 3, 1, 0, 0, []),
  (50, .invokevirtual 426, 3, 271, 11, [1796, 4]),
  (53, .istore 7, 2, 0, 0, []),
  (55, .aload_n 0, 1, 0, 0, []),
  (56, .invokevirtual 378, 3, 226, 11, [1605, 0]),
  (59, .aload_n 0, 1, 0, 0, []),
  (60, .getfield 125, 3, 11, 53, [1322, 1]),
  (63, .bipush 6, 2, 0, 0, []),
  (65, .iload_n 1, 1, 0, 0, []),
  (66, .iadd, 1, 0, 0, []),
  (67, .iload 5, 2, 0, 0, []),
  (69, .iastore, 1, 0, 0, []),
  (70, .aload_n 0, 1, 0, 0, []),
  (71, .getfield 125, 3, 11, 53, [1322, 1]),
  (74, .bipush 6, 2, 0, 0, []),
  (76, .iload_n 2, 1, 0, 0, []),
  (77, .iadd, 1, 0, 0, []),
  (78, .iload 4, 2, 0, 0, []),
  (80, .iastore, 1, 0, 0, []),
  (81, .aload_n 0, 1, 0, 0, []),
  (82, .iload_n 3, 1, 0, 0, []),
  (83, .invokevirtual 408, 3, 244, 11, [1730, 1]),
  (86, .aload_n 0, 1, 0, 0, []),
  (87, .getfield 125, 3, 11, 53, [1322, 1]),
  (90, .bipush 18, 2, 0, 0, []),
  (92, .iload 4, 2, 0, 0, []),
  (94, .iadd, 1, 0, 0, []),
  (95, .iaload, 1, 0, 0, []),
  (96, .aload_n 0, 1, 0, 0, []),
  (97, .getfield 122, 3, 11, 52, [1321, 1]),
  (100, .bipush 18, 2, 0, 0, []),
  (102, .iload 4, 2, 0, 0, []),
  (104, .iadd, 1, 0, 0, []),
  (105, .iaload, 1, 0, 0, []),
  (106, .isub, 1, 0, 0, []),
  (107, .iload 6, 2, 0, 0, []),
  (109, .if_icmp .le 33, 3, 142, 0, []),
  (112, .aload_n 0, 1, 0, 0, []),
  (113, .getfield 125, 3, 11, 53, [1322, 1]),
  (116, .bipush 18, 2, 0, 0, []),
  (118, .iload 5, 2, 0, 0, []),
  (120, .iadd, 1, 0, 0, []),
  (121, .iaload, 1, 0, 0, []),
  (122, .aload_n 0, 1, 0, 0, []),
  (123, .getfield 122, 3, 11, 52, [1321, 1]),
  (126, .bipush 18, 2, 0, 0, []),
  (128, .iload 5, 2, 0, 0, []),
  (130, .iadd, 1, 0, 0, []),
  (131, .iaload, 1, 0, 0, []),
  (132, .isub, 1, 0, 0, []),
  (133, .iload 7, 2, 0, 0, []),
  (135, .if_icmp .le 7, 3, 142, 0, []),
  (138, .iconst 1, 1, 0, 0, []),
  (139, .goto 4, 3, 143, 0, []),
  (142, .iconst 0, 1, 0, 0, []),
  (143, .ireturn, 1, 0, 0, [])]
def mX11_isBarter : ab_M := (yX11_isBarter, cX11_isBarter, 8, (some (FieldType.boolean)), 0, 0, 1, kX11_isBarter)
def kX11_barter : List ab_I := [(0, .iload_n 1, 1, 0, 0, []),
  (1, .invokestatic 423, 3, 269, 0, [1793, 1]),
  (4, .ifCond .eq 12, 3, 16, 0, []),
  (7, .iload_n 2, 1, 0, 0, []),
  (8, .iconst 0, 1, 0, 0, []),
  (9, .iconst 1, 1, 0, 0, []),
  (10, .invokestatic 316, 3, 219, 0, [1602, 3]),
  (13, .ifCond .ne 5, 3, 18, 0, []),
  (16, .iconst (-1), 1, 0, 0, []),
  (17, .ireturn, 1, 0, 0, []),
  (18, .iconst 0, 1, 0, 0, []),
  (19, .istore_n 3, 1, 0, 0, []),
  (20, .bipush (-2), 2, 0, 0, []),
  (22, .istore 4, 2, 0, 0, []),
  (24, .iconst 0, 1, 0, 0, []),
  (25, .istore 5, 2, 0, 0, []),
  (27, .iload 5, 2, 0, 0, []),
  (29, .aload_n 0, 1, 0, 0, []),
  (30, .getfield 58, 3, 11, 27, [1296, 1]),
  (33, .aload_n 0, 1, 0, 0, []),
  (34, .getfield 230, 3, 11, 18, [1287]),
  (37, .iaload, 1, 0, 0, []),
  (38, .if_icmp .ge 68, 3, 106, 0, []),
  (41, .iload 5, 2, 0, 0, []),
  (43, .iconst 1, 1, 0, 0, []),
  (44, .iadd, 1, 0, 0, []),
  (45, .istore 6, 2, 0, 0, []),
  (47, .iload 6, 2, 0, 0, []),
  (49, .aload_n 0, 1, 0, 0, []),
  (50, .getfield 58, 3, 11, 27, [1296, 1]),
  (53, .aload_n 0, 1, 0, 0, []),
  (54, .getfield 230, 3, 11, 18, [1287]),
  (57, .iaload, 1, 0, 0, []),
  (58, .if_icmp .ge 42, 3, 100, 0, []),
  (61, .aload_n 0, 1, 0, 0, []),
  (62, .iload 5, 2, 0, 0, []),
  (64, .iload 6, 2, 0, 0, []),
  (66, .iload_n 1, 1, 0, 0, []),
  (67, .invokevirtual 430, 3, 273, 11, [1804, 3]),
  (70, .ifCond .ne 6, 3, 76, 0, []),
  (73, .goto 21, 3, 94, 0, []),
  (76, .iinc 3 1, 3, 0, 0, []),
  (79, .iload 4, 2, 0, 0, []),
  (81, .ifCond .ge 13, 3, 94, 0, []),
  (84, .bipush 10, 2, 0, 0, []),
  (86, .iload 5, 2, 0, 0, []),
  (88, .imul, 1, 0, 0, []),
  (89, .iload 6, 2, 0, 0, []),
  (91, .iadd, 1, 0, 0, []),
  (92, .istore 4, 2, 0, 0, []),
  (94, .iinc 6 1, 3, 0, 0, []),
  (97, .goto (-50), 3, 47, 0, []),
  (100, .iinc 5 1, 3, 0, 0, []),
  (103, .goto (-76), 3, 27, 0, []),
  (106, .iload_n 2, 1, 0, 0, []),
  (107, .ifCond .ne 7, 3, 114, 0, []),
  (110, .iload_n 3, 1, 0, 0, []),
  (111, .goto 5, 3, 116, 0, []),
  (114, .iload 4, 2, 0, 0, []),
  (116, .ireturn, 1, 0, 0, [])]
def mX11_barter : ab_M := (yX11_barter, cX11_barter, 7, (some (FieldType.int)), 0, 0, 1, kX11_barter)
def kX11_took : List ab_I := [(0, .aload_n 0, 1, 0, 0, []),
  (1, .iload_n 1, 1, 0, 0, []),
  (2, .invokevirtual 375, 3, 221, 11, [1598, 1]),
  (5, .ifCond .eq 10, 3, 15, 0, []),
  (8, .iload_n 2, 1, 0, 0, []),
  (9, .invokestatic 433, 3, 270, 0, [1812, 1]),
  (12, .ifCond .ne 5, 3, 17, 0, []),
  (15, .iconst (-1), 1, 0, 0, []),
  (16, .ireturn, 1, 0, 0, []),
  (17, .aload_n 0, 1, 0, 0, []),
  (18, .invokevirtual 378, 3, 226, 11, [1605, 0]),
  (21, .aload_n 0, 1, 0, 0, []),
  (22, .iload_n 2, 1, 0, 0, []),
  (23, .invokevirtual 408, 3, 244, 11, [1730, 1]),
  (26, .aload_n 0, 1, 0, 0, []),
  (27, .getfield 125, 3, 11, 53, [1322, 1]),
  (30, .bipush 18, 2, 0, 0, []),
  (32, .iload_n 1, 1, 0, 0, []),
  (33, .iadd, 1, 0, 0, []),
  (34, .iaload, 1, 0, 0, []),
  (35, .aload_n 0, 1, 0, 0, []),
  (36, .getfield 122, 3, 11, 52, [1321, 1]),
  (39, .bipush 18, 2, 0, 0, []),
  (41, .iload_n 1, 1, 0, 0, []),
  (42, .iadd, 1, 0, 0, []),
  (43, .iaload, 1, 0, 0, []),
  (44, .isub, 1, 0, 0, []),
  (45, .ireturn, 1, 0, 0, [])]
def mX11_took : ab_M := (yX11_took, cX11_took, 3, (some (FieldType.int)), 0, 0, 1, kX11_took)
def kX11_wonders : List ab_I := [(0, .aload_n 0, 1, 0, 0, []),
  (1, .iload_n 1, 1, 0, 0, []),
  (2, .invokevirtual 384, 3, 222, 11, [1621, 1]),
  (5, .ifCond .eq 10, 3, 15, 0, []),
  (8, .iload_n 2, 1, 0, 0, []),
  (9, .invokestatic 433, 3, 270, 0, [1812, 1]),
  (12, .ifCond .ne 5, 3, 17, 0, []),
  (15, .iconst (-1), 1, 0, 0, []),
  (16, .ireturn, 1, 0, 0, []),
  (17, .aload_n 0, 1, 0, 0, []),
  (18, .invokevirtual 378, 3, 226, 11, [1605, 0]),
  (21, .aload_n 0, 1, 0, 0, []),
  (22, .iload_n 2, 1, 0, 0, []),
  (23, .invokevirtual 408, 3, 244, 11, [1730, 1]),
  (26, .aload_n 0, 1, 0, 0, []),
  (27, .getfield 125, 3, 11, 53, [1322, 1]),
  (30, .bipush 24, 2, 0, 0, []),
  (32, .iload_n 1, 1, 0, 0, []),
  (33, .iadd, 1, 0, 0, []),
  (34, .iaload, 1, 0, 0, []),
  (35, .aload_n 0, 1, 0, 0, []),
  (36, .getfield 122, 3, 11, 52, [1321, 1]),
  (39, .bipush 24, 2, 0, 0, []),
  (41, .iload_n 1, 1, 0, 0, []),
  (42, .iadd, 1, 0, 0, []),
  (43, .iaload, 1, 0, 0, []),
  (44, .isub, 1, 0, 0, []),
  (45, .ireturn, 1, 0, 0, [])]
def mX11_wonders : ab_M := (yX11_wonders, cX11_wonders, 3, (some (FieldType.int)), 0, 0, 1, kX11_wonders)
def kX11_goesIn : List ab_I := [(0, .aload_n 0, 1, 0, 0, []),
  (1, .iload_n 1, 1, 0, 0, []),
  (2, .invokevirtual 387, 3, 223, 11, [1629, 1]),
  (5, .ifCond .eq 10, 3, 15, 0, []),
  (8, .iload_n 2, 1, 0, 0, []),
  (9, .invokestatic 433, 3, 270, 0, [1812, 1]),
  (12, .ifCond .ne 5, 3, 17, 0, []),
  (15, .iconst (-1), 1, 0, 0, []),
  (16, .ireturn, 1, 0, 0, []),
  (17, .aload_n 0, 1, 0, 0, []),
  (18, .invokevirtual 378, 3, 226, 11, [1605, 0]),
  (21, .aload_n 0, 1, 0, 0, []),
  (22, .iload_n 2, 1, 0, 0, []),
  (23, .invokevirtual 408, 3, 244, 11, [1730, 1]),
  (26, .aload_n 0, 1, 0, 0, []),
  (27, .iload_n 1, 1, 0, 0, []),
  (28, .invokevirtual 366, 3, 241, 11, [1738, 1]),
  (31, .ireturn, 1, 0, 0, [])]
def mX11_goesIn : ab_M := (yX11_goesIn, cX11_goesIn, 3, (some (FieldType.int)), 0, 0, 1, kX11_goesIn)
def kX11_rich : List ab_I := [(0, .iload_n 1, 1, 0, 0, []),
  (1, .invokestatic 433, 3, 270, 0, [1812, 1]),
  (4, .ifCond .eq 12, 3, 16, 0, []),
  (7, .iload_n 2, 1, 0, 0, []),
  (8, .iconst 0, 1, 0, 0, []),
  (9, .iconst 1, 1, 0, 0, []),
  (10, .invokestatic 316, 3, 219, 0, [1602, 3]),
  (13, .ifCond .ne 5, 3, 18, 0, []),
  (16, .iconst (-1), 1, 0, 0, []),
  (17, .ireturn, 1, 0, 0, []),
  (18, .aload_n 0, 1, 0, 0, []),
  (19, .invokevirtual 378, 3, 226, 11, [1605, 0]),
  (22, .aload_n 0, 1, 0, 0, []),
  (23, .iload_n 1, 1, 0, 0, []),
  (24, .invokevirtual 408, 3, 244, 11, [1730, 1]),
  (27, .bipush (-2), 2, 0, 0, []),
  (29, .istore_n 3, 1, 0, 0, []),
  (30, .bipush (-2), 2, 0, 0, []),
  (32, .istore 4, 2, 0, 0, []),
  (34, .iconst 0, 1, 0, 0, []),
  (35, .istore 5, 2, 0, 0, []),
  (37, .iload 5, 2, 0, 0, []),
  (39, .aload_n 0, 1, 0, 0, []),
  (40, .getfield 46, 3, 11, 23, [1292, 1]),
  (43, .aload_n 0, 1, 0, 0, []),
  (44, .getfield 230, 3, 11, 18, [1287]),
  (47, .iaload, 1, 0, 0, []),
  (48, .if_icmp .ge 49, 3, 97, 0, []),
  (51, .aload_n 0, 1, 0, 0, []),
  (52, .getfield 125, 3, 11, 53, [1322, 1]),
  (55, .bipush 18, 2, 0, 0, []),
  (57, .iload 5, 2, 0, 0, []),
  (59, .iadd, 1, 0, 0, []),
  (60, .iaload, 1, 0, 0, []),
  (61, .aload_n 0, 1, 0, 0, []),
  (62, .getfield 122, 3, 11, 52, [1321, 1]),
  (65, .bipush 18, 2, 0, 0, []),
  (67, .iload 5, 2, 0, 0, []),
  (69, .iadd, 1, 0, 0, []),
  (70, .iaload, 1, 0, 0, []),
  (71, .isub, 1, 0, 0, []),
  (72, .istore 6, 2, 0, 0, []),
  (74, .iload 6, 2, 0, 0, []),
  (76, .iload 4, 2, 0, 0, []),
  (78, .if_icmp .gt 6, 3, 84, 0, []),
  (81, .goto 10, 3, 91, 0, []),
  (84, .iload 5, 2, 0, 0, []),
  (86, .istore_n 3, 1, 0, 0, []),
  (87, .iload 6, 2, 0, 0, []),
  (89, .istore 4, 2, 0, 0, []),
  (91, .iinc 5 1, 3, 0, 0, []),
  (94, .goto (-57), 3, 37, 0, []),
  (97, .iload_n 2, 1, 0, 0, []),
  (98, .ifCond .ne 7, 3, 105, 0, []),
  (101, .iload_n 3, 1, 0, 0, []),
  (102, .goto 5, 3, 107, 0, []),
  (105, .iload 4, 2, 0, 0, []),
  (107, .ireturn, 1, 0, 0, [])]
def mX11_rich : ab_M := (yX11_rich, cX11_rich, 7, (some (FieldType.int)), 0, 0, 1, kX11_rich)
def kX11_hub : List ab_I := [(0, .bipush (-2), 2, 0, 0, []),
  (2, .istore_n 1, 1, 0, 0, []),
  (3, .iconst 0, 1, 0, 0, []),
  (4, .istore_n 2, 1, 0, 0, []),
  (5, .iconst 0, 1, 0, 0, []),
  (6, .istore_n 3, 1, 0, 0, []),
  (7, .iload_n 3, 1, 0, 0, []),
  (8, .aload_n 0, 1, 0, 0, []),
  (9, .getfield 46, 3, 11, 23, [1292, 1]),
  (12, .aload_n 0, 1, 0, 0, []),
  (13, .getfield 230, 3, 11, 18, [1287]),
  (16, .iaload, 1, 0, 0, []),
  (17, .if_icmp .ge 70, 3, 87, 0, []),
  (20, .iconst 0, 1, 0, 0, []),
  (21, .istore 4, 2, 0, 0, []),
  (23, .iconst 0, 1, 0, 0, []),
  (24, .istore 5, 2, 0, 0, []),
  (26, .iload 5, 2, 0, 0, []),
  (28, .aload_n 0, 1, 0, 0, []),
  (29, .getfield 46, 3, 11, 23, [1292, 1]),
  (32, .aload_n 0, 1, 0, 0, []),
  (33, .getfield 230, 3, 11, 18, [1287]),
  (36, .iaload, 1, 0, 0, []),
  (37, .if_icmp .ge 26, 3, 63, 0, []),
  (40, .iload 4, 2, 0, 0, []),
  (42, .aload_n 0, 1, 0, 0, []),
  (43, .getfield 119, 3, 11, 51, [1320, 1]),
  (46, .bipush 6, 2, 0, 0, []),
  (48, .iload_n 3, 1, 0, 0, []),
  (49, .imul, 1, 0, 0, []),
  (50, .iload 5, 2, 0, 0, []),
  (52, .iadd, 1, 0, 0, []),
  (53, .iaload, 1, 0, 0, []),
  (54, .iadd, 1, 0, 0, []),
  (55, .istore 4, 2, 0, 0, []),
  (57, .iinc 5 1, 3, 0, 0, []),
  (60, .goto (-34), 3, 26, 0, []),
  (63, .iload_n 1, 1, 0, 0, []),
  (64, .ifCond .lt 12, 3, 76, 0, []),
  (67, .iload 4, 2, 0, 0, []),
  (69, .iload_n 2, 1, 0, 0, []),
  (70, .if_icmp .lt 6, 3, 76, 0, []),
  (73, .goto 8, 3, 81, 0, []),
  (76, .iload_n 3, 1, 0, 0, []),
  (77, .istore_n 1, 1, 0, 0, []),
  (78, .iload 4, 2, 0, 0, []),
  (80, .istore_n 2, 1, 0, 0, []),
  (81, .iinc 3 1, 3, 0, 0, []),
  (84, .goto (-77), 3, 7, 0, []),
  (87, .iload_n 1, 1, 0, 0, []),
  (88, .ireturn, 1, 0, 0, [])]
def mX11_hub : ab_M := (yX11_hub, cX11_hub, 6, (some (FieldType.int)), 0, 0, 1, kX11_hub)
def kX11_crowd : List ab_I := [(0, .aload_n 0, 1, 0, 0, []),
  (1, .iload_n 1, 1, 0, 0, []),
  (2, .invokevirtual 375, 3, 221, 11, [1598, 1]),
  (5, .ifCond .ne 5, 3, 10, 0, []),
  (8, .iconst (-1), 1, 0, 0, []),
  (9, .ireturn, 1, 0, 0, []),
  (10, .aload_n 0, 1, 0, 0, []),
  (11, .invokevirtual 378, 3, 226, 11, [1605, 0]),
  (14, .iconst 0, 1, 0, 0, []),
  (15, .istore_n 2, 1, 0, 0, []),
  (16, .iconst 0, 1, 0, 0, []),
  (17, .istore_n 3, 1, 0, 0, []),
  (18, .iload_n 3, 1, 0, 0, []),
  (19, .aload_n 0, 1, 0, 0, []),
  (20, .getfield 67, 3, 11, 30, [1299, 1]),
  (23, .aload_n 0, 1, 0, 0, []),
  (24, .getfield 230, 3, 11, 18, [1287]),
  (27, .iaload, 1, 0, 0, []),
  (28, .if_icmp .ge 24, 3, 52, 0, []),
  (31, .aload_n 0, 1, 0, 0, []),
  (32, .iload_n 3, 1, 0, 0, []),
  (33, .invokevirtual 366, 3, 241, 11, [1738, 1]),
  (36, .iload_n 1, 1, 0, 0, []),
  (37, .if_icmp .ne 9, 3, 46, 0, []),
  (40, .iload_n 2, 1, 0, 0, []),
  (41, .iconst 1, 1, 0, 0, []),
  (42, .iload_n 3, 1, 0, 0, []),
  (43, .ishl, 1, 0, 0, []),
  (44, .ior, 1, 0, 0, []),
  (45, .istore_n 2, 1, 0, 0, []),
  (46, .iinc 3 1, 3, 0, 0, []),
  (49, .goto (-31), 3, 18, 0, []),
  (52, .iload_n 2, 1, 0, 0, []),
  (53, .ireturn, 1, 0, 0, [])]
def mX11_crowd : ab_M := (yX11_crowd, cX11_crowd, 4, (some (FieldType.int)), 0, 0, 1, kX11_crowd)
def kX11_healed : List ab_I := [(0, .aload_n 0, 1, 0, 0, []),
  (1, .iload_n 1, 1, 0, 0, []),
  (2, .invokevirtual 387, 3, 223, 11, [1629, 1]),
  (5, .ifCond .eq 10, 3, 15, 0, []),
  (8, .iload_n 2, 1, 0, 0, []),
  (9, .invokestatic 433, 3, 270, 0, [1812, 1]),
  (12, .ifCond .ne 5, 3, 17, 0, []),
  (15, .iconst (-1), 1, 0, 0, []),
  (16, .ireturn, 1, 0, 0, []),
  (17, .aload_n 0, 1, 0, 0, []),
  (18, .invokevirtual 378, 3, 226, 11, [1605, 0]),
  (21, .aload_n 0, 1, 0, 0, []),
  (22, .iload_n 2, 1, 0, 0, []),
  (23, .invokevirtual 408, 3, 244, 11, [1730, 1]),
  (26, .aload_n 0, 1, 0, 0, []),
  (27, .getfield 125, 3, 11, 53, [1322, 1]),
  (30, .bipush 41, 2, 0, 0, []),
  (32, .iload_n 1, 1, 0, 0, []),
  (33, .iadd, 1, 0, 0, []),
  (34, .iaload, 1, 0, 0, []),
  (35, .aload_n 0, 1, 0, 0, []),
  (36, .getfield 122, 3, 11, 52, [1321, 1]),
  (39, .bipush 41, 2, 0, 0, []),
  (41, .iload_n 1, 1, 0, 0, []),
  (42, .iadd, 1, 0, 0, []),
  (43, .iaload, 1, 0, 0, []),
  (44, .isub, 1, 0, 0, []),
  (45, .ireturn, 1, 0, 0, [])]
def mX11_healed : ab_M := (yX11_healed, cX11_healed, 3, (some (FieldType.int)), 0, 0, 1, kX11_healed)
def kX11_famed : List ab_I := [(0, .iload_n 1, 1, 0, 0, []),
  (1, .invokestatic 433, 3, 270, 0, [1812, 1]),
  (4, .ifCond .ne 5, 3, 9, 0, []),
  (7, .iconst (-1), 1, 0, 0, []),
  (8, .ireturn, 1, 0, 0, []),
  (9, .aload_n 0, 1, 0, 0, []),
  (10, .invokevirtual 378, 3, 226, 11, [1605, 0]),
  (13, .aload_n 0, 1, 0, 0, []),
  (14, .iload_n 1, 1, 0, 0, []),
  (15, .invokevirtual 408, 3, 244, 11, [1730, 1]),
  (18, .bipush (-2), 2, 0, 0, []),
  (20, .istore_n 2, 1, 0, 0, []),
  (21, .bipush (-2), 2, 0, 0, []),
  (23, .istore_n 3, 1, 0, 0, []),
  (24, .iconst 0, 1, 0, 0, []),
  (25, .istore 4, 2, 0, 0, []),
  (27, .iload 4, 2, 0, 0, []),
  (29, .aload_n 0, 1, 0, 0, []),
  (30, .getfield 46, 3, 11, 23, [1292, 1]),
  (33, .aload_n 0, 1, 0, 0, []),
  (34, .getfield 230, 3, 11, 18, [1287]),
  (37, .iaload, 1, 0, 0, []),
  (38, .if_icmp .ge 40, 3, 78, 0, []),
  (41, .aload_n 0, 1, 0, 0, []),
  (42, .getfield 125, 3, 11, 53, [1322, 1]),
  (45, .bipush 12, 2, 0, 0, []),
  (47, .iload 4, 2, 0, 0, []),
  (49, .iadd, 1, 0, 0, []),
  (50, .iaload, 1, 0, 0, []),
  (51, .iload_n 3, 1, 0, 0, []),
  (52, .if_icmp .gt 6, 3, 58, 0, []),
  (55, .goto 17, 3, 72, 0, []),
  (58, .iload 4, 2, 0, 0, []),
  (60, .istore_n 2, 1, 0, 0, []),
  (61, .aload_n 0, 1, 0, 0, []),
  (62, .getfield 125, 3, 11, 53, [1322, 1]),
  (65, .bipush 12, 2, 0, 0, []),
  (67, .iload 4, 2, 0, 0, []),
  (69, .iadd, 1, 0, 0, []),
  (70, .iaload, 1, 0, 0, []),
  (71, .istore_n 3, 1, 0, 0, []),
  (72, .iinc 4 1, 3, 0, 0, []),
  (75, .goto (-48), 3, 27, 0, []),
  (78, .iload_n 2, 1, 0, 0, []),
  (79, .ireturn, 1, 0, 0, [])]
def mX11_famed : ab_M := (yX11_famed, cX11_famed, 5, (some (FieldType.int)), 0, 0, 1, kX11_famed)
def kX11_year : List ab_I := [(0, .aload_n 0, 1, 0, 0, []),
  (1, .iload_n 1, 1, 0, 0, []),
  (2, .invokevirtual 384, 3, 222, 11, [1621, 1]),
  (5, .ifCond .eq 20, 3, 25, 0, []),
  (8, .iload_n 2, 1, 0, 0, []),
  (9, .invokestatic 433, 3, 270, 0, [1812, 1]),
  (12, .ifCond .eq 13, 3, 25, 0, []),
  (15, .iload_n 3, 1, 0, 0, []),
  (16, .iconst 1, 1, 0, 0, []),
  (17, .bipush 20, 2, 0, 0, []),
  (19, .invokestatic 316, 3, 219, 0, [1602, 3]),
  (22, .ifCond .ne 5, 3, 27, 0, []),
  (25, .iconst (-1), 1, 0, 0, []),
  (26, .ireturn, 1, 0, 0, []),
  (27, .iconst 0, 1, 0, 0, []),
  (28, .istore 4, 2, 0, 0, []),
  (30, .iconst 0, 1, 0, 0, []),
  (31, .istore 5, 2, 0, 0, []),
  (33, .iload 5, 2, 0, 0, []),
  (35, .iload_n 3, 1, 0, 0, []),
  (36, .if_icmp .ge 53, 3, 89, 0, []),
  (39, .aload_n 0, 1, 0, 0, []),
  (40, .invokevirtual 378, 3, 226, 11, [1605, 0]),
  (43, .aload_n 0, 1, 0, 0, []),
  (44, .dup, 1, 0, 0, []),
  (45, .getfield 320, 3, 11, 54, [1323]),
  (48, .iload 5, 2, 0, 0, []),
  (50, .iadd, 1, 0, 0, []),
  (51, .putfield 320, 3, 11, 54, [1323]),
  (54, .aload_n 0, 1, 0, 0, []),
  (55, .iload_n 2, 1, 0, 0, []),
  (56, .invokevirtual 408, 3, 244, 11, [1730, 1]),
  (59, .aload_n 0, 1, 0, 0, []),
  (60, .getfield 125, 3, 11, 53, [1322, 1]),
  (63, .bipush 24, 2, 0, 0, []),
  (65, .iload_n 1, 1, 0, 0, []),
  (66, .iadd, 1, 0, 0, []),
  (67, .iaload, 1, 0, 0, []),
  (68, .aload_n 0, 1, 0, 0, []),
  (69, .getfield 122, 3, 11, 52, [1321, 1]),
  (72, .bipush 24, 2, 0, 0, []),
  (74, .iload_n 1, 1, 0, 0, []),
  (75, .iadd, 1, 0, 0, []),
  (76, .iaload, 1, 0, 0, []),
  (77, .if_icmp .le 6, 3, 83, 0, []),
  (80, .iinc 4 1, 3, 0, 0, []),
  (83, .iinc 5 1, 3, 0, 0, []),
  (86, .goto (-53), 3, 33, 0, []),
  (89, .iload 4, 2, 0, 0, []),
  (91, .ireturn, 1, 0, 0, [])]
def mX11_year : ab_M := (yX11_year, cX11_year, 6, (some (FieldType.int)), 0, 0, 1, kX11_year)
def kX11_rowOdds : List ab_I := [(0, .iconst 1, 1, 0, 0, []),
  (1, .istore_n 3, 1, 0, 0, []),
  (2, .iconst 0, 1, 0, 0, []),
  (3, .istore 4, 2, 0, 0, []),
  (5, .iload 4, 2, 0, 0, []),
  (7, .iload_n 1, 1, 0, 0, []),
  (8, .if_icmp .ge 26, 3, 34, 0, []),
  (11, .iload_n 3, 1, 0, 0, []),
  (12, .iload 4, 2, 0, 0, []),
  (14, .iload_n 2, 1, 0, 0, []),
  (15, .if_icmp .ge 7, 3, 22, 0, []),
  (18, .iload_n 0, 1, 0, 0, []),
  (19, .goto 7, 3, 26, 0, []),
  (22, .bipush 100, 2, 0, 0, []),
  (24, .iload_n 0, 1, 0, 0, []),
  (25, .isub, 1, 0, 0, []),
  (26, .imul, 1, 0, 0, []),
  (27, .istore_n 3, 1, 0, 0, []),
  (28, .iinc 4 1, 3, 0, 0, []),
  (31, .goto (-26), 3, 5, 0, []),
  (34, .iload_n 3, 1, 0, 0, []),
  (35, .ireturn, 1, 0, 0, [])]
def mX11_rowOdds : ab_M := (yX11_rowOdds, cX11_rowOdds, 5, (some (FieldType.int)), 0, 0, 0, kX11_rowOdds)
def kX11_fillsBelief : List ab_I := [(0, .aload_n 0, 1, 0, 0, []),
  (1, .invokevirtual 378, 3, 226, 11, [1605, 0]),
  (4, .aload_n 0, 1, 0, 0, []),
  (5, .iload_n 1, 1, 0, 0, []),
  (6, .iload_n 2, 1, 0, 0, []),
  (7, .iconst 1, 1, 0, 0, []),
  (8, .invokevirtual 351, 3, 237, 11, [1681, 3]),
  (11, .iload_n 3, 1, 0, 0, []),
  (12, .iload 4, 2, 0, 0, []),
  (14, .invokestatic 436, 3, 284, 0, [1855, 3]),
  (17, .istore 5, 2, 0, 0, []),
  (19, .aload_n 0, 1, 0, 0, []),
  (20, .iload_n 1, 1, 0, 0, []),
  (21, .iload_n 2, 1, 0, 0, []),
  (22, .iconst 0, 1, 0, 0, []),
  (23, .invokevirtual 351, 3, 237, 11, [1681, 3]),
  (26, .iload_n 3, 1, 0, 0, []),
  (27, .iload 4, 2, 0, 0, []),
  (29, .invokestatic 436, 3, 284, 0, [1855, 3]),
  (32, .istore 6, 2, 0, 0, []),
  (34, .aload_n 0, 1, 0, 0, []),
  (35, .iload 5, 2, 0, 0, []),
  (37, .iload 6, 2, 0, 0, []),
  (39, .iadd, 1, 0, 0, []),
  (40, .ifCond .ne 7, 3, 47, 0, []),
  (43, .iconst 1, 1, 0, 0, []),
  (44, .goto 5, 3, 49, 0, []),
  (47, .iload 5, 2, 0, 0, []),
  (49, .putfield 439, 3, 11, 59, [1328]),
  (52, .aload_n 0, 1, 0, 0, []),
  (53, .iload 5, 2, 0, 0, []),
  (55, .iload 6, 2, 0, 0, []),
  (57, .iadd, 1, 0, 0, []),
  (58, .ifCond .ne 7, 3, 65, 0, []),
  (61, .iconst 2, 1, 0, 0, []),
  (62, .goto 8, 3, 70, 0, []),
  (65, .iload 5, 2, 0, 0, []),
  (67, .iload 6, 2, 0, 0, []),
  (69, .iadd, 1, 0, 0, []),
  (70, .putfield 442, 3, 11, 60, [1329]),
  (73, .aload_n 0, 1, 0, 0, []),
  (74, .getfield 439, 3, 11, 59, [1328]),
  (77, .istore 7, 2, 0, 0, []),
  (79, .aload_n 0, 1, 0, 0, []),
  (80, .getfield 442, 3, 11, 60, [1329]),
  (83, .istore 8, 2, 0, 0, []),
  (85, .iload 8, 2, 0, 0, []),
  (87, .ifCond .eq 21, 3, 108, 0, []),
  (90, .iload 7, 2, 0, 0, []),
  (92, .iload 8, 2, 0, 0, []),
  (94, .irem, 1, 0, 0, []),
  (95, .istore 9, 2, 0, 0, []),
  (97, .iload 8, 2, 0, 0, []),
  (99, .istore 7, 2, 0, 0, []),
  (101, .iload 9, 2, 0, 0, []),
  (103, .istore 8, 2, 0, 0, []),
  (105, .goto (-20), 3, 85, 0, []),
  (108, .aload_n 0, 1, 0, 0, []),
  (109, .dup, 1, 0, 0, []),
  (110, .getfield 439, 3, 11, 59, [1328]),
  (113, .iload 7, 2, 0, 0, []),
  (115, .idiv, 1, 0, 0, []),
  (116, .putfield 439, 3, 11, 59, [1328]),
  (119, .aload_n 0, 1, 0, 0, []),
  (120, .dup, 1, 0, 0, []),
  (121, .getfield 442, 3, 11, 60, [1329]),
  (124, .iload 7, 2, 0, 0, []),
  (126, .idiv, 1, 0, 0, []),
  (127, .putfield 442, 3, 11, 60, [1329]),
  (130, .return_, 1, 0, 0, [])]
def mX11_fillsBelief : ab_M := (yX11_fillsBelief, cX11_fillsBelief, 10, none, 0, 0, 1, kX11_fillsBelief)
def kX11_belief : List ab_I := [(0, .aload_n 0, 1, 0, 0, []),
  (1, .iload_n 1, 1, 0, 0, []),
  (2, .invokevirtual 384, 3, 222, 11, [1621, 1]),
  (5, .ifCond .eq 30, 3, 35, 0, []),
  (8, .aload_n 0, 1, 0, 0, []),
  (9, .iload_n 2, 1, 0, 0, []),
  (10, .invokevirtual 387, 3, 223, 11, [1629, 1]),
  (13, .ifCond .eq 22, 3, 35, 0, []),
  (16, .iload_n 3, 1, 0, 0, []),
  (17, .iconst 0, 1, 0, 0, []),
  (18, .iconst 4, 1, 0, 0, []),
  (19, .invokestatic 316, 3, 219, 0, [1602, 3]),
  (22, .ifCond .eq 13, 3, 35, 0, []),
  (25, .iload 4, 2, 0, 0, []),
  (27, .iconst 0, 1, 0, 0, []),
  (28, .iload_n 3, 1, 0, 0, []),
  (29, .invokestatic 316, 3, 219, 0, [1602, 3]),
  (32, .ifCond .ne 5, 3, 37, 0, []),
  (35, .iconst (-1), 1, 0, 0, []),
  (36, .ireturn, 1, 0, 0, []),
  (37, .aload_n 0, 1, 0, 0, []),
  (38, .iload_n 1, 1, 0, 0, []),
  (39, .iload_n 2, 1, 0, 0, []),
  (40, .iload_n 3, 1, 0, 0, []),
  (41, .iload 4, 2, 0, 0, []),
  (43, .invokevirtual 445, 3, 285, 11, [1851, 4]),
  (46, .iload 5, 2, 0, 0, []),
  (48, .ifCond .eq 10, 3, 58, 0, []),
  (51, .aload_n 0, 1, 0, 0, []),
  (52, .getfield 442, 3, 11, 60, [1329]),
  (55, .goto 7, 3, 62, 0, []),
  (58, .aload_n 0, 1, 0, 0, []),
  (59, .getfield 439, 3, 11, 59, [1328]),
  (62, .ireturn, 1, 0, 0, [])]
def mX11_belief : ab_M := (yX11_belief, cX11_belief, 6, (some (FieldType.int)), 0, 0, 1, kX11_belief)
def kX11_certain : List ab_I := [(0, .aload_n 0, 1, 0, 0, []),
  (1, .iload_n 1, 1, 0, 0, []),
  (2, .invokevirtual 384, 3, 222, 11, [1621, 1]),
  (5, .ifCond .eq 21, 3, 26, 0, []),
  (8, .aload_n 0, 1, 0, 0, []),
  (9, .iload_n 2, 1, 0, 0, []),
  (10, .invokevirtual 387, 3, 223, 11, [1629, 1]),
  (13, .ifCond .eq 13, 3, 26, 0, []),
  (16, .iload_n 3, 1, 0, 0, []),
  (17, .iconst 0, 1, 0, 0, []),
  (18, .bipush 100, 2, 0, 0, []),
  (20, .invokestatic 316, 3, 219, 0, [1602, 3]),
  (23, .ifCond .ne 5, 3, 28, 0, []),
  (26, .iconst (-1), 1, 0, 0, []),
  (27, .ireturn, 1, 0, 0, []),
  (28, .iconst 0, 1, 0, 0, []),
  (29, .istore 4, 2, 0, 0, []),
  (31, .iload 4, 2, 0, 0, []),
  (33, .iconst 4, 1, 0, 0, []),
  (34, .if_icmp .gt 43, 3, 77, 0, []),
  (37, .aload_n 0, 1, 0, 0, []),
  (38, .iload_n 1, 1, 0, 0, []),
  (39, .iload_n 2, 1, 0, 0, []),
  (40, .iload 4, 2, 0, 0, []),
  (42, .iload 4, 2, 0, 0, []),
  (44, .invokevirtual 445, 3, 285, 11, [1851, 4]),
  (47, .ldc2_w 449, 3, 100, 0, [1862]),
  (50, .aload_n 0, 1, 0, 0, []),
  (51, .getfield 439, 3, 11, 59, [1328]),
  (54, .i2l, 1, 0, 0, []),
  (55, .lmul, 1, 0, 0, []),
  (56, .iload_n 3, 1, 0, 0, []),
  (57, .i2l, 1, 0, 0, []),
  (58, .aload_n 0, 1, 0, 0, []),
  (59, .getfield 442, 3, 11, 60, [1329]),
  (62, .i2l, 1, 0, 0, []),
  (63, .lmul, 1, 0, 0, []),
  (64, .lcmp, 1, 0, 0, []),
  (65, .ifCond .lt 6, 3, 71, 0, []),
  (68, .iload 4, 2, 0, 0, []),
  (70, .ireturn, 1, 0, 0, []),
  (71, .iinc 4 1, 3, 0, 0, []),
  (74, .goto (-43), 3, 31, 0, []),
  (77, .bipush (-2), 2, 0, 0, []),
  (79, .ireturn, 1, 0, 0, [])]
def mX11_certain : ab_M := (yX11_certain, cX11_certain, 5, (some (FieldType.int)), 0, 0, 1, kX11_certain)
def kX11_tell : List ab_I := [(0, .aload_n 0, 1, 0, 0, []),
  (1, .getfield 254, 3, 11, 61, [1330]),
  (4, .bipush 20, 2, 0, 0, []),
  (6, .if_icmp .eq 11, 3, 17, 0, []),
  (9, .aload_n 0, 1, 0, 0, []),
  (10, .iload_n 1, 1, 0, 0, []),
  (11, .invokevirtual 387, 3, 223, 11, [1629, 1]),
  (14, .ifCond .ne 5, 3, 19, 0, []),
  (17, .iconst (-1), 1, 0, 0, []),
  (18, .ireturn, 1, 0, 0, []),
  (19, .aload_n 0, 1, 0, 0, []),
  (20, .getfield 137, 3, 11, 62, [1331, 1]),
  (23, .aload_n 0, 1, 0, 0, []),
  (24, .getfield 254, 3, 11, 61, [1330]),
  (27, .iload_n 1, 1, 0, 0, []),
  (28, .iastore, 1, 0, 0, []),
  (29, .aload_n 0, 1, 0, 0, []),
  (30, .getfield 140, 3, 11, 63, [1332, 1]),
  (33, .aload_n 0, 1, 0, 0, []),
  (34, .getfield 254, 3, 11, 61, [1330]),
  (37, .iload_n 2, 1, 0, 0, []),
  (38, .bastore, 1, 0, 0, []),
  (39, .aload_n 0, 1, 0, 0, []),
  (40, .dup, 1, 0, 0, []),
  (41, .getfield 254, 3, 11, 61, [1330]),
  (44, .iconst 1, 1, 0, 0, []),
  (45, .iadd, 1, 0, 0, []),
  (46, .putfield 254, 3, 11, 61, [1330]),
  (49, .aload_n 0, 1, 0, 0, []),
  (50, .getfield 254, 3, 11, 61, [1330]),
  (53, .iconst 1, 1, 0, 0, []),
  (54, .isub, 1, 0, 0, []),
  (55, .ireturn, 1, 0, 0, [])]
def mX11_tell : ab_M := (yX11_tell, cX11_tell, 3, (some (FieldType.int)), 0, 0, 1, kX11_tell)
def kX11_forget : List ab_I := [(0, .aload_n 0, 1, 0, 0, []),
  (1, .getfield 254, 3, 11, 61, [1330]),
  (4, .istore_n 1, 1, 0, 0, []),
  (5, .aload_n 0, 1, 0, 0, []),
  (6, .iconst 0, 1, 0, 0, []),
  (7, .putfield 254, 3, 11, 61, [1330]),
  (10, .iload_n 1, 1, 0, 0, []),
  (11, .ireturn, 1, 0, 0, [])]
def mX11_forget : ab_M := (yX11_forget, cX11_forget, 2, (some (FieldType.int)), 0, 0, 1, kX11_forget)
def kX11_whoseBits : List ab_I := [(0, .aload_n 0, 1, 0, 0, []),
  (1, .invokevirtual 378, 3, 226, 11, [1605, 0]),
  (4, .aload_n 0, 1, 0, 0, []),
  (5, .invokevirtual 372, 3, 243, 11, [1734, 0]),
  (8, .iconst 0, 1, 0, 0, []),
  (9, .istore_n 2, 1, 0, 0, []),
  (10, .iconst 0, 1, 0, 0, []),
  (11, .istore_n 3, 1, 0, 0, []),
  (12, .iload_n 3, 1, 0, 0, []),
  (13, .aload_n 0, 1, 0, 0, []),
  (14, .getfield 58, 3, 11, 27, [1296, 1]),
  (17, .aload_n 0, 1, 0, 0, []),
  (18, .getfield 230, 3, 11, 18, [1287]),
  (21, .iaload, 1, 0, 0, []),
  (22, .if_icmp .ge 68, 3, 90, 0, []),
  (25, .iconst 1, 1, 0, 0, []),
  (26, .istore 4, 2, 0, 0, []),
  (28, .iconst 0, 1, 0, 0, []),
  (29, .istore 5, 2, 0, 0, []),
  (31, .iload 5, 2, 0, 0, []),
  (33, .iload_n 1, 1, 0, 0, []),
  (34, .if_icmp .ge 39, 3, 73, 0, []),
  (37, .aload_n 0, 1, 0, 0, []),
  (38, .getfield 131, 3, 11, 56, [1325, 1]),
  (41, .bipush 6, 2, 0, 0, []),
  (43, .aload_n 0, 1, 0, 0, []),
  (44, .getfield 137, 3, 11, 62, [1331, 1]),
  (47, .iload 5, 2, 0, 0, []),
  (49, .iaload, 1, 0, 0, []),
  (50, .imul, 1, 0, 0, []),
  (51, .iload_n 3, 1, 0, 0, []),
  (52, .iadd, 1, 0, 0, []),
  (53, .baload, 1, 0, 0, []),
  (54, .aload_n 0, 1, 0, 0, []),
  (55, .getfield 140, 3, 11, 63, [1332, 1]),
  (58, .iload 5, 2, 0, 0, []),
  (60, .baload, 1, 0, 0, []),
  (61, .if_icmp .eq 6, 3, 67, 0, []),
  (64, .iconst 0, 1, 0, 0, []),
  (65, .istore 4, 2, 0, 0, []),
  (67, .iinc 5 1, 3, 0, 0, []),
  (70, .goto (-39), 3, 31, 0, []),
  (73, .iload 4, 2, 0, 0, []),
  (75, .ifCond .eq 9, 3, 84, 0, []),
  (78, .iload_n 2, 1, 0, 0, []),
  (79, .iconst 1, 1, 0, 0, []),
  (80, .iload_n 3, 1, 0, 0, []),
  (81, .ishl, 1, 0, 0, []),
  (82, .ior, 1, 0, 0, []),
  (83, .istore_n 2, 1, 0, 0, []),
  (84, .iinc 3 1, 3, 0, 0, []),
  (87, .goto (-75), 3, 12, 0, []),
  (90, .iload_n 2, 1, 0, 0, []),
  (91, .ireturn, 1, 0, 0, [])]
def mX11_whoseBits : ab_M := (yX11_whoseBits, cX11_whoseBits, 6, (some (FieldType.int)), 0, 0, 1, kX11_whoseBits)
def kX11_bits : List ab_I := [(0, .iconst 0, 1, 0, 0, []),
  (1, .istore_n 1, 1, 0, 0, []),
  (2, .iconst 0, 1, 0, 0, []),
  (3, .istore_n 2, 1, 0, 0, []),
  (4, .iload_n 2, 1, 0, 0, []),
  (5, .bipush 6, 2, 0, 0, []),
  (7, .if_icmp .ge 17, 3, 24, 0, []),
  (10, .iload_n 1, 1, 0, 0, []),
  (11, .iload_n 0, 1, 0, 0, []),
  (12, .iload_n 2, 1, 0, 0, []),
  (13, .ishr, 1, 0, 0, []),
  (14, .iconst 1, 1, 0, 0, []),
  (15, .iand, 1, 0, 0, []),
  (16, .iadd, 1, 0, 0, []),
  (17, .istore_n 1, 1, 0, 0, []),
  (18, .iinc 2 1, 3, 0, 0, []),
  (21, .goto (-17), 3, 4, 0, []),
  (24, .iload_n 1, 1, 0, 0, []),
  (25, .ireturn, 1, 0, 0, [])]
def mX11_bits : ab_M := (yX11_bits, cX11_bits, 3, (some (FieldType.int)), 0, 0, 0, kX11_bits)
def kX11_whose : List ab_I := [(0, .iload_n 1, 1, 0, 0, []),
  (1, .iconst 0, 1, 0, 0, []),
  (2, .aload_n 0, 1, 0, 0, []),
  (3, .getfield 254, 3, 11, 61, [1330]),
  (6, .invokestatic 316, 3, 219, 0, [1602, 3]),
  (9, .ifCond .eq 12, 3, 21, 0, []),
  (12, .iload_n 2, 1, 0, 0, []),
  (13, .iconst 0, 1, 0, 0, []),
  (14, .iconst 1, 1, 0, 0, []),
  (15, .invokestatic 316, 3, 219, 0, [1602, 3]),
  (18, .ifCond .ne 5, 3, 23, 0, []),
  (21, .iconst (-1), 1, 0, 0, []),
  (22, .ireturn, 1, 0, 0, []),
  (23, .aload_n 0, 1, 0, 0, []),
  (24, .iload_n 1, 1, 0, 0, []),
  (25, .invokevirtual 451, 3, 290, 11, [1875, 1]),
  (28, .istore_n 3, 1, 0, 0, []),
  (29, .iload_n 2, 1, 0, 0, []),
  (30, .ifCond .ne 10, 3, 40, 0, []),
  (33, .iload_n 3, 1, 0, 0, []),
  (34, .invokestatic 454, 3, 291, 0, [1879, 1]),
  (37, .goto 4, 3, 41, 0, []),
  (40, .iload_n 3, 1, 0, 0, []),
  (41, .ireturn, 1, 0, 0, [])]
def mX11_whose : ab_M := (yX11_whose, cX11_whose, 4, (some (FieldType.int)), 0, 0, 1, kX11_whose)
def kX11_ask : List ab_I := [(0, .iload_n 1, 1, 0, 0, []),
  (1, .iconst 0, 1, 0, 0, []),
  (2, .aload_n 0, 1, 0, 0, []),
  (3, .getfield 254, 3, 11, 61, [1330]),
  (6, .invokestatic 316, 3, 219, 0, [1602, 3]),
  (9, .ifCond .ne 5, 3, 14, 0, []),
  (12, .iconst (-1), 1, 0, 0, []),
  (13, .ireturn, 1, 0, 0, []),
  (14, .aload_n 0, 1, 0, 0, []),
  (15, .iload_n 1, 1, 0, 0, []),
  (16, .invokevirtual 451, 3, 290, 11, [1875, 1]),
  (19, .istore_n 2, 1, 0, 0, []),
  (20, .bipush (-2), 2, 0, 0, []),
  (22, .istore_n 3, 1, 0, 0, []),
  (23, .iconst 0, 1, 0, 0, []),
  (24, .istore 4, 2, 0, 0, []),
  (26, .iconst 0, 1, 0, 0, []),
  (27, .istore 5, 2, 0, 0, []),
  (29, .iload 5, 2, 0, 0, []),
  (31, .aload_n 0, 1, 0, 0, []),
  (32, .getfield 67, 3, 11, 30, [1299, 1]),
  (35, .aload_n 0, 1, 0, 0, []),
  (36, .getfield 230, 3, 11, 18, [1287]),
  (39, .iaload, 1, 0, 0, []),
  (40, .if_icmp .ge 115, 3, 155, 0, []),
  (43, .iload_n 2, 1, 0, 0, []),
  (44, .ifCond .eq 111, 3, 155, 0, []),
  (47, .iconst 0, 1, 0, 0, []),
  (48, .istore 6, 2, 0, 0, []),
  (50, .iconst 0, 1, 0, 0, []),
  (51, .istore 7, 2, 0, 0, []),
  (53, .iload 7, 2, 0, 0, []),
  (55, .aload_n 0, 1, 0, 0, []),
  (56, .getfield 58, 3, 11, 27, [1296, 1]),
  (59, .aload_n 0, 1, 0, 0, []),
  (60, .getfield 230, 3, 11, 18, [1287]),
  (63, .iaload, 1, 0, 0, []),
  (64, .if_icmp .ge 38, 3, 102, 0, []),
  (67, .iload_n 2, 1, 0, 0, []),
  (68, .iload 7, 2, 0, 0, []),
  (70, .ishr, 1, 0, 0, []),
  (71, .iconst 1, 1, 0, 0, []),
  (72, .iand, 1, 0, 0, []),
  (73, .iconst 1, 1, 0, 0, []),
  (74, .if_icmp .ne 22, 3, 96, 0, []),
  (77, .aload_n 0, 1, 0, 0, []),
  (78, .getfield 131, 3, 11, 56, [1325, 1]),
  (81, .bipush 6, 2, 0, 0, []),
  (83, .iload 5, 2, 0, 0, []),
  (85, .imul, 1, 0, 0, []),
  (86, .iload 7, 2, 0, 0, []),
  (88, .iadd, 1, 0, 0, []),
  (89, .baload, 1, 0, 0, []),
  (90, .ifCond .eq 6, 3, 96, 0, []),
  (93, .iinc 6 1, 3, 0, 0, []),
  (96, .iinc 7 1, 3, 0, 0, []),
  (99, .goto (-46), 3, 53, 0, []),
  (102, .iload 6, 2, 0, 0, []),
  (104, .iload_n 2, 1, 0, 0, []),
  (105, .invokestatic 454, 3, 291, 0, [1879, 1]),
  (108, .iload 6, 2, 0, 0, []),
  (110, .isub, 1, 0, 0, []),
  (111, .if_icmp .le 8, 3, 119, 0, []),
  (114, .iload 6, 2, 0, 0, []),
  (116, .goto 10, 3, 126, 0, []),
  (119, .iload_n 2, 1, 0, 0, []),
  (120, .invokestatic 454, 3, 291, 0, [1879, 1]),
  (123, .iload 6, 2, 0, 0, []),
  (125, .isub, 1, 0, 0, []),
  (126, .istore 7, 2, 0, 0, []),
  (128, .iload_n 3, 1, 0, 0, []),
  (129, .ifCond .lt 13, 3, 142, 0, []),
  (132, .iload 7, 2, 0, 0, []),
  (134, .iload 4, 2, 0, 0, []),
  (136, .if_icmp .lt 6, 3, 142, 0, []),
  (139, .goto 10, 3, 149, 0, []),
  (142, .iload 5, 2, 0, 0, []),
  (144, .istore_n 3, 1, 0, 0, []),
  (145, .iload 7, 2, 0, 0, []),
  (147, .istore 4, 2, 0, 0, []),
  (149, .iinc 5 1, 3, 0, 0, []),
  (152, .goto (-123), 3, 29, 0, []),
  (155, .iload_n 3, 1, 0, 0, []),
  (156, .ireturn, 1, 0, 0, [])]
def mX11_ask : ab_M := (yX11_ask, cX11_ask, 8, (some (FieldType.int)), 0, 0, 1, kX11_ask)
def kX11_hold : List ab_I := [(0, .iload_n 1, 1, 0, 0, []),
  (1, .iconst 0, 1, 0, 0, []),
  (2, .iconst 2, 1, 0, 0, []),
  (3, .invokestatic 316, 3, 219, 0, [1602, 3]),
  (6, .ifCond .ne 5, 3, 11, 0, []),
  (9, .iconst 0, 1, 0, 0, []),
  (10, .ireturn, 1, 0, 0, []),
  (11, .aload_n 0, 1, 0, 0, []),
  (12, .getfield 143, 3, 11, 64, [1333, 1]),
  (15, .iload_n 1, 1, 0, 0, []),
  (16, .iconst 1, 1, 0, 0, []),
  (17, .bastore, 1, 0, 0, []),
  (18, .iconst 0, 1, 0, 0, []),
  (19, .istore_n 2, 1, 0, 0, []),
  (20, .iload_n 2, 1, 0, 0, []),
  (21, .bipush 49, 2, 0, 0, []),
  (23, .if_icmp .ge 26, 3, 49, 0, []),
  (26, .aload_n 0, 1, 0, 0, []),
  (27, .getfield 146, 3, 11, 65, [1334, 1]),
  (30, .bipush 49, 2, 0, 0, []),
  (32, .iload_n 1, 1, 0, 0, []),
  (33, .imul, 1, 0, 0, []),
  (34, .iload_n 2, 1, 0, 0, []),
  (35, .iadd, 1, 0, 0, []),
  (36, .aload_n 0, 1, 0, 0, []),
  (37, .getfield 122, 3, 11, 52, [1321, 1]),
  (40, .iload_n 2, 1, 0, 0, []),
  (41, .iaload, 1, 0, 0, []),
  (42, .iastore, 1, 0, 0, []),
  (43, .iinc 2 1, 3, 0, 0, []),
  (46, .goto (-26), 3, 20, 0, []),
  (49, .iconst 1, 1, 0, 0, []),
  (50, .ireturn, 1, 0, 0, [])]
def mX11_hold : ab_M := (yX11_hold, cX11_hold, 3, (some (FieldType.boolean)), 0, 0, 1, kX11_hold)
def kX11_restore : List ab_I := [(0, .iload_n 1, 1, 0, 0, []),
  (1, .iconst 0, 1, 0, 0, []),
  (2, .iconst 2, 1, 0, 0, []),
  (3, .invokestatic 316, 3, 219, 0, [1602, 3]),
  (6, .ifCond .eq 12, 3, 18, 0, []),
  (9, .aload_n 0, 1, 0, 0, []),
  (10, .getfield 143, 3, 11, 64, [1333, 1]),
  (13, .iload_n 1, 1, 0, 0, []),
  (14, .baload, 1, 0, 0, []),
  (15, .ifCond .ne 5, 3, 20, 0, []),
  (18, .iconst 0, 1, 0, 0, []),
  (19, .ireturn, 1, 0, 0, []),
  (20, .iconst 0, 1, 0, 0, []),
  (21, .istore_n 2, 1, 0, 0, []),
  (22, .iload_n 2, 1, 0, 0, []),
  (23, .bipush 49, 2, 0, 0, []),
  (25, .if_icmp .ge 26, 3, 51, 0, []),
  (28, .aload_n 0, 1, 0, 0, []),
  (29, .getfield 122, 3, 11, 52, [1321, 1]),
  (32, .iload_n 2, 1, 0, 0, []),
  (33, .aload_n 0, 1, 0, 0, []),
  (34, .getfield 146, 3, 11, 65, [1334, 1]),
  (37, .bipush 49, 2, 0, 0, []),
  (39, .iload_n 1, 1, 0, 0, []),
  (40, .imul, 1, 0, 0, []),
  (41, .iload_n 2, 1, 0, 0, []),
  (42, .iadd, 1, 0, 0, []),
  (43, .iaload, 1, 0, 0, []),
  (44, .iastore, 1, 0, 0, []),
  (45, .iinc 2 1, 3, 0, 0, []),
  (48, .goto (-26), 3, 22, 0, []),
  (51, .aload_n 0, 1, 0, 0, []),
  (52, .iconst 0, 1, 0, 0, []),
  (53, .putfield 251, 3, 11, 57, [1326]),
  (56, .iconst 1, 1, 0, 0, []),
  (57, .ireturn, 1, 0, 0, [])]
def mX11_restore : ab_M := (yX11_restore, cX11_restore, 3, (some (FieldType.boolean)), 0, 0, 1, kX11_restore)
def kX11_sumNow : List ab_I := [(0, .iconst 0, 1, 0, 0, []),
  (1, .istore_n 2, 1, 0, 0, []),
  (2, .iload_n 1, 1, 0, 0, []),
  (3, .istore_n 3, 1, 0, 0, []),
  (4, .iload_n 3, 1, 0, 0, []),
  (5, .iload_n 1, 1, 0, 0, []),
  (6, .bipush 6, 2, 0, 0, []),
  (8, .iadd, 1, 0, 0, []),
  (9, .if_icmp .ge 18, 3, 27, 0, []),
  (12, .iload_n 2, 1, 0, 0, []),
  (13, .aload_n 0, 1, 0, 0, []),
  (14, .getfield 122, 3, 11, 52, [1321, 1]),
  (17, .iload_n 3, 1, 0, 0, []),
  (18, .iaload, 1, 0, 0, []),
  (19, .iadd, 1, 0, 0, []),
  (20, .istore_n 2, 1, 0, 0, []),
  (21, .iinc 3 1, 3, 0, 0, []),
  (24, .goto (-20), 3, 4, 0, []),
  (27, .iload_n 2, 1, 0, 0, []),
  (28, .ireturn, 1, 0, 0, [])]
def mX11_sumNow : ab_M := (yX11_sumNow, cX11_sumNow, 4, (some (FieldType.int)), 0, 0, 1, kX11_sumNow)
def kX11_count : List ab_I := [(0, .iload_n 1, 1, 0, 0, []),
  (1, .tableswitch 279 0 15 #[79, 89, 99, 109, 119, 127, 134, 141, 149, 157, 164, 169, 174, 179, 224, 230], 79, 280, 0, [80, 90, 100, 110, 120, 128, 135, 142, 150, 158, 165, 170, 175, 180, 225, 231]),
  (80, .aload_n 0, 1, 0, 0, []),
  (81, .getfield 46, 3, 11, 23, [1292, 1]),
  (84, .aload_n 0, 1, 0, 0, []),
  (85, .getfield 230, 3, 11, 18, [1287]),
  (88, .iaload, 1, 0, 0, []),
  (89, .ireturn, 1, 0, 0, []),
  (90, .aload_n 0, 1, 0, 0, []),
  (91, .getfield 52, 3, 11, 25, [1294, 1]),
  (94, .aload_n 0, 1, 0, 0, []),
  (95, .getfield 230, 3, 11, 18, [1287]),
  (98, .iaload, 1, 0, 0, []),
  (99, .ireturn, 1, 0, 0, []),
  (100, .aload_n 0, 1, 0, 0, []),
  (101, .getfield 58, 3, 11, 27, [1296, 1]),
  (104, .aload_n 0, 1, 0, 0, []),
  (105, .getfield 230, 3, 11, 18, [1287]),
  (108, .iaload, 1, 0, 0, []),
  (109, .ireturn, 1, 0, 0, []),
  (110, .aload_n 0, 1, 0, 0, []),
  (111, .getfield 67, 3, 11, 30, [1299, 1]),
  (114, .aload_n 0, 1, 0, 0, []),
  (115, .getfield 230, 3, 11, 18, [1287]),
  (118, .iaload, 1, 0, 0, []),
  (119, .ireturn, 1, 0, 0, []),
  (120, .aload_n 0, 1, 0, 0, []),
  (121, .getfield 122, 3, 11, 52, [1321, 1]),
  (124, .bipush 46, 2, 0, 0, []),
  (126, .iaload, 1, 0, 0, []),
  (127, .ireturn, 1, 0, 0, []),
  (128, .aload_n 0, 1, 0, 0, []),
  (129, .bipush 18, 2, 0, 0, []),
  (131, .invokevirtual 457, 3, 296, 11, [1898, 1]),
  (134, .ireturn, 1, 0, 0, []),
  (135, .aload_n 0, 1, 0, 0, []),
  (136, .bipush 24, 2, 0, 0, []),
  (138, .invokevirtual 457, 3, 296, 11, [1898, 1]),
  (141, .ireturn, 1, 0, 0, []),
  (142, .aload_n 0, 1, 0, 0, []),
  (143, .getfield 122, 3, 11, 52, [1321, 1]),
  (146, .bipush 47, 2, 0, 0, []),
  (148, .iaload, 1, 0, 0, []),
  (149, .ireturn, 1, 0, 0, []),
  (150, .aload_n 0, 1, 0, 0, []),
  (151, .getfield 122, 3, 11, 52, [1321, 1]),
  (154, .bipush 48, 2, 0, 0, []),
  (156, .iaload, 1, 0, 0, []),
  (157, .ireturn, 1, 0, 0, []),
  (158, .aload_n 0, 1, 0, 0, []),
  (159, .bipush 30, 2, 0, 0, []),
  (161, .invokevirtual 457, 3, 296, 11, [1898, 1]),
  (164, .ireturn, 1, 0, 0, []),
  (165, .aload_n 0, 1, 0, 0, []),
  (166, .getfield 163, 3, 11, 2, [1271]),
  (169, .ireturn, 1, 0, 0, []),
  (170, .aload_n 0, 1, 0, 0, []),
  (171, .getfield 251, 3, 11, 57, [1326]),
  (174, .ireturn, 1, 0, 0, []),
  (175, .aload_n 0, 1, 0, 0, []),
  (176, .getfield 254, 3, 11, 61, [1330]),
  (179, .ireturn, 1, 0, 0, []),
  (180, .aload_n 0, 1, 0, 0, []),
  (181, .getfield 143, 3, 11, 64, [1333, 1]),
  (184, .iconst 0, 1, 0, 0, []),
  (185, .baload, 1, 0, 0, []),
  (186, .ifCond .eq 7, 3, 193, 0, []),
  (189, .iconst 1, 1, 0, 0, []),
  (190, .goto 4, 3, 194, 0, []),
  (193, .iconst 0, 1, 0, 0, []),
  (194, .aload_n 0, 1, 0, 0, []),
  (195, .getfield 143, 3, 11, 64, [1333, 1]),
  (198, .iconst 1, 1, 0, 0, []),
  (199, .baload, 1, 0, 0, []),
  (200, .ifCond .eq 7, 3, 207, 0, []),
  (203, .iconst 1, 1, 0, 0, []),
  (204, .goto 4, 3, 208, 0, []),
  (207, .iconst 0, 1, 0, 0, []),
  (208, .iadd, 1, 0, 0, []),
  (209, .aload_n 0, 1, 0, 0, []),
  (210, .getfield 143, 3, 11, 64, [1333, 1]),
  (213, .iconst 2, 1, 0, 0, []),
  (214, .baload, 1, 0, 0, []),
  (215, .ifCond .eq 7, 3, 222, 0, []),
  (218, .iconst 1, 1, 0, 0, []),
  (219, .goto 4, 3, 223, 0, []),
  (222, .iconst 0, 1, 0, 0, []),
  (223, .iadd, 1, 0, 0, []),
  (224, .ireturn, 1, 0, 0, []),
  (225, .aload_n 0, 1, 0, 0, []),
  (226, .iconst 0, 1, 0, 0, []),
  (227, .invokevirtual 457, 3, 296, 11, [1898, 1]),
  (230, .ireturn, 1, 0, 0, []),
  (231, .iconst 0, 1, 0, 0, []),
  (232, .istore_n 2, 1, 0, 0, []),
  (233, .iconst 0, 1, 0, 0, []),
  (234, .istore_n 3, 1, 0, 0, []),
  (235, .iload_n 3, 1, 0, 0, []),
  (236, .aload_n 0, 1, 0, 0, []),
  (237, .getfield 58, 3, 11, 27, [1296, 1]),
  (240, .aload_n 0, 1, 0, 0, []),
  (241, .getfield 230, 3, 11, 18, [1287]),
  (244, .iaload, 1, 0, 0, []),
  (245, .if_icmp .ge 33, 3, 278, 0, []),
  (248, .aload_n 0, 1, 0, 0, []),
  (249, .getfield 64, 3, 11, 29, [1298, 1]),
  (252, .bipush 6, 2, 0, 0, []),
  (254, .aload_n 0, 1, 0, 0, []),
  (255, .getfield 230, 3, 11, 18, [1287]),
  (258, .imul, 1, 0, 0, []),
  (259, .iload_n 3, 1, 0, 0, []),
  (260, .iadd, 1, 0, 0, []),
  (261, .iaload, 1, 0, 0, []),
  (262, .iconst 1, 1, 0, 0, []),
  (263, .if_icmp .ne 9, 3, 272, 0, []),
  (266, .iload_n 2, 1, 0, 0, []),
  (267, .iconst 1, 1, 0, 0, []),
  (268, .iload_n 3, 1, 0, 0, []),
  (269, .ishl, 1, 0, 0, []),
  (270, .ior, 1, 0, 0, []),
  (271, .istore_n 2, 1, 0, 0, []),
  (272, .iinc 3 1, 3, 0, 0, []),
  (275, .goto (-40), 3, 235, 0, []),
  (278, .iload_n 2, 1, 0, 0, []),
  (279, .ireturn, 1, 0, 0, []),
  (280, .iconst (-1), 1, 0, 0, []),
  (281, .ireturn, 1, 0, 0, [])]
def mX11_count : ab_M := (yX11_count, cX11_count, 4, (some (FieldType.int)), 0, 0, 1, kX11_count)
def kJ6_bitCount_0f7a4 : List ab_I := [(0, .iload_n 0, 1, 0, 0, []),
  (1, .iload_n 0, 1, 0, 0, []),
  (2, .iconst 1, 1, 0, 0, []),
  (3, .iushr, 1, 0, 0, []),
  (4, .ldc_w 265, 3, 1431655765, 0, [810]),
  (7, .iand, 1, 0, 0, []),
  (8, .isub, 1, 0, 0, []),
  (9, .istore_n 0, 1, 0, 0, []),
  (10, .iload_n 0, 1, 0, 0, []),
  (11, .ldc_w 266, 3, 858993459, 0, [811]),
  (14, .iand, 1, 0, 0, []),
  (15, .iload_n 0, 1, 0, 0, []),
  (16, .iconst 2, 1, 0, 0, []),
  (17, .iushr, 1, 0, 0, []),
  (18, .ldc_w 266, 3, 858993459, 0, [811]),
  (21, .iand, 1, 0, 0, []),
  (22, .iadd, 1, 0, 0, []),
  (23, .istore_n 0, 1, 0, 0, []),
  (24, .iload_n 0, 1, 0, 0, []),
  (25, .iload_n 0, 1, 0, 0, []),
  (26, .iconst 4, 1, 0, 0, []),
  (27, .iushr, 1, 0, 0, []),
  (28, .iadd, 1, 0, 0, []),
  (29, .ldc_w 267, 3, 252645135, 0, [812]),
  (32, .iand, 1, 0, 0, []),
  (33, .istore_n 0, 1, 0, 0, []),
  (34, .iload_n 0, 1, 0, 0, []),
  (35, .iload_n 0, 1, 0, 0, []),
  (36, .bipush 8, 2, 0, 0, []),
  (38, .iushr, 1, 0, 0, []),
  (39, .iadd, 1, 0, 0, []),
  (40, .istore_n 0, 1, 0, 0, []),
  (41, .iload_n 0, 1, 0, 0, []),
  (42, .iload_n 0, 1, 0, 0, []),
  (43, .bipush 16, 2, 0, 0, []),
  (45, .iushr, 1, 0, 0, []),
  (46, .iadd, 1, 0, 0, []),
  (47, .istore_n 0, 1, 0, 0, []),
  (48, .iload_n 0, 1, 0, 0, []),
  (49, .bipush 63, 2, 0, 0, []),
  (51, .iand, 1, 0, 0, []),
  (52, .ireturn, 1, 0, 0, [])]
def mJ6_bitCount_0f7a4 : ab_M := (yJ6_bitCount_0f7a4, cJ6_bitCount_0f7a4, 1, (some (FieldType.int)), 0, 0, 0, kJ6_bitCount_0f7a4)
def kJ9_max_7cf53 : List ab_I := [(0, .iload_n 0, 1, 0, 0, []),
  (1, .iload_n 1, 1, 0, 0, []),
  (2, .if_icmp .lt 7, 3, 9, 0, []),
  (5, .iload_n 0, 1, 0, 0, []),
  (6, .goto 4, 3, 10, 0, []),
  (9, .iload_n 1, 1, 0, 0, []),
  (10, .ireturn, 1, 0, 0, [])]
def mJ9_max_7cf53 : ab_M := (yJ9_max_7cf53, cJ9_max_7cf53, 2, (some (FieldType.int)), 0, 0, 0, kJ9_max_7cf53)
def kJ9_max_f86c9 : List ab_I := [(0, .lload_n 0, 1, 0, 0, []),
  (1, .lload_n 2, 1, 0, 0, []),
  (2, .lcmp, 1, 0, 0, []),
  (3, .ifCond .lt 7, 3, 10, 0, []),
  (6, .lload_n 0, 1, 0, 0, []),
  (7, .goto 4, 3, 11, 0, []),
  (10, .lload_n 2, 1, 0, 0, []),
  (11, .lreturn, 1, 0, 0, [])]
def mJ9_max_f86c9 : ab_M := (yJ9_max_f86c9, cJ9_max_f86c9, 4, (some (FieldType.long)), 0, 0, 0, kJ9_max_f86c9)
def kJ9_min_7cf53 : List ab_I := [(0, .iload_n 0, 1, 0, 0, []),
  (1, .iload_n 1, 1, 0, 0, []),
  (2, .if_icmp .gt 7, 3, 9, 0, []),
  (5, .iload_n 0, 1, 0, 0, []),
  (6, .goto 4, 3, 10, 0, []),
  (9, .iload_n 1, 1, 0, 0, []),
  (10, .ireturn, 1, 0, 0, [])]
def mJ9_min_7cf53 : ab_M := (yJ9_min_7cf53, cJ9_min_7cf53, 2, (some (FieldType.int)), 0, 0, 0, kJ9_min_7cf53)
def kJ0_length_8abf5 : List ab_I := [(0, .aload_n 0, 1, 0, 0, []),
  (1, .getfield 9, 3, 90, 0, [1902, 1]),
  (4, .arraylength, 1, 0, 0, []),
  (5, .aload_n 0, 1, 0, 0, []),
  (6, .invokevirtual 335, 3, 306, 90, [258, 0]),
  (9, .ishr, 1, 0, 0, []),
  (10, .ireturn, 1, 0, 0, [])]
def mJ0_length_8abf5 : ab_M := (yJ0_length_8abf5, cJ0_length_8abf5, 1, (some (FieldType.int)), 0, 0, 1, kJ0_length_8abf5)
def kJ0_charAt_5068e : List ab_I := [(0, .aload_n 0, 1, 0, 0, []),
  (1, .invokevirtual 492, 3, 307, 90, [268, 0]),
  (4, .ifCond .eq 12, 3, 16, 0, []),
  (7, .aload_n 0, 1, 0, 0, []),
  (8, .getfield 9, 3, 90, 0, [1902, 1]),
  (11, .iload_n 1, 1, 0, 0, []),
  (12, .invokestatic 495, 3, 309, 0, [272, 2]),
  (15, .ireturn, 1, 0, 0, []),
  (16, .aload_n 0, 1, 0, 0, []),
  (17, .getfield 9, 3, 90, 0, [1902, 1]),
  (20, .iload_n 1, 1, 0, 0, []),
  (24, .ireturn, 1, 0, 0, [])]
def mJ0_charAt_5068e : ab_M := (yJ0_charAt_5068e, cJ0_charAt_5068e, 2, (some (FieldType.char)), 0, 0, 1, kJ0_charAt_5068e)
def kJ0_indexOf_0f7a4 : List ab_I := [(0, .aload_n 0, 1, 0, 0, []),
  (1, .iload_n 1, 1, 0, 0, []),
  (2, .iconst 0, 1, 0, 0, []),
  (3, .invokevirtual 633, 3, 305, 90, [591, 2]),
  (6, .ireturn, 1, 0, 0, [])]
def mJ0_indexOf_0f7a4 : ab_M := (yJ0_indexOf_0f7a4, cJ0_indexOf_0f7a4, 2, (some (FieldType.int)), 0, 0, 1, kJ0_indexOf_0f7a4)
def kJ0_indexOf_7cf53 : List ab_I := [(0, .aload_n 0, 1, 0, 0, []),
  (1, .invokevirtual 492, 3, 307, 90, [268, 0]),
  (4, .ifCond .eq 19, 3, 23, 0, []),
  (7, .aload_n 0, 1, 0, 0, []),
  (8, .getfield 9, 3, 90, 0, [1902, 1]),
  (11, .iload_n 1, 1, 0, 0, []),
  (12, .iload_n 2, 1, 0, 0, []),
  (13, .aload_n 0, 1, 0, 0, []),
  (14, .invokevirtual 505, 3, 302, 90, [595, 0]),
  (17, .invokestatic 637, 3, 311, 0, [596, 4]),
  (20, .goto 16, 3, 36, 0, []),
  (23, .aload_n 0, 1, 0, 0, []),
  (24, .getfield 9, 3, 90, 0, [1902, 1]),
  (27, .iload_n 1, 1, 0, 0, []),
  (28, .iload_n 2, 1, 0, 0, []),
  (29, .aload_n 0, 1, 0, 0, []),
  (30, .invokevirtual 505, 3, 302, 90, [595, 0]),
  (36, .ireturn, 1, 0, 0, [])]
def mJ0_indexOf_7cf53 : ab_M := (yJ0_indexOf_7cf53, cJ0_indexOf_7cf53, 3, (some (FieldType.int)), 0, 0, 1, kJ0_indexOf_7cf53)
def kJ0_coder_7d493 : List ab_I := [(0, .getstatic 38, 3, 0, 0, [262]),
  (3, .ifCond .eq 10, 3, 13, 0, []),
  (6, .aload_n 0, 1, 0, 0, []),
  (7, .getfield 15, 3, 90, 1, [1903]),
  (10, .goto 4, 3, 14, 0, []),
  (13, .iconst 1, 1, 0, 0, []),
  (14, .ireturn, 1, 0, 0, [])]
def mJ0_coder_7d493 : ab_M := (yJ0_coder_7d493, cJ0_coder_7d493, 1, (some (FieldType.byte)), 0, 0, 1, kJ0_coder_7d493)
def kJ0_isLatin1_aae02 : List ab_I := [(0, .getstatic 38, 3, 0, 0, [262]),
  (3, .ifCond .eq 14, 3, 17, 0, []),
  (6, .aload_n 0, 1, 0, 0, []),
  (7, .getfield 15, 3, 90, 1, [1903]),
  (10, .ifCond .ne 7, 3, 17, 0, []),
  (13, .iconst 1, 1, 0, 0, []),
  (14, .goto 4, 3, 18, 0, []),
  (17, .iconst 0, 1, 0, 0, []),
  (18, .ireturn, 1, 0, 0, [])]
def mJ0_isLatin1_aae02 : ab_M := (yJ0_isLatin1_aae02, cJ0_isLatin1_aae02, 1, (some (FieldType.boolean)), 0, 0, 1, kJ0_isLatin1_aae02)
def kJ0_checkIndex_df160 : List ab_I := [(0, .iload_n 0, 1, 0, 0, []),
  (1, .iload_n 1, 1, 0, 0, []),
  (2, .getstatic 1053, 3, 0, 0, [278, 1]),
  (5, .invokestatic 1059, 3, 313, 0, [280, 3]),
  (8, .pop, 1, 0, 0, []),
  (9, .return_, 1, 0, 0, [])]
def mJ0_checkIndex_df160 : ab_M := (yJ0_checkIndex_df160, cJ0_checkIndex_df160, 2, none, 0, 0, 0, kJ0_checkIndex_df160)
def kJ1_charAt_3b067 : List ab_I := [(0, .iload_n 1, 1, 0, 0, []),
  (1, .aload_n 0, 1, 0, 0, []),
  (2, .arraylength, 1, 0, 0, []),
  (3, .invokestatic 9, 3, 308, 0, [275, 2]),
  (6, .aload_n 0, 1, 0, 0, []),
  (7, .iload_n 1, 1, 0, 0, []),
  (8, .baload, 1, 0, 0, []),
  (9, .sipush 255, 3, 0, 0, []),
  (12, .iand, 1, 0, 0, []),
  (13, .i2c, 1, 0, 0, []),
  (14, .ireturn, 1, 0, 0, [])]
def mJ1_charAt_3b067 : ab_M := (yJ1_charAt_3b067, cJ1_charAt_3b067, 2, (some (FieldType.char)), 0, 0, 0, kJ1_charAt_3b067)
def kJ1_canEncode_9a6ad : List ab_I := [(0, .iload_n 0, 1, 0, 0, []),
  (1, .ifCond .lt 14, 3, 15, 0, []),
  (4, .iload_n 0, 1, 0, 0, []),
  (5, .sipush 255, 3, 0, 0, []),
  (8, .if_icmp .gt 7, 3, 15, 0, []),
  (11, .iconst 1, 1, 0, 0, []),
  (12, .goto 4, 3, 16, 0, []),
  (15, .iconst 0, 1, 0, 0, []),
  (16, .ireturn, 1, 0, 0, [])]
def mJ1_canEncode_9a6ad : ab_M := (yJ1_canEncode_9a6ad, cJ1_canEncode_9a6ad, 1, (some (FieldType.boolean)), 0, 0, 0, kJ1_canEncode_9a6ad)
def kJ1_indexOf_4cfef : List ab_I := [(0, .iload_n 1, 1, 0, 0, []),
  (1, .invokestatic 88, 3, 310, 0, [599, 1]),
  (4, .ifCond .ne 5, 3, 9, 0, []),
  (7, .iconst (-1), 1, 0, 0, []),
  (8, .ireturn, 1, 0, 0, []),
  (9, .iload_n 2, 1, 0, 0, []),
  (10, .iconst 0, 1, 0, 0, []),
  (11, .invokestatic 92, 3, 299, 0, [602, 2]),
  (14, .istore_n 2, 1, 0, 0, []),
  (15, .iload_n 3, 1, 0, 0, []),
  (16, .aload_n 0, 1, 0, 0, []),
  (17, .arraylength, 1, 0, 0, []),
  (18, .invokestatic 38, 3, 301, 0, [605, 2]),
  (21, .istore_n 3, 1, 0, 0, []),
  (22, .iload_n 2, 1, 0, 0, []),
  (23, .iload_n 3, 1, 0, 0, []),
  (24, .if_icmp .lt 5, 3, 29, 0, []),
  (27, .iconst (-1), 1, 0, 0, []),
  (28, .ireturn, 1, 0, 0, []),
  (29, .aload_n 0, 1, 0, 0, []),
  (30, .iload_n 1, 1, 0, 0, []),
  (31, .iload_n 2, 1, 0, 0, []),
  (32, .iload_n 3, 1, 0, 0, []),
  (33, .invokestatic 95, 3, 312, 0, [608, 4]),
  (36, .ireturn, 1, 0, 0, [])]
def mJ1_indexOf_4cfef : ab_M := (yJ1_indexOf_4cfef, cJ1_indexOf_4cfef, 4, (some (FieldType.int)), 0, 0, 0, kJ1_indexOf_4cfef)
def kJ1_indexOfChar_4cfef : List ab_I := [(0, .iload_n 1, 1, 0, 0, []),
  (1, .i2b, 1, 0, 0, []),
  (2, .istore 4, 2, 0, 0, []),
  (4, .iload_n 2, 1, 0, 0, []),
  (5, .istore 5, 2, 0, 0, []),
  (7, .iload 5, 2, 0, 0, []),
  (9, .iload_n 3, 1, 0, 0, []),
  (10, .if_icmp .ge 21, 3, 31, 0, []),
  (13, .aload_n 0, 1, 0, 0, []),
  (14, .iload 5, 2, 0, 0, []),
  (16, .baload, 1, 0, 0, []),
  (17, .iload 4, 2, 0, 0, []),
  (19, .if_icmp .ne 6, 3, 25, 0, []),
  (22, .iload 5, 2, 0, 0, []),
  (24, .ireturn, 1, 0, 0, []),
  (25, .iinc 5 1, 3, 0, 0, []),
  (28, .goto (-21), 3, 7, 0, []),
  (31, .iconst (-1), 1, 0, 0, []),
  (32, .ireturn, 1, 0, 0, [])]
def mJ1_indexOfChar_4cfef : ab_M := (yJ1_indexOfChar_4cfef, cJ1_indexOfChar_4cfef, 6, (some (FieldType.int)), 0, 0, 0, kJ1_indexOfChar_4cfef)
def kJ3_checkIndex_8e157 : List ab_I := [(0, .iload_n 0, 1, 0, 0, []),
  (1, .ifCond .lt 8, 3, 9, 0, []),
  (4, .iload_n 0, 1, 0, 0, []),
  (5, .iload_n 1, 1, 0, 0, []),
  (6, .if_icmp .lt 10, 3, 16, 0, []),
  (9, .aload_n 2, 1, 0, 0, []),
  (10, .iload_n 0, 1, 0, 0, []),
  (11, .iload_n 1, 1, 0, 0, []),
  (15, .athrow, 1, 0, 0, []),
  (16, .iload_n 0, 1, 0, 0, []),
  (17, .ireturn, 1, 0, 0, [])]
def mJ3_checkIndex_8e157 : ab_M := (yJ3_checkIndex_8e157, cJ3_checkIndex_8e157, 3, (some (FieldType.int)), 0, 0, 0, kJ3_checkIndex_8e157)
def kL_law : List ab_I := [(0, .new 7, 3, 10, 9, [117]),
  (3, .dup, 1, 0, 0, []),
  (4, .invokespecial 9, 3, 136, 0, [119, 0]),
  (7, .astore_n 1, 1, 0, 0, []),
  (8, .new 10, 3, 11, 66, [1245]),
  (11, .dup, 1, 0, 0, []),
  (12, .invokespecial 12, 3, 182, 0, [1247, 0]),
  (15, .astore_n 2, 1, 0, 0, []),
  (16, .iconst 0, 1, 0, 0, []),
  (17, .istore_n 3, 1, 0, 0, []),
  (18, .iload_n 3, 1, 0, 0, []),
  (19, .aload_n 0, 1, 0, 0, []),
  (20, .arraylength, 1, 0, 0, []),
  (21, .bipush 6, 2, 0, 0, []),
  (23, .isub, 1, 0, 0, []),
  (24, .if_icmp .gt 1452, 3, 1476, 0, []),
  (27, .aload_n 0, 1, 0, 0, []),
  (28, .iload_n 3, 1, 0, 0, []),
  (29, .iaload, 1, 0, 0, []),
  (30, .bipush 63, 2, 0, 0, []),
  (32, .iand, 1, 0, 0, []),
  (33, .tableswitch 1437 0 39 #[175, 238, 261, 274, 287, 320, 353, 386, 429, 462, 505, 538, 571, 594, 607, 630, 663, 686, 729, 772, 805, 828, 861, 894, 927, 960, 993, 1006, 1029, 1062, 1085, 1128, 1207, 1250, 1299, 1312, 1345, 1368, 1391, 1414], 175, 1470, 0, [208, 271, 294, 307, 320, 353, 386, 419, 462, 495, 538, 571, 604, 627, 640, 663, 696, 719, 762, 805, 838, 861, 894, 927, 960, 993, 1026, 1039, 1062, 1095, 1118, 1161, 1240, 1283, 1332, 1345, 1378, 1401, 1424, 1447]),
  (208, .aload_n 1, 1, 0, 0, []),
  (209, .aload_n 0, 1, 0, 0, []),
  (210, .iload_n 3, 1, 0, 0, []),
  (211, .iconst 1, 1, 0, 0, []),
  (212, .iadd, 1, 0, 0, []),
  (213, .iaload, 1, 0, 0, []),
  (214, .aload_n 0, 1, 0, 0, []),
  (215, .iload_n 3, 1, 0, 0, []),
  (216, .iconst 2, 1, 0, 0, []),
  (217, .iadd, 1, 0, 0, []),
  (218, .iaload, 1, 0, 0, []),
  (219, .aload_n 0, 1, 0, 0, []),
  (220, .iload_n 3, 1, 0, 0, []),
  (221, .iconst 3, 1, 0, 0, []),
  (222, .iadd, 1, 0, 0, []),
  (223, .iaload, 1, 0, 0, []),
  (224, .aload_n 0, 1, 0, 0, []),
  (225, .iload_n 3, 1, 0, 0, []),
  (226, .iconst 4, 1, 0, 0, []),
  (227, .iadd, 1, 0, 0, []),
  (228, .iaload, 1, 0, 0, []),
  (229, .aload_n 0, 1, 0, 0, []),
  (230, .iload_n 3, 1, 0, 0, []),
  (231, .iconst 5, 1, 0, 0, []),
  (232, .iadd, 1, 0, 0, []),
  (233, .iaload, 1, 0, 0, []),
  (234, .invokevirtual 13, 3, 137, 10, [515, 5]),
  (237, .aload_n 2, 1, 0, 0, []),
  (238, .aload_n 0, 1, 0, 0, []),
  (239, .iload_n 3, 1, 0, 0, []),
  (240, .iconst 1, 1, 0, 0, []),
  (241, .iadd, 1, 0, 0, []),
  (242, .iaload, 1, 0, 0, []),
  (243, .aload_n 0, 1, 0, 0, []),
  (244, .iload_n 3, 1, 0, 0, []),
  (245, .iconst 2, 1, 0, 0, []),
  (246, .iadd, 1, 0, 0, []),
  (247, .iaload, 1, 0, 0, []),
  (248, .aload_n 0, 1, 0, 0, []),
  (249, .iload_n 3, 1, 0, 0, []),
  (250, .iconst 3, 1, 0, 0, []),
  (251, .iadd, 1, 0, 0, []),
  (252, .iaload, 1, 0, 0, []),
  (253, .aload_n 0, 1, 0, 0, []),
  (254, .iload_n 3, 1, 0, 0, []),
  (255, .iconst 4, 1, 0, 0, []),
  (256, .iadd, 1, 0, 0, []),
  (257, .iaload, 1, 0, 0, []),
  (258, .aload_n 0, 1, 0, 0, []),
  (259, .iload_n 3, 1, 0, 0, []),
  (260, .iconst 5, 1, 0, 0, []),
  (261, .iadd, 1, 0, 0, []),
  (262, .iaload, 1, 0, 0, []),
  (263, .invokevirtual 17, 3, 183, 11, [1468, 5]),
  (266, .if_icmp .eq 1204, 3, 1470, 0, []),
  (269, .iconst 0, 1, 0, 0, []),
  (270, .ireturn, 1, 0, 0, []),
  (271, .aload_n 1, 1, 0, 0, []),
  (272, .aload_n 0, 1, 0, 0, []),
  (273, .iload_n 3, 1, 0, 0, []),
  (274, .iconst 1, 1, 0, 0, []),
  (275, .iadd, 1, 0, 0, []),
  (276, .iaload, 1, 0, 0, []),
  (277, .invokevirtual 18, 3, 138, 10, [527, 1]),
  (280, .aload_n 2, 1, 0, 0, []),
  (281, .aload_n 0, 1, 0, 0, []),
  (282, .iload_n 3, 1, 0, 0, []),
  (283, .iconst 1, 1, 0, 0, []),
  (284, .iadd, 1, 0, 0, []),
  (285, .iaload, 1, 0, 0, []),
  (286, .invokevirtual 22, 3, 185, 11, [1476, 1]),
  (289, .if_icmp .eq 1181, 3, 1470, 0, []),
  (292, .iconst 0, 1, 0, 0, []),
  (293, .ireturn, 1, 0, 0, []),
  (294, .aload_n 1, 1, 0, 0, []),
  (295, .invokevirtual 23, 3, 139, 10, [536, 0]),
  (298, .aload_n 2, 1, 0, 0, []),
  (299, .invokevirtual 27, 3, 200, 11, [1480, 0]),
  (302, .if_icmp .eq 1168, 3, 1470, 0, []),
  (305, .iconst 0, 1, 0, 0, []),
  (306, .ireturn, 1, 0, 0, []),
  (307, .aload_n 1, 1, 0, 0, []),
  (308, .invokevirtual 28, 3, 141, 10, [789, 0]),
  (311, .aload_n 2, 1, 0, 0, []),
  (312, .invokevirtual 31, 3, 201, 11, [1590, 0]),
  (315, .if_icmp .eq 1155, 3, 1470, 0, []),
  (318, .iconst 0, 1, 0, 0, []),
  (319, .ireturn, 1, 0, 0, []),
  (320, .aload_n 1, 1, 0, 0, []),
  (321, .aload_n 0, 1, 0, 0, []),
  (322, .iload_n 3, 1, 0, 0, []),
  (323, .iconst 1, 1, 0, 0, []),
  (324, .iadd, 1, 0, 0, []),
  (325, .iaload, 1, 0, 0, []),
  (326, .aload_n 0, 1, 0, 0, []),
  (327, .iload_n 3, 1, 0, 0, []),
  (328, .iconst 2, 1, 0, 0, []),
  (329, .iadd, 1, 0, 0, []),
  (330, .iaload, 1, 0, 0, []),
  (331, .invokevirtual 32, 3, 142, 10, [797, 2]),
  (334, .aload_n 2, 1, 0, 0, []),
  (335, .aload_n 0, 1, 0, 0, []),
  (336, .iload_n 3, 1, 0, 0, []),
  (337, .iconst 1, 1, 0, 0, []),
  (338, .iadd, 1, 0, 0, []),
  (339, .iaload, 1, 0, 0, []),
  (340, .aload_n 0, 1, 0, 0, []),
  (341, .iload_n 3, 1, 0, 0, []),
  (342, .iconst 2, 1, 0, 0, []),
  (343, .iadd, 1, 0, 0, []),
  (344, .iaload, 1, 0, 0, []),
  (345, .invokevirtual 36, 3, 246, 11, [1594, 2]),
  (348, .if_icmp .eq 1122, 3, 1470, 0, []),
  (351, .iconst 0, 1, 0, 0, []),
  (352, .ireturn, 1, 0, 0, []),
  (353, .aload_n 1, 1, 0, 0, []),
  (354, .aload_n 0, 1, 0, 0, []),
  (355, .iload_n 3, 1, 0, 0, []),
  (356, .iconst 1, 1, 0, 0, []),
  (357, .iadd, 1, 0, 0, []),
  (358, .iaload, 1, 0, 0, []),
  (359, .aload_n 0, 1, 0, 0, []),
  (360, .iload_n 3, 1, 0, 0, []),
  (361, .iconst 2, 1, 0, 0, []),
  (362, .iadd, 1, 0, 0, []),
  (363, .iaload, 1, 0, 0, []),
  (364, .invokevirtual 37, 3, 143, 10, [813, 2]),
  (367, .aload_n 2, 1, 0, 0, []),
  (368, .aload_n 0, 1, 0, 0, []),
  (369, .iload_n 3, 1, 0, 0, []),
  (370, .iconst 1, 1, 0, 0, []),
  (371, .iadd, 1, 0, 0, []),
  (372, .iaload, 1, 0, 0, []),
  (373, .aload_n 0, 1, 0, 0, []),
  (374, .iload_n 3, 1, 0, 0, []),
  (375, .iconst 2, 1, 0, 0, []),
  (376, .iadd, 1, 0, 0, []),
  (377, .iaload, 1, 0, 0, []),
  (378, .invokevirtual 40, 3, 247, 11, [1617, 2]),
  (381, .if_icmp .eq 1089, 3, 1470, 0, []),
  (384, .iconst 0, 1, 0, 0, []),
  (385, .ireturn, 1, 0, 0, []),
  (386, .aload_n 1, 1, 0, 0, []),
  (387, .aload_n 0, 1, 0, 0, []),
  (388, .iload_n 3, 1, 0, 0, []),
  (389, .iconst 1, 1, 0, 0, []),
  (390, .iadd, 1, 0, 0, []),
  (391, .iaload, 1, 0, 0, []),
  (392, .aload_n 0, 1, 0, 0, []),
  (393, .iload_n 3, 1, 0, 0, []),
  (394, .iconst 2, 1, 0, 0, []),
  (395, .iadd, 1, 0, 0, []),
  (396, .iaload, 1, 0, 0, []),
  (397, .invokevirtual 41, 3, 144, 10, [825, 2]),
  (400, .aload_n 2, 1, 0, 0, []),
  (401, .aload_n 0, 1, 0, 0, []),
  (402, .iload_n 3, 1, 0, 0, []),
  (403, .iconst 1, 1, 0, 0, []),
  (404, .iadd, 1, 0, 0, []),
  (405, .iaload, 1, 0, 0, []),
  (406, .aload_n 0, 1, 0, 0, []),
  (407, .iload_n 3, 1, 0, 0, []),
  (408, .iconst 2, 1, 0, 0, []),
  (409, .iadd, 1, 0, 0, []),
  (410, .iaload, 1, 0, 0, []),
  (411, .invokevirtual 44, 3, 248, 11, [1625, 2]),
  (414, .if_icmp .eq 1056, 3, 1470, 0, []),
  (417, .iconst 0, 1, 0, 0, []),
  (418, .ireturn, 1, 0, 0, []),
  (419, .aload_n 1, 1, 0, 0, []),
  (420, .aload_n 0, 1, 0, 0, []),
  (421, .iload_n 3, 1, 0, 0, []),
  (422, .iconst 1, 1, 0, 0, []),
  (423, .iadd, 1, 0, 0, []),
  (424, .iaload, 1, 0, 0, []),
  (425, .aload_n 0, 1, 0, 0, []),
  (426, .iload_n 3, 1, 0, 0, []),
  (427, .iconst 2, 1, 0, 0, []),
  (428, .iadd, 1, 0, 0, []),
  (429, .iaload, 1, 0, 0, []),
  (430, .aload_n 0, 1, 0, 0, []),
  (431, .iload_n 3, 1, 0, 0, []),
  (432, .iconst 3, 1, 0, 0, []),
  (433, .iadd, 1, 0, 0, []),
  (434, .iaload, 1, 0, 0, []),
  (435, .invokevirtual 45, 3, 145, 10, [845, 3]),
  (438, .aload_n 2, 1, 0, 0, []),
  (439, .aload_n 0, 1, 0, 0, []),
  (440, .iload_n 3, 1, 0, 0, []),
  (441, .iconst 1, 1, 0, 0, []),
  (442, .iadd, 1, 0, 0, []),
  (443, .iaload, 1, 0, 0, []),
  (444, .aload_n 0, 1, 0, 0, []),
  (445, .iload_n 3, 1, 0, 0, []),
  (446, .iconst 2, 1, 0, 0, []),
  (447, .iadd, 1, 0, 0, []),
  (448, .iaload, 1, 0, 0, []),
  (449, .aload_n 0, 1, 0, 0, []),
  (450, .iload_n 3, 1, 0, 0, []),
  (451, .iconst 3, 1, 0, 0, []),
  (452, .iadd, 1, 0, 0, []),
  (453, .iaload, 1, 0, 0, []),
  (454, .invokevirtual 49, 3, 249, 11, [1633, 3]),
  (457, .if_icmp .eq 1013, 3, 1470, 0, []),
  (460, .iconst 0, 1, 0, 0, []),
  (461, .ireturn, 1, 0, 0, []),
  (462, .aload_n 1, 1, 0, 0, []),
  (463, .aload_n 0, 1, 0, 0, []),
  (464, .iload_n 3, 1, 0, 0, []),
  (465, .iconst 1, 1, 0, 0, []),
  (466, .iadd, 1, 0, 0, []),
  (467, .iaload, 1, 0, 0, []),
  (468, .aload_n 0, 1, 0, 0, []),
  (469, .iload_n 3, 1, 0, 0, []),
  (470, .iconst 2, 1, 0, 0, []),
  (471, .iadd, 1, 0, 0, []),
  (472, .iaload, 1, 0, 0, []),
  (473, .invokevirtual 50, 3, 146, 10, [895, 2]),
  (476, .aload_n 2, 1, 0, 0, []),
  (477, .aload_n 0, 1, 0, 0, []),
  (478, .iload_n 3, 1, 0, 0, []),
  (479, .iconst 1, 1, 0, 0, []),
  (480, .iadd, 1, 0, 0, []),
  (481, .iaload, 1, 0, 0, []),
  (482, .aload_n 0, 1, 0, 0, []),
  (483, .iload_n 3, 1, 0, 0, []),
  (484, .iconst 2, 1, 0, 0, []),
  (485, .iadd, 1, 0, 0, []),
  (486, .iaload, 1, 0, 0, []),
  (487, .invokevirtual 53, 3, 250, 11, [1673, 2]),
  (490, .if_icmp .eq 980, 3, 1470, 0, []),
  (493, .iconst 0, 1, 0, 0, []),
  (494, .ireturn, 1, 0, 0, []),
  (495, .aload_n 1, 1, 0, 0, []),
  (496, .aload_n 0, 1, 0, 0, []),
  (497, .iload_n 3, 1, 0, 0, []),
  (498, .iconst 1, 1, 0, 0, []),
  (499, .iadd, 1, 0, 0, []),
  (500, .iaload, 1, 0, 0, []),
  (501, .aload_n 0, 1, 0, 0, []),
  (502, .iload_n 3, 1, 0, 0, []),
  (503, .iconst 2, 1, 0, 0, []),
  (504, .iadd, 1, 0, 0, []),
  (505, .iaload, 1, 0, 0, []),
  (506, .aload_n 0, 1, 0, 0, []),
  (507, .iload_n 3, 1, 0, 0, []),
  (508, .iconst 3, 1, 0, 0, []),
  (509, .iadd, 1, 0, 0, []),
  (510, .iaload, 1, 0, 0, []),
  (511, .invokevirtual 54, 3, 147, 10, [903, 3]),
  (514, .aload_n 2, 1, 0, 0, []),
  (515, .aload_n 0, 1, 0, 0, []),
  (516, .iload_n 3, 1, 0, 0, []),
  (517, .iconst 1, 1, 0, 0, []),
  (518, .iadd, 1, 0, 0, []),
  (519, .iaload, 1, 0, 0, []),
  (520, .aload_n 0, 1, 0, 0, []),
  (521, .iload_n 3, 1, 0, 0, []),
  (522, .iconst 2, 1, 0, 0, []),
  (523, .iadd, 1, 0, 0, []),
  (524, .iaload, 1, 0, 0, []),
  (525, .aload_n 0, 1, 0, 0, []),
  (526, .iload_n 3, 1, 0, 0, []),
  (527, .iconst 3, 1, 0, 0, []),
  (528, .iadd, 1, 0, 0, []),
  (529, .iaload, 1, 0, 0, []),
  (530, .invokevirtual 57, 3, 254, 11, [1685, 3]),
  (533, .if_icmp .eq 937, 3, 1470, 0, []),
  (536, .iconst 0, 1, 0, 0, []),
  (537, .ireturn, 1, 0, 0, []),
  (538, .aload_n 1, 1, 0, 0, []),
  (539, .aload_n 0, 1, 0, 0, []),
  (540, .iload_n 3, 1, 0, 0, []),
  (541, .iconst 1, 1, 0, 0, []),
  (542, .iadd, 1, 0, 0, []),
  (543, .iaload, 1, 0, 0, []),
  (544, .aload_n 0, 1, 0, 0, []),
  (545, .iload_n 3, 1, 0, 0, []),
  (546, .iconst 2, 1, 0, 0, []),
  (547, .iadd, 1, 0, 0, []),
  (548, .iaload, 1, 0, 0, []),
  (549, .invokevirtual 58, 3, 148, 10, [953, 2]),
  (552, .aload_n 2, 1, 0, 0, []),
  (553, .aload_n 0, 1, 0, 0, []),
  (554, .iload_n 3, 1, 0, 0, []),
  (555, .iconst 1, 1, 0, 0, []),
  (556, .iadd, 1, 0, 0, []),
  (557, .iaload, 1, 0, 0, []),
  (558, .aload_n 0, 1, 0, 0, []),
  (559, .iload_n 3, 1, 0, 0, []),
  (560, .iconst 2, 1, 0, 0, []),
  (561, .iadd, 1, 0, 0, []),
  (562, .iaload, 1, 0, 0, []),
  (563, .invokevirtual 62, 3, 255, 11, [1718, 2]),
  (566, .if_icmp .eq 904, 3, 1470, 0, []),
  (569, .iconst 0, 1, 0, 0, []),
  (570, .ireturn, 1, 0, 0, []),
  (571, .aload_n 1, 1, 0, 0, []),
  (572, .aload_n 0, 1, 0, 0, []),
  (573, .iload_n 3, 1, 0, 0, []),
  (574, .iconst 1, 1, 0, 0, []),
  (575, .iadd, 1, 0, 0, []),
  (576, .iaload, 1, 0, 0, []),
  (577, .aload_n 0, 1, 0, 0, []),
  (578, .iload_n 3, 1, 0, 0, []),
  (579, .iconst 2, 1, 0, 0, []),
  (580, .iadd, 1, 0, 0, []),
  (581, .iaload, 1, 0, 0, []),
  (582, .invokevirtual 63, 3, 149, 10, [961, 2]),
  (585, .aload_n 2, 1, 0, 0, []),
  (586, .aload_n 0, 1, 0, 0, []),
  (587, .iload_n 3, 1, 0, 0, []),
  (588, .iconst 1, 1, 0, 0, []),
  (589, .iadd, 1, 0, 0, []),
  (590, .iaload, 1, 0, 0, []),
  (591, .aload_n 0, 1, 0, 0, []),
  (592, .iload_n 3, 1, 0, 0, []),
  (593, .iconst 2, 1, 0, 0, []),
  (594, .iadd, 1, 0, 0, []),
  (595, .iaload, 1, 0, 0, []),
  (596, .invokevirtual 66, 3, 256, 11, [1722, 2]),
  (599, .if_icmp .eq 871, 3, 1470, 0, []),
  (602, .iconst 0, 1, 0, 0, []),
  (603, .ireturn, 1, 0, 0, []),
  (604, .aload_n 1, 1, 0, 0, []),
  (605, .aload_n 0, 1, 0, 0, []),
  (606, .iload_n 3, 1, 0, 0, []),
  (607, .iconst 1, 1, 0, 0, []),
  (608, .iadd, 1, 0, 0, []),
  (609, .iaload, 1, 0, 0, []),
  (610, .invokevirtual 67, 3, 150, 10, [966, 1]),
  (613, .aload_n 2, 1, 0, 0, []),
  (614, .aload_n 0, 1, 0, 0, []),
  (615, .iload_n 3, 1, 0, 0, []),
  (616, .iconst 1, 1, 0, 0, []),
  (617, .iadd, 1, 0, 0, []),
  (618, .iaload, 1, 0, 0, []),
  (619, .invokevirtual 70, 3, 257, 11, [1726, 1]),
  (622, .if_icmp .eq 848, 3, 1470, 0, []),
  (625, .iconst 0, 1, 0, 0, []),
  (626, .ireturn, 1, 0, 0, []),
  (627, .aload_n 1, 1, 0, 0, []),
  (628, .invokevirtual 71, 3, 151, 10, [987, 0]),
  (631, .aload_n 2, 1, 0, 0, []),
  (632, .invokevirtual 75, 3, 258, 11, [1746, 0]),
  (635, .if_icmp .eq 835, 3, 1470, 0, []),
  (638, .iconst 0, 1, 0, 0, []),
  (639, .ireturn, 1, 0, 0, []),
  (640, .aload_n 1, 1, 0, 0, []),
  (641, .aload_n 0, 1, 0, 0, []),
  (642, .iload_n 3, 1, 0, 0, []),
  (643, .iconst 1, 1, 0, 0, []),
  (644, .iadd, 1, 0, 0, []),
  (645, .iaload, 1, 0, 0, []),
  (646, .invokevirtual 76, 3, 152, 10, [999, 1]),
  (649, .aload_n 2, 1, 0, 0, []),
  (650, .aload_n 0, 1, 0, 0, []),
  (651, .iload_n 3, 1, 0, 0, []),
  (652, .iconst 1, 1, 0, 0, []),
  (653, .iadd, 1, 0, 0, []),
  (654, .iaload, 1, 0, 0, []),
  (655, .invokevirtual 79, 3, 259, 11, [1750, 1]),
  (658, .if_icmp .eq 812, 3, 1470, 0, []),
  (661, .iconst 0, 1, 0, 0, []),
  (662, .ireturn, 1, 0, 0, []),
  (663, .aload_n 1, 1, 0, 0, []),
  (664, .aload_n 0, 1, 0, 0, []),
  (665, .iload_n 3, 1, 0, 0, []),
  (666, .iconst 1, 1, 0, 0, []),
  (667, .iadd, 1, 0, 0, []),
  (668, .iaload, 1, 0, 0, []),
  (669, .aload_n 0, 1, 0, 0, []),
  (670, .iload_n 3, 1, 0, 0, []),
  (671, .iconst 2, 1, 0, 0, []),
  (672, .iadd, 1, 0, 0, []),
  (673, .iaload, 1, 0, 0, []),
  (674, .invokevirtual 80, 3, 153, 10, [1004, 2]),
  (677, .aload_n 2, 1, 0, 0, []),
  (678, .aload_n 0, 1, 0, 0, []),
  (679, .iload_n 3, 1, 0, 0, []),
  (680, .iconst 1, 1, 0, 0, []),
  (681, .iadd, 1, 0, 0, []),
  (682, .iaload, 1, 0, 0, []),
  (683, .aload_n 0, 1, 0, 0, []),
  (684, .iload_n 3, 1, 0, 0, []),
  (685, .iconst 2, 1, 0, 0, []),
  (686, .iadd, 1, 0, 0, []),
  (687, .iaload, 1, 0, 0, []),
  (688, .invokevirtual 83, 3, 261, 11, [1754, 2]),
  (691, .if_icmp .eq 779, 3, 1470, 0, []),
  (694, .iconst 0, 1, 0, 0, []),
  (695, .ireturn, 1, 0, 0, []),
  (696, .aload_n 1, 1, 0, 0, []),
  (697, .aload_n 0, 1, 0, 0, []),
  (698, .iload_n 3, 1, 0, 0, []),
  (699, .iconst 1, 1, 0, 0, []),
  (700, .iadd, 1, 0, 0, []),
  (701, .iaload, 1, 0, 0, []),
  (702, .invokevirtual 84, 3, 154, 10, [1012, 1]),
  (705, .aload_n 2, 1, 0, 0, []),
  (706, .aload_n 0, 1, 0, 0, []),
  (707, .iload_n 3, 1, 0, 0, []),
  (708, .iconst 1, 1, 0, 0, []),
  (709, .iadd, 1, 0, 0, []),
  (710, .iaload, 1, 0, 0, []),
  (711, .invokevirtual 87, 3, 263, 11, [1762, 1]),
  (714, .if_icmp .eq 756, 3, 1470, 0, []),
  (717, .iconst 0, 1, 0, 0, []),
  (718, .ireturn, 1, 0, 0, []),
  (719, .aload_n 1, 1, 0, 0, []),
  (720, .aload_n 0, 1, 0, 0, []),
  (721, .iload_n 3, 1, 0, 0, []),
  (722, .iconst 1, 1, 0, 0, []),
  (723, .iadd, 1, 0, 0, []),
  (724, .iaload, 1, 0, 0, []),
  (725, .aload_n 0, 1, 0, 0, []),
  (726, .iload_n 3, 1, 0, 0, []),
  (727, .iconst 2, 1, 0, 0, []),
  (728, .iadd, 1, 0, 0, []),
  (729, .iaload, 1, 0, 0, []),
  (730, .aload_n 0, 1, 0, 0, []),
  (731, .iload_n 3, 1, 0, 0, []),
  (732, .iconst 3, 1, 0, 0, []),
  (733, .iadd, 1, 0, 0, []),
  (734, .iaload, 1, 0, 0, []),
  (735, .invokevirtual 88, 3, 155, 10, [1021, 3]),
  (738, .aload_n 2, 1, 0, 0, []),
  (739, .aload_n 0, 1, 0, 0, []),
  (740, .iload_n 3, 1, 0, 0, []),
  (741, .iconst 1, 1, 0, 0, []),
  (742, .iadd, 1, 0, 0, []),
  (743, .iaload, 1, 0, 0, []),
  (744, .aload_n 0, 1, 0, 0, []),
  (745, .iload_n 3, 1, 0, 0, []),
  (746, .iconst 2, 1, 0, 0, []),
  (747, .iadd, 1, 0, 0, []),
  (748, .iaload, 1, 0, 0, []),
  (749, .aload_n 0, 1, 0, 0, []),
  (750, .iload_n 3, 1, 0, 0, []),
  (751, .iconst 3, 1, 0, 0, []),
  (752, .iadd, 1, 0, 0, []),
  (753, .iaload, 1, 0, 0, []),
  (754, .invokevirtual 91, 3, 272, 11, [1789, 3]),
  (757, .if_icmp .eq 713, 3, 1470, 0, []),
  (760, .iconst 0, 1, 0, 0, []),
  (761, .ireturn, 1, 0, 0, []),
  (762, .aload_n 1, 1, 0, 0, []),
  (763, .aload_n 0, 1, 0, 0, []),
  (764, .iload_n 3, 1, 0, 0, []),
  (765, .iconst 1, 1, 0, 0, []),
  (766, .iadd, 1, 0, 0, []),
  (767, .iaload, 1, 0, 0, []),
  (768, .aload_n 0, 1, 0, 0, []),
  (769, .iload_n 3, 1, 0, 0, []),
  (770, .iconst 2, 1, 0, 0, []),
  (771, .iadd, 1, 0, 0, []),
  (772, .iaload, 1, 0, 0, []),
  (773, .aload_n 0, 1, 0, 0, []),
  (774, .iload_n 3, 1, 0, 0, []),
  (775, .iconst 3, 1, 0, 0, []),
  (776, .iadd, 1, 0, 0, []),
  (777, .iaload, 1, 0, 0, []),
  (778, .invokevirtual 92, 3, 156, 10, [1055, 3]),
  (781, .aload_n 2, 1, 0, 0, []),
  (782, .aload_n 0, 1, 0, 0, []),
  (783, .iload_n 3, 1, 0, 0, []),
  (784, .iconst 1, 1, 0, 0, []),
  (785, .iadd, 1, 0, 0, []),
  (786, .iaload, 1, 0, 0, []),
  (787, .aload_n 0, 1, 0, 0, []),
  (788, .iload_n 3, 1, 0, 0, []),
  (789, .iconst 2, 1, 0, 0, []),
  (790, .iadd, 1, 0, 0, []),
  (791, .iaload, 1, 0, 0, []),
  (792, .aload_n 0, 1, 0, 0, []),
  (793, .iload_n 3, 1, 0, 0, []),
  (794, .iconst 3, 1, 0, 0, []),
  (795, .iadd, 1, 0, 0, []),
  (796, .iaload, 1, 0, 0, []),
  (797, .invokevirtual 95, 3, 266, 11, [1770, 3]),
  (800, .if_icmp .eq 670, 3, 1470, 0, []),
  (803, .iconst 0, 1, 0, 0, []),
  (804, .ireturn, 1, 0, 0, []),
  (805, .aload_n 1, 1, 0, 0, []),
  (806, .aload_n 0, 1, 0, 0, []),
  (807, .iload_n 3, 1, 0, 0, []),
  (808, .iconst 1, 1, 0, 0, []),
  (809, .iadd, 1, 0, 0, []),
  (810, .iaload, 1, 0, 0, []),
  (811, .aload_n 0, 1, 0, 0, []),
  (812, .iload_n 3, 1, 0, 0, []),
  (813, .iconst 2, 1, 0, 0, []),
  (814, .iadd, 1, 0, 0, []),
  (815, .iaload, 1, 0, 0, []),
  (816, .invokevirtual 96, 3, 157, 10, [1063, 2]),
  (819, .aload_n 2, 1, 0, 0, []),
  (820, .aload_n 0, 1, 0, 0, []),
  (821, .iload_n 3, 1, 0, 0, []),
  (822, .iconst 1, 1, 0, 0, []),
  (823, .iadd, 1, 0, 0, []),
  (824, .iaload, 1, 0, 0, []),
  (825, .aload_n 0, 1, 0, 0, []),
  (826, .iload_n 3, 1, 0, 0, []),
  (827, .iconst 2, 1, 0, 0, []),
  (828, .iadd, 1, 0, 0, []),
  (829, .iaload, 1, 0, 0, []),
  (830, .invokevirtual 99, 3, 267, 11, [1781, 2]),
  (833, .if_icmp .eq 637, 3, 1470, 0, []),
  (836, .iconst 0, 1, 0, 0, []),
  (837, .ireturn, 1, 0, 0, []),
  (838, .aload_n 1, 1, 0, 0, []),
  (839, .aload_n 0, 1, 0, 0, []),
  (840, .iload_n 3, 1, 0, 0, []),
  (841, .iconst 1, 1, 0, 0, []),
  (842, .iadd, 1, 0, 0, []),
  (843, .iaload, 1, 0, 0, []),
  (844, .invokevirtual 100, 3, 158, 10, [1068, 1]),
  (847, .aload_n 2, 1, 0, 0, []),
  (848, .aload_n 0, 1, 0, 0, []),
  (849, .iload_n 3, 1, 0, 0, []),
  (850, .iconst 1, 1, 0, 0, []),
  (851, .iadd, 1, 0, 0, []),
  (852, .iaload, 1, 0, 0, []),
  (853, .invokevirtual 103, 3, 268, 11, [1785, 1]),
  (856, .if_icmp .eq 614, 3, 1470, 0, []),
  (859, .iconst 0, 1, 0, 0, []),
  (860, .ireturn, 1, 0, 0, []),
  (861, .aload_n 1, 1, 0, 0, []),
  (862, .aload_n 0, 1, 0, 0, []),
  (863, .iload_n 3, 1, 0, 0, []),
  (864, .iconst 1, 1, 0, 0, []),
  (865, .iadd, 1, 0, 0, []),
  (866, .iaload, 1, 0, 0, []),
  (867, .aload_n 0, 1, 0, 0, []),
  (868, .iload_n 3, 1, 0, 0, []),
  (869, .iconst 2, 1, 0, 0, []),
  (870, .iadd, 1, 0, 0, []),
  (871, .iaload, 1, 0, 0, []),
  (872, .invokevirtual 104, 3, 159, 10, [1078, 2]),
  (875, .aload_n 2, 1, 0, 0, []),
  (876, .aload_n 0, 1, 0, 0, []),
  (877, .iload_n 3, 1, 0, 0, []),
  (878, .iconst 1, 1, 0, 0, []),
  (879, .iadd, 1, 0, 0, []),
  (880, .iaload, 1, 0, 0, []),
  (881, .aload_n 0, 1, 0, 0, []),
  (882, .iload_n 3, 1, 0, 0, []),
  (883, .iconst 2, 1, 0, 0, []),
  (884, .iadd, 1, 0, 0, []),
  (885, .iaload, 1, 0, 0, []),
  (886, .invokevirtual 107, 3, 274, 11, [1800, 2]),
  (889, .if_icmp .eq 581, 3, 1470, 0, []),
  (892, .iconst 0, 1, 0, 0, []),
  (893, .ireturn, 1, 0, 0, []),
  (894, .aload_n 1, 1, 0, 0, []),
  (895, .aload_n 0, 1, 0, 0, []),
  (896, .iload_n 3, 1, 0, 0, []),
  (897, .iconst 1, 1, 0, 0, []),
  (898, .iadd, 1, 0, 0, []),
  (899, .iaload, 1, 0, 0, []),
  (900, .aload_n 0, 1, 0, 0, []),
  (901, .iload_n 3, 1, 0, 0, []),
  (902, .iconst 2, 1, 0, 0, []),
  (903, .iadd, 1, 0, 0, []),
  (904, .iaload, 1, 0, 0, []),
  (905, .invokevirtual 108, 3, 160, 10, [1096, 2]),
  (908, .aload_n 2, 1, 0, 0, []),
  (909, .aload_n 0, 1, 0, 0, []),
  (910, .iload_n 3, 1, 0, 0, []),
  (911, .iconst 1, 1, 0, 0, []),
  (912, .iadd, 1, 0, 0, []),
  (913, .iaload, 1, 0, 0, []),
  (914, .aload_n 0, 1, 0, 0, []),
  (915, .iload_n 3, 1, 0, 0, []),
  (916, .iconst 2, 1, 0, 0, []),
  (917, .iadd, 1, 0, 0, []),
  (918, .iaload, 1, 0, 0, []),
  (919, .invokevirtual 111, 3, 275, 11, [1808, 2]),
  (922, .if_icmp .eq 548, 3, 1470, 0, []),
  (925, .iconst 0, 1, 0, 0, []),
  (926, .ireturn, 1, 0, 0, []),
  (927, .aload_n 1, 1, 0, 0, []),
  (928, .aload_n 0, 1, 0, 0, []),
  (929, .iload_n 3, 1, 0, 0, []),
  (930, .iconst 1, 1, 0, 0, []),
  (931, .iadd, 1, 0, 0, []),
  (932, .iaload, 1, 0, 0, []),
  (933, .aload_n 0, 1, 0, 0, []),
  (934, .iload_n 3, 1, 0, 0, []),
  (935, .iconst 2, 1, 0, 0, []),
  (936, .iadd, 1, 0, 0, []),
  (937, .iaload, 1, 0, 0, []),
  (938, .invokevirtual 112, 3, 161, 10, [1104, 2]),
  (941, .aload_n 2, 1, 0, 0, []),
  (942, .aload_n 0, 1, 0, 0, []),
  (943, .iload_n 3, 1, 0, 0, []),
  (944, .iconst 1, 1, 0, 0, []),
  (945, .iadd, 1, 0, 0, []),
  (946, .iaload, 1, 0, 0, []),
  (947, .aload_n 0, 1, 0, 0, []),
  (948, .iload_n 3, 1, 0, 0, []),
  (949, .iconst 2, 1, 0, 0, []),
  (950, .iadd, 1, 0, 0, []),
  (951, .iaload, 1, 0, 0, []),
  (952, .invokevirtual 115, 3, 276, 11, [1815, 2]),
  (955, .if_icmp .eq 515, 3, 1470, 0, []),
  (958, .iconst 0, 1, 0, 0, []),
  (959, .ireturn, 1, 0, 0, []),
  (960, .aload_n 1, 1, 0, 0, []),
  (961, .aload_n 0, 1, 0, 0, []),
  (962, .iload_n 3, 1, 0, 0, []),
  (963, .iconst 1, 1, 0, 0, []),
  (964, .iadd, 1, 0, 0, []),
  (965, .iaload, 1, 0, 0, []),
  (966, .aload_n 0, 1, 0, 0, []),
  (967, .iload_n 3, 1, 0, 0, []),
  (968, .iconst 2, 1, 0, 0, []),
  (969, .iadd, 1, 0, 0, []),
  (970, .iaload, 1, 0, 0, []),
  (971, .invokevirtual 116, 3, 162, 10, [1108, 2]),
  (974, .aload_n 2, 1, 0, 0, []),
  (975, .aload_n 0, 1, 0, 0, []),
  (976, .iload_n 3, 1, 0, 0, []),
  (977, .iconst 1, 1, 0, 0, []),
  (978, .iadd, 1, 0, 0, []),
  (979, .iaload, 1, 0, 0, []),
  (980, .aload_n 0, 1, 0, 0, []),
  (981, .iload_n 3, 1, 0, 0, []),
  (982, .iconst 2, 1, 0, 0, []),
  (983, .iadd, 1, 0, 0, []),
  (984, .iaload, 1, 0, 0, []),
  (985, .invokevirtual 119, 3, 277, 11, [1819, 2]),
  (988, .if_icmp .eq 482, 3, 1470, 0, []),
  (991, .iconst 0, 1, 0, 0, []),
  (992, .ireturn, 1, 0, 0, []),
  (993, .aload_n 1, 1, 0, 0, []),
  (994, .aload_n 0, 1, 0, 0, []),
  (995, .iload_n 3, 1, 0, 0, []),
  (996, .iconst 1, 1, 0, 0, []),
  (997, .iadd, 1, 0, 0, []),
  (998, .iaload, 1, 0, 0, []),
  (999, .aload_n 0, 1, 0, 0, []),
  (1000, .iload_n 3, 1, 0, 0, []),
  (1001, .iconst 2, 1, 0, 0, []),
  (1002, .iadd, 1, 0, 0, []),
  (1003, .iaload, 1, 0, 0, []),
  (1004, .invokevirtual 120, 3, 163, 10, [1113, 2]),
  (1007, .aload_n 2, 1, 0, 0, []),
  (1008, .aload_n 0, 1, 0, 0, []),
  (1009, .iload_n 3, 1, 0, 0, []),
  (1010, .iconst 1, 1, 0, 0, []),
  (1011, .iadd, 1, 0, 0, []),
  (1012, .iaload, 1, 0, 0, []),
  (1013, .aload_n 0, 1, 0, 0, []),
  (1014, .iload_n 3, 1, 0, 0, []),
  (1015, .iconst 2, 1, 0, 0, []),
  (1016, .iadd, 1, 0, 0, []),
  (1017, .iaload, 1, 0, 0, []),
  (1018, .invokevirtual 123, 3, 278, 11, [1823, 2]),
  (1021, .if_icmp .eq 449, 3, 1470, 0, []),
  (1024, .iconst 0, 1, 0, 0, []),
  (1025, .ireturn, 1, 0, 0, []),
  (1026, .aload_n 1, 1, 0, 0, []),
  (1027, .invokevirtual 124, 3, 164, 10, [1121, 0]),
  (1030, .aload_n 2, 1, 0, 0, []),
  (1031, .invokevirtual 127, 3, 279, 11, [1827, 0]),
  (1034, .if_icmp .eq 436, 3, 1470, 0, []),
  (1037, .iconst 0, 1, 0, 0, []),
  (1038, .ireturn, 1, 0, 0, []),
  (1039, .aload_n 1, 1, 0, 0, []),
  (1040, .aload_n 0, 1, 0, 0, []),
  (1041, .iload_n 3, 1, 0, 0, []),
  (1042, .iconst 1, 1, 0, 0, []),
  (1043, .iadd, 1, 0, 0, []),
  (1044, .iaload, 1, 0, 0, []),
  (1045, .invokevirtual 128, 3, 165, 10, [1125, 1]),
  (1048, .aload_n 2, 1, 0, 0, []),
  (1049, .aload_n 0, 1, 0, 0, []),
  (1050, .iload_n 3, 1, 0, 0, []),
  (1051, .iconst 1, 1, 0, 0, []),
  (1052, .iadd, 1, 0, 0, []),
  (1053, .iaload, 1, 0, 0, []),
  (1054, .invokevirtual 131, 3, 280, 11, [1831, 1]),
  (1057, .if_icmp .eq 413, 3, 1470, 0, []),
  (1060, .iconst 0, 1, 0, 0, []),
  (1061, .ireturn, 1, 0, 0, []),
  (1062, .aload_n 1, 1, 0, 0, []),
  (1063, .aload_n 0, 1, 0, 0, []),
  (1064, .iload_n 3, 1, 0, 0, []),
  (1065, .iconst 1, 1, 0, 0, []),
  (1066, .iadd, 1, 0, 0, []),
  (1067, .iaload, 1, 0, 0, []),
  (1068, .aload_n 0, 1, 0, 0, []),
  (1069, .iload_n 3, 1, 0, 0, []),
  (1070, .iconst 2, 1, 0, 0, []),
  (1071, .iadd, 1, 0, 0, []),
  (1072, .iaload, 1, 0, 0, []),
  (1073, .invokevirtual 132, 3, 166, 10, [1130, 2]),
  (1076, .aload_n 2, 1, 0, 0, []),
  (1077, .aload_n 0, 1, 0, 0, []),
  (1078, .iload_n 3, 1, 0, 0, []),
  (1079, .iconst 1, 1, 0, 0, []),
  (1080, .iadd, 1, 0, 0, []),
  (1081, .iaload, 1, 0, 0, []),
  (1082, .aload_n 0, 1, 0, 0, []),
  (1083, .iload_n 3, 1, 0, 0, []),
  (1084, .iconst 2, 1, 0, 0, []),
  (1085, .iadd, 1, 0, 0, []),
  (1086, .iaload, 1, 0, 0, []),
  (1087, .invokevirtual 135, 3, 281, 11, [1835, 2]),
  (1090, .if_icmp .eq 380, 3, 1470, 0, []),
  (1093, .iconst 0, 1, 0, 0, []),
  (1094, .ireturn, 1, 0, 0, []),
  (1095, .aload_n 1, 1, 0, 0, []),
  (1096, .aload_n 0, 1, 0, 0, []),
  (1097, .iload_n 3, 1, 0, 0, []),
  (1098, .iconst 1, 1, 0, 0, []),
  (1099, .iadd, 1, 0, 0, []),
  (1100, .iaload, 1, 0, 0, []),
  (1101, .invokevirtual 136, 3, 167, 10, [1134, 1]),
  (1104, .aload_n 2, 1, 0, 0, []),
  (1105, .aload_n 0, 1, 0, 0, []),
  (1106, .iload_n 3, 1, 0, 0, []),
  (1107, .iconst 1, 1, 0, 0, []),
  (1108, .iadd, 1, 0, 0, []),
  (1109, .iaload, 1, 0, 0, []),
  (1110, .invokevirtual 139, 3, 282, 11, [1839, 1]),
  (1113, .if_icmp .eq 357, 3, 1470, 0, []),
  (1116, .iconst 0, 1, 0, 0, []),
  (1117, .ireturn, 1, 0, 0, []),
  (1118, .aload_n 1, 1, 0, 0, []),
  (1119, .aload_n 0, 1, 0, 0, []),
  (1120, .iload_n 3, 1, 0, 0, []),
  (1121, .iconst 1, 1, 0, 0, []),
  (1122, .iadd, 1, 0, 0, []),
  (1123, .iaload, 1, 0, 0, []),
  (1124, .aload_n 0, 1, 0, 0, []),
  (1125, .iload_n 3, 1, 0, 0, []),
  (1126, .iconst 2, 1, 0, 0, []),
  (1127, .iadd, 1, 0, 0, []),
  (1128, .iaload, 1, 0, 0, []),
  (1129, .aload_n 0, 1, 0, 0, []),
  (1130, .iload_n 3, 1, 0, 0, []),
  (1131, .iconst 3, 1, 0, 0, []),
  (1132, .iadd, 1, 0, 0, []),
  (1133, .iaload, 1, 0, 0, []),
  (1134, .invokevirtual 140, 3, 168, 10, [1142, 3]),
  (1137, .aload_n 2, 1, 0, 0, []),
  (1138, .aload_n 0, 1, 0, 0, []),
  (1139, .iload_n 3, 1, 0, 0, []),
  (1140, .iconst 1, 1, 0, 0, []),
  (1141, .iadd, 1, 0, 0, []),
  (1142, .iaload, 1, 0, 0, []),
  (1143, .aload_n 0, 1, 0, 0, []),
  (1144, .iload_n 3, 1, 0, 0, []),
  (1145, .iconst 2, 1, 0, 0, []),
  (1146, .iadd, 1, 0, 0, []),
  (1147, .iaload, 1, 0, 0, []),
  (1148, .aload_n 0, 1, 0, 0, []),
  (1149, .iload_n 3, 1, 0, 0, []),
  (1150, .iconst 3, 1, 0, 0, []),
  (1151, .iadd, 1, 0, 0, []),
  (1152, .iaload, 1, 0, 0, []),
  (1153, .invokevirtual 143, 3, 283, 11, [1843, 3]),
  (1156, .if_icmp .eq 314, 3, 1470, 0, []),
  (1159, .iconst 0, 1, 0, 0, []),
  (1160, .ireturn, 1, 0, 0, []),
  (1161, .aload_n 1, 1, 0, 0, []),
  (1162, .aload_n 0, 1, 0, 0, []),
  (1163, .iload_n 3, 1, 0, 0, []),
  (1164, .iconst 1, 1, 0, 0, []),
  (1165, .iadd, 1, 0, 0, []),
  (1166, .iaload, 1, 0, 0, []),
  (1167, .aload_n 0, 1, 0, 0, []),
  (1168, .iload_n 3, 1, 0, 0, []),
  (1169, .iconst 2, 1, 0, 0, []),
  (1170, .iadd, 1, 0, 0, []),
  (1171, .iaload, 1, 0, 0, []),
  (1172, .aload_n 0, 1, 0, 0, []),
  (1173, .iload_n 3, 1, 0, 0, []),
  (1174, .iconst 3, 1, 0, 0, []),
  (1175, .iadd, 1, 0, 0, []),
  (1176, .iaload, 1, 0, 0, []),
  (1177, .aload_n 0, 1, 0, 0, []),
  (1178, .iload_n 3, 1, 0, 0, []),
  (1179, .iconst 4, 1, 0, 0, []),
  (1180, .iadd, 1, 0, 0, []),
  (1181, .iaload, 1, 0, 0, []),
  (1182, .aload_n 0, 1, 0, 0, []),
  (1183, .iload_n 3, 1, 0, 0, []),
  (1184, .iconst 5, 1, 0, 0, []),
  (1185, .iadd, 1, 0, 0, []),
  (1186, .iaload, 1, 0, 0, []),
  (1187, .ifCond .eq 7, 3, 1194, 0, []),
  (1190, .iconst 1, 1, 0, 0, []),
  (1191, .goto 4, 3, 1195, 0, []),
  (1194, .iconst 0, 1, 0, 0, []),
  (1195, .invokevirtual 144, 3, 169, 10, [1154, 5]),
  (1198, .aload_n 2, 1, 0, 0, []),
  (1199, .aload_n 0, 1, 0, 0, []),
  (1200, .iload_n 3, 1, 0, 0, []),
  (1201, .iconst 1, 1, 0, 0, []),
  (1202, .iadd, 1, 0, 0, []),
  (1203, .iaload, 1, 0, 0, []),
  (1204, .aload_n 0, 1, 0, 0, []),
  (1205, .iload_n 3, 1, 0, 0, []),
  (1206, .iconst 2, 1, 0, 0, []),
  (1207, .iadd, 1, 0, 0, []),
  (1208, .iaload, 1, 0, 0, []),
  (1209, .aload_n 0, 1, 0, 0, []),
  (1210, .iload_n 3, 1, 0, 0, []),
  (1211, .iconst 3, 1, 0, 0, []),
  (1212, .iadd, 1, 0, 0, []),
  (1213, .iaload, 1, 0, 0, []),
  (1214, .aload_n 0, 1, 0, 0, []),
  (1215, .iload_n 3, 1, 0, 0, []),
  (1216, .iconst 4, 1, 0, 0, []),
  (1217, .iadd, 1, 0, 0, []),
  (1218, .iaload, 1, 0, 0, []),
  (1219, .aload_n 0, 1, 0, 0, []),
  (1220, .iload_n 3, 1, 0, 0, []),
  (1221, .iconst 5, 1, 0, 0, []),
  (1222, .iadd, 1, 0, 0, []),
  (1223, .iaload, 1, 0, 0, []),
  (1224, .ifCond .eq 7, 3, 1231, 0, []),
  (1227, .iconst 1, 1, 0, 0, []),
  (1228, .goto 4, 3, 1232, 0, []),
  (1231, .iconst 0, 1, 0, 0, []),
  (1232, .invokevirtual 148, 3, 286, 11, [1847, 5]),
  (1235, .if_icmp .eq 235, 3, 1470, 0, []),
  (1238, .iconst 0, 1, 0, 0, []),
  (1239, .ireturn, 1, 0, 0, []),
  (1240, .aload_n 1, 1, 0, 0, []),
  (1241, .aload_n 0, 1, 0, 0, []),
  (1242, .iload_n 3, 1, 0, 0, []),
  (1243, .iconst 1, 1, 0, 0, []),
  (1244, .iadd, 1, 0, 0, []),
  (1245, .iaload, 1, 0, 0, []),
  (1246, .aload_n 0, 1, 0, 0, []),
  (1247, .iload_n 3, 1, 0, 0, []),
  (1248, .iconst 2, 1, 0, 0, []),
  (1249, .iadd, 1, 0, 0, []),
  (1250, .iaload, 1, 0, 0, []),
  (1251, .aload_n 0, 1, 0, 0, []),
  (1252, .iload_n 3, 1, 0, 0, []),
  (1253, .iconst 3, 1, 0, 0, []),
  (1254, .iadd, 1, 0, 0, []),
  (1255, .iaload, 1, 0, 0, []),
  (1256, .invokevirtual 149, 3, 170, 10, [1167, 3]),
  (1259, .aload_n 2, 1, 0, 0, []),
  (1260, .aload_n 0, 1, 0, 0, []),
  (1261, .iload_n 3, 1, 0, 0, []),
  (1262, .iconst 1, 1, 0, 0, []),
  (1263, .iadd, 1, 0, 0, []),
  (1264, .iaload, 1, 0, 0, []),
  (1265, .aload_n 0, 1, 0, 0, []),
  (1266, .iload_n 3, 1, 0, 0, []),
  (1267, .iconst 2, 1, 0, 0, []),
  (1268, .iadd, 1, 0, 0, []),
  (1269, .iaload, 1, 0, 0, []),
  (1270, .aload_n 0, 1, 0, 0, []),
  (1271, .iload_n 3, 1, 0, 0, []),
  (1272, .iconst 3, 1, 0, 0, []),
  (1273, .iadd, 1, 0, 0, []),
  (1274, .iaload, 1, 0, 0, []),
  (1275, .invokevirtual 152, 3, 287, 11, [1858, 3]),
  (1278, .if_icmp .eq 192, 3, 1470, 0, []),
  (1281, .iconst 0, 1, 0, 0, []),
  (1282, .ireturn, 1, 0, 0, []),
  (1283, .aload_n 1, 1, 0, 0, []),
  (1284, .aload_n 0, 1, 0, 0, []),
  (1285, .iload_n 3, 1, 0, 0, []),
  (1286, .iconst 1, 1, 0, 0, []),
  (1287, .iadd, 1, 0, 0, []),
  (1288, .iaload, 1, 0, 0, []),
  (1289, .aload_n 0, 1, 0, 0, []),
  (1290, .iload_n 3, 1, 0, 0, []),
  (1291, .iconst 2, 1, 0, 0, []),
  (1292, .iadd, 1, 0, 0, []),
  (1293, .iaload, 1, 0, 0, []),
  (1294, .ifCond .eq 7, 3, 1301, 0, []),
  (1297, .iconst 1, 1, 0, 0, []),
  (1298, .goto 4, 3, 1302, 0, []),
  (1301, .iconst 0, 1, 0, 0, []),
  (1302, .invokevirtual 153, 3, 171, 10, [1172, 2]),
  (1305, .aload_n 2, 1, 0, 0, []),
  (1306, .aload_n 0, 1, 0, 0, []),
  (1307, .iload_n 3, 1, 0, 0, []),
  (1308, .iconst 1, 1, 0, 0, []),
  (1309, .iadd, 1, 0, 0, []),
  (1310, .iaload, 1, 0, 0, []),
  (1311, .aload_n 0, 1, 0, 0, []),
  (1312, .iload_n 3, 1, 0, 0, []),
  (1313, .iconst 2, 1, 0, 0, []),
  (1314, .iadd, 1, 0, 0, []),
  (1315, .iaload, 1, 0, 0, []),
  (1316, .ifCond .eq 7, 3, 1323, 0, []),
  (1319, .iconst 1, 1, 0, 0, []),
  (1320, .goto 4, 3, 1324, 0, []),
  (1323, .iconst 0, 1, 0, 0, []),
  (1324, .invokevirtual 157, 3, 288, 11, [1863, 2]),
  (1327, .if_icmp .eq 143, 3, 1470, 0, []),
  (1330, .iconst 0, 1, 0, 0, []),
  (1331, .ireturn, 1, 0, 0, []),
  (1332, .aload_n 1, 1, 0, 0, []),
  (1333, .invokevirtual 158, 3, 172, 10, [1180, 0]),
  (1336, .aload_n 2, 1, 0, 0, []),
  (1337, .invokevirtual 161, 3, 289, 11, [1867, 0]),
  (1340, .if_icmp .eq 130, 3, 1470, 0, []),
  (1343, .iconst 0, 1, 0, 0, []),
  (1344, .ireturn, 1, 0, 0, []),
  (1345, .aload_n 1, 1, 0, 0, []),
  (1346, .aload_n 0, 1, 0, 0, []),
  (1347, .iload_n 3, 1, 0, 0, []),
  (1348, .iconst 1, 1, 0, 0, []),
  (1349, .iadd, 1, 0, 0, []),
  (1350, .iaload, 1, 0, 0, []),
  (1351, .aload_n 0, 1, 0, 0, []),
  (1352, .iload_n 3, 1, 0, 0, []),
  (1353, .iconst 2, 1, 0, 0, []),
  (1354, .iadd, 1, 0, 0, []),
  (1355, .iaload, 1, 0, 0, []),
  (1356, .invokevirtual 162, 3, 173, 10, [1188, 2]),
  (1359, .aload_n 2, 1, 0, 0, []),
  (1360, .aload_n 0, 1, 0, 0, []),
  (1361, .iload_n 3, 1, 0, 0, []),
  (1362, .iconst 1, 1, 0, 0, []),
  (1363, .iadd, 1, 0, 0, []),
  (1364, .iaload, 1, 0, 0, []),
  (1365, .aload_n 0, 1, 0, 0, []),
  (1366, .iload_n 3, 1, 0, 0, []),
  (1367, .iconst 2, 1, 0, 0, []),
  (1368, .iadd, 1, 0, 0, []),
  (1369, .iaload, 1, 0, 0, []),
  (1370, .invokevirtual 165, 3, 292, 11, [1871, 2]),
  (1373, .if_icmp .eq 97, 3, 1470, 0, []),
  (1376, .iconst 0, 1, 0, 0, []),
  (1377, .ireturn, 1, 0, 0, []),
  (1378, .aload_n 1, 1, 0, 0, []),
  (1379, .aload_n 0, 1, 0, 0, []),
  (1380, .iload_n 3, 1, 0, 0, []),
  (1381, .iconst 1, 1, 0, 0, []),
  (1382, .iadd, 1, 0, 0, []),
  (1383, .iaload, 1, 0, 0, []),
  (1384, .invokevirtual 166, 3, 174, 10, [1201, 1]),
  (1387, .aload_n 2, 1, 0, 0, []),
  (1388, .aload_n 0, 1, 0, 0, []),
  (1389, .iload_n 3, 1, 0, 0, []),
  (1390, .iconst 1, 1, 0, 0, []),
  (1391, .iadd, 1, 0, 0, []),
  (1392, .iaload, 1, 0, 0, []),
  (1393, .invokevirtual 169, 3, 293, 11, [1882, 1]),
  (1396, .if_icmp .eq 74, 3, 1470, 0, []),
  (1399, .iconst 0, 1, 0, 0, []),
  (1400, .ireturn, 1, 0, 0, []),
  (1401, .aload_n 1, 1, 0, 0, []),
  (1402, .aload_n 0, 1, 0, 0, []),
  (1403, .iload_n 3, 1, 0, 0, []),
  (1404, .iconst 1, 1, 0, 0, []),
  (1405, .iadd, 1, 0, 0, []),
  (1406, .iaload, 1, 0, 0, []),
  (1407, .invokevirtual 170, 3, 175, 10, [1211, 1]),
  (1410, .aload_n 2, 1, 0, 0, []),
  (1411, .aload_n 0, 1, 0, 0, []),
  (1412, .iload_n 3, 1, 0, 0, []),
  (1413, .iconst 1, 1, 0, 0, []),
  (1414, .iadd, 1, 0, 0, []),
  (1415, .iaload, 1, 0, 0, []),
  (1416, .invokevirtual 174, 3, 294, 11, [1886, 1]),
  (1419, .if_icmp .eq 51, 3, 1470, 0, []),
  (1422, .iconst 0, 1, 0, 0, []),
  (1423, .ireturn, 1, 0, 0, []),
  (1424, .aload_n 1, 1, 0, 0, []),
  (1425, .aload_n 0, 1, 0, 0, []),
  (1426, .iload_n 3, 1, 0, 0, []),
  (1427, .iconst 1, 1, 0, 0, []),
  (1428, .iadd, 1, 0, 0, []),
  (1429, .iaload, 1, 0, 0, []),
  (1430, .invokevirtual 175, 3, 176, 10, [1220, 1]),
  (1433, .aload_n 2, 1, 0, 0, []),
  (1434, .aload_n 0, 1, 0, 0, []),
  (1435, .iload_n 3, 1, 0, 0, []),
  (1436, .iconst 1, 1, 0, 0, []),
  (1437, .iadd, 1, 0, 0, []),
  (1438, .iaload, 1, 0, 0, []),
  (1439, .invokevirtual 178, 3, 295, 11, [1890, 1]),
  (1442, .if_icmp .eq 28, 3, 1470, 0, []),
  (1445, .iconst 0, 1, 0, 0, []),
  (1446, .ireturn, 1, 0, 0, []),
  (1447, .aload_n 1, 1, 0, 0, []),
  (1448, .aload_n 0, 1, 0, 0, []),
  (1449, .iload_n 3, 1, 0, 0, []),
  (1450, .iconst 1, 1, 0, 0, []),
  (1451, .iadd, 1, 0, 0, []),
  (1452, .iaload, 1, 0, 0, []),
  (1453, .invokevirtual 179, 3, 177, 10, [1228, 1]),
  (1456, .aload_n 2, 1, 0, 0, []),
  (1457, .aload_n 0, 1, 0, 0, []),
  (1458, .iload_n 3, 1, 0, 0, []),
  (1459, .iconst 1, 1, 0, 0, []),
  (1460, .iadd, 1, 0, 0, []),
  (1461, .iaload, 1, 0, 0, []),
  (1462, .invokevirtual 182, 3, 297, 11, [1894, 1]),
  (1465, .if_icmp .eq 5, 3, 1470, 0, []),
  (1468, .iconst 0, 1, 0, 0, []),
  (1469, .ireturn, 1, 0, 0, []),
  (1470, .iinc 3 6, 3, 0, 0, []),
  (1473, .goto (-1455), 3, 18, 0, []),
  (1476, .iconst 1, 1, 0, 0, []),
  (1477, .ireturn, 1, 0, 0, [])]
def mL_law : ab_M := (yL_law, cL_law, 4, ret, 600000, 7302250, 3, kL_law)
def ab_MT0 : List ab_M := [mX0_init, mX0_turnTo, mX0_text, mX0_writtenFor, mX0_lot, mX0_mixed, mX0_falls, mX0_lookAt, mX0_lookAtPilgrim, mX0_visitValue, mX0_healing, mX0_leaving, mX0_catching, mX0_goal, mX0_pass, mX0_visit, mX0_tryTheft, mX0_likely, mX0_bestNights, mX0_weakest, mX0_watchersFor, mX1_init, mX1_after, mX1_more, mX1_keepTook, mX1_tookMoreThanElse, mX1_passWithRelicAt, mX1_bestHome, mX1_barters, mX1_bothGain, mX1_richest, mX1_mostFamed, mX1_seedsWithWonder, mX1_hasWonderBy, mX2_init, mX2_clear, mX2_beginTimes, mX2_begin, mX2_emit, mX2_aimHere]
def ab_MT1 : List ab_M := [mX2_clearVars, mX2_setVar, mX2_varOf, mX2_value, mX2_worked, mX3_init, mX3_clear, mX3_size, mX3_slotsHeld, mX3_keep, mX3_takeBack, mX3_putInSlot, mX3_takeFromSlot, mX4_init, mX4_faultPlace, mX4_readInto, mX4_begin, mX4_settle, mX4_take, mX4_refuse, mX4_refuseLate, mX4_readChurch, mX4_readRoad, mX4_readRelic, mX4_readPilgrim, mX4_readSeed, mX4_addName, mX4_churchAt, mX4_numberAt, mX4_readLaw, mX4_readIf, mX4_readSum, mX4_readUnit, mX5_init, mX5_get, mX5_set, mX5_add, mX5_total, mX5_move, mX5_exchange]
def ab_MT2 : List ab_M := [mX5_begin, mX5_copyOf, mX5_writeTo, mX5_readFrom, mX6_init, mX6_length, mX6_append, mX6_cutTo, mX6_at, mX7_init, mX7_clear, mX7_laws, mX7_churches, mX7_roads, mX7_relics, mX7_trueRelics, mX7_pilgrims, mX7_seed, mX7_hasChurch, mX7_hasRelic, mX7_hasPilgrim, mX7_truth, mX7_watchersOf, mX7_churchOf, mX7_home, mX7_needOf, mX7_giftOf, mX7_far, mX7_churchNamed, mX7_addName, mX7_addChurch, mX7_addRoad, mX7_addRelic, mX7_addPilgrim, mX7_sow, mX7_joinRoads, mX8_init, mX8_withLetter, mX8_isLetter, mX8_isDigit]
def ab_MT3 : List ab_M := [mX8_isBlank, mX8_kindAt, mX8_placeAt, mX8_valueAt, mX8_scan, mX8_addToken, mX8_addLetters, mX8_addDigits, mX8_wordKind, mX8_put, mX9_init, mX9_clear, mX9_size, mX9_add, mX9_relicsLeft, mX9_bestToAsk, mX10_init, mX10_feed, mX10_back, mX10_read, mX10_startText, mX10_place, mX10_church, mX10_relic, mX10_pilgrim, mX10_tells, mX10_heals, mX10_steal, mX10_swap, mX10_watch, mX10_years, mX10_undo, mX10_goes, mX10_theft, mX10_nights, mX10_worth, mX10_guard, mX10_guards, mX10_weak, mX10_barter]
def ab_MT4 : List ab_M := [mX10_took, mX10_wonders, mX10_goesIn, mX10_rich, mX10_hub, mX10_crowd, mX10_healed, mX10_famed, mX10_year, mX10_belief, mX10_certain, mX10_tell, mX10_forget, mX10_whose, mX10_ask, mX10_hold, mX10_restore, mX10_count, mX10_likelyRow, mX10_commonDivisor, mX10_isWithin, mX10_heldTo, mX11_init, mX11_feed, mX11_put, mX11_back, mX11_byteAt, mX11_isDigit, mX11_isLetter, mX11_appends, mX11_word, mX11_token, mX11_cut, mX11_sign, mX11_is, mX11_fail, mX11_wrong, mX11_goesOn, mX11_must, mX11_plain]
def ab_MT5 : List ab_M := [mX11_read, mX11_place, mX11_roomFor, mX11_tellOne, mX11_named, mX11_ends, mX11_knownChurch, mX11_bounded, mX11_tellRoad, mX11_tellRelic, mX11_tellPilgrim, mX11_tellLaw, mX11_term, mX11_emit, mX11_comesOut, mX11_expression, mX11_unit, mX11_termOf, mX11_fillsFar, mX11_in, mX11_held, mX11_isChurch, mX11_isRelic, mX11_isPilgrim, mX11_begins, mX11_keepsRow, mX11_copies, mX11_mixed, mX11_lotOf, mX11_relicsAt, mX11_trueAt, mX11_farFor, mX11_looks, mX11_looksAt, mX11_lawTells, mX11_drawsOf, mX11_givesOf, mX11_healsBy, mX11_healsOf, mX11_leaveOf]
def ab_MT6 : List ab_M := [mX11_caughtBy, mX11_goesNow, mX11_pilgrimGoes, mX11_yearGoes, mX11_yearsGo, mX11_relicBits, mX11_church, mX11_relic, mX11_pilgrim, mX11_tells, mX11_heals, mX11_records, mX11_isNights, mX11_triesFor, mX11_steal, mX11_swap, mX11_watch, mX11_years, mX11_undo, mX11_goes, mX11_theftNow, mX11_theft, mX11_nightsNow, mX11_nights, mX11_guardOf, mX11_isOdds, mX11_guard, mX11_guards, mX11_weak, mX11_isFew, mX11_isLong, mX11_takesWith, mX11_worth, mX11_isBarter, mX11_barter, mX11_took, mX11_wonders, mX11_goesIn, mX11_rich, mX11_hub]
def ab_MT7 : List ab_M := [mX11_crowd, mX11_healed, mX11_famed, mX11_year, mX11_rowOdds, mX11_fillsBelief, mX11_belief, mX11_certain, mX11_tell, mX11_forget, mX11_whoseBits, mX11_bits, mX11_whose, mX11_ask, mX11_hold, mX11_restore, mX11_sumNow, mX11_count, mJ6_bitCount_0f7a4, mJ9_max_7cf53, mJ9_max_f86c9, mJ9_min_7cf53, mJ0_length_8abf5, mJ0_charAt_5068e, mJ0_indexOf_0f7a4, mJ0_indexOf_7cf53, mJ0_coder_7d493, mJ0_isLatin1_aae02, mJ0_checkIndex_df160, mJ1_charAt_3b067, mJ1_canEncode_9a6ad, mJ1_indexOf_4cfef, mJ1_indexOfChar_4cfef, mJ3_checkIndex_8e157]
def ab_MT : List ab_M := [mX0_init, mX0_turnTo, mX0_text, mX0_writtenFor, mX0_lot, mX0_mixed, mX0_falls, mX0_lookAt, mX0_lookAtPilgrim, mX0_visitValue, mX0_healing, mX0_leaving, mX0_catching, mX0_goal, mX0_pass, mX0_visit, mX0_tryTheft, mX0_likely, mX0_bestNights, mX0_weakest, mX0_watchersFor, mX1_init, mX1_after, mX1_more, mX1_keepTook, mX1_tookMoreThanElse, mX1_passWithRelicAt, mX1_bestHome, mX1_barters, mX1_bothGain, mX1_richest, mX1_mostFamed, mX1_seedsWithWonder, mX1_hasWonderBy, mX2_init, mX2_clear, mX2_beginTimes, mX2_begin, mX2_emit, mX2_aimHere, mX2_clearVars, mX2_setVar, mX2_varOf, mX2_value, mX2_worked, mX3_init, mX3_clear, mX3_size, mX3_slotsHeld, mX3_keep, mX3_takeBack, mX3_putInSlot, mX3_takeFromSlot, mX4_init, mX4_faultPlace, mX4_readInto, mX4_begin, mX4_settle, mX4_take, mX4_refuse, mX4_refuseLate, mX4_readChurch, mX4_readRoad, mX4_readRelic, mX4_readPilgrim, mX4_readSeed, mX4_addName, mX4_churchAt, mX4_numberAt, mX4_readLaw, mX4_readIf, mX4_readSum, mX4_readUnit, mX5_init, mX5_get, mX5_set, mX5_add, mX5_total, mX5_move, mX5_exchange, mX5_begin, mX5_copyOf, mX5_writeTo, mX5_readFrom, mX6_init, mX6_length, mX6_append, mX6_cutTo, mX6_at, mX7_init, mX7_clear, mX7_laws, mX7_churches, mX7_roads, mX7_relics, mX7_trueRelics, mX7_pilgrims, mX7_seed, mX7_hasChurch, mX7_hasRelic, mX7_hasPilgrim, mX7_truth, mX7_watchersOf, mX7_churchOf, mX7_home, mX7_needOf, mX7_giftOf, mX7_far, mX7_churchNamed, mX7_addName, mX7_addChurch, mX7_addRoad, mX7_addRelic, mX7_addPilgrim, mX7_sow, mX7_joinRoads, mX8_init, mX8_withLetter, mX8_isLetter, mX8_isDigit, mX8_isBlank, mX8_kindAt, mX8_placeAt, mX8_valueAt, mX8_scan, mX8_addToken, mX8_addLetters, mX8_addDigits, mX8_wordKind, mX8_put, mX9_init, mX9_clear, mX9_size, mX9_add, mX9_relicsLeft, mX9_bestToAsk, mX10_init, mX10_feed, mX10_back, mX10_read, mX10_startText, mX10_place, mX10_church, mX10_relic, mX10_pilgrim, mX10_tells, mX10_heals, mX10_steal, mX10_swap, mX10_watch, mX10_years, mX10_undo, mX10_goes, mX10_theft, mX10_nights, mX10_worth, mX10_guard, mX10_guards, mX10_weak, mX10_barter, mX10_took, mX10_wonders, mX10_goesIn, mX10_rich, mX10_hub, mX10_crowd, mX10_healed, mX10_famed, mX10_year, mX10_belief, mX10_certain, mX10_tell, mX10_forget, mX10_whose, mX10_ask, mX10_hold, mX10_restore, mX10_count, mX10_likelyRow, mX10_commonDivisor, mX10_isWithin, mX10_heldTo, mX11_init, mX11_feed, mX11_put, mX11_back, mX11_byteAt, mX11_isDigit, mX11_isLetter, mX11_appends, mX11_word, mX11_token, mX11_cut, mX11_sign, mX11_is, mX11_fail, mX11_wrong, mX11_goesOn, mX11_must, mX11_plain, mX11_read, mX11_place, mX11_roomFor, mX11_tellOne, mX11_named, mX11_ends, mX11_knownChurch, mX11_bounded, mX11_tellRoad, mX11_tellRelic, mX11_tellPilgrim, mX11_tellLaw, mX11_term, mX11_emit, mX11_comesOut, mX11_expression, mX11_unit, mX11_termOf, mX11_fillsFar, mX11_in, mX11_held, mX11_isChurch, mX11_isRelic, mX11_isPilgrim, mX11_begins, mX11_keepsRow, mX11_copies, mX11_mixed, mX11_lotOf, mX11_relicsAt, mX11_trueAt, mX11_farFor, mX11_looks, mX11_looksAt, mX11_lawTells, mX11_drawsOf, mX11_givesOf, mX11_healsBy, mX11_healsOf, mX11_leaveOf, mX11_caughtBy, mX11_goesNow, mX11_pilgrimGoes, mX11_yearGoes, mX11_yearsGo, mX11_relicBits, mX11_church, mX11_relic, mX11_pilgrim, mX11_tells, mX11_heals, mX11_records, mX11_isNights, mX11_triesFor, mX11_steal, mX11_swap, mX11_watch, mX11_years, mX11_undo, mX11_goes, mX11_theftNow, mX11_theft, mX11_nightsNow, mX11_nights, mX11_guardOf, mX11_isOdds, mX11_guard, mX11_guards, mX11_weak, mX11_isFew, mX11_isLong, mX11_takesWith, mX11_worth, mX11_isBarter, mX11_barter, mX11_took, mX11_wonders, mX11_goesIn, mX11_rich, mX11_hub, mX11_crowd, mX11_healed, mX11_famed, mX11_year, mX11_rowOdds, mX11_fillsBelief, mX11_belief, mX11_certain, mX11_tell, mX11_forget, mX11_whoseBits, mX11_bits, mX11_whose, mX11_ask, mX11_hold, mX11_restore, mX11_sumNow, mX11_count, mJ6_bitCount_0f7a4, mJ9_max_7cf53, mJ9_max_f86c9, mJ9_min_7cf53, mJ0_length_8abf5, mJ0_charAt_5068e, mJ0_indexOf_0f7a4, mJ0_indexOf_7cf53, mJ0_coder_7d493, mJ0_isLatin1_aae02, mJ0_checkIndex_df160, mJ1_charAt_3b067, mJ1_canEncode_9a6ad, mJ1_indexOf_4cfef, mJ1_indexOfChar_4cfef, mJ3_checkIndex_8e157]
end
section
/-! what the tables say of the code, checked by program -/
def ab_fd (ci k : Nat) : String × String × String × Bool := match ci with
  | 0 => TX0 k
  | 1 => TX1 k
  | 2 => TX2 k
  | 3 => TX3 k
  | 4 => TX4 k
  | 5 => TX5 k
  | 6 => TX6 k
  | 7 => TX7 k
  | 8 => TX8 k
  | 9 => TX9 k
  | 10 => TX10 k
  | 11 => TX11 k
  | _ => match k with
    | 0 => ("java/lang/String", "value", "[B", true)
    | _ => ("java/lang/String", "coder", "B", true)
def ab_ty (ci k : Nat) : FieldType := match ci with
  | 0 => tyX0 k
  | 1 => tyX1 k
  | 2 => tyX2 k
  | 3 => tyX3 k
  | 4 => tyX4 k
  | 5 => tyX5 k
  | 6 => tyX6 k
  | 7 => tyX7 k
  | 8 => tyX8 k
  | 9 => tyX9 k
  | 10 => tyX10 k
  | 11 => tyX11 k
  | _ => match k with
    | 0 => .array .byte
    | _ => .byte
def ab_nf (ci : Nat) : Nat := match ci with
  | 0 => 4
  | 1 => 4
  | 2 => 6
  | 3 => 5
  | 4 => 9
  | 5 => 1
  | 6 => 2
  | 7 => 16
  | 8 => 5
  | 9 => 3
  | 10 => 9
  | 11 => 66
  | _ => 2
def ab_cnm (ci : Nat) : String := match ci with
  | 0 => RX0
  | 1 => RX1
  | 2 => RX2
  | 3 => RX3
  | 4 => RX4
  | 5 => RX5
  | 6 => RX6
  | 7 => RX7
  | 8 => RX8
  | 9 => RX9
  | 10 => RX10
  | 11 => RX11
  | _ => "java/lang/String"
abbrev ab_cls : List vw_C := [(RX0, TX0, 4), (RX1, TX1, 4), (RX2, TX2, 6), (RX3, TX3, 5), (RX4, TX4, 9), (RX5, TX5, 1), (RX6, TX6, 2), (RX7, TX7, 16), (RX8, TX8, 5), (RX9, TX9, 3), (RX10, TX10, 9), (RX11, TX11, 66)]

def ab_at (z : Nat) (w : Cond) : Bool := decide (lw_tbl[z]? = some w) && goodWord w
def ab_atN (z : Nat) (w : Cond) : Bool := decide (lw_tbl[z]? = some w)
def ab_isR : FieldType → Bool
  | .object _ => true
  | .array _ => true
  | _ => false
def ab_len : Instr → Nat
  | .iload _ => 2
  | .lload _ => 2
  | .aload _ => 2
  | .istore _ => 2
  | .lstore _ => 2
  | .astore _ => 2
  | .bipush _ => 2
  | .ldc _ => 2
  | .newarray _ => 2
  | .iinc _ _ => 3
  | .sipush _ => 3
  | .ldc_w _ => 3
  | .ldc2_w _ => 3
  | .getstatic _ => 3
  | .getfield _ => 3
  | .putfield _ => 3
  | .new _ => 3
  | .ifCond _ _ => 3
  | .if_icmp _ _ => 3
  | .goto _ => 3
  | .invokestatic _ => 3
  | .invokevirtual _ => 3
  | .invokespecial _ => 3
  | _ => 1
def ab_pn (y : MethodName) (n : Nat) : Bool := decide ((parseMethodDescriptor y.desc).map (fun d => d.parameters.length) = some n)
/-- a row of a code table is what the bytes and the tables say -/
def ab_ce (M : ab_M) (q : ab_I) : Bool := match q with
  | (pc, ins, len, x, y, ts) => decide (decode (ab_mb M) pc = .ok (ins, len)) && (match ins with
    | .tableswitch dflt lo hi offs => decide ((pc : Int) + dflt = (x : Int)) && decide (offs.toList.map (fun o => (pc : Int) + o) = ts.map Int.ofNat) && decide (hi + 1 = lo + (ts.length : Int))
    | _ => Nat.beq len (ab_len ins)) && (match ins with
    | .ldc k => match ts with
      | [z] => ab_at z (.constant (ab_my M).cls k (Int32.ofNat x))
      | [z, _] => (decide (x = 1000001) && decide (k = 25) && decide ((ab_my M).cls = RX8)) || (decide (x = 1000002) && decide (k = 88) && decide ((ab_my M).cls = RX8))
      | _ => false
    | .ldc_w k => match ts with
      | z :: _ => ab_at z (.constant (ab_my M).cls k (Int32.ofNat x))
      | _ => false
    | .ldc2_w k => match ts with
      | z :: _ => ab_at z (.constantLong (ab_my M).cls k (Int64.ofNat x))
      | _ => false
    | .getstatic k => match ts with
      | [z] => ab_at z (.fieldLink (ab_my M).cls k "java/lang/String" "COMPACT_STRINGS" "Z")
      | z :: _ => ab_at z (.fieldLink (ab_my M).cls k "jdk/internal/util/Preconditions" "SIOOBE_FORMATTER" "Ljava/util/function/BiFunction;")
      | _ => false
    | .getfield k => match ts with
      | [z] => ab_at z (.fieldLink (ab_my M).cls k (ab_fd x y).1 (ab_fd x y).2.1 (ab_fd x y).2.2.1) && (decide (x < 12) || decide (x = 90)) && decide (y < ab_nf x) && !ab_isR (ab_ty x y)
      | z :: _ => ab_at z (.fieldLink (ab_my M).cls k (ab_fd x y).1 (ab_fd x y).2.1 (ab_fd x y).2.2.1) && (decide (x < 12) || decide (x = 90)) && decide (y < ab_nf x) && ab_isR (ab_ty x y)
      | _ => false
    | .putfield k => match ts with
      | [z] => ab_at z (.fieldLink (ab_my M).cls k (ab_fd x y).1 (ab_fd x y).2.1 (ab_fd x y).2.2.1) && decide (x < 12) && decide (y < ab_nf x) && decide (ab_ty x y = .int) && (!(ab_fd x y).2.2.2 || (decide ((ab_my M).name = "<init>") && decide ((ab_fd x y).1 = (ab_my M).cls)))
      | [z, _] => ab_at z (.fieldLink (ab_my M).cls k (ab_fd x y).1 (ab_fd x y).2.1 (ab_fd x y).2.2.1) && decide (x < 12) && decide (y < ab_nf x) && decide (ab_ty x y = .boolean) && (!(ab_fd x y).2.2.2 || (decide ((ab_my M).name = "<init>") && decide ((ab_fd x y).1 = (ab_my M).cls)))
      | z :: _ => ab_at z (.fieldLink (ab_my M).cls k (ab_fd x y).1 (ab_fd x y).2.1 (ab_fd x y).2.2.1) && decide (x < 12) && decide (y < ab_nf x) && ab_isR (ab_ty x y) && (!(ab_fd x y).2.2.2 || (decide ((ab_my M).name = "<init>") && decide ((ab_fd x y).1 = (ab_my M).cls)))
      | _ => false
    | .new k => match ts with
      | z :: _ => ab_at z (.classLink (ab_my M).cls k (ab_cnm x)) && decide (x < 12) && decide (y = ab_nf x)
      | _ => false
    | .ifCond _ off => decide ((pc : Int) + off = (x : Int))
    | .if_icmp _ off => decide ((pc : Int) + off = (x : Int))
    | .goto off => decide ((pc : Int) + off = (x : Int))
    | .newarray a => match a with
      | .int => true
      | .byte => true
      | .boolean => true
      | .long => true
      | _ => false
    | .invokestatic k => match ts, ab_MT[x]? with
      | [z, n], some M2 => ab_at z (.methodLink (ab_my M).cls k (ab_my M2)) && ab_pn (ab_my M2) n && Nat.beq (ab_mk M2) 0
      | z :: n :: _, some M2 => ab_atN z (.methodLinkNest (ab_my M).cls k (ab_my M2) "SaintTheft") && ab_pn (ab_my M2) n && Nat.beq (ab_mk M2) 0
      | _, _ => false
    | .invokevirtual k => match ts, ab_MT[x]? with
      | [z, n], some M2 => ab_at z (.methodLink (ab_my M).cls k (ab_my M2)) && ab_pn (ab_my M2) n && Nat.beq (ab_mk M2) 1 && decide (ab_cnm y = (ab_my M2).cls) && (decide (y < 12) || decide (y = 90))
      | _, _ => false
    | .invokespecial k => match ts, ab_MT[x]? with
      | [z], _ => ab_at z (.methodLink (ab_my M).cls k objectInit)
      | [z, n], some M2 => ab_at z (.methodLink (ab_my M).cls k (ab_my M2)) && ab_pn (ab_my M2) n && Nat.beq (ab_mk M2) 2
      | z :: n :: _, some M2 => ab_atN z (.methodLinkNest (ab_my M).cls k (ab_my M2) "SaintTheft") && ab_pn (ab_my M2) n && Nat.beq (ab_mk M2) 2
      | _, _ => false
    | _ => true)
/-- a method's own words stand in the tables -/
def ab_cm (M : ab_M) (z : Nat × Nat × Nat × Nat) : Bool := ab_at z.1 (.code (ab_my M) (ab_mb M) (ab_ml M) (ab_mr M)) && ab_at z.2.2.2 (.initialized (ab_my M).cls) && decide (ab_ml M ≤ 40) && plainName (ab_my M).cls && decide ((ab_my M).cls ≠ "java/lang/invoke/MethodHandle") && decide ((ab_my M).cls ≠ "java/lang/invoke/VarHandle") && (match ab_mk M with
  | 0 => ab_at z.2.1 (.static (ab_my M))
  | 1 => ab_at z.2.1 (.instanceMethod (ab_my M)) && ab_at z.2.2.1 (.selects (ab_my M).cls (ab_my M) (ab_my M))
  | 2 => ab_at z.2.1 (.instanceMethod (ab_my M)) && decide ((ab_my M).name = "<init>") && decide (ab_mr M = none)
  | _ => false) && (ab_mo M).all (ab_ce M)
/-- for each method of a list -/
def ab_okM (M : ab_M) : Prop := ∃ z, ab_cm M z = true
theorem ab_ok0 : ∀ M ∈ ([] : List ab_M), ab_okM M := fun _ h => by cases h
theorem ab_okc {M : ab_M} {z : Nat × Nat × Nat × Nat} {l : List ab_M} (h : ab_cm M z = true) (hl : ∀ M ∈ l, ab_okM M) : ∀ N ∈ M :: l, ab_okM N := List.forall_mem_cons.mpr ⟨⟨z, h⟩, hl⟩
end
section
/-! the checks of the code tables, 0 -/
set_option maxRecDepth 100000 in
theorem ckX0_init : ab_cm mX0_init (368, 367, 0, 109) = true := by decide +kernel
set_option maxRecDepth 100000 in
theorem ckX0_turnTo : ab_cm mX0_turnTo (478, 476, 477, 109) = true := by decide +kernel
set_option maxRecDepth 100000 in
theorem ckX0_text : ab_cm mX0_text (1041, 1039, 1040, 109) = true := by decide +kernel
set_option maxRecDepth 100000 in
theorem ckX0_writtenFor : ab_cm mX0_writtenFor (1200, 1198, 1199, 109) = true := by decide +kernel
set_option maxRecDepth 100000 in
theorem ckX0_lot : ab_cm mX0_lot (939, 938, 0, 109) = true := by decide +kernel
set_option maxRecDepth 100000 in
theorem ckX0_mixed : ab_cm mX0_mixed (942, 941, 0, 109) = true := by decide +kernel
set_option maxRecDepth 100000 in
theorem ckX0_falls : ab_cm mX0_falls (936, 935, 0, 109) = true := by decide +kernel
set_option maxRecDepth 100000 in
theorem ckX0_lookAt : ab_cm mX0_lookAt (857, 856, 24, 109) = true := by decide +kernel
set_option maxRecDepth 100000 in
theorem ckX0_lookAtPilgrim : ab_cm mX0_lookAtPilgrim (871, 870, 25, 109) = true := by decide +kernel
set_option maxRecDepth 100000 in
theorem ckX0_visitValue : ab_cm mX0_visitValue (853, 851, 852, 109) = true := by decide +kernel
set_option maxRecDepth 100000 in
theorem ckX0_healing : ab_cm mX0_healing (902, 900, 901, 109) = true := by decide +kernel
set_option maxRecDepth 100000 in
theorem ckX0_leaving : ab_cm mX0_leaving (950, 949, 28, 109) = true := by decide +kernel
set_option maxRecDepth 100000 in
theorem ckX0_catching : ab_cm mX0_catching (933, 932, 27, 109) = true := by decide +kernel
set_option maxRecDepth 100000 in
theorem ckX0_goal : ab_cm mX0_goal (979, 977, 978, 109) = true := by decide +kernel
set_option maxRecDepth 100000 in
theorem ckX0_pass : ab_cm mX0_pass (974, 972, 973, 109) = true := by decide +kernel
set_option maxRecDepth 100000 in
theorem ckX0_visit : ab_cm mX0_visit (985, 984, 29, 109) = true := by decide +kernel
set_option maxRecDepth 100000 in
theorem ckX0_tryTheft : ab_cm mX0_tryTheft (920, 918, 919, 109) = true := by decide +kernel
set_option maxRecDepth 100000 in
theorem ckX0_likely : ab_cm mX0_likely (1011, 1009, 1010, 109) = true := by decide +kernel
set_option maxRecDepth 100000 in
theorem ckX0_bestNights : ab_cm mX0_bestNights (1019, 1017, 1018, 109) = true := by decide +kernel
set_option maxRecDepth 100000 in
theorem ckX0_weakest : ab_cm mX0_weakest (1075, 1073, 1074, 109) = true := by decide +kernel
set_option maxRecDepth 100000 in
theorem ckX0_watchersFor : ab_cm mX0_watchersFor (1062, 1060, 1061, 109) = true := by decide +kernel
set_option maxRecDepth 100000 in
theorem ckX1_init : ab_cm mX1_init (388, 387, 0, 110) = true := by decide +kernel
set_option maxRecDepth 100000 in
theorem ckX1_after : ab_cm mX1_after (1089, 1087, 1088, 110) = true := by decide +kernel
set_option maxRecDepth 100000 in
theorem ckX1_more : ab_cm mX1_more (1103, 1101, 1102, 110) = true := by decide +kernel
set_option maxRecDepth 100000 in
theorem ckX1_keepTook : ab_cm mX1_keepTook (1047, 1046, 31, 110) = true := by decide +kernel
set_option maxRecDepth 100000 in
theorem ckX1_tookMoreThanElse : ab_cm mX1_tookMoreThanElse (1053, 1052, 32, 110) = true := by decide +kernel
set_option maxRecDepth 100000 in
theorem ckX1_passWithRelicAt : ab_cm mX1_passWithRelicAt (1032, 1031, 30, 110) = true := by decide +kernel
set_option maxRecDepth 100000 in
theorem ckX1_bestHome : ab_cm mX1_bestHome (1028, 1026, 1027, 110) = true := by decide +kernel
set_option maxRecDepth 100000 in
theorem ckX1_barters : ab_cm mX1_barters (1085, 1083, 1084, 110) = true := by decide +kernel
set_option maxRecDepth 100000 in
theorem ckX1_bothGain : ab_cm mX1_bothGain (1094, 1093, 33, 110) = true := by decide +kernel
set_option maxRecDepth 100000 in
theorem ckX1_richest : ab_cm mX1_richest (1120, 1118, 1119, 110) = true := by decide +kernel
set_option maxRecDepth 100000 in
theorem ckX1_mostFamed : ab_cm mX1_mostFamed (1141, 1139, 1140, 110) = true := by decide +kernel
set_option maxRecDepth 100000 in
theorem ckX1_seedsWithWonder : ab_cm mX1_seedsWithWonder (1149, 1147, 1148, 110) = true := by decide +kernel
set_option maxRecDepth 100000 in
theorem ckX1_hasWonderBy : ab_cm mX1_hasWonderBy (1153, 1152, 34, 110) = true := by decide +kernel
set_option maxRecDepth 100000 in
theorem ckX2_init : ab_cm mX2_init (135, 134, 0, 100) = true := by decide +kernel
end
section
/-! the checks of the code tables, 1 -/
set_option maxRecDepth 100000 in
theorem ckX2_clear : ab_cm mX2_clear (164, 162, 163, 100) = true := by decide +kernel
set_option maxRecDepth 100000 in
theorem ckX2_beginTimes : ab_cm mX2_beginTimes (176, 175, 0, 100) = true := by decide +kernel
set_option maxRecDepth 100000 in
theorem ckX2_begin : ab_cm mX2_begin (168, 166, 167, 100) = true := by decide +kernel
set_option maxRecDepth 100000 in
theorem ckX2_emit : ab_cm mX2_emit (172, 170, 171, 100) = true := by decide +kernel
set_option maxRecDepth 100000 in
theorem ckX2_aimHere : ab_cm mX2_aimHere (775, 773, 774, 100) = true := by decide +kernel
set_option maxRecDepth 100000 in
theorem ckX2_clearVars : ab_cm mX2_clearVars (861, 859, 860, 100) = true := by decide +kernel
set_option maxRecDepth 100000 in
theorem ckX2_setVar : ab_cm mX2_setVar (867, 865, 866, 100) = true := by decide +kernel
set_option maxRecDepth 100000 in
theorem ckX2_varOf : ab_cm mX2_varOf (885, 884, 26, 100) = true := by decide +kernel
set_option maxRecDepth 100000 in
theorem ckX2_value : ab_cm mX2_value (880, 878, 879, 100) = true := by decide +kernel
set_option maxRecDepth 100000 in
theorem ckX2_worked : ab_cm mX2_worked (888, 887, 0, 100) = true := by decide +kernel
set_option maxRecDepth 100000 in
theorem ckX3_init : ab_cm mX3_init (409, 408, 0, 111) = true := by decide +kernel
set_option maxRecDepth 100000 in
theorem ckX3_clear : ab_cm mX3_clear (482, 480, 481, 111) = true := by decide +kernel
set_option maxRecDepth 100000 in
theorem ckX3_size : ab_cm mX3_size (1240, 1238, 1239, 111) = true := by decide +kernel
set_option maxRecDepth 100000 in
theorem ckX3_slotsHeld : ab_cm mX3_slotsHeld (1244, 1242, 1243, 111) = true := by decide +kernel
set_option maxRecDepth 100000 in
theorem ckX3_keep : ab_cm mX3_keep (911, 909, 910, 111) = true := by decide +kernel
set_option maxRecDepth 100000 in
theorem ckX3_takeBack : ab_cm mX3_takeBack (994, 992, 993, 111) = true := by decide +kernel
set_option maxRecDepth 100000 in
theorem ckX3_putInSlot : ab_cm mX3_putInSlot (1218, 1216, 1217, 111) = true := by decide +kernel
set_option maxRecDepth 100000 in
theorem ckX3_takeFromSlot : ab_cm mX3_takeFromSlot (1227, 1225, 1226, 111) = true := by decide +kernel
set_option maxRecDepth 100000 in
theorem ckX4_init : ab_cm mX4_init (245, 244, 0, 102) = true := by decide +kernel
set_option maxRecDepth 100000 in
theorem ckX4_faultPlace : ab_cm mX4_faultPlace (796, 794, 795, 102) = true := by decide +kernel
set_option maxRecDepth 100000 in
theorem ckX4_readInto : ab_cm mX4_readInto (543, 541, 542, 102) = true := by decide +kernel
set_option maxRecDepth 100000 in
theorem ckX4_begin : ab_cm mX4_begin (547, 546, 2, 102) = true := by decide +kernel
set_option maxRecDepth 100000 in
theorem ckX4_settle : ab_cm mX4_settle (779, 778, 23, 102) = true := by decide +kernel
set_option maxRecDepth 100000 in
theorem ckX4_take : ab_cm mX4_take (668, 667, 10, 102) = true := by decide +kernel
set_option maxRecDepth 100000 in
theorem ckX4_refuse : ab_cm mX4_refuse (664, 663, 9, 102) = true := by decide +kernel
set_option maxRecDepth 100000 in
theorem ckX4_refuseLate : ab_cm mX4_refuseLate (684, 683, 12, 102) = true := by decide +kernel
set_option maxRecDepth 100000 in
theorem ckX4_readChurch : ab_cm mX4_readChurch (656, 655, 8, 102) = true := by decide +kernel
set_option maxRecDepth 100000 in
theorem ckX4_readRoad : ab_cm mX4_readRoad (697, 696, 14, 102) = true := by decide +kernel
set_option maxRecDepth 100000 in
theorem ckX4_readRelic : ab_cm mX4_readRelic (725, 724, 16, 102) = true := by decide +kernel
set_option maxRecDepth 100000 in
theorem ckX4_readPilgrim : ab_cm mX4_readPilgrim (737, 736, 17, 102) = true := by decide +kernel
set_option maxRecDepth 100000 in
theorem ckX4_readSeed : ab_cm mX4_readSeed (749, 748, 18, 102) = true := by decide +kernel
set_option maxRecDepth 100000 in
theorem ckX4_addName : ab_cm mX4_addName (672, 671, 11, 102) = true := by decide +kernel
set_option maxRecDepth 100000 in
theorem ckX4_churchAt : ab_cm mX4_churchAt (705, 704, 15, 102) = true := by decide +kernel
set_option maxRecDepth 100000 in
theorem ckX4_numberAt : ab_cm mX4_numberAt (688, 687, 13, 102) = true := by decide +kernel
set_option maxRecDepth 100000 in
theorem ckX4_readLaw : ab_cm mX4_readLaw (757, 756, 19, 102) = true := by decide +kernel
end
section
/-! the checks of the code tables, 2 -/
set_option maxRecDepth 100000 in
theorem ckX4_readIf : ab_cm mX4_readIf (762, 761, 20, 102) = true := by decide +kernel
set_option maxRecDepth 100000 in
theorem ckX4_readSum : ab_cm mX4_readSum (766, 765, 21, 102) = true := by decide +kernel
set_option maxRecDepth 100000 in
theorem ckX4_readUnit : ab_cm mX4_readUnit (770, 769, 22, 102) = true := by decide +kernel
set_option maxRecDepth 100000 in
theorem ckX5_init : ab_cm mX5_init (358, 357, 0, 108) = true := by decide +kernel
set_option maxRecDepth 100000 in
theorem ckX5_get : ab_cm mX5_get (467, 465, 466, 108) = true := by decide +kernel
set_option maxRecDepth 100000 in
theorem ckX5_set : ab_cm mX5_set (474, 472, 473, 108) = true := by decide +kernel
set_option maxRecDepth 100000 in
theorem ckX5_add : ab_cm mX5_add (924, 922, 923, 108) = true := by decide +kernel
set_option maxRecDepth 100000 in
theorem ckX5_total : ab_cm mX5_total (1236, 1234, 1235, 108) = true := by decide +kernel
set_option maxRecDepth 100000 in
theorem ckX5_move : ab_cm mX5_move (463, 461, 462, 108) = true := by decide +kernel
set_option maxRecDepth 100000 in
theorem ckX5_exchange : ab_cm mX5_exchange (960, 958, 959, 108) = true := by decide +kernel
set_option maxRecDepth 100000 in
theorem ckX5_begin : ab_cm mX5_begin (451, 449, 450, 108) = true := by decide +kernel
set_option maxRecDepth 100000 in
theorem ckX5_copyOf : ab_cm mX5_copyOf (1036, 1034, 1035, 108) = true := by decide +kernel
set_option maxRecDepth 100000 in
theorem ckX5_writeTo : ab_cm mX5_writeTo (915, 913, 914, 108) = true := by decide +kernel
set_option maxRecDepth 100000 in
theorem ckX5_readFrom : ab_cm mX5_readFrom (998, 996, 997, 108) = true := by decide +kernel
set_option maxRecDepth 100000 in
theorem ckX6_init : ab_cm mX6_init (231, 230, 0, 101) = true := by decide +kernel
set_option maxRecDepth 100000 in
theorem ckX6_length : ab_cm mX6_length (522, 520, 521, 101) = true := by decide +kernel
set_option maxRecDepth 100000 in
theorem ckX6_append : ab_cm mX6_append (526, 524, 525, 101) = true := by decide +kernel
set_option maxRecDepth 100000 in
theorem ckX6_cutTo : ab_cm mX6_cutTo (534, 532, 533, 101) = true := by decide +kernel
set_option maxRecDepth 100000 in
theorem ckX6_at : ab_cm mX6_at (556, 554, 555, 101) = true := by decide +kernel
set_option maxRecDepth 100000 in
theorem ckX7_init : ab_cm mX7_init (129, 128, 0, 99) = true := by decide +kernel
set_option maxRecDepth 100000 in
theorem ckX7_clear : ab_cm mX7_clear (160, 158, 159, 99) = true := by decide +kernel
set_option maxRecDepth 100000 in
theorem ckX7_laws : ab_cm mX7_laws (325, 323, 324, 99) = true := by decide +kernel
set_option maxRecDepth 100000 in
theorem ckX7_churches : ab_cm mX7_churches (660, 658, 659, 99) = true := by decide +kernel
set_option maxRecDepth 100000 in
theorem ckX7_roads : ab_cm mX7_roads (701, 699, 700, 99) = true := by decide +kernel
set_option maxRecDepth 100000 in
theorem ckX7_relics : ab_cm mX7_relics (729, 727, 728, 99) = true := by decide +kernel
set_option maxRecDepth 100000 in
theorem ckX7_trueRelics : ab_cm mX7_trueRelics (806, 804, 805, 99) = true := by decide +kernel
set_option maxRecDepth 100000 in
theorem ckX7_pilgrims : ab_cm mX7_pilgrims (741, 739, 740, 99) = true := by decide +kernel
set_option maxRecDepth 100000 in
theorem ckX7_seed : ab_cm mX7_seed (928, 926, 927, 99) = true := by decide +kernel
set_option maxRecDepth 100000 in
theorem ckX7_hasChurch : ab_cm mX7_hasChurch (721, 719, 720, 99) = true := by decide +kernel
set_option maxRecDepth 100000 in
theorem ckX7_hasRelic : ab_cm mX7_hasRelic (820, 818, 819, 99) = true := by decide +kernel
set_option maxRecDepth 100000 in
theorem ckX7_hasPilgrim : ab_cm mX7_hasPilgrim (832, 830, 831, 99) = true := by decide +kernel
set_option maxRecDepth 100000 in
theorem ckX7_truth : ab_cm mX7_truth (824, 822, 823, 99) = true := by decide +kernel
set_option maxRecDepth 100000 in
theorem ckX7_watchersOf : ab_cm mX7_watchersOf (455, 453, 454, 99) = true := by decide +kernel
set_option maxRecDepth 100000 in
theorem ckX7_churchOf : ab_cm mX7_churchOf (459, 457, 458, 99) = true := by decide +kernel
set_option maxRecDepth 100000 in
theorem ckX7_home : ab_cm mX7_home (836, 834, 835, 99) = true := by decide +kernel
set_option maxRecDepth 100000 in
theorem ckX7_needOf : ab_cm mX7_needOf (840, 838, 839, 99) = true := by decide +kernel
set_option maxRecDepth 100000 in
theorem ckX7_giftOf : ab_cm mX7_giftOf (844, 842, 843, 99) = true := by decide +kernel
set_option maxRecDepth 100000 in
theorem ckX7_far : ab_cm mX7_far (713, 711, 712, 99) = true := by decide +kernel
set_option maxRecDepth 100000 in
theorem ckX7_churchNamed : ab_cm mX7_churchNamed (709, 707, 708, 99) = true := by decide +kernel
set_option maxRecDepth 100000 in
theorem ckX7_addName : ab_cm mX7_addName (680, 678, 679, 99) = true := by decide +kernel
set_option maxRecDepth 100000 in
theorem ckX7_addChurch : ab_cm mX7_addChurch (693, 691, 692, 99) = true := by decide +kernel
set_option maxRecDepth 100000 in
theorem ckX7_addRoad : ab_cm mX7_addRoad (717, 715, 716, 99) = true := by decide +kernel
set_option maxRecDepth 100000 in
theorem ckX7_addRelic : ab_cm mX7_addRelic (733, 731, 732, 99) = true := by decide +kernel
set_option maxRecDepth 100000 in
theorem ckX7_addPilgrim : ab_cm mX7_addPilgrim (745, 743, 744, 99) = true := by decide +kernel
set_option maxRecDepth 100000 in
theorem ckX7_sow : ab_cm mX7_sow (753, 751, 752, 99) = true := by decide +kernel
set_option maxRecDepth 100000 in
theorem ckX7_joinRoads : ab_cm mX7_joinRoads (783, 781, 782, 99) = true := by decide +kernel
set_option maxRecDepth 100000 in
theorem ckX8_init : ab_cm mX8_init (251, 250, 0, 103) = true := by decide +kernel
set_option maxRecDepth 100000 in
theorem ckX8_withLetter : ab_cm mX8_withLetter (304, 303, 0, 103) = true := by decide +kernel
set_option maxRecDepth 100000 in
theorem ckX8_isLetter : ab_cm mX8_isLetter (566, 565, 0, 103) = true := by decide +kernel
set_option maxRecDepth 100000 in
theorem ckX8_isDigit : ab_cm mX8_isDigit (581, 580, 0, 103) = true := by decide +kernel
set_option maxRecDepth 100000 in
theorem ckX8_isBlank : ab_cm mX8_isBlank (559, 558, 0, 103) = true := by decide +kernel
end
section
/-! the checks of the code tables, 3 -/
set_option maxRecDepth 100000 in
theorem ckX8_kindAt : ab_cm mX8_kindAt (650, 648, 649, 103) = true := by decide +kernel
set_option maxRecDepth 100000 in
theorem ckX8_placeAt : ab_cm mX8_placeAt (788, 786, 787, 103) = true := by decide +kernel
set_option maxRecDepth 100000 in
theorem ckX8_valueAt : ab_cm mX8_valueAt (676, 674, 675, 103) = true := by decide +kernel
set_option maxRecDepth 100000 in
theorem ckX8_scan : ab_cm mX8_scan (551, 549, 550, 103) = true := by decide +kernel
set_option maxRecDepth 100000 in
theorem ckX8_addToken : ab_cm mX8_addToken (563, 562, 3, 103) = true := by decide +kernel
set_option maxRecDepth 100000 in
theorem ckX8_addLetters : ab_cm mX8_addLetters (570, 569, 4, 103) = true := by decide +kernel
set_option maxRecDepth 100000 in
theorem ckX8_addDigits : ab_cm mX8_addDigits (585, 584, 7, 103) = true := by decide +kernel
set_option maxRecDepth 100000 in
theorem ckX8_wordKind : ab_cm mX8_wordKind (574, 573, 5, 103) = true := by decide +kernel
set_option maxRecDepth 100000 in
theorem ckX8_put : ab_cm mX8_put (578, 577, 6, 103) = true := by decide +kernel
set_option maxRecDepth 100000 in
theorem ckX9_init : ab_cm mX9_init (432, 431, 0, 112) = true := by decide +kernel
set_option maxRecDepth 100000 in
theorem ckX9_clear : ab_cm mX9_clear (486, 484, 485, 112) = true := by decide +kernel
set_option maxRecDepth 100000 in
theorem ckX9_size : ab_cm mX9_size (1187, 1185, 1186, 112) = true := by decide +kernel
set_option maxRecDepth 100000 in
theorem ckX9_add : ab_cm mX9_add (1179, 1177, 1178, 112) = true := by decide +kernel
set_option maxRecDepth 100000 in
theorem ckX9_relicsLeft : ab_cm mX9_relicsLeft (1196, 1194, 1195, 112) = true := by decide +kernel
set_option maxRecDepth 100000 in
theorem ckX9_bestToAsk : ab_cm mX9_bestToAsk (1208, 1206, 1207, 112) = true := by decide +kernel
set_option maxRecDepth 100000 in
theorem ckX10_init : ab_cm mX10_init (121, 120, 0, 98) = true := by decide +kernel
set_option maxRecDepth 100000 in
theorem ckX10_feed : ab_cm mX10_feed (518, 516, 517, 98) = true := by decide +kernel
set_option maxRecDepth 100000 in
theorem ckX10_back : ab_cm mX10_back (530, 528, 529, 98) = true := by decide +kernel
set_option maxRecDepth 100000 in
theorem ckX10_read : ab_cm mX10_read (539, 537, 538, 98) = true := by decide +kernel
set_option maxRecDepth 100000 in
theorem ckX10_startText : ab_cm mX10_startText (447, 446, 1, 98) = true := by decide +kernel
set_option maxRecDepth 100000 in
theorem ckX10_place : ab_cm mX10_place (792, 790, 791, 98) = true := by decide +kernel
set_option maxRecDepth 100000 in
theorem ckX10_church : ab_cm mX10_church (800, 798, 799, 98) = true := by decide +kernel
set_option maxRecDepth 100000 in
theorem ckX10_relic : ab_cm mX10_relic (816, 814, 815, 98) = true := by decide +kernel
set_option maxRecDepth 100000 in
theorem ckX10_pilgrim : ab_cm mX10_pilgrim (828, 826, 827, 98) = true := by decide +kernel
set_option maxRecDepth 100000 in
theorem ckX10_tells : ab_cm mX10_tells (848, 846, 847, 98) = true := by decide +kernel
set_option maxRecDepth 100000 in
theorem ckX10_heals : ab_cm mX10_heals (898, 896, 897, 98) = true := by decide +kernel
set_option maxRecDepth 100000 in
theorem ckX10_steal : ab_cm mX10_steal (906, 904, 905, 98) = true := by decide +kernel
set_option maxRecDepth 100000 in
theorem ckX10_swap : ab_cm mX10_swap (956, 954, 955, 98) = true := by decide +kernel
set_option maxRecDepth 100000 in
theorem ckX10_watch : ab_cm mX10_watch (964, 962, 963, 98) = true := by decide +kernel
set_option maxRecDepth 100000 in
theorem ckX10_years : ab_cm mX10_years (969, 967, 968, 98) = true := by decide +kernel
set_option maxRecDepth 100000 in
theorem ckX10_undo : ab_cm mX10_undo (990, 988, 989, 98) = true := by decide +kernel
set_option maxRecDepth 100000 in
theorem ckX10_goes : ab_cm mX10_goes (1002, 1000, 1001, 98) = true := by decide +kernel
set_option maxRecDepth 100000 in
theorem ckX10_theft : ab_cm mX10_theft (1007, 1005, 1006, 98) = true := by decide +kernel
set_option maxRecDepth 100000 in
theorem ckX10_nights : ab_cm mX10_nights (1015, 1013, 1014, 98) = true := by decide +kernel
set_option maxRecDepth 100000 in
theorem ckX10_worth : ab_cm mX10_worth (1024, 1022, 1023, 98) = true := by decide +kernel
set_option maxRecDepth 100000 in
theorem ckX10_guard : ab_cm mX10_guard (1058, 1056, 1057, 98) = true := by decide +kernel
set_option maxRecDepth 100000 in
theorem ckX10_guards : ab_cm mX10_guards (1066, 1064, 1065, 98) = true := by decide +kernel
set_option maxRecDepth 100000 in
theorem ckX10_weak : ab_cm mX10_weak (1071, 1069, 1070, 98) = true := by decide +kernel
set_option maxRecDepth 100000 in
theorem ckX10_barter : ab_cm mX10_barter (1081, 1079, 1080, 98) = true := by decide +kernel
end
section
/-! the checks of the code tables, 4 -/
set_option maxRecDepth 100000 in
theorem ckX10_took : ab_cm mX10_took (1099, 1097, 1098, 98) = true := by decide +kernel
set_option maxRecDepth 100000 in
theorem ckX10_wonders : ab_cm mX10_wonders (1107, 1105, 1106, 98) = true := by decide +kernel
set_option maxRecDepth 100000 in
theorem ckX10_goesIn : ab_cm mX10_goesIn (1111, 1109, 1110, 98) = true := by decide +kernel
set_option maxRecDepth 100000 in
theorem ckX10_rich : ab_cm mX10_rich (1116, 1114, 1115, 98) = true := by decide +kernel
set_option maxRecDepth 100000 in
theorem ckX10_hub : ab_cm mX10_hub (1124, 1122, 1123, 98) = true := by decide +kernel
set_option maxRecDepth 100000 in
theorem ckX10_crowd : ab_cm mX10_crowd (1128, 1126, 1127, 98) = true := by decide +kernel
set_option maxRecDepth 100000 in
theorem ckX10_healed : ab_cm mX10_healed (1133, 1131, 1132, 98) = true := by decide +kernel
set_option maxRecDepth 100000 in
theorem ckX10_famed : ab_cm mX10_famed (1137, 1135, 1136, 98) = true := by decide +kernel
set_option maxRecDepth 100000 in
theorem ckX10_year : ab_cm mX10_year (1145, 1143, 1144, 98) = true := by decide +kernel
set_option maxRecDepth 100000 in
theorem ckX10_belief : ab_cm mX10_belief (1157, 1155, 1156, 98) = true := by decide +kernel
set_option maxRecDepth 100000 in
theorem ckX10_certain : ab_cm mX10_certain (1170, 1168, 1169, 98) = true := by decide +kernel
set_option maxRecDepth 100000 in
theorem ckX10_tell : ab_cm mX10_tell (1175, 1173, 1174, 98) = true := by decide +kernel
set_option maxRecDepth 100000 in
theorem ckX10_forget : ab_cm mX10_forget (1183, 1181, 1182, 98) = true := by decide +kernel
set_option maxRecDepth 100000 in
theorem ckX10_whose : ab_cm mX10_whose (1191, 1189, 1190, 98) = true := by decide +kernel
set_option maxRecDepth 100000 in
theorem ckX10_ask : ab_cm mX10_ask (1204, 1202, 1203, 98) = true := by decide +kernel
set_option maxRecDepth 100000 in
theorem ckX10_hold : ab_cm mX10_hold (1214, 1212, 1213, 98) = true := by decide +kernel
set_option maxRecDepth 100000 in
theorem ckX10_restore : ab_cm mX10_restore (1223, 1221, 1222, 98) = true := by decide +kernel
set_option maxRecDepth 100000 in
theorem ckX10_count : ab_cm mX10_count (1231, 1229, 1230, 98) = true := by decide +kernel
set_option maxRecDepth 100000 in
theorem ckX10_likelyRow : ab_cm mX10_likelyRow (1160, 1159, 0, 98) = true := by decide +kernel
set_option maxRecDepth 100000 in
theorem ckX10_commonDivisor : ab_cm mX10_commonDivisor (1163, 1162, 0, 98) = true := by decide +kernel
set_option maxRecDepth 100000 in
theorem ckX10_isWithin : ab_cm mX10_isWithin (470, 469, 0, 98) = true := by decide +kernel
set_option maxRecDepth 100000 in
theorem ckX10_heldTo : ab_cm mX10_heldTo (891, 890, 0, 98) = true := by decide +kernel
end
section
/-! the checks of the code tables, f0 -/
theorem ab_sp {f : ab_I → Bool} {l : List ab_I} (n : Nat) (h1 : (l.take n).all f = true) (h2 : (l.drop n).all f = true) : l.all f = true := by
  rw [← List.take_append_drop n l, List.all_append, h1, h2]
  rfl
theorem ab_cm_of {M : ab_M} {z : Nat × Nat × Nat × Nat} (h0 : ab_cm (ab_my M, ab_mb M, ab_ml M, ab_mr M, ab_mc M, ab_ms M, ab_mk M, []) z = true) (ha : (ab_mo M).all (ab_ce M) = true) : ab_cm M z = true := by
  unfold ab_cm at *
  simp only [Bool.and_eq_true] at *
  exact ⟨h0.1, ha⟩
def ab_c2 (M : ab_M) (z : Nat × Nat × Nat × Nat) : Bool := ab_at z.2.2.2 (.initialized (ab_my M).cls) && decide (ab_ml M ≤ 40) && plainName (ab_my M).cls && decide ((ab_my M).cls ≠ "java/lang/invoke/MethodHandle") && decide ((ab_my M).cls ≠ "java/lang/invoke/VarHandle") && (match ab_mk M with
  | 0 => ab_at z.2.1 (.static (ab_my M))
  | 1 => ab_at z.2.1 (.instanceMethod (ab_my M)) && ab_at z.2.2.1 (.selects (ab_my M).cls (ab_my M) (ab_my M))
  | 2 => ab_at z.2.1 (.instanceMethod (ab_my M)) && decide ((ab_my M).name = "<init>") && decide (ab_mr M = none)
  | _ => false)
theorem ab_cm_of2 {M : ab_M} {z : Nat × Nat × Nat × Nat} (h1 : lw_tbl[z.1]? = some (.code (ab_my M) (ab_mb M) (ab_ml M) (ab_mr M))) (h2 : ab_c2 M z = true) (ha : (ab_mo M).all (ab_ce M) = true) : ab_cm M z = true := by
  unfold ab_cm
  unfold ab_c2 at h2
  simp only [Bool.and_eq_true] at *
  obtain ⟨⟨⟨⟨⟨q1, q2⟩, q3⟩, q4⟩, q5⟩, q6⟩ := h2
  refine ⟨⟨⟨⟨⟨⟨⟨?_, q1⟩, q2⟩, q3⟩, q4⟩, q5⟩, q6⟩, ha⟩
  unfold ab_at
  rw [h1]
  simp only [decide_true, Bool.true_and]
  rfl
set_option maxRecDepth 100000 in
theorem ckX11_init_s0 : (((ab_mo mX11_init)).take 40).all (ab_ce mX11_init) = true := by decide +kernel
set_option maxRecDepth 100000 in
theorem ckX11_init_s1 : ((((ab_mo mX11_init).drop 40)).take 40).all (ab_ce mX11_init) = true := by decide +kernel
set_option maxRecDepth 100000 in
theorem ckX11_init_s2 : (((((ab_mo mX11_init).drop 40).drop 40)).take 40).all (ab_ce mX11_init) = true := by decide +kernel
set_option maxRecDepth 100000 in
theorem ckX11_init_s3 : ((((((ab_mo mX11_init).drop 40).drop 40).drop 40)).take 40).all (ab_ce mX11_init) = true := by decide +kernel
set_option maxRecDepth 100000 in
theorem ckX11_init_s4 : (((((((ab_mo mX11_init).drop 40).drop 40).drop 40).drop 40)).take 40).all (ab_ce mX11_init) = true := by decide +kernel
set_option maxRecDepth 100000 in
theorem ckX11_init_s5 : ((((((((ab_mo mX11_init).drop 40).drop 40).drop 40).drop 40).drop 40)).take 40).all (ab_ce mX11_init) = true := by decide +kernel
set_option maxRecDepth 100000 in
theorem ckX11_init_s6 : (((((((((ab_mo mX11_init).drop 40).drop 40).drop 40).drop 40).drop 40).drop 40)).take 40).all (ab_ce mX11_init) = true := by decide +kernel
set_option maxRecDepth 100000 in
theorem ckX11_init_s7 : ((((((((((ab_mo mX11_init).drop 40).drop 40).drop 40).drop 40).drop 40).drop 40).drop 40)).take 40).all (ab_ce mX11_init) = true := by decide +kernel
set_option maxRecDepth 100000 in
theorem ckX11_init_s8 : (((((((((((ab_mo mX11_init).drop 40).drop 40).drop 40).drop 40).drop 40).drop 40).drop 40).drop 40)).take 40).all (ab_ce mX11_init) = true := by decide +kernel
set_option maxRecDepth 100000 in
theorem ckX11_init_s9 : ((((((((((((ab_mo mX11_init).drop 40).drop 40).drop 40).drop 40).drop 40).drop 40).drop 40).drop 40).drop 40)).take 40).all (ab_ce mX11_init) = true := by decide +kernel
end
section
/-! the checks of the code tables, f1 -/
set_option maxRecDepth 100000 in
theorem ckX11_init_s10 : (((((((((((((ab_mo mX11_init).drop 40).drop 40).drop 40).drop 40).drop 40).drop 40).drop 40).drop 40).drop 40).drop 40)).take 40).all (ab_ce mX11_init) = true := by decide +kernel
set_option maxRecDepth 100000 in
theorem ckX11_init_s11 : ((((((((((((((ab_mo mX11_init).drop 40).drop 40).drop 40).drop 40).drop 40).drop 40).drop 40).drop 40).drop 40).drop 40).drop 40)).take 40).all (ab_ce mX11_init) = true := by decide +kernel
set_option maxRecDepth 100000 in
theorem zwX11_init : lw_tbl[1249]? = some (.code (ab_my mX11_init) (ab_mb mX11_init) (ab_ml mX11_init) (ab_mr mX11_init)) := by rfl
set_option maxRecDepth 100000 in
theorem ckX11_init : ab_cm mX11_init (1249, 1248, 0, 113) = true := ab_cm_of2 zwX11_init (by decide +kernel) (ab_sp 40 ckX11_init_s0 (ab_sp 40 ckX11_init_s1 (ab_sp 40 ckX11_init_s2 (ab_sp 40 ckX11_init_s3 (ab_sp 40 ckX11_init_s4 (ab_sp 40 ckX11_init_s5 (ab_sp 40 ckX11_init_s6 (ab_sp 40 ckX11_init_s7 (ab_sp 40 ckX11_init_s8 (ab_sp 40 ckX11_init_s9 (ab_sp 40 ckX11_init_s10 (ab_sp 40 ckX11_init_s11 (rfl)))))))))))))
set_option maxRecDepth 100000 in
theorem ckX11_feed : ab_cm mX11_feed (1471, 1469, 1470, 113) = true := by decide +kernel
set_option maxRecDepth 100000 in
theorem ckX11_put : ab_cm mX11_put (1475, 1474, 38, 113) = true := by decide +kernel
set_option maxRecDepth 100000 in
theorem ckX11_back : ab_cm mX11_back (1479, 1477, 1478, 113) = true := by decide +kernel
set_option maxRecDepth 100000 in
theorem ckX11_byteAt : ab_cm mX11_byteAt (1491, 1490, 40, 113) = true := by decide +kernel
set_option maxRecDepth 100000 in
theorem ckX11_isDigit : ab_cm mX11_isDigit (1501, 1500, 0, 113) = true := by decide +kernel
set_option maxRecDepth 100000 in
theorem ckX11_isLetter : ab_cm mX11_isLetter (1498, 1497, 0, 113) = true := by decide +kernel
set_option maxRecDepth 100000 in
theorem ckX11_appends : ab_cm mX11_appends (1260, 1259, 0, 113) = true := by decide +kernel
set_option maxRecDepth 100000 in
theorem ckX11_word : ab_cm mX11_word (1257, 1256, 0, 113) = true := by decide +kernel
set_option maxRecDepth 100000 in
theorem ckX11_token : ab_cm mX11_token (1495, 1494, 41, 113) = true := by decide +kernel
set_option maxRecDepth 100000 in
theorem ckX11_cut_s0 : (((ab_mo mX11_cut)).take 40).all (ab_ce mX11_cut) = true := by decide +kernel
set_option maxRecDepth 100000 in
theorem ckX11_cut_s1 : ((((ab_mo mX11_cut).drop 40)).take 40).all (ab_ce mX11_cut) = true := by decide +kernel
set_option maxRecDepth 100000 in
theorem ckX11_cut_s2 : (((((ab_mo mX11_cut).drop 40).drop 40)).take 40).all (ab_ce mX11_cut) = true := by decide +kernel
set_option maxRecDepth 100000 in
theorem ckX11_cut_s3 : ((((((ab_mo mX11_cut).drop 40).drop 40).drop 40)).take 40).all (ab_ce mX11_cut) = true := by decide +kernel
set_option maxRecDepth 100000 in
theorem ckX11_cut_s4 : (((((((ab_mo mX11_cut).drop 40).drop 40).drop 40).drop 40)).take 40).all (ab_ce mX11_cut) = true := by decide +kernel
set_option maxRecDepth 100000 in
theorem ckX11_cut : ab_cm mX11_cut (1487, 1486, 39, 113) = true := ab_cm_of (by decide +kernel) (ab_sp 40 ckX11_cut_s0 (ab_sp 40 ckX11_cut_s1 (ab_sp 40 ckX11_cut_s2 (ab_sp 40 ckX11_cut_s3 (ab_sp 40 ckX11_cut_s4 (rfl))))))
set_option maxRecDepth 100000 in
theorem ckX11_sign : ab_cm mX11_sign (1505, 1504, 42, 113) = true := by decide +kernel
set_option maxRecDepth 100000 in
theorem ckX11_is : ab_cm mX11_is (1509, 1508, 43, 113) = true := by decide +kernel
set_option maxRecDepth 100000 in
theorem ckX11_fail : ab_cm mX11_fail (1521, 1520, 46, 113) = true := by decide +kernel
set_option maxRecDepth 100000 in
theorem ckX11_wrong : ab_cm mX11_wrong (1537, 1536, 50, 113) = true := by decide +kernel
set_option maxRecDepth 100000 in
theorem ckX11_goesOn : ab_cm mX11_goesOn (1525, 1524, 47, 113) = true := by decide +kernel
set_option maxRecDepth 100000 in
theorem ckX11_must : ab_cm mX11_must (1533, 1532, 49, 113) = true := by decide +kernel
set_option maxRecDepth 100000 in
theorem ckX11_plain : ab_cm mX11_plain (1254, 1253, 35, 113) = true := by decide +kernel
set_option maxRecDepth 100000 in
theorem ckX11_read_s0 : (((ab_mo mX11_read)).take 40).all (ab_ce mX11_read) = true := by decide +kernel
set_option maxRecDepth 100000 in
theorem ckX11_read_s1 : ((((ab_mo mX11_read).drop 40)).take 40).all (ab_ce mX11_read) = true := by decide +kernel
set_option maxRecDepth 100000 in
theorem ckX11_read_s2 : (((((ab_mo mX11_read).drop 40).drop 40)).take 40).all (ab_ce mX11_read) = true := by decide +kernel
set_option maxRecDepth 100000 in
theorem ckX11_read_s3 : ((((((ab_mo mX11_read).drop 40).drop 40).drop 40)).take 40).all (ab_ce mX11_read) = true := by decide +kernel
set_option maxRecDepth 100000 in
theorem ckX11_read : ab_cm mX11_read (1483, 1481, 1482, 113) = true := ab_cm_of (by decide +kernel) (ab_sp 40 ckX11_read_s0 (ab_sp 40 ckX11_read_s1 (ab_sp 40 ckX11_read_s2 (ab_sp 40 ckX11_read_s3 (rfl)))))
set_option maxRecDepth 100000 in
theorem ckX11_place : ab_cm mX11_place (1593, 1591, 1592, 113) = true := by decide +kernel
set_option maxRecDepth 100000 in
theorem ckX11_roomFor : ab_cm mX11_roomFor (1517, 1516, 45, 113) = true := by decide +kernel
end
section
/-! the checks of the code tables, f2 -/
set_option maxRecDepth 100000 in
theorem ckX11_tellOne_s0 : (((ab_mo mX11_tellOne)).take 40).all (ab_ce mX11_tellOne) = true := by decide +kernel
set_option maxRecDepth 100000 in
theorem ckX11_tellOne_s1 : ((((ab_mo mX11_tellOne).drop 40)).take 40).all (ab_ce mX11_tellOne) = true := by decide +kernel
set_option maxRecDepth 100000 in
theorem ckX11_tellOne_s2 : (((((ab_mo mX11_tellOne).drop 40).drop 40)).take 40).all (ab_ce mX11_tellOne) = true := by decide +kernel
set_option maxRecDepth 100000 in
theorem ckX11_tellOne_s3 : ((((((ab_mo mX11_tellOne).drop 40).drop 40).drop 40)).take 40).all (ab_ce mX11_tellOne) = true := by decide +kernel
set_option maxRecDepth 100000 in
theorem ckX11_tellOne : ab_cm mX11_tellOne (1513, 1512, 44, 113) = true := ab_cm_of (by decide +kernel) (ab_sp 40 ckX11_tellOne_s0 (ab_sp 40 ckX11_tellOne_s1 (ab_sp 40 ckX11_tellOne_s2 (ab_sp 40 ckX11_tellOne_s3 (rfl)))))
set_option maxRecDepth 100000 in
theorem ckX11_named : ab_cm mX11_named (1529, 1528, 48, 113) = true := by decide +kernel
set_option maxRecDepth 100000 in
theorem ckX11_ends : ab_cm mX11_ends (1545, 1544, 52, 113) = true := by decide +kernel
set_option maxRecDepth 100000 in
theorem ckX11_knownChurch : ab_cm mX11_knownChurch (1553, 1552, 54, 113) = true := by decide +kernel
set_option maxRecDepth 100000 in
theorem ckX11_bounded : ab_cm mX11_bounded (1541, 1540, 51, 113) = true := by decide +kernel
set_option maxRecDepth 100000 in
theorem ckX11_tellRoad : ab_cm mX11_tellRoad (1549, 1548, 53, 113) = true := by decide +kernel
set_option maxRecDepth 100000 in
theorem ckX11_tellRelic : ab_cm mX11_tellRelic (1557, 1556, 55, 113) = true := by decide +kernel
set_option maxRecDepth 100000 in
theorem ckX11_tellPilgrim : ab_cm mX11_tellPilgrim (1561, 1560, 56, 113) = true := by decide +kernel
set_option maxRecDepth 100000 in
theorem ckX11_tellLaw_s0 : (((ab_mo mX11_tellLaw)).take 40).all (ab_ce mX11_tellLaw) = true := by decide +kernel
set_option maxRecDepth 100000 in
theorem ckX11_tellLaw_s1 : ((((ab_mo mX11_tellLaw).drop 40)).take 40).all (ab_ce mX11_tellLaw) = true := by decide +kernel
set_option maxRecDepth 100000 in
theorem ckX11_tellLaw_s2 : (((((ab_mo mX11_tellLaw).drop 40).drop 40)).take 40).all (ab_ce mX11_tellLaw) = true := by decide +kernel
set_option maxRecDepth 100000 in
theorem ckX11_tellLaw : ab_cm mX11_tellLaw (1565, 1564, 57, 113) = true := ab_cm_of (by decide +kernel) (ab_sp 40 ckX11_tellLaw_s0 (ab_sp 40 ckX11_tellLaw_s1 (ab_sp 40 ckX11_tellLaw_s2 (rfl))))
set_option maxRecDepth 100000 in
theorem ckX11_term : ab_cm mX11_term (1585, 1584, 62, 113) = true := by decide +kernel
set_option maxRecDepth 100000 in
theorem ckX11_emit : ab_cm mX11_emit (1577, 1576, 60, 113) = true := by decide +kernel
set_option maxRecDepth 100000 in
theorem ckX11_comesOut : ab_cm mX11_comesOut (1581, 1580, 61, 113) = true := by decide +kernel
set_option maxRecDepth 100000 in
theorem ckX11_expression_s0 : (((ab_mo mX11_expression)).take 40).all (ab_ce mX11_expression) = true := by decide +kernel
set_option maxRecDepth 100000 in
theorem ckX11_expression_s1 : ((((ab_mo mX11_expression).drop 40)).take 40).all (ab_ce mX11_expression) = true := by decide +kernel
set_option maxRecDepth 100000 in
theorem ckX11_expression_s2 : (((((ab_mo mX11_expression).drop 40).drop 40)).take 40).all (ab_ce mX11_expression) = true := by decide +kernel
set_option maxRecDepth 100000 in
theorem ckX11_expression_s3 : ((((((ab_mo mX11_expression).drop 40).drop 40).drop 40)).take 40).all (ab_ce mX11_expression) = true := by decide +kernel
set_option maxRecDepth 100000 in
theorem ckX11_expression : ab_cm mX11_expression (1569, 1568, 58, 113) = true := ab_cm_of (by decide +kernel) (ab_sp 40 ckX11_expression_s0 (ab_sp 40 ckX11_expression_s1 (ab_sp 40 ckX11_expression_s2 (ab_sp 40 ckX11_expression_s3 (rfl)))))
set_option maxRecDepth 100000 in
theorem ckX11_unit : ab_cm mX11_unit (1573, 1572, 59, 113) = true := by decide +kernel
end
section
/-! the checks of the code tables, f3 -/
set_option maxRecDepth 100000 in
theorem ckX11_termOf : ab_cm mX11_termOf (1665, 1664, 76, 113) = true := by decide +kernel
set_option maxRecDepth 100000 in
theorem ckX11_fillsFar : ab_cm mX11_fillsFar (1589, 1588, 63, 113) = true := by decide +kernel
set_option maxRecDepth 100000 in
theorem ckX11_in : ab_cm mX11_in (1604, 1603, 0, 113) = true := by decide +kernel
set_option maxRecDepth 100000 in
theorem ckX11_held : ab_cm mX11_held (1672, 1671, 0, 113) = true := by decide +kernel
set_option maxRecDepth 100000 in
theorem ckX11_isChurch : ab_cm mX11_isChurch (1601, 1600, 64, 113) = true := by decide +kernel
set_option maxRecDepth 100000 in
theorem ckX11_isRelic : ab_cm mX11_isRelic (1624, 1623, 68, 113) = true := by decide +kernel
set_option maxRecDepth 100000 in
theorem ckX11_isPilgrim : ab_cm mX11_isPilgrim (1632, 1631, 69, 113) = true := by decide +kernel
set_option maxRecDepth 100000 in
theorem ckX11_begins : ab_cm mX11_begins (1265, 1264, 36, 113) = true := by decide +kernel
set_option maxRecDepth 100000 in
theorem ckX11_keepsRow : ab_cm mX11_keepsRow (1269, 1268, 37, 113) = true := by decide +kernel
set_option maxRecDepth 100000 in
theorem ckX11_copies : ab_cm mX11_copies (1608, 1607, 65, 113) = true := by decide +kernel
set_option maxRecDepth 100000 in
theorem ckX11_mixed : ab_cm mX11_mixed (1703, 1702, 0, 113) = true := by decide +kernel
set_option maxRecDepth 100000 in
theorem ckX11_lotOf : ab_cm mX11_lotOf (1700, 1699, 81, 113) = true := by decide +kernel
set_option maxRecDepth 100000 in
theorem ckX11_relicsAt : ab_cm mX11_relicsAt (1653, 1652, 73, 113) = true := by decide +kernel
set_option maxRecDepth 100000 in
theorem ckX11_trueAt : ab_cm mX11_trueAt (1616, 1615, 67, 113) = true := by decide +kernel
set_option maxRecDepth 100000 in
theorem ckX11_farFor : ab_cm mX11_farFor (1657, 1656, 74, 113) = true := by decide +kernel
set_option maxRecDepth 100000 in
theorem ckX11_looks : ab_cm mX11_looks (1649, 1648, 72, 113) = true := by decide +kernel
set_option maxRecDepth 100000 in
theorem ckX11_looksAt : ab_cm mX11_looksAt (1645, 1644, 71, 113) = true := by decide +kernel
set_option maxRecDepth 100000 in
theorem ckX11_lawTells : ab_cm mX11_lawTells (1661, 1660, 75, 113) = true := by decide +kernel
set_option maxRecDepth 100000 in
theorem ckX11_drawsOf : ab_cm mX11_drawsOf (1641, 1640, 70, 113) = true := by decide +kernel
set_option maxRecDepth 100000 in
theorem ckX11_givesOf : ab_cm mX11_givesOf (1669, 1668, 77, 113) = true := by decide +kernel
set_option maxRecDepth 100000 in
theorem ckX11_healsBy : ab_cm mX11_healsBy (1684, 1683, 79, 113) = true := by decide +kernel
set_option maxRecDepth 100000 in
theorem ckX11_healsOf : ab_cm mX11_healsOf (1680, 1679, 78, 113) = true := by decide +kernel
set_option maxRecDepth 100000 in
theorem ckX11_leaveOf : ab_cm mX11_leaveOf (1713, 1712, 83, 113) = true := by decide +kernel
set_option maxRecDepth 100000 in
theorem ckX11_caughtBy : ab_cm mX11_caughtBy (1708, 1707, 82, 113) = true := by decide +kernel
set_option maxRecDepth 100000 in
theorem ckX11_goesNow : ab_cm mX11_goesNow (1741, 1740, 87, 113) = true := by decide +kernel
set_option maxRecDepth 100000 in
theorem ckX11_pilgrimGoes_s0 : (((ab_mo mX11_pilgrimGoes)).take 40).all (ab_ce mX11_pilgrimGoes) = true := by decide +kernel
set_option maxRecDepth 100000 in
theorem ckX11_pilgrimGoes_s1 : ((((ab_mo mX11_pilgrimGoes).drop 40)).take 40).all (ab_ce mX11_pilgrimGoes) = true := by decide +kernel
set_option maxRecDepth 100000 in
theorem ckX11_pilgrimGoes_s2 : (((((ab_mo mX11_pilgrimGoes).drop 40).drop 40)).take 40).all (ab_ce mX11_pilgrimGoes) = true := by decide +kernel
set_option maxRecDepth 100000 in
theorem ckX11_pilgrimGoes : ab_cm mX11_pilgrimGoes (1745, 1744, 88, 113) = true := ab_cm_of (by decide +kernel) (ab_sp 40 ckX11_pilgrimGoes_s0 (ab_sp 40 ckX11_pilgrimGoes_s1 (ab_sp 40 ckX11_pilgrimGoes_s2 (rfl))))
set_option maxRecDepth 100000 in
theorem ckX11_yearGoes : ab_cm mX11_yearGoes (1737, 1736, 86, 113) = true := by decide +kernel
set_option maxRecDepth 100000 in
theorem ckX11_yearsGo : ab_cm mX11_yearsGo (1733, 1732, 85, 113) = true := by decide +kernel
set_option maxRecDepth 100000 in
theorem ckX11_relicBits : ab_cm mX11_relicBits (1612, 1611, 66, 113) = true := by decide +kernel
set_option maxRecDepth 100000 in
theorem ckX11_church : ab_cm mX11_church (1597, 1595, 1596, 113) = true := by decide +kernel
set_option maxRecDepth 100000 in
theorem ckX11_relic : ab_cm mX11_relic (1620, 1618, 1619, 113) = true := by decide +kernel
set_option maxRecDepth 100000 in
theorem ckX11_pilgrim : ab_cm mX11_pilgrim (1628, 1626, 1627, 113) = true := by decide +kernel
set_option maxRecDepth 100000 in
theorem ckX11_tells : ab_cm mX11_tells (1636, 1634, 1635, 113) = true := by decide +kernel
set_option maxRecDepth 100000 in
theorem ckX11_heals : ab_cm mX11_heals (1676, 1674, 1675, 113) = true := by decide +kernel
set_option maxRecDepth 100000 in
theorem ckX11_records : ab_cm mX11_records (1717, 1716, 84, 113) = true := by decide +kernel
set_option maxRecDepth 100000 in
theorem ckX11_isNights : ab_cm mX11_isNights (1691, 1690, 0, 113) = true := by decide +kernel
set_option maxRecDepth 100000 in
theorem ckX11_triesFor : ab_cm mX11_triesFor (1695, 1694, 80, 113) = true := by decide +kernel
set_option maxRecDepth 100000 in
theorem ckX11_steal : ab_cm mX11_steal (1688, 1686, 1687, 113) = true := by decide +kernel
set_option maxRecDepth 100000 in
theorem ckX11_swap : ab_cm mX11_swap (1721, 1719, 1720, 113) = true := by decide +kernel
set_option maxRecDepth 100000 in
theorem ckX11_watch : ab_cm mX11_watch (1725, 1723, 1724, 113) = true := by decide +kernel
set_option maxRecDepth 100000 in
theorem ckX11_years : ab_cm mX11_years (1729, 1727, 1728, 113) = true := by decide +kernel
set_option maxRecDepth 100000 in
theorem ckX11_undo : ab_cm mX11_undo (1749, 1747, 1748, 113) = true := by decide +kernel
set_option maxRecDepth 100000 in
theorem ckX11_goes : ab_cm mX11_goes (1753, 1751, 1752, 113) = true := by decide +kernel
set_option maxRecDepth 100000 in
theorem ckX11_theftNow : ab_cm mX11_theftNow (1761, 1760, 89, 113) = true := by decide +kernel
set_option maxRecDepth 100000 in
theorem ckX11_theft : ab_cm mX11_theft (1757, 1755, 1756, 113) = true := by decide +kernel
set_option maxRecDepth 100000 in
theorem ckX11_nightsNow : ab_cm mX11_nightsNow (1769, 1768, 90, 113) = true := by decide +kernel
set_option maxRecDepth 100000 in
theorem ckX11_nights : ab_cm mX11_nights (1765, 1763, 1764, 113) = true := by decide +kernel
set_option maxRecDepth 100000 in
theorem ckX11_guardOf : ab_cm mX11_guardOf (1780, 1779, 91, 113) = true := by decide +kernel
set_option maxRecDepth 100000 in
theorem ckX11_isOdds : ab_cm mX11_isOdds (1776, 1775, 0, 113) = true := by decide +kernel
set_option maxRecDepth 100000 in
theorem ckX11_guard : ab_cm mX11_guard (1773, 1771, 1772, 113) = true := by decide +kernel
set_option maxRecDepth 100000 in
theorem ckX11_guards : ab_cm mX11_guards (1784, 1782, 1783, 113) = true := by decide +kernel
set_option maxRecDepth 100000 in
theorem ckX11_weak : ab_cm mX11_weak (1788, 1786, 1787, 113) = true := by decide +kernel
set_option maxRecDepth 100000 in
theorem ckX11_isFew : ab_cm mX11_isFew (1795, 1794, 0, 113) = true := by decide +kernel
set_option maxRecDepth 100000 in
theorem ckX11_isLong : ab_cm mX11_isLong (1814, 1813, 0, 113) = true := by decide +kernel
set_option maxRecDepth 100000 in
theorem ckX11_takesWith : ab_cm mX11_takesWith (1799, 1798, 92, 113) = true := by decide +kernel
set_option maxRecDepth 100000 in
theorem ckX11_worth : ab_cm mX11_worth (1792, 1790, 1791, 113) = true := by decide +kernel
set_option maxRecDepth 100000 in
theorem ckX11_isBarter : ab_cm mX11_isBarter (1807, 1806, 93, 113) = true := by decide +kernel
set_option maxRecDepth 100000 in
theorem ckX11_barter : ab_cm mX11_barter (1803, 1801, 1802, 113) = true := by decide +kernel
set_option maxRecDepth 100000 in
theorem ckX11_took : ab_cm mX11_took (1811, 1809, 1810, 113) = true := by decide +kernel
set_option maxRecDepth 100000 in
theorem ckX11_wonders : ab_cm mX11_wonders (1818, 1816, 1817, 113) = true := by decide +kernel
set_option maxRecDepth 100000 in
theorem ckX11_goesIn : ab_cm mX11_goesIn (1822, 1820, 1821, 113) = true := by decide +kernel
set_option maxRecDepth 100000 in
theorem ckX11_rich : ab_cm mX11_rich (1826, 1824, 1825, 113) = true := by decide +kernel
set_option maxRecDepth 100000 in
theorem ckX11_hub : ab_cm mX11_hub (1830, 1828, 1829, 113) = true := by decide +kernel
set_option maxRecDepth 100000 in
theorem ckX11_crowd : ab_cm mX11_crowd (1834, 1832, 1833, 113) = true := by decide +kernel
set_option maxRecDepth 100000 in
theorem ckX11_healed : ab_cm mX11_healed (1838, 1836, 1837, 113) = true := by decide +kernel
end
section
/-! the checks of the code tables, f4 -/
set_option maxRecDepth 100000 in
theorem ckX11_famed : ab_cm mX11_famed (1842, 1840, 1841, 113) = true := by decide +kernel
set_option maxRecDepth 100000 in
theorem ckX11_year : ab_cm mX11_year (1846, 1844, 1845, 113) = true := by decide +kernel
set_option maxRecDepth 100000 in
theorem ckX11_rowOdds : ab_cm mX11_rowOdds (1857, 1856, 0, 113) = true := by decide +kernel
set_option maxRecDepth 100000 in
theorem ckX11_fillsBelief : ab_cm mX11_fillsBelief (1854, 1853, 94, 113) = true := by decide +kernel
set_option maxRecDepth 100000 in
theorem ckX11_belief : ab_cm mX11_belief (1850, 1848, 1849, 113) = true := by decide +kernel
set_option maxRecDepth 100000 in
theorem ckX11_certain : ab_cm mX11_certain (1861, 1859, 1860, 113) = true := by decide +kernel
set_option maxRecDepth 100000 in
theorem ckX11_tell : ab_cm mX11_tell (1866, 1864, 1865, 113) = true := by decide +kernel
set_option maxRecDepth 100000 in
theorem ckX11_forget : ab_cm mX11_forget (1870, 1868, 1869, 113) = true := by decide +kernel
set_option maxRecDepth 100000 in
theorem ckX11_whoseBits : ab_cm mX11_whoseBits (1878, 1877, 95, 113) = true := by decide +kernel
set_option maxRecDepth 100000 in
theorem ckX11_bits : ab_cm mX11_bits (1881, 1880, 0, 113) = true := by decide +kernel
set_option maxRecDepth 100000 in
theorem ckX11_whose : ab_cm mX11_whose (1874, 1872, 1873, 113) = true := by decide +kernel
set_option maxRecDepth 100000 in
theorem ckX11_ask : ab_cm mX11_ask (1885, 1883, 1884, 113) = true := by decide +kernel
set_option maxRecDepth 100000 in
theorem ckX11_hold : ab_cm mX11_hold (1889, 1887, 1888, 113) = true := by decide +kernel
set_option maxRecDepth 100000 in
theorem ckX11_restore : ab_cm mX11_restore (1893, 1891, 1892, 113) = true := by decide +kernel
set_option maxRecDepth 100000 in
theorem ckX11_sumNow : ab_cm mX11_sumNow (1901, 1900, 96, 113) = true := by decide +kernel
set_option maxRecDepth 100000 in
theorem ckX11_count_s0 : (((ab_mo mX11_count)).take 40).all (ab_ce mX11_count) = true := by decide +kernel
set_option maxRecDepth 100000 in
theorem ckX11_count_s1 : ((((ab_mo mX11_count).drop 40)).take 40).all (ab_ce mX11_count) = true := by decide +kernel
set_option maxRecDepth 100000 in
theorem ckX11_count_s2 : (((((ab_mo mX11_count).drop 40).drop 40)).take 40).all (ab_ce mX11_count) = true := by decide +kernel
set_option maxRecDepth 100000 in
theorem ckX11_count_s3 : ((((((ab_mo mX11_count).drop 40).drop 40).drop 40)).take 40).all (ab_ce mX11_count) = true := by decide +kernel
set_option maxRecDepth 100000 in
theorem ckX11_count : ab_cm mX11_count (1897, 1895, 1896, 113) = true := ab_cm_of (by decide +kernel) (ab_sp 40 ckX11_count_s0 (ab_sp 40 ckX11_count_s1 (ab_sp 40 ckX11_count_s2 (ab_sp 40 ckX11_count_s3 (rfl)))))
set_option maxRecDepth 100000 in
theorem ckJ6_bitCount_0f7a4 : ab_cm mJ6_bitCount_0f7a4 (809, 808, 0, 116) = true := by decide +kernel
set_option maxRecDepth 100000 in
theorem ckJ0_length_8abf5 : ab_cm mJ0_length_8abf5 (257, 255, 256, 104) = true := by decide +kernel
set_option maxRecDepth 100000 in
theorem ckJ0_charAt_5068e : ab_cm mJ0_charAt_5068e (267, 265, 266, 104) = true := by decide +kernel
set_option maxRecDepth 100000 in
theorem ckJ0_indexOf_0f7a4 : ab_cm mJ0_indexOf_0f7a4 (590, 588, 589, 104) = true := by decide +kernel
set_option maxRecDepth 100000 in
theorem ckJ0_indexOf_7cf53 : ab_cm mJ0_indexOf_7cf53 (594, 592, 593, 104) = true := by decide +kernel
set_option maxRecDepth 100000 in
theorem ckJ0_coder_7d493 : ab_cm mJ0_coder_7d493 (261, 259, 260, 104) = true := by decide +kernel
set_option maxRecDepth 100000 in
theorem ckJ0_isLatin1_aae02 : ab_cm mJ0_isLatin1_aae02 (271, 269, 270, 104) = true := by decide +kernel
set_option maxRecDepth 100000 in
theorem ckJ0_checkIndex_df160 : ab_cm mJ0_checkIndex_df160 (277, 276, 0, 104) = true := by decide +kernel
set_option maxRecDepth 100000 in
theorem ckJ1_charAt_3b067 : ab_cm mJ1_charAt_3b067 (274, 273, 0, 105) = true := by decide +kernel
set_option maxRecDepth 100000 in
theorem ckJ1_canEncode_9a6ad : ab_cm mJ1_canEncode_9a6ad (601, 600, 0, 105) = true := by decide +kernel
set_option maxRecDepth 100000 in
theorem ckJ1_indexOf_4cfef : ab_cm mJ1_indexOf_4cfef (598, 597, 0, 105) = true := by decide +kernel
set_option maxRecDepth 100000 in
theorem ckJ1_indexOfChar_4cfef : ab_cm mJ1_indexOfChar_4cfef (610, 609, 0, 105) = true := by decide +kernel
set_option maxRecDepth 100000 in
theorem ckJ3_checkIndex_8e157 : ab_cm mJ3_checkIndex_8e157 (282, 281, 0, 106) = true := by decide +kernel
set_option maxRecDepth 100000 in
theorem ckL_law_s0 : (((ab_mo mL_law)).take 40).all (ab_ce mL_law) = true := by decide +kernel
set_option maxRecDepth 100000 in
theorem ckL_law_s1 : ((((ab_mo mL_law).drop 40)).take 40).all (ab_ce mL_law) = true := by decide +kernel
set_option maxRecDepth 100000 in
theorem ckL_law_s2 : (((((ab_mo mL_law).drop 40).drop 40)).take 40).all (ab_ce mL_law) = true := by decide +kernel
end
section
/-! the checks of the code tables, f5 -/
set_option maxRecDepth 100000 in
theorem ckL_law_s3 : ((((((ab_mo mL_law).drop 40).drop 40).drop 40)).take 40).all (ab_ce mL_law) = true := by decide +kernel
set_option maxRecDepth 100000 in
theorem ckL_law_s4 : (((((((ab_mo mL_law).drop 40).drop 40).drop 40).drop 40)).take 40).all (ab_ce mL_law) = true := by decide +kernel
set_option maxRecDepth 100000 in
theorem ckL_law_s5 : ((((((((ab_mo mL_law).drop 40).drop 40).drop 40).drop 40).drop 40)).take 40).all (ab_ce mL_law) = true := by decide +kernel
set_option maxRecDepth 100000 in
theorem ckL_law_s6 : (((((((((ab_mo mL_law).drop 40).drop 40).drop 40).drop 40).drop 40).drop 40)).take 40).all (ab_ce mL_law) = true := by decide +kernel
set_option maxRecDepth 100000 in
theorem ckL_law_s7 : ((((((((((ab_mo mL_law).drop 40).drop 40).drop 40).drop 40).drop 40).drop 40).drop 40)).take 40).all (ab_ce mL_law) = true := by decide +kernel
set_option maxRecDepth 100000 in
theorem ckL_law_s8 : (((((((((((ab_mo mL_law).drop 40).drop 40).drop 40).drop 40).drop 40).drop 40).drop 40).drop 40)).take 40).all (ab_ce mL_law) = true := by decide +kernel
end
section
/-! the checks of the code tables, f6 -/
set_option maxRecDepth 100000 in
theorem ckL_law_s9 : ((((((((((((ab_mo mL_law).drop 40).drop 40).drop 40).drop 40).drop 40).drop 40).drop 40).drop 40).drop 40)).take 40).all (ab_ce mL_law) = true := by decide +kernel
set_option maxRecDepth 100000 in
theorem ckL_law_s10 : (((((((((((((ab_mo mL_law).drop 40).drop 40).drop 40).drop 40).drop 40).drop 40).drop 40).drop 40).drop 40).drop 40)).take 40).all (ab_ce mL_law) = true := by decide +kernel
set_option maxRecDepth 100000 in
theorem ckL_law_s11 : ((((((((((((((ab_mo mL_law).drop 40).drop 40).drop 40).drop 40).drop 40).drop 40).drop 40).drop 40).drop 40).drop 40).drop 40)).take 40).all (ab_ce mL_law) = true := by decide +kernel
set_option maxRecDepth 100000 in
theorem ckL_law_s12 : (((((((((((((((ab_mo mL_law).drop 40).drop 40).drop 40).drop 40).drop 40).drop 40).drop 40).drop 40).drop 40).drop 40).drop 40).drop 40)).take 40).all (ab_ce mL_law) = true := by decide +kernel
set_option maxRecDepth 100000 in
theorem ckL_law_s13 : ((((((((((((((((ab_mo mL_law).drop 40).drop 40).drop 40).drop 40).drop 40).drop 40).drop 40).drop 40).drop 40).drop 40).drop 40).drop 40).drop 40)).take 40).all (ab_ce mL_law) = true := by decide +kernel
set_option maxRecDepth 100000 in
theorem ckL_law_s14 : (((((((((((((((((ab_mo mL_law).drop 40).drop 40).drop 40).drop 40).drop 40).drop 40).drop 40).drop 40).drop 40).drop 40).drop 40).drop 40).drop 40).drop 40)).take 40).all (ab_ce mL_law) = true := by decide +kernel
end
section
/-! the checks of the code tables, f7 -/
set_option maxRecDepth 100000 in
theorem ckL_law_s15 : ((((((((((((((((((ab_mo mL_law).drop 40).drop 40).drop 40).drop 40).drop 40).drop 40).drop 40).drop 40).drop 40).drop 40).drop 40).drop 40).drop 40).drop 40).drop 40)).take 40).all (ab_ce mL_law) = true := by decide +kernel
set_option maxRecDepth 100000 in
theorem ckL_law_s16 : (((((((((((((((((((ab_mo mL_law).drop 40).drop 40).drop 40).drop 40).drop 40).drop 40).drop 40).drop 40).drop 40).drop 40).drop 40).drop 40).drop 40).drop 40).drop 40).drop 40)).take 40).all (ab_ce mL_law) = true := by decide +kernel
set_option maxRecDepth 100000 in
theorem ckL_law_s17 : ((((((((((((((((((((ab_mo mL_law).drop 40).drop 40).drop 40).drop 40).drop 40).drop 40).drop 40).drop 40).drop 40).drop 40).drop 40).drop 40).drop 40).drop 40).drop 40).drop 40).drop 40)).take 40).all (ab_ce mL_law) = true := by decide +kernel
set_option maxRecDepth 100000 in
theorem ckL_law_s18 : (((((((((((((((((((((ab_mo mL_law).drop 40).drop 40).drop 40).drop 40).drop 40).drop 40).drop 40).drop 40).drop 40).drop 40).drop 40).drop 40).drop 40).drop 40).drop 40).drop 40).drop 40).drop 40)).take 40).all (ab_ce mL_law) = true := by decide +kernel
set_option maxRecDepth 100000 in
theorem ckL_law_s19 : ((((((((((((((((((((((ab_mo mL_law).drop 40).drop 40).drop 40).drop 40).drop 40).drop 40).drop 40).drop 40).drop 40).drop 40).drop 40).drop 40).drop 40).drop 40).drop 40).drop 40).drop 40).drop 40).drop 40)).take 40).all (ab_ce mL_law) = true := by decide +kernel
set_option maxRecDepth 100000 in
theorem ckL_law_s20 : (((((((((((((((((((((((ab_mo mL_law).drop 40).drop 40).drop 40).drop 40).drop 40).drop 40).drop 40).drop 40).drop 40).drop 40).drop 40).drop 40).drop 40).drop 40).drop 40).drop 40).drop 40).drop 40).drop 40).drop 40)).take 40).all (ab_ce mL_law) = true := by decide +kernel
end
section
/-! the checks of the code tables, f8 -/
set_option maxRecDepth 100000 in
theorem ckL_law_s21 : ((((((((((((((((((((((((ab_mo mL_law).drop 40).drop 40).drop 40).drop 40).drop 40).drop 40).drop 40).drop 40).drop 40).drop 40).drop 40).drop 40).drop 40).drop 40).drop 40).drop 40).drop 40).drop 40).drop 40).drop 40).drop 40)).take 40).all (ab_ce mL_law) = true := by decide +kernel
set_option maxRecDepth 100000 in
theorem ckL_law_s22 : (((((((((((((((((((((((((ab_mo mL_law).drop 40).drop 40).drop 40).drop 40).drop 40).drop 40).drop 40).drop 40).drop 40).drop 40).drop 40).drop 40).drop 40).drop 40).drop 40).drop 40).drop 40).drop 40).drop 40).drop 40).drop 40).drop 40)).take 40).all (ab_ce mL_law) = true := by decide +kernel
set_option maxRecDepth 100000 in
theorem ckL_law_s23 : ((((((((((((((((((((((((((ab_mo mL_law).drop 40).drop 40).drop 40).drop 40).drop 40).drop 40).drop 40).drop 40).drop 40).drop 40).drop 40).drop 40).drop 40).drop 40).drop 40).drop 40).drop 40).drop 40).drop 40).drop 40).drop 40).drop 40).drop 40)).take 40).all (ab_ce mL_law) = true := by decide +kernel
set_option maxRecDepth 100000 in
theorem ckL_law_s24 : (((((((((((((((((((((((((((ab_mo mL_law).drop 40).drop 40).drop 40).drop 40).drop 40).drop 40).drop 40).drop 40).drop 40).drop 40).drop 40).drop 40).drop 40).drop 40).drop 40).drop 40).drop 40).drop 40).drop 40).drop 40).drop 40).drop 40).drop 40).drop 40)).take 40).all (ab_ce mL_law) = true := by decide +kernel
set_option maxRecDepth 100000 in
theorem ckL_law_s25 : ((((((((((((((((((((((((((((ab_mo mL_law).drop 40).drop 40).drop 40).drop 40).drop 40).drop 40).drop 40).drop 40).drop 40).drop 40).drop 40).drop 40).drop 40).drop 40).drop 40).drop 40).drop 40).drop 40).drop 40).drop 40).drop 40).drop 40).drop 40).drop 40).drop 40)).take 40).all (ab_ce mL_law) = true := by decide +kernel
set_option maxRecDepth 100000 in
theorem ckL_law : (ab_mo mL_law).all (ab_ce mL_law) = true := ab_sp 40 ckL_law_s0 (ab_sp 40 ckL_law_s1 (ab_sp 40 ckL_law_s2 (ab_sp 40 ckL_law_s3 (ab_sp 40 ckL_law_s4 (ab_sp 40 ckL_law_s5 (ab_sp 40 ckL_law_s6 (ab_sp 40 ckL_law_s7 (ab_sp 40 ckL_law_s8 (ab_sp 40 ckL_law_s9 (ab_sp 40 ckL_law_s10 (ab_sp 40 ckL_law_s11 (ab_sp 40 ckL_law_s12 (ab_sp 40 ckL_law_s13 (ab_sp 40 ckL_law_s14 (ab_sp 40 ckL_law_s15 (ab_sp 40 ckL_law_s16 (ab_sp 40 ckL_law_s17 (ab_sp 40 ckL_law_s18 (ab_sp 40 ckL_law_s19 (ab_sp 40 ckL_law_s20 (ab_sp 40 ckL_law_s21 (ab_sp 40 ckL_law_s22 (ab_sp 40 ckL_law_s23 (ab_sp 40 ckL_law_s24 (ab_sp 40 ckL_law_s25 (rfl))))))))))))))))))))))))))
end
section
/-! every method of the table is as the tables say -/
def ab_mth (M : ab_M) : Prop := M = mJ9_max_7cf53 ∨ M = mJ9_max_f86c9 ∨ M = mJ9_min_7cf53
theorem ab_okz : ∀ M ∈ ([] : List ab_M), ab_okM M ∨ ab_mth M := fun _ h => by cases h
theorem ab_okd {M : ab_M} {l : List ab_M} (h : ab_okM M ∨ ab_mth M) (hl : ∀ M ∈ l, ab_okM M ∨ ab_mth M) : ∀ N ∈ M :: l, ab_okM N ∨ ab_mth N := List.forall_mem_cons.mpr ⟨h, hl⟩
theorem ab_okp0 : ∀ M ∈ ab_MT0, ab_okM M ∨ ab_mth M := ab_okd (Or.inl ⟨_, ckX0_init⟩) (ab_okd (Or.inl ⟨_, ckX0_turnTo⟩) (ab_okd (Or.inl ⟨_, ckX0_text⟩) (ab_okd (Or.inl ⟨_, ckX0_writtenFor⟩) (ab_okd (Or.inl ⟨_, ckX0_lot⟩) (ab_okd (Or.inl ⟨_, ckX0_mixed⟩) (ab_okd (Or.inl ⟨_, ckX0_falls⟩) (ab_okd (Or.inl ⟨_, ckX0_lookAt⟩) (ab_okd (Or.inl ⟨_, ckX0_lookAtPilgrim⟩) (ab_okd (Or.inl ⟨_, ckX0_visitValue⟩) (ab_okd (Or.inl ⟨_, ckX0_healing⟩) (ab_okd (Or.inl ⟨_, ckX0_leaving⟩) (ab_okd (Or.inl ⟨_, ckX0_catching⟩) (ab_okd (Or.inl ⟨_, ckX0_goal⟩) (ab_okd (Or.inl ⟨_, ckX0_pass⟩) (ab_okd (Or.inl ⟨_, ckX0_visit⟩) (ab_okd (Or.inl ⟨_, ckX0_tryTheft⟩) (ab_okd (Or.inl ⟨_, ckX0_likely⟩) (ab_okd (Or.inl ⟨_, ckX0_bestNights⟩) (ab_okd (Or.inl ⟨_, ckX0_weakest⟩) (ab_okd (Or.inl ⟨_, ckX0_watchersFor⟩) (ab_okd (Or.inl ⟨_, ckX1_init⟩) (ab_okd (Or.inl ⟨_, ckX1_after⟩) (ab_okd (Or.inl ⟨_, ckX1_more⟩) (ab_okd (Or.inl ⟨_, ckX1_keepTook⟩) (ab_okd (Or.inl ⟨_, ckX1_tookMoreThanElse⟩) (ab_okd (Or.inl ⟨_, ckX1_passWithRelicAt⟩) (ab_okd (Or.inl ⟨_, ckX1_bestHome⟩) (ab_okd (Or.inl ⟨_, ckX1_barters⟩) (ab_okd (Or.inl ⟨_, ckX1_bothGain⟩) (ab_okd (Or.inl ⟨_, ckX1_richest⟩) (ab_okd (Or.inl ⟨_, ckX1_mostFamed⟩) (ab_okd (Or.inl ⟨_, ckX1_seedsWithWonder⟩) (ab_okd (Or.inl ⟨_, ckX1_hasWonderBy⟩) (ab_okd (Or.inl ⟨_, ckX2_init⟩) (ab_okd (Or.inl ⟨_, ckX2_clear⟩) (ab_okd (Or.inl ⟨_, ckX2_beginTimes⟩) (ab_okd (Or.inl ⟨_, ckX2_begin⟩) (ab_okd (Or.inl ⟨_, ckX2_emit⟩) (ab_okd (Or.inl ⟨_, ckX2_aimHere⟩) (ab_okz))))))))))))))))))))))))))))))))))))))))
theorem ab_okp1 : ∀ M ∈ ab_MT1, ab_okM M ∨ ab_mth M := ab_okd (Or.inl ⟨_, ckX2_clearVars⟩) (ab_okd (Or.inl ⟨_, ckX2_setVar⟩) (ab_okd (Or.inl ⟨_, ckX2_varOf⟩) (ab_okd (Or.inl ⟨_, ckX2_value⟩) (ab_okd (Or.inl ⟨_, ckX2_worked⟩) (ab_okd (Or.inl ⟨_, ckX3_init⟩) (ab_okd (Or.inl ⟨_, ckX3_clear⟩) (ab_okd (Or.inl ⟨_, ckX3_size⟩) (ab_okd (Or.inl ⟨_, ckX3_slotsHeld⟩) (ab_okd (Or.inl ⟨_, ckX3_keep⟩) (ab_okd (Or.inl ⟨_, ckX3_takeBack⟩) (ab_okd (Or.inl ⟨_, ckX3_putInSlot⟩) (ab_okd (Or.inl ⟨_, ckX3_takeFromSlot⟩) (ab_okd (Or.inl ⟨_, ckX4_init⟩) (ab_okd (Or.inl ⟨_, ckX4_faultPlace⟩) (ab_okd (Or.inl ⟨_, ckX4_readInto⟩) (ab_okd (Or.inl ⟨_, ckX4_begin⟩) (ab_okd (Or.inl ⟨_, ckX4_settle⟩) (ab_okd (Or.inl ⟨_, ckX4_take⟩) (ab_okd (Or.inl ⟨_, ckX4_refuse⟩) (ab_okd (Or.inl ⟨_, ckX4_refuseLate⟩) (ab_okd (Or.inl ⟨_, ckX4_readChurch⟩) (ab_okd (Or.inl ⟨_, ckX4_readRoad⟩) (ab_okd (Or.inl ⟨_, ckX4_readRelic⟩) (ab_okd (Or.inl ⟨_, ckX4_readPilgrim⟩) (ab_okd (Or.inl ⟨_, ckX4_readSeed⟩) (ab_okd (Or.inl ⟨_, ckX4_addName⟩) (ab_okd (Or.inl ⟨_, ckX4_churchAt⟩) (ab_okd (Or.inl ⟨_, ckX4_numberAt⟩) (ab_okd (Or.inl ⟨_, ckX4_readLaw⟩) (ab_okd (Or.inl ⟨_, ckX4_readIf⟩) (ab_okd (Or.inl ⟨_, ckX4_readSum⟩) (ab_okd (Or.inl ⟨_, ckX4_readUnit⟩) (ab_okd (Or.inl ⟨_, ckX5_init⟩) (ab_okd (Or.inl ⟨_, ckX5_get⟩) (ab_okd (Or.inl ⟨_, ckX5_set⟩) (ab_okd (Or.inl ⟨_, ckX5_add⟩) (ab_okd (Or.inl ⟨_, ckX5_total⟩) (ab_okd (Or.inl ⟨_, ckX5_move⟩) (ab_okd (Or.inl ⟨_, ckX5_exchange⟩) (ab_okz))))))))))))))))))))))))))))))))))))))))
theorem ab_okp2 : ∀ M ∈ ab_MT2, ab_okM M ∨ ab_mth M := ab_okd (Or.inl ⟨_, ckX5_begin⟩) (ab_okd (Or.inl ⟨_, ckX5_copyOf⟩) (ab_okd (Or.inl ⟨_, ckX5_writeTo⟩) (ab_okd (Or.inl ⟨_, ckX5_readFrom⟩) (ab_okd (Or.inl ⟨_, ckX6_init⟩) (ab_okd (Or.inl ⟨_, ckX6_length⟩) (ab_okd (Or.inl ⟨_, ckX6_append⟩) (ab_okd (Or.inl ⟨_, ckX6_cutTo⟩) (ab_okd (Or.inl ⟨_, ckX6_at⟩) (ab_okd (Or.inl ⟨_, ckX7_init⟩) (ab_okd (Or.inl ⟨_, ckX7_clear⟩) (ab_okd (Or.inl ⟨_, ckX7_laws⟩) (ab_okd (Or.inl ⟨_, ckX7_churches⟩) (ab_okd (Or.inl ⟨_, ckX7_roads⟩) (ab_okd (Or.inl ⟨_, ckX7_relics⟩) (ab_okd (Or.inl ⟨_, ckX7_trueRelics⟩) (ab_okd (Or.inl ⟨_, ckX7_pilgrims⟩) (ab_okd (Or.inl ⟨_, ckX7_seed⟩) (ab_okd (Or.inl ⟨_, ckX7_hasChurch⟩) (ab_okd (Or.inl ⟨_, ckX7_hasRelic⟩) (ab_okd (Or.inl ⟨_, ckX7_hasPilgrim⟩) (ab_okd (Or.inl ⟨_, ckX7_truth⟩) (ab_okd (Or.inl ⟨_, ckX7_watchersOf⟩) (ab_okd (Or.inl ⟨_, ckX7_churchOf⟩) (ab_okd (Or.inl ⟨_, ckX7_home⟩) (ab_okd (Or.inl ⟨_, ckX7_needOf⟩) (ab_okd (Or.inl ⟨_, ckX7_giftOf⟩) (ab_okd (Or.inl ⟨_, ckX7_far⟩) (ab_okd (Or.inl ⟨_, ckX7_churchNamed⟩) (ab_okd (Or.inl ⟨_, ckX7_addName⟩) (ab_okd (Or.inl ⟨_, ckX7_addChurch⟩) (ab_okd (Or.inl ⟨_, ckX7_addRoad⟩) (ab_okd (Or.inl ⟨_, ckX7_addRelic⟩) (ab_okd (Or.inl ⟨_, ckX7_addPilgrim⟩) (ab_okd (Or.inl ⟨_, ckX7_sow⟩) (ab_okd (Or.inl ⟨_, ckX7_joinRoads⟩) (ab_okd (Or.inl ⟨_, ckX8_init⟩) (ab_okd (Or.inl ⟨_, ckX8_withLetter⟩) (ab_okd (Or.inl ⟨_, ckX8_isLetter⟩) (ab_okd (Or.inl ⟨_, ckX8_isDigit⟩) (ab_okz))))))))))))))))))))))))))))))))))))))))
theorem ab_okp3 : ∀ M ∈ ab_MT3, ab_okM M ∨ ab_mth M := ab_okd (Or.inl ⟨_, ckX8_isBlank⟩) (ab_okd (Or.inl ⟨_, ckX8_kindAt⟩) (ab_okd (Or.inl ⟨_, ckX8_placeAt⟩) (ab_okd (Or.inl ⟨_, ckX8_valueAt⟩) (ab_okd (Or.inl ⟨_, ckX8_scan⟩) (ab_okd (Or.inl ⟨_, ckX8_addToken⟩) (ab_okd (Or.inl ⟨_, ckX8_addLetters⟩) (ab_okd (Or.inl ⟨_, ckX8_addDigits⟩) (ab_okd (Or.inl ⟨_, ckX8_wordKind⟩) (ab_okd (Or.inl ⟨_, ckX8_put⟩) (ab_okd (Or.inl ⟨_, ckX9_init⟩) (ab_okd (Or.inl ⟨_, ckX9_clear⟩) (ab_okd (Or.inl ⟨_, ckX9_size⟩) (ab_okd (Or.inl ⟨_, ckX9_add⟩) (ab_okd (Or.inl ⟨_, ckX9_relicsLeft⟩) (ab_okd (Or.inl ⟨_, ckX9_bestToAsk⟩) (ab_okd (Or.inl ⟨_, ckX10_init⟩) (ab_okd (Or.inl ⟨_, ckX10_feed⟩) (ab_okd (Or.inl ⟨_, ckX10_back⟩) (ab_okd (Or.inl ⟨_, ckX10_read⟩) (ab_okd (Or.inl ⟨_, ckX10_startText⟩) (ab_okd (Or.inl ⟨_, ckX10_place⟩) (ab_okd (Or.inl ⟨_, ckX10_church⟩) (ab_okd (Or.inl ⟨_, ckX10_relic⟩) (ab_okd (Or.inl ⟨_, ckX10_pilgrim⟩) (ab_okd (Or.inl ⟨_, ckX10_tells⟩) (ab_okd (Or.inl ⟨_, ckX10_heals⟩) (ab_okd (Or.inl ⟨_, ckX10_steal⟩) (ab_okd (Or.inl ⟨_, ckX10_swap⟩) (ab_okd (Or.inl ⟨_, ckX10_watch⟩) (ab_okd (Or.inl ⟨_, ckX10_years⟩) (ab_okd (Or.inl ⟨_, ckX10_undo⟩) (ab_okd (Or.inl ⟨_, ckX10_goes⟩) (ab_okd (Or.inl ⟨_, ckX10_theft⟩) (ab_okd (Or.inl ⟨_, ckX10_nights⟩) (ab_okd (Or.inl ⟨_, ckX10_worth⟩) (ab_okd (Or.inl ⟨_, ckX10_guard⟩) (ab_okd (Or.inl ⟨_, ckX10_guards⟩) (ab_okd (Or.inl ⟨_, ckX10_weak⟩) (ab_okd (Or.inl ⟨_, ckX10_barter⟩) (ab_okz))))))))))))))))))))))))))))))))))))))))
theorem ab_okp4 : ∀ M ∈ ab_MT4, ab_okM M ∨ ab_mth M := ab_okd (Or.inl ⟨_, ckX10_took⟩) (ab_okd (Or.inl ⟨_, ckX10_wonders⟩) (ab_okd (Or.inl ⟨_, ckX10_goesIn⟩) (ab_okd (Or.inl ⟨_, ckX10_rich⟩) (ab_okd (Or.inl ⟨_, ckX10_hub⟩) (ab_okd (Or.inl ⟨_, ckX10_crowd⟩) (ab_okd (Or.inl ⟨_, ckX10_healed⟩) (ab_okd (Or.inl ⟨_, ckX10_famed⟩) (ab_okd (Or.inl ⟨_, ckX10_year⟩) (ab_okd (Or.inl ⟨_, ckX10_belief⟩) (ab_okd (Or.inl ⟨_, ckX10_certain⟩) (ab_okd (Or.inl ⟨_, ckX10_tell⟩) (ab_okd (Or.inl ⟨_, ckX10_forget⟩) (ab_okd (Or.inl ⟨_, ckX10_whose⟩) (ab_okd (Or.inl ⟨_, ckX10_ask⟩) (ab_okd (Or.inl ⟨_, ckX10_hold⟩) (ab_okd (Or.inl ⟨_, ckX10_restore⟩) (ab_okd (Or.inl ⟨_, ckX10_count⟩) (ab_okd (Or.inl ⟨_, ckX10_likelyRow⟩) (ab_okd (Or.inl ⟨_, ckX10_commonDivisor⟩) (ab_okd (Or.inl ⟨_, ckX10_isWithin⟩) (ab_okd (Or.inl ⟨_, ckX10_heldTo⟩) (ab_okd (Or.inl ⟨_, ckX11_init⟩) (ab_okd (Or.inl ⟨_, ckX11_feed⟩) (ab_okd (Or.inl ⟨_, ckX11_put⟩) (ab_okd (Or.inl ⟨_, ckX11_back⟩) (ab_okd (Or.inl ⟨_, ckX11_byteAt⟩) (ab_okd (Or.inl ⟨_, ckX11_isDigit⟩) (ab_okd (Or.inl ⟨_, ckX11_isLetter⟩) (ab_okd (Or.inl ⟨_, ckX11_appends⟩) (ab_okd (Or.inl ⟨_, ckX11_word⟩) (ab_okd (Or.inl ⟨_, ckX11_token⟩) (ab_okd (Or.inl ⟨_, ckX11_cut⟩) (ab_okd (Or.inl ⟨_, ckX11_sign⟩) (ab_okd (Or.inl ⟨_, ckX11_is⟩) (ab_okd (Or.inl ⟨_, ckX11_fail⟩) (ab_okd (Or.inl ⟨_, ckX11_wrong⟩) (ab_okd (Or.inl ⟨_, ckX11_goesOn⟩) (ab_okd (Or.inl ⟨_, ckX11_must⟩) (ab_okd (Or.inl ⟨_, ckX11_plain⟩) (ab_okz))))))))))))))))))))))))))))))))))))))))
theorem ab_okp5 : ∀ M ∈ ab_MT5, ab_okM M ∨ ab_mth M := ab_okd (Or.inl ⟨_, ckX11_read⟩) (ab_okd (Or.inl ⟨_, ckX11_place⟩) (ab_okd (Or.inl ⟨_, ckX11_roomFor⟩) (ab_okd (Or.inl ⟨_, ckX11_tellOne⟩) (ab_okd (Or.inl ⟨_, ckX11_named⟩) (ab_okd (Or.inl ⟨_, ckX11_ends⟩) (ab_okd (Or.inl ⟨_, ckX11_knownChurch⟩) (ab_okd (Or.inl ⟨_, ckX11_bounded⟩) (ab_okd (Or.inl ⟨_, ckX11_tellRoad⟩) (ab_okd (Or.inl ⟨_, ckX11_tellRelic⟩) (ab_okd (Or.inl ⟨_, ckX11_tellPilgrim⟩) (ab_okd (Or.inl ⟨_, ckX11_tellLaw⟩) (ab_okd (Or.inl ⟨_, ckX11_term⟩) (ab_okd (Or.inl ⟨_, ckX11_emit⟩) (ab_okd (Or.inl ⟨_, ckX11_comesOut⟩) (ab_okd (Or.inl ⟨_, ckX11_expression⟩) (ab_okd (Or.inl ⟨_, ckX11_unit⟩) (ab_okd (Or.inl ⟨_, ckX11_termOf⟩) (ab_okd (Or.inl ⟨_, ckX11_fillsFar⟩) (ab_okd (Or.inl ⟨_, ckX11_in⟩) (ab_okd (Or.inl ⟨_, ckX11_held⟩) (ab_okd (Or.inl ⟨_, ckX11_isChurch⟩) (ab_okd (Or.inl ⟨_, ckX11_isRelic⟩) (ab_okd (Or.inl ⟨_, ckX11_isPilgrim⟩) (ab_okd (Or.inl ⟨_, ckX11_begins⟩) (ab_okd (Or.inl ⟨_, ckX11_keepsRow⟩) (ab_okd (Or.inl ⟨_, ckX11_copies⟩) (ab_okd (Or.inl ⟨_, ckX11_mixed⟩) (ab_okd (Or.inl ⟨_, ckX11_lotOf⟩) (ab_okd (Or.inl ⟨_, ckX11_relicsAt⟩) (ab_okd (Or.inl ⟨_, ckX11_trueAt⟩) (ab_okd (Or.inl ⟨_, ckX11_farFor⟩) (ab_okd (Or.inl ⟨_, ckX11_looks⟩) (ab_okd (Or.inl ⟨_, ckX11_looksAt⟩) (ab_okd (Or.inl ⟨_, ckX11_lawTells⟩) (ab_okd (Or.inl ⟨_, ckX11_drawsOf⟩) (ab_okd (Or.inl ⟨_, ckX11_givesOf⟩) (ab_okd (Or.inl ⟨_, ckX11_healsBy⟩) (ab_okd (Or.inl ⟨_, ckX11_healsOf⟩) (ab_okd (Or.inl ⟨_, ckX11_leaveOf⟩) (ab_okz))))))))))))))))))))))))))))))))))))))))
theorem ab_okp6 : ∀ M ∈ ab_MT6, ab_okM M ∨ ab_mth M := ab_okd (Or.inl ⟨_, ckX11_caughtBy⟩) (ab_okd (Or.inl ⟨_, ckX11_goesNow⟩) (ab_okd (Or.inl ⟨_, ckX11_pilgrimGoes⟩) (ab_okd (Or.inl ⟨_, ckX11_yearGoes⟩) (ab_okd (Or.inl ⟨_, ckX11_yearsGo⟩) (ab_okd (Or.inl ⟨_, ckX11_relicBits⟩) (ab_okd (Or.inl ⟨_, ckX11_church⟩) (ab_okd (Or.inl ⟨_, ckX11_relic⟩) (ab_okd (Or.inl ⟨_, ckX11_pilgrim⟩) (ab_okd (Or.inl ⟨_, ckX11_tells⟩) (ab_okd (Or.inl ⟨_, ckX11_heals⟩) (ab_okd (Or.inl ⟨_, ckX11_records⟩) (ab_okd (Or.inl ⟨_, ckX11_isNights⟩) (ab_okd (Or.inl ⟨_, ckX11_triesFor⟩) (ab_okd (Or.inl ⟨_, ckX11_steal⟩) (ab_okd (Or.inl ⟨_, ckX11_swap⟩) (ab_okd (Or.inl ⟨_, ckX11_watch⟩) (ab_okd (Or.inl ⟨_, ckX11_years⟩) (ab_okd (Or.inl ⟨_, ckX11_undo⟩) (ab_okd (Or.inl ⟨_, ckX11_goes⟩) (ab_okd (Or.inl ⟨_, ckX11_theftNow⟩) (ab_okd (Or.inl ⟨_, ckX11_theft⟩) (ab_okd (Or.inl ⟨_, ckX11_nightsNow⟩) (ab_okd (Or.inl ⟨_, ckX11_nights⟩) (ab_okd (Or.inl ⟨_, ckX11_guardOf⟩) (ab_okd (Or.inl ⟨_, ckX11_isOdds⟩) (ab_okd (Or.inl ⟨_, ckX11_guard⟩) (ab_okd (Or.inl ⟨_, ckX11_guards⟩) (ab_okd (Or.inl ⟨_, ckX11_weak⟩) (ab_okd (Or.inl ⟨_, ckX11_isFew⟩) (ab_okd (Or.inl ⟨_, ckX11_isLong⟩) (ab_okd (Or.inl ⟨_, ckX11_takesWith⟩) (ab_okd (Or.inl ⟨_, ckX11_worth⟩) (ab_okd (Or.inl ⟨_, ckX11_isBarter⟩) (ab_okd (Or.inl ⟨_, ckX11_barter⟩) (ab_okd (Or.inl ⟨_, ckX11_took⟩) (ab_okd (Or.inl ⟨_, ckX11_wonders⟩) (ab_okd (Or.inl ⟨_, ckX11_goesIn⟩) (ab_okd (Or.inl ⟨_, ckX11_rich⟩) (ab_okd (Or.inl ⟨_, ckX11_hub⟩) (ab_okz))))))))))))))))))))))))))))))))))))))))
theorem ab_okp7 : ∀ M ∈ ab_MT7, ab_okM M ∨ ab_mth M := ab_okd (Or.inl ⟨_, ckX11_crowd⟩) (ab_okd (Or.inl ⟨_, ckX11_healed⟩) (ab_okd (Or.inl ⟨_, ckX11_famed⟩) (ab_okd (Or.inl ⟨_, ckX11_year⟩) (ab_okd (Or.inl ⟨_, ckX11_rowOdds⟩) (ab_okd (Or.inl ⟨_, ckX11_fillsBelief⟩) (ab_okd (Or.inl ⟨_, ckX11_belief⟩) (ab_okd (Or.inl ⟨_, ckX11_certain⟩) (ab_okd (Or.inl ⟨_, ckX11_tell⟩) (ab_okd (Or.inl ⟨_, ckX11_forget⟩) (ab_okd (Or.inl ⟨_, ckX11_whoseBits⟩) (ab_okd (Or.inl ⟨_, ckX11_bits⟩) (ab_okd (Or.inl ⟨_, ckX11_whose⟩) (ab_okd (Or.inl ⟨_, ckX11_ask⟩) (ab_okd (Or.inl ⟨_, ckX11_hold⟩) (ab_okd (Or.inl ⟨_, ckX11_restore⟩) (ab_okd (Or.inl ⟨_, ckX11_sumNow⟩) (ab_okd (Or.inl ⟨_, ckX11_count⟩) (ab_okd (Or.inl ⟨_, ckJ6_bitCount_0f7a4⟩) (ab_okd (Or.inr (Or.inl rfl)) (ab_okd (Or.inr (Or.inr (Or.inl rfl))) (ab_okd (Or.inr (Or.inr (Or.inr rfl))) (ab_okd (Or.inl ⟨_, ckJ0_length_8abf5⟩) (ab_okd (Or.inl ⟨_, ckJ0_charAt_5068e⟩) (ab_okd (Or.inl ⟨_, ckJ0_indexOf_0f7a4⟩) (ab_okd (Or.inl ⟨_, ckJ0_indexOf_7cf53⟩) (ab_okd (Or.inl ⟨_, ckJ0_coder_7d493⟩) (ab_okd (Or.inl ⟨_, ckJ0_isLatin1_aae02⟩) (ab_okd (Or.inl ⟨_, ckJ0_checkIndex_df160⟩) (ab_okd (Or.inl ⟨_, ckJ1_charAt_3b067⟩) (ab_okd (Or.inl ⟨_, ckJ1_canEncode_9a6ad⟩) (ab_okd (Or.inl ⟨_, ckJ1_indexOf_4cfef⟩) (ab_okd (Or.inl ⟨_, ckJ1_indexOfChar_4cfef⟩) (ab_okd (Or.inl ⟨_, ckJ3_checkIndex_8e157⟩) (ab_okz))))))))))))))))))))))))))))))))))
set_option maxRecDepth 100000 in
theorem ab_MT_eq : ab_MT = ab_MT0 ++ (ab_MT1 ++ (ab_MT2 ++ (ab_MT3 ++ (ab_MT4 ++ (ab_MT5 ++ (ab_MT6 ++ (ab_MT7))))))) := rfl
theorem ab_okT : ∀ M ∈ ab_MT, ab_okM M ∨ ab_mth M := by
  rw [ab_MT_eq]
  intro M h
  simp only [List.mem_append] at h
  rcases h with h | h | h | h | h | h | h | h
  · exact ab_okp0 M h
  · exact ab_okp1 M h
  · exact ab_okp2 M h
  · exact ab_okp3 M h
  · exact ab_okp4 M h
  · exact ab_okp5 M h
  · exact ab_okp6 M h
  · exact ab_okp7 M h
end
section
/-! words of the classes, by program -/
set_option maxRecDepth 100000 in
theorem ab_ly0 : ∀ w ∈ u_ws RX0 TX0 4, w ∈ lw_tbl ∧ goodWord w = true := by decide +kernel
set_option maxRecDepth 100000 in
theorem ab_ly1 : ∀ w ∈ u_ws RX1 TX1 4, w ∈ lw_tbl ∧ goodWord w = true := by decide +kernel
set_option maxRecDepth 100000 in
theorem ab_ly2 : ∀ w ∈ u_ws RX2 TX2 6, w ∈ lw_tbl ∧ goodWord w = true := by decide +kernel
set_option maxRecDepth 100000 in
theorem ab_ly3 : ∀ w ∈ u_ws RX3 TX3 5, w ∈ lw_tbl ∧ goodWord w = true := by decide +kernel
set_option maxRecDepth 100000 in
theorem ab_ly4 : ∀ w ∈ u_ws RX4 TX4 9, w ∈ lw_tbl ∧ goodWord w = true := by decide +kernel
set_option maxRecDepth 100000 in
theorem ab_ly5 : ∀ w ∈ u_ws RX5 TX5 1, w ∈ lw_tbl ∧ goodWord w = true := by decide +kernel
set_option maxRecDepth 100000 in
theorem ab_ly6 : ∀ w ∈ u_ws RX6 TX6 2, w ∈ lw_tbl ∧ goodWord w = true := by decide +kernel
set_option maxRecDepth 100000 in
theorem ab_ly7 : ∀ w ∈ u_ws RX7 TX7 16, w ∈ lw_tbl ∧ goodWord w = true := by decide +kernel
set_option maxRecDepth 100000 in
theorem ab_ly8 : ∀ w ∈ u_ws RX8 TX8 5, w ∈ lw_tbl ∧ goodWord w = true := by decide +kernel
set_option maxRecDepth 100000 in
theorem ab_ly9 : ∀ w ∈ u_ws RX9 TX9 3, w ∈ lw_tbl ∧ goodWord w = true := by decide +kernel
set_option maxRecDepth 100000 in
theorem ab_ly10 : ∀ w ∈ u_ws RX10 TX10 9, w ∈ lw_tbl ∧ goodWord w = true := by decide +kernel
set_option maxRecDepth 100000 in
theorem ab_ly11 : ∀ w ∈ u_ws RX11 TX11 66, w ∈ lw_tbl ∧ goodWord w = true := by decide +kernel
theorem ab_ins0 : ab_at 365 (.instantiable RX0 4) = true ∧ ab_at 109 (.initialized RX0) = true := by decide +kernel
theorem ab_ins1 : ab_at 385 (.instantiable RX1 4) = true ∧ ab_at 110 (.initialized RX1) = true := by decide +kernel
theorem ab_ins2 : ab_at 132 (.instantiable RX2 6) = true ∧ ab_at 100 (.initialized RX2) = true := by decide +kernel
theorem ab_ins3 : ab_at 406 (.instantiable RX3 5) = true ∧ ab_at 111 (.initialized RX3) = true := by decide +kernel
theorem ab_ins4 : ab_at 242 (.instantiable RX4 9) = true ∧ ab_at 102 (.initialized RX4) = true := by decide +kernel
theorem ab_ins5 : ab_at 355 (.instantiable RX5 1) = true ∧ ab_at 108 (.initialized RX5) = true := by decide +kernel
theorem ab_ins6 : ab_at 228 (.instantiable RX6 2) = true ∧ ab_at 101 (.initialized RX6) = true := by decide +kernel
theorem ab_ins7 : ab_at 126 (.instantiable RX7 16) = true ∧ ab_at 99 (.initialized RX7) = true := by decide +kernel
theorem ab_ins8 : ab_at 248 (.instantiable RX8 5) = true ∧ ab_at 103 (.initialized RX8) = true := by decide +kernel
theorem ab_ins9 : ab_at 429 (.instantiable RX9 3) = true ∧ ab_at 112 (.initialized RX9) = true := by decide +kernel
theorem ab_ins10 : ab_at 118 (.instantiable RX10 9) = true ∧ ab_at 98 (.initialized RX10) = true := by decide +kernel
theorem ab_ins11 : ab_at 1246 (.instantiable RX11 66) = true ∧ ab_at 113 (.initialized RX11) = true := by decide +kernel
theorem ab_obj0 : ab_at 123 (.instanceMethod objectInit) = true ∧ ab_at 124 (.code objectInit ⟨#[0xb1]⟩ 1 none) = true := by decide +kernel
theorem ab_arr_int : ab_at 156 (.arrayClass .int) = true := by decide +kernel
theorem ab_arr_long : ab_at 226 (.arrayClass .long) = true := by decide +kernel
theorem ab_arr_byte : ab_at 240 (.arrayClass .byte) = true := by decide +kernel
theorem ab_arr_boolean : ab_at 427 (.arrayClass .boolean) = true := by decide +kernel
theorem ab_st_cs : ab_atN 263 (.laysStatic "java/lang/String" "COMPACT_STRINGS" "Z") = true ∧ ab_at 104 (.initialized "java/lang/String") = true := by decide +kernel
theorem ab_st_fm : ab_atN 279 (.laysStatic "jdk/internal/util/Preconditions" "SIOOBE_FORMATTER" "Ljava/util/function/BiFunction;") = true ∧ ab_at 106 (.initialized "jdk/internal/util/Preconditions") = true := by decide +kernel
theorem ab_sr0 : ab_atN 253 (.stringRef RX8 25 "church road relic pilgrim draws heals gives leave caught seed true copy if then else relics wonders far need gift nights watch years truth ") = true := by decide +kernel
theorem ab_sr1 : ab_atN 586 (.stringRef RX8 88 ";=+-*/<()") = true := by decide +kernel
end
section
/-! the steps of that machine, and its runs -/
abbrev ab_Lo : Type := List (Option Value)
/-- where a method stands: pc, locals, stack, heap, cells and slots made -/
abbrev ab_T : Type := Nat × ab_Lo × List Value × ab_H × Nat × Nat
abbrev ab_R : Type := (Prop × List (Prop × ab_T)) ⊕ ((Prop × Nat × List Value × (Nat → Nat → Option Value → ab_H → ab_T)) ⊕ (Prop × Option Value))
def ab_find : Nat → List ab_I → Option (Instr × Nat × Nat × Nat × List Nat)
  | _, [] => none
  | pc, q :: t => match Nat.beq pc q.1 with
    | true => some q.2
    | false => ab_find pc t
def ab_no : ab_R := .inl (False, [])
def ab_go (t : ab_T) : ab_R := .inl (True, [(True, t)])
def ab_gc (g : Prop) (t : ab_T) : ab_R := .inl (g, [(True, t)])
def ab_br (g : Prop) (t1 t2 : ab_T) : ab_R := .inl (True, [(g, t1), (¬ g, t2)])
def ab_pi (st : List Value) (k : Int32 → List Value → ab_R) : ab_R := match st with
  | .int v :: r => k v r
  | _ => ab_no
def ab_pl (st : List Value) (k : Int64 → List Value → ab_R) : ab_R := match st with
  | .long v :: r => k v r
  | _ => ab_no
def ab_pr (st : List Value) (k : Nat → List Value → ab_R) : ab_R := match st with
  | .ref v :: r => k v r
  | _ => ab_no
def ab_li (L : ab_Lo) (i : Nat) (k : Int32 → ab_R) : ab_R := match L[i]? with
  | some (some (.int v)) => k v
  | _ => ab_no
def ab_ll (L : ab_Lo) (i : Nat) (k : Int64 → ab_R) : ab_R := match L[i]? with
  | some (some (.long v)) => k v
  | _ => ab_no
def ab_lr (L : ab_Lo) (i : Nat) (k : Nat → ab_R) : ab_R := match L[i]? with
  | some (some (.ref v)) => k v
  | _ => ab_no
/-- the locals behind a store of a value of one slot -/
def ab_s1 : ab_Lo → Nat → Value → ab_Lo
  | [], _, _ => []
  | _ :: t, 0, v => some v :: t
  | some (.long w) :: t, 1, v => none :: ab_s1 t 0 v
  | some (.double w) :: t, 1, v => none :: ab_s1 t 0 v
  | q :: t, i + 1, v => q :: ab_s1 t i v
/-- .. of a long -/
def ab_s2 : ab_Lo → Nat → Value → ab_Lo
  | [], _, _ => []
  | _ :: [], 0, v => [some v]
  | _ :: _ :: t, 0, v => some v :: none :: t
  | some (.long w) :: t, 1, v => none :: ab_s2 t 0 v
  | some (.double w) :: t, 1, v => none :: ab_s2 t 0 v
  | q :: t, i + 1, v => q :: ab_s2 t i v
def ab_rf (r : Option Nat) : Value := match r with
  | some i => .ref i
  | none => .null
abbrev ab_n (h : ab_H) : Nat := h.1
abbrev ab_S (h : ab_H) : Nat → ab_Sh := h.2.1
abbrev ab_i (h : ab_H) : Nat → Nat → Int32 := h.2.2.1
abbrev ab_l (h : ab_H) : Nat → Nat → Int64 := h.2.2.2.1
abbrev ab_p (h : ab_H) : Nat → Nat → Option Nat := h.2.2.2.2
/-- the heap behind a store -/
def ab_ui (h : ab_H) (c k : Nat) (v : Int32) : ab_H := (h.1, h.2.1, va_up h.2.2.1 c (upd (h.2.2.1 c) k v), h.2.2.2.1, h.2.2.2.2)
def ab_ul (h : ab_H) (c k : Nat) (v : Int64) : ab_H := (h.1, h.2.1, h.2.2.1, va_up h.2.2.2.1 c (vp_updL (h.2.2.2.1 c) k v), h.2.2.2.2)
def ab_up (h : ab_H) (c k : Nat) (v : Option Nat) : ab_H := (h.1, h.2.1, h.2.2.1, h.2.2.2.1, va_up h.2.2.2.2 c (va_up (h.2.2.2.2 c) k v))
/-- .. behind a new cell -/
def ab_nw (h : ab_H) (q : ab_Sh) : ab_H := (h.1 + 1, va_up h.2.1 h.1 q, va_up h.2.2.1 h.1 (fun _ => 0), va_up h.2.2.2.1 h.1 (fun _ => 0), va_up h.2.2.2.2 h.1 (fun _ => none))
def ab_cmp (c : ClassFile.Cond) (a b : Int32) : Prop := match c with
  | .eq => a = b
  | .ne => ¬ a = b
  | .lt => a < b
  | .ge => b ≤ a
  | .gt => b < a
  | .le => a ≤ b
def ab_aty : ArrayType → FieldType := newarray.typeOf
/-- the value that an array of this type holds of an int that is stored -/
def ab_nar (ty : FieldType) (x : Int32) : Int32 := match ty with
  | .byte => vp_nar .byte x
  | .boolean => vp_nar .boolean x
  | _ => x
def ab_ok1 (v : Value) : Prop := v.category = 1
/-- one row in a list, or more -/
def ab_gv (ts : List Nat) (a b : Value) : Value := match ts with
  | [_] => a
  | _ => b
/-- targets of a tableswitch, one by one -/
def ab_sw (v : Int32) (lo : Int) (L : ab_Lo) (r : List Value) (h : ab_H) (cs sl : Nat) : Nat → List Nat → List (Prop × ab_T)
  | _, [] => []
  | j, t :: ts => (v.toInt = lo + (j : Int), (t, L, r, h, cs, sl)) :: ab_sw v lo L r h cs sl (j + 1) ts
def ab_step (M : ab_M) (pc : Nat) (L : ab_Lo) (st : List Value) (h : ab_H) (cs sl : Nat) : ab_R := match ab_find pc (ab_mo M) with
  | none => ab_no
  | some (ins, len, x, y, ts) => match ins with
    | .iload i => ab_li L i fun v => ab_go (pc + len, L, .int v :: st, h, cs, sl)
    | .iload_n i => ab_li L i.val fun v => ab_go (pc + len, L, .int v :: st, h, cs, sl)
    | .lload i => ab_ll L i fun v => ab_go (pc + len, L, .long v :: st, h, cs, sl)
    | .lload_n i => ab_ll L i.val fun v => ab_go (pc + len, L, .long v :: st, h, cs, sl)
    | .aload i => ab_lr L i fun v => ab_go (pc + len, L, .ref v :: st, h, cs, sl)
    | .aload_n i => ab_lr L i.val fun v => ab_go (pc + len, L, .ref v :: st, h, cs, sl)
    | .istore i => ab_pi st fun v r => ab_gc (i < ab_ml M) (pc + len, ab_s1 L i (.int v), r, h, cs, sl)
    | .istore_n i => ab_pi st fun v r => ab_gc (i.val < ab_ml M) (pc + len, ab_s1 L i.val (.int v), r, h, cs, sl)
    | .lstore i => ab_pl st fun v r => ab_gc (i + 1 < ab_ml M) (pc + len, ab_s2 L i (.long v), r, h, cs, sl)
    | .lstore_n i => ab_pl st fun v r => ab_gc (i.val + 1 < ab_ml M) (pc + len, ab_s2 L i.val (.long v), r, h, cs, sl)
    | .astore i => ab_pr st fun v r => ab_gc (v < 1000000 ∧ i < ab_ml M) (pc + len, ab_s1 L i (.ref v), r, h, cs, sl)
    | .astore_n i => ab_pr st fun v r => ab_gc (v < 1000000 ∧ i.val < ab_ml M) (pc + len, ab_s1 L i.val (.ref v), r, h, cs, sl)
    | .iinc i n => ab_li L i fun v => ab_gc (i < ab_ml M) (pc + len, ab_s1 L i (.int (v + Int32.ofInt n)), st, h, cs, sl)
    | .iconst n => ab_go (pc + len, L, .int (Int32.ofInt n) :: st, h, cs, sl)
    | .bipush n => ab_go (pc + len, L, .int (Int8.ofInt n).toInt32 :: st, h, cs, sl)
    | .sipush n => ab_go (pc + len, L, .int (Int16.ofInt n).toInt32 :: st, h, cs, sl)
    | .lconst n => ab_go (pc + len, L, .long (Int64.ofNat n.val) :: st, h, cs, sl)
    | .ldc _ => match ts with
      | [_] => ab_go (pc + len, L, .int (Int32.ofNat x) :: st, h, cs, sl)
      | _ => ab_go (pc + len, L, .ref x :: st, h, cs, sl)
    | .ldc_w _ => ab_go (pc + len, L, .int (Int32.ofNat x) :: st, h, cs, sl)
    | .ldc2_w _ => ab_go (pc + len, L, .long (Int64.ofNat x) :: st, h, cs, sl)
    | .getstatic _ => match ts with
      | [_] => ab_go (pc + len, L, .int 1 :: st, h, cs, sl)
      | _ => ab_go (pc + len, L, .ref 1000020 :: st, h, cs, sl)
    | .getfield _ => ab_pr st fun c r => ab_gc (ab_S h c = .inl x) (pc + len, L, ab_gv ts (.int (ab_i h c y)) (ab_rf (ab_p h c y)) :: r, h, cs, sl)
    | .putfield _ => match ts with
      | [_] => ab_pi st fun v r => ab_pr r fun c r => ab_gc (ab_S h c = .inl x ∧ c < 1000000 ∧ narrow .int (.int v) = .int v) (pc + len, L, r, ab_ui h c y v, cs, sl)
      | [_, _] => ab_pi st fun v r => ab_pr r fun c r => ab_gc (ab_S h c = .inl x ∧ c < 1000000 ∧ (v = 0 ∨ v = 1)) (pc + len, L, r, ab_ui h c y v, cs, sl)
      | _ => ab_pr st fun v r => ab_pr r fun c r => ab_gc (ab_S h c = .inl x ∧ c < 1000000 ∧ v < 1000000) (pc + len, L, r, ab_up h c y (some v), cs, sl)
    | .new _ => ab_gc (h.1 < 600000 ∧ cs + 1 ≤ ab_mc M ∧ sl + y ≤ ab_ms M) (pc + len, L, .ref h.1 :: st, ab_nw h (.inl x), cs + 1, sl + y)
    | .newarray a => ab_pi st fun v r => ab_gc (h.1 < 600000 ∧ ¬ v < 0 ∧ v.toNatClampNeg ≤ 100000 ∧ cs + 1 ≤ ab_mc M ∧ sl + v.toNatClampNeg ≤ ab_ms M) (pc + len, L, .ref h.1 :: r, ab_nw h (.inr (ab_aty a, v.toNatClampNeg)), cs + 1, sl + v.toNatClampNeg)
    | .arraylength => ab_pr st fun c r => match ab_S h c with
      | .inr (ty, n) => ab_gc (ty = .int ∨ ty = .byte ∨ ty = .boolean ∨ ty = .long) (pc + len, L, .int (Int32.ofNat n) :: r, h, cs, sl)
      | _ => ab_no
    | .iaload => ab_pi st fun j r => ab_pr r fun c r => match ab_S h c with
      | .inr (.int, n) => ab_gc (vp_in j n) (pc + len, L, .int (ab_i h c j.toNatClampNeg) :: r, h, cs, sl)
      | _ => ab_no
    | .baload => ab_pi st fun j r => ab_pr r fun c r => match ab_S h c with
      | .inr (.byte, n) => ab_gc (vp_in j n) (pc + len, L, .int (ab_i h c j.toNatClampNeg) :: r, h, cs, sl)
      | .inr (.boolean, n) => ab_gc (vp_in j n) (pc + len, L, .int (ab_i h c j.toNatClampNeg) :: r, h, cs, sl)
      | _ => ab_no
    | .laload => ab_pi st fun j r => ab_pr r fun c r => match ab_S h c with
      | .inr (.long, n) => ab_gc (vp_in j n) (pc + len, L, .long (ab_l h c j.toNatClampNeg) :: r, h, cs, sl)
      | _ => ab_no
    | .iastore => ab_pi st fun v r => ab_pi r fun j r => ab_pr r fun c r => match ab_S h c with
      | .inr (.int, n) => ab_gc (c < 1000000 ∧ vp_in j n) (pc + len, L, r, ab_ui h c j.toNatClampNeg v, cs, sl)
      | _ => ab_no
    | .bastore => ab_pi st fun v r => ab_pi r fun j r => ab_pr r fun c r => match ab_S h c with
      | .inr (.byte, n) => ab_gc (c < 1000000 ∧ vp_in j n) (pc + len, L, r, ab_ui h c j.toNatClampNeg (vp_nar .byte v), cs, sl)
      | .inr (.boolean, n) => ab_gc (c < 1000000 ∧ vp_in j n) (pc + len, L, r, ab_ui h c j.toNatClampNeg (vp_nar .boolean v), cs, sl)
      | _ => ab_no
    | .lastore => ab_pl st fun v r => ab_pi r fun j r => ab_pr r fun c r => match ab_S h c with
      | .inr (.long, n) => ab_gc (c < 1000000 ∧ vp_in j n) (pc + len, L, r, ab_ul h c j.toNatClampNeg v, cs, sl)
      | _ => ab_no
    | .iadd => ab_pi st fun b r => ab_pi r fun a r => ab_go (pc + len, L, .int (a + b) :: r, h, cs, sl)
    | .isub => ab_pi st fun b r => ab_pi r fun a r => ab_go (pc + len, L, .int (a - b) :: r, h, cs, sl)
    | .imul => ab_pi st fun b r => ab_pi r fun a r => ab_go (pc + len, L, .int (a * b) :: r, h, cs, sl)
    | .idiv => ab_pi st fun b r => ab_pi r fun a r => ab_gc (¬ b = 0) (pc + len, L, .int (a / b) :: r, h, cs, sl)
    | .irem => ab_pi st fun b r => ab_pi r fun a r => ab_gc (¬ b = 0) (pc + len, L, .int (a - a / b * b) :: r, h, cs, sl)
    | .iand => ab_pi st fun b r => ab_pi r fun a r => ab_go (pc + len, L, .int (a &&& b) :: r, h, cs, sl)
    | .ior => ab_pi st fun b r => ab_pi r fun a r => ab_go (pc + len, L, .int (a ||| b) :: r, h, cs, sl)
    | .ixor => ab_pi st fun b r => ab_pi r fun a r => ab_go (pc + len, L, .int (a ^^^ b) :: r, h, cs, sl)
    | .ishl => ab_pi st fun b r => ab_pi r fun a r => ab_go (pc + len, L, .int (a <<< (b &&& 31)) :: r, h, cs, sl)
    | .ishr => ab_pi st fun b r => ab_pi r fun a r => ab_go (pc + len, L, .int (a >>> (b &&& 31)) :: r, h, cs, sl)
    | .iushr => ab_pi st fun b r => ab_pi r fun a r => ab_go (pc + len, L, .int (a.toUInt32 >>> (b.toUInt32 &&& Int32.toUInt32 31)).toInt32 :: r, h, cs, sl)
    | .ladd => ab_pl st fun b r => ab_pl r fun a r => ab_go (pc + len, L, .long (a + b) :: r, h, cs, sl)
    | .lmul => ab_pl st fun b r => ab_pl r fun a r => ab_go (pc + len, L, .long (a * b) :: r, h, cs, sl)
    | .ldiv => ab_pl st fun b r => ab_pl r fun a r => ab_gc (¬ b = 0) (pc + len, L, .long (a / b) :: r, h, cs, sl)
    | .lrem => ab_pl st fun b r => ab_pl r fun a r => ab_gc (¬ b = 0) (pc + len, L, .long (a - a / b * b) :: r, h, cs, sl)
    | .lcmp => ab_pl st fun b r => ab_pl r fun a r => ab_go (pc + len, L, .int (lg_cmp a b) :: r, h, cs, sl)
    | .i2l => ab_pi st fun a r => ab_go (pc + len, L, .long a.toInt64 :: r, h, cs, sl)
    | .l2i => ab_pl st fun a r => ab_go (pc + len, L, .int a.toInt32 :: r, h, cs, sl)
    | .i2b => ab_pi st fun a r => ab_go (pc + len, L, .int a.toInt8.toInt32 :: r, h, cs, sl)
    | .i2c => ab_pi st fun a r => ab_go (pc + len, L, .int (a.toUInt32 % 65536).toInt32 :: r, h, cs, sl)
    | .ifCond c _ => ab_pi st fun a r => ab_br (ab_cmp c a 0) (x, L, r, h, cs, sl) (pc + len, L, r, h, cs, sl)
    | .if_icmp c _ => ab_pi st fun b r => ab_pi r fun a r => ab_br (ab_cmp c a b) (x, L, r, h, cs, sl) (pc + len, L, r, h, cs, sl)
    | .goto _ => ab_go (x, L, st, h, cs, sl)
    | .tableswitch _ lo hi _ => ab_pi st fun a r => .inl (True, (a.toInt < lo ∨ hi < a.toInt, (x, L, r, h, cs, sl)) :: ab_sw a lo L r h cs sl 0 ts)
    | .dup => match st with
      | v :: r => ab_gc (v.category = 1) (pc + len, L, v :: v :: r, h, cs, sl)
      | _ => ab_no
    | .dup2 => match st with
      | v :: w :: r => ab_gc (v.category = 1 ∧ w.category = 1) (pc + len, L, v :: w :: v :: w :: r, h, cs, sl)
      | _ => ab_no
    | .pop => match st with
      | v :: r => ab_gc (v.category = 1) (pc + len, L, r, h, cs, sl)
      | _ => ab_no
    | .invokestatic _ => match ts with
      | _ :: n :: _ => .inr (.inl ((n ≤ st.length ∧ ((st.drop n).map fun v => v.category).sum ≤ 8), x, (st.take n).reverse, fun mc ms v h => (pc + len, L, v.toList ++ st.drop n, h, cs + mc, sl + ms)))
      | _ => ab_no
    | .invokevirtual _ => match ts with
      | _ :: n :: _ => match st.drop n with
        | .ref c :: r => .inr (.inl ((n ≤ st.length ∧ ab_S h c = .inl y ∧ (r.map fun v => v.category).sum ≤ 8), x, .ref c :: (st.take n).reverse, fun mc ms v h => (pc + len, L, v.toList ++ r, h, cs + mc, sl + ms)))
        | _ => ab_no
      | _ => ab_no
    | .invokespecial _ => match ts with
      | _ :: n :: _ => match st.drop n with
        | .ref c :: r => .inr (.inl ((n ≤ st.length ∧ c < 1000000 ∧ (r.map fun v => v.category).sum ≤ 8), x, .ref c :: (st.take n).reverse, fun mc ms v h => (pc + len, L, v.toList ++ r, h, cs + mc, sl + ms)))
        | _ => ab_no
      | _ => ab_pr st fun c r => ab_gc (c < 1000000 ∧ (r.map fun v => v.category).sum ≤ 8) (pc + len, L, r, h, cs, sl)
    | .ireturn => match st with
      | [.int v] => match ab_mr M with
        | some ty => .inr (.inr (narrow ty (.int v) = .int v ∧ cs ≤ ab_mc M ∧ sl ≤ ab_ms M, some (.int v)))
        | none => ab_no
      | _ => ab_no
    | .lreturn => match st with
      | [.long v] => match ab_mr M with
        | some .long => .inr (.inr (cs ≤ ab_mc M ∧ sl ≤ ab_ms M, some (.long v)))
        | _ => ab_no
      | _ => ab_no
    | .areturn => match st with
      | [.ref v] => match ab_mr M with
        | some (.object _) => .inr (.inr (v < 1000000 ∧ cs ≤ ab_mc M ∧ sl ≤ ab_ms M, some (.ref v)))
        | _ => ab_no
      | _ => ab_no
    | .return_ => match st with
      | [] => match ab_mr M with
        | none => .inr (.inr (cs ≤ ab_mc M ∧ sl ≤ ab_ms M, none))
        | _ => ab_no
      | _ => ab_no
    | _ => ab_no
/-- the locals at a method's start -/
def ab_en : List Value → ab_Lo
  | [] => []
  | v :: t => match v.category with
    | 2 => some v :: none :: ab_en t
    | _ => some v :: ab_en t
def ab_ent (As : List Value) (n : Nat) : ab_Lo := ab_en As ++ List.replicate (n - (ab_en As).length) none
abbrev ab_Q : Type := Option Value → ab_H → Prop
abbrev ab_C : Type := Nat → List Value → ab_H → Nat → Nat → ab_Q → Prop
/-- what an instruction asks of where it goes -/
def ab_all (C : ab_C) (M : ab_M) (Q : ab_Q) (h : ab_H) (cs sl : Nat) (X : ab_T → Prop) : ab_R → Prop
  | .inl q => q.1 ∧ ∀ t ∈ q.2, t.1 → X t.2
  | .inr (.inl q) => q.1 ∧ ∃ mc ms : Nat, cs + mc ≤ ab_mc M ∧ sl + ms ≤ ab_ms M ∧ C q.2.1 q.2.2.1 h mc ms (fun v h2 => X (q.2.2.2 mc ms v h2))
  | .inr (.inr q) => q.1 ∧ Q q.2 h
def ab_lfp (C : ab_C) (M : ab_M) (Q : ab_Q) (t : ab_T) : Prop := ∀ X : ab_T → Prop, (∀ pc L st h cs sl, ab_all C M Q h cs sl X (ab_step M pc L st h cs sl) → X (pc, L, st, h, cs, sl)) → X t
/-- the calls of depth d -/
def ab_call (MT : List ab_M) : Nat → ab_C
  | 0 => fun _ _ _ _ _ _ => False
  | d + 1 => fun k As h mc ms Q => ∃ M, MT[k]? = some M ∧ ab_mc M = mc ∧ ab_ms M = ms ∧ (ab_en As).length ≤ ab_ml M ∧ ab_lfp (ab_call MT d) M Q (0, ab_ent As (ab_ml M), [], h, 0, 0)
abbrev ab_wp (MT : List ab_M) (d : Nat) (M : ab_M) (Q : ab_Q) (pc : Nat) (L : ab_Lo) (st : List Value) (h : ab_H) (cs sl : Nat) : Prop := ab_lfp (ab_call MT d) M Q (pc, L, st, h, cs, sl)
theorem ab_all_mono {C : ab_C} {M : ab_M} {Q : ab_Q} {h : ab_H} {cs sl : Nat} {X Y : ab_T → Prop} (hC : ∀ k As h mc ms (Q1 Q2 : ab_Q), (∀ v h, Q1 v h → Q2 v h) → C k As h mc ms Q1 → C k As h mc ms Q2) (hXY : ∀ t, X t → Y t) {r : ab_R} (hr : ab_all C M Q h cs sl X r) : ab_all C M Q h cs sl Y r := by
  match r, hr with
  | .inl q, hr => exact ⟨hr.1, fun t ht h1 => hXY _ (hr.2 t ht h1)⟩
  | .inr (.inl q), hr =>
    obtain ⟨h1, mc, ms, h2, h3, h4⟩ := hr
    exact ⟨h1, mc, ms, h2, h3, hC _ _ _ _ _ _ _ (fun v h q => hXY _ q) h4⟩
  | .inr (.inr q), hr => exact hr
theorem ab_all_Q {C : ab_C} {M : ab_M} {Q Q2 : ab_Q} {h : ab_H} {cs sl : Nat} {X : ab_T → Prop} (hQ : ∀ v h, Q v h → Q2 v h) {r : ab_R} (hr : ab_all C M Q h cs sl X r) : ab_all C M Q2 h cs sl X r := by
  match r, hr with
  | .inl q, hr => exact hr
  | .inr (.inl q), hr => exact hr
  | .inr (.inr q), hr => exact ⟨hr.1, hQ _ _ hr.2⟩
theorem ab_lfp_Q {C : ab_C} {M : ab_M} {Q Q2 : ab_Q} {t : ab_T} (hQ : ∀ v h, Q v h → Q2 v h) (h : ab_lfp C M Q t) : ab_lfp C M Q2 t := fun X hX => h X (fun pc L st h cs sl hr => hX pc L st h cs sl (ab_all_Q hQ hr))
theorem ab_call_mono (MT : List ab_M) (d : Nat) : ∀ k As h mc ms (Q1 Q2 : ab_Q), (∀ v h, Q1 v h → Q2 v h) → ab_call MT d k As h mc ms Q1 → ab_call MT d k As h mc ms Q2 := by
  intro k As h mc ms Q1 Q2 hQ hc
  cases d with
  | zero => exact hc
  | succ d =>
    obtain ⟨M, h1, h2, h3, h5, h4⟩ := hc
    exact ⟨M, h1, h2, h3, h5, ab_lfp_Q hQ h4⟩
theorem ab_mk_ {MT : List ab_M} {d : Nat} {M : ab_M} {Q : ab_Q} {pc : Nat} {L : ab_Lo} {st : List Value} {h : ab_H} {cs sl : Nat} (hs : ab_all (ab_call MT d) M Q h cs sl (ab_lfp (ab_call MT d) M Q) (ab_step M pc L st h cs sl)) : ab_wp MT d M Q pc L st h cs sl := by
  intro X hX
  exact hX pc L st h cs sl (ab_all_mono (ab_call_mono MT d) (fun t ht => ht X hX) hs)
theorem ab_Q_ {MT : List ab_M} {d : Nat} {M : ab_M} {Q Q2 : ab_Q} {pc : Nat} {L : ab_Lo} {st : List Value} {h : ab_H} {cs sl : Nat} (hw : ab_wp MT d M Q pc L st h cs sl) (hQ : ∀ v h, Q v h → Q2 v h) : ab_wp MT d M Q2 pc L st h cs sl := ab_lfp_Q hQ hw
end
section
/-! the abstract heap beside the machine's heap -/
/-- base address, the script's address, length, ints; the addresses of two texts and of their bytes; a value that is passed on unread; classes, slots, array classes -/
abbrev ab_W : Type := Nat × Nat × Nat × (Nat → Int32) × (Nat → Nat) × (Nat → Nat) × Value × va_G × (FieldType → ClassId)
abbrev ab_B (g : ab_W) : Nat := g.1
abbrev ab_ax (g : ab_W) : Nat := g.2.1
abbrev ab_Lx (g : ab_W) : Nat := g.2.2.1
abbrev ab_xs (g : ab_W) : Nat → Int32 := g.2.2.2.1
abbrev ab_aK (g : ab_W) : Nat → Nat := g.2.2.2.2.1
abbrev ab_aV (g : ab_W) : Nat → Nat := g.2.2.2.2.2.1
abbrev ab_vf (g : ab_W) : Value := g.2.2.2.2.2.2.1
abbrev ab_D (g : ab_W) : va_G := g.2.2.2.2.2.2.2.1
abbrev ab_cA (g : ab_W) : FieldType → ClassId := g.2.2.2.2.2.2.2.2
abbrev ab_A (g : ab_W) : Nat → Prop := fun q => ab_B g ≤ q
def ab_rv (g : ab_W) (i : Nat) : Value := if i < 1000000 then .ref (ab_B g + i) else if i = 1000000 then .ref (ab_ax g) else if i = 1000020 then ab_vf g else if i < 1000010 then .ref (ab_aK g (i - 1000001)) else .ref (ab_aV g (i - 1000011))
def ab_cv (g : ab_W) : Value → Value
  | .ref i => ab_rv g i
  | v => v
def ab_w0 : List Int32 := [99, 104, 117, 114, 99, 104, 32, 114, 111, 97, 100, 32, 114, 101, 108, 105, 99, 32, 112, 105, 108, 103, 114, 105, 109, 32, 100, 114, 97, 119, 115, 32, 104, 101, 97, 108, 115, 32, 103, 105, 118, 101, 115, 32, 108, 101, 97, 118, 101, 32, 99, 97, 117, 103, 104, 116, 32, 115, 101, 101, 100, 32, 116, 114, 117, 101, 32, 99, 111, 112, 121, 32, 105, 102, 32, 116, 104, 101, 110, 32, 101, 108, 115, 101, 32, 114, 101, 108, 105, 99, 115, 32, 119, 111, 110, 100, 101, 114, 115, 32, 102, 97, 114, 32, 110, 101, 101, 100, 32, 103, 105, 102, 116, 32, 110, 105, 103, 104, 116, 115, 32, 119, 97, 116, 99, 104, 32, 121, 101, 97, 114, 115, 32, 116, 114, 117, 116, 104, 32]
def ab_w1 : List Int32 := [59, 61, 43, 45, 42, 47, 60, 40, 41]
def ab_spS (n : Nat) (a : Nat) : ab_Sh := if a = 1000000 then .inr (.int, n) else if a = 1000001 then .inl 90 else if a = 1000002 then .inl 90 else if a = 1000011 then .inr (.byte, 139) else if a = 1000012 then .inr (.byte, 9) else .inl 999
def ab_spI (xs : Nat → Int32) (a : Nat) : Nat → Int32 := if a = 1000000 then xs else if a = 1000011 then (fun j => ab_w0.getD j 0) else if a = 1000012 then (fun j => ab_w1.getD j 0) else fun _ => 0
def ab_spP (a : Nat) : Nat → Option Nat := if a = 1000001 then (fun k => if k = 0 then some 1000011 else none) else if a = 1000002 then (fun k => if k = 0 then some 1000012 else none) else fun _ => none
def ab_Sp (g : ab_W) (h : ab_H) : Prop := (∀ a, h.1 ≤ a → a < 1000000 → ab_S h a = .inl 999) ∧ h.1 ≤ 600000 ∧ ∀ a, 1000000 ≤ a → ab_S h a = ab_spS (ab_Lx g) a ∧ ab_i h a = ab_spI (ab_xs g) a ∧ ab_p h a = ab_spP a
def ab_fv (h : ab_H) (ci c k : Nat) : Value := match ab_isR (ab_ty ci k) with
  | true => ab_rf (ab_p h c k)
  | false => .int (ab_i h c k)
def ab_E (g : ab_W) (h : ab_H) (c : Nat) : va_E := match ab_S h c with
  | .inl ci => .inr (ci, (List.range (ab_nf ci)).map (fun k => ab_cv g (ab_fv h ci c k)))
  | .inr (ty, n) => .inl (ab_cA g ty, n, match ty with
    | .long => .inr (.inl (ab_l h c))
    | _ => .inl (ab_i h c))
def ab_ws (g : ab_W) (h : ab_H) : va_W := (List.range h.1).map (fun c => (ab_B g + c, ab_E g h c))
def ab_Rel (g : ab_W) (h : ab_H) (H : Heap) : Prop := va_P (ab_D g) ab_cls (ab_ws g h) H ∧ H.size = ab_B g + h.1 ∧ ab_Sp g h
def ab_tys (g : ab_W) : List (ClassId × FieldType) := [(ab_cA g .int, .int), (ab_cA g .byte, .byte), (ab_cA g .boolean, .boolean), (ab_cA g .long, .long)]
def ab_TB : List Cond := lw_tbl.filter goodWord
def ab_tx0 : String := "church road relic pilgrim draws heals gives leave caught seed true copy if then else relics wonders far need gift nights watch years truth "
def ab_tx1 : String := ";=+-*/<()"
/-- what is known of a state at a method's start, but the heap from the base on -/
def ab_F (g : ab_W) (s : State) : Prop := va_K (ab_D g) ab_cls (ab_tys g) s ∧ (∀ (a : String) (i : Nat) (y : MethodName) (ho : String), Cond.methodLinkNest a i y ho ∈ lw_tbl → va_Nw (.methodLinkNest a i y ho) s) ∧ vk_R RX8 25 ab_tx0 (ab_aK g 0) s ∧ vk_R RX8 88 ab_tx1 (ab_aK g 1) s ∧ vk_S 2 [139, 9] [ab_w0, ab_w1] (ab_aK g) (ab_aV g) (ab_A g) s s.heap ∧ va_X (ab_ax g) (ab_Lx g) (ab_xs g) s s.heap ∧ ab_ax g < ab_B g ∧ va_Z "java/lang/String" "COMPACT_STRINGS" "Z" (.int 1) (ab_A g) s s.heap ∧ va_Z "jdk/internal/util/Preconditions" "SIOOBE_FORMATTER" "Ljava/util/function/BiFunction;" (ab_vf g) (ab_A g) s s.heap ∧ (ab_vf g = .null ∨ ∃ a, ab_vf g = .ref a) ∧ ab_B g ≤ s.heap.size
theorem ab_F.same {g : ab_W} {u U : State} (hv : u.vm = U.vm) (hh : u.heap = U.heap) (h : ab_F g u) : ab_F g U := by
  obtain ⟨h1, h2, h3, h4, h5, h6, h7, h8, h9, h10, h11⟩ := h
  have ha : u.vm.Alike U.vm := by rw [hv]; exact Vm.Alike.refl _
  refine ⟨va_K.moved ha h1, fun a i y ho hm => va_Nw.same rfl hv (h2 a i y ho hm), vk_R.same hv.symm h3, vk_R.same hv.symm h4, ?_, ?_, h7, ?_, ?_, h10, by rw [← hh]; exact h11⟩
  · rw [← hh]; exact vk_S.moved ha h5
  · rw [← hh]; exact va_X.moved ha h6
  · rw [← hh]; exact va_Z.moved ha h8
  · rw [← hh]; exact va_Z.moved ha h9
theorem ab_F.warm {g : ab_W} {s U : State} {H : Heap} {locs : List Loc} (hU : U.heap = H) (hW : s.WarmedH U.vm) (hS : va_S (ab_A g) s.heap H locs) (h : ab_F g s) : ab_F g U := by
  obtain ⟨h1, h2, h3, h4, h5, h6, h7, h8, h9, h10, h11⟩ := h
  subst hU
  refine ⟨va_K.moved hW.alike h1, fun a i y ho hm => va_Nw.warmM hW (h2 a i y ho hm), vk_R.warm hW h3, vk_R.warm hW h4, (vk_S.moved hW.alike h5).kept hS.2.1, ?_, h7, (va_Z.moved hW.alike h8).kept hS.2.1, (va_Z.moved hW.alike h9).kept hS.2.1, h10, Nat.le_trans h11 hS.1⟩
  exact (va_X.moved hW.alike h6).kept (hS.2.1 _ (Nat.lt_of_lt_of_le h7 h11) (Nat.not_le.mpr h7))
theorem ab_rv_lt {g : ab_W} {i : Nat} (h : i < 1000000) : ab_rv g i = .ref (ab_B g + i) := by
  unfold ab_rv; rw [if_pos h]
theorem ab_rv_ref {g : ab_W} (hv : ab_vf g = .null ∨ ∃ a, ab_vf g = .ref a) (i : Nat) : ab_rv g i = .null ∨ ∃ a, ab_rv g i = .ref a := by
  unfold ab_rv
  split
  · exact Or.inr ⟨_, rfl⟩
  · split
    · exact Or.inr ⟨_, rfl⟩
    · split
      · exact hv
      · split
        · exact Or.inr ⟨_, rfl⟩
        · exact Or.inr ⟨_, rfl⟩
theorem ab_cv_cat {g : ab_W} (hv : ab_vf g = .null ∨ ∃ a, ab_vf g = .ref a) (v : Value) : (ab_cv g v).category = v.category := by
  cases v with
  | ref i =>
    show (ab_rv g i).category = 1
    rcases ab_rv_ref hv i with h | ⟨a, h⟩ <;> rw [h] <;> rfl
  | _ => rfl
theorem ab_cats {g : ab_W} (hv : ab_vf g = .null ∨ ∃ a, ab_vf g = .ref a) (l : List Value) : ((l.map (ab_cv g)).map fun v => v.category) = l.map fun v => v.category := by
  rw [List.map_map]
  exact List.map_congr_left (fun v _ => ab_cv_cat hv v)
theorem ab_ws_at {g : ab_W} {h : ab_H} {c : Nat} (hc : c < h.1) : (ab_ws g h)[c]? = some (ab_B g + c, ab_E g h c) := by
  unfold ab_ws
  rw [List.getElem?_map, List.getElem?_range hc]
  rfl
theorem ab_ws_inv {g : ab_W} {h : ab_H} {c : Nat} {q : Nat × va_E} (hq : (ab_ws g h)[c]? = some q) : c < h.1 ∧ q = (ab_B g + c, ab_E g h c) := by
  have hl : c < (ab_ws g h).length := (List.getElem?_eq_some_iff.mp hq).1
  have hc : c < h.1 := by simpa [ab_ws] using hl
  rw [ab_ws_at hc] at hq
  exact ⟨hc, (Option.some.inj hq).symm⟩
theorem ab_ws_D (g : ab_W) (h : ab_H) : va_D (ab_A g) (ab_ws g h) := by
  refine ⟨fun i j p q hi hj hpq => ?_, fun k q hk => ?_⟩
  · obtain ⟨-, rfl⟩ := ab_ws_inv hi
    obtain ⟨-, rfl⟩ := ab_ws_inv hj
    have : ab_B g + i = ab_B g + j := hpq
    omega
  · obtain ⟨-, rfl⟩ := ab_ws_inv hk
    exact Nat.le_add_right _ _
theorem ab_ws_set {g : ab_W} {h h2 : ab_H} {c : Nat} {v : va_E} (hn : h2.1 = h.1) (hc : c < h.1) (hE : ab_E g h2 c = v) (ho : ∀ q, q ≠ c → ab_E g h2 q = ab_E g h q) : (ab_ws g h).set c (ab_B g + c, v) = ab_ws g h2 := by
  apply List.ext_getElem?
  intro i
  by_cases hi : i < h.1
  · rw [ab_ws_at (h := h2) (by rw [hn]; exact hi)]
    by_cases hic : i = c
    · subst hic
      rw [List.getElem?_set_self (by simpa [ab_ws] using hi), hE]
    · rw [List.getElem?_set_ne (fun z => hic z.symm), ab_ws_at hi, ho i hic]
  · rw [List.getElem?_eq_none (by simp [ab_ws]; omega), List.getElem?_eq_none (by simp [ab_ws]; omega)]
theorem ab_ws_new {g : ab_W} {h : ab_H} {q : ab_Sh} {v : va_E} (hE : ab_E g (ab_nw h q) h.1 = v) : ab_ws g h ++ [(ab_B g + h.1, v)] = ab_ws g (ab_nw h q) := by
  have ho : ∀ c, c < h.1 → ab_E g (ab_nw h q) c = ab_E g h c := by
    intro c hc
    have hne : ¬ c = h.1 := by omega
    simp [ab_E, ab_nw, va_up, hne, ab_fv, ab_S, ab_i, ab_l, ab_p]
  unfold ab_ws
  show _ = List.map _ (List.range (h.1 + 1))
  rw [List.range_succ, List.map_append, List.map_cons, List.map_nil, hE]
  congr 1
  refine List.map_congr_left (fun c hc => ?_)
  rw [ho c (List.mem_range.mp hc)]
theorem ab_E_ui {g : ab_W} {h : ab_H} {c k q : Nat} {v : Int32} (hq : q ≠ c) : ab_E g (ab_ui h c k v) q = ab_E g h q := by
  simp [ab_E, ab_ui, va_up, hq, ab_fv, ab_S, ab_i, ab_l, ab_p]
theorem ab_E_ul {g : ab_W} {h : ab_H} {c k q : Nat} {v : Int64} (hq : q ≠ c) : ab_E g (ab_ul h c k v) q = ab_E g h q := by
  simp [ab_E, ab_ul, va_up, hq, ab_fv, ab_S, ab_i, ab_l, ab_p]
theorem ab_E_up {g : ab_W} {h : ab_H} {c k q : Nat} {v : Option Nat} (hq : q ≠ c) : ab_E g (ab_up h c k v) q = ab_E g h q := by
  simp [ab_E, ab_up, va_up, hq, ab_fv, ab_S, ab_i, ab_l, ab_p]
theorem ab_Sp.ui {g : ab_W} {h : ab_H} (hs : ab_Sp g h) {c k : Nat} {v : Int32} (hc : c < 1000000) : ab_Sp g (ab_ui h c k v) := by
  refine ⟨hs.1, hs.2.1, fun a ha => ⟨(hs.2.2 a ha).1, ?_, (hs.2.2 a ha).2.2⟩⟩
  rw [← (hs.2.2 a ha).2.1]
  have : ¬ a = c := by omega
  simp [ab_ui, ab_i, va_up, this]
theorem ab_Sp.ul {g : ab_W} {h : ab_H} (hs : ab_Sp g h) {c k : Nat} {v : Int64} : ab_Sp g (ab_ul h c k v) := hs
theorem ab_Sp.up {g : ab_W} {h : ab_H} (hs : ab_Sp g h) {c k : Nat} {v : Option Nat} (hc : c < 1000000) : ab_Sp g (ab_up h c k v) := by
  refine ⟨hs.1, hs.2.1, fun a ha => ⟨(hs.2.2 a ha).1, (hs.2.2 a ha).2.1, ?_⟩⟩
  rw [← (hs.2.2 a ha).2.2]
  have : ¬ a = c := by omega
  simp [ab_up, ab_p, va_up, this]
theorem ab_Sp.nw {g : ab_W} {h : ab_H} (hs : ab_Sp g h) {q : ab_Sh} (hc : h.1 < 600000) : ab_Sp g (ab_nw h q) := by
  refine ⟨fun a ha hb => ?_, hc, fun a ha => ?_⟩
  · have h1 : h.1 + 1 ≤ a := ha
    have : ¬ a = h.1 := by omega
    rw [← hs.1 a (by omega) hb]
    simp [ab_nw, ab_S, va_up, this]
  · have : ¬ a = h.1 := by omega
    obtain ⟨q1, q2, q3⟩ := hs.2.2 a ha
    refine ⟨?_, ?_, ?_⟩
    · rw [← q1]; simp [ab_nw, ab_S, va_up, this]
    · rw [← q2]; simp [ab_nw, ab_i, va_up, this]
    · rw [← q3]; simp [ab_nw, ab_p, va_up, this]
theorem ab_inl {g : ab_W} {h : ab_H} (hs : ab_Sp g h) {c ci : Nat} (hc : ab_S h c = .inl ci) (h9 : ci ≠ 999) : c < h.1 ∨ (ci = 90 ∧ (c = 1000001 ∨ c = 1000002)) := by
  by_cases h1 : c < h.1
  · exact Or.inl h1
  · by_cases h2 : c < 1000000
    · rw [hs.1 c (by omega) h2] at hc
      cases hc
      exact absurd rfl h9
    · right
      rw [(hs.2.2 c (by omega)).1] at hc
      unfold ab_spS at hc
      repeat' split at hc
      all_goals first | (cases hc; done) | (cases hc; exact ⟨rfl, Or.inl ‹_›⟩) | (cases hc; exact ⟨rfl, Or.inr ‹_›⟩) | (cases hc; exact absurd rfl h9)
theorem ab_inr {g : ab_W} {h : ab_H} (hs : ab_Sp g h) {c n : Nat} {ty : FieldType} (hc : ab_S h c = .inr (ty, n)) : c < h.1 ∨ (c = 1000000 ∧ ty = .int ∧ n = ab_Lx g) ∨ (c = 1000011 ∧ ty = .byte ∧ n = 139) ∨ (c = 1000012 ∧ ty = .byte ∧ n = 9) := by
  by_cases h1 : c < h.1
  · exact Or.inl h1
  · by_cases h2 : c < 1000000
    · rw [hs.1 c (by omega) h2] at hc
      cases hc
    · right
      rw [(hs.2.2 c (by omega)).1] at hc
      unfold ab_spS at hc
      repeat' split at hc
      all_goals first | (cases hc; done) | (cases hc; exact Or.inl ⟨‹_›, rfl, rfl⟩) | (cases hc; exact Or.inr (Or.inl ⟨‹_›, rfl, rfl⟩)) | (cases hc; exact Or.inr (Or.inr ⟨‹_›, rfl, rfl⟩))
theorem ab_clsE {ci : Nat} (h : ci < 12) : ab_cls[ci]? = some (ab_cnm ci, ab_fd ci, ab_nf ci) := by
  match ci, h with
  | 0, _ => rfl
  | 1, _ => rfl
  | 2, _ => rfl
  | 3, _ => rfl
  | 4, _ => rfl
  | 5, _ => rfl
  | 6, _ => rfl
  | 7, _ => rfl
  | 8, _ => rfl
  | 9, _ => rfl
  | 10, _ => rfl
  | 11, _ => rfl
  | n + 12, h => omega
theorem ab_tyE {ci : Nat} (h : ci < 12) : ∀ k, k < ab_nf ci → parseFieldDescriptor (ab_fd ci k).2.2.1 = some (ab_ty ci k) := by
  match ci, h with
  | 0, _ => exact tyX0_ok
  | 1, _ => exact tyX1_ok
  | 2, _ => exact tyX2_ok
  | 3, _ => exact tyX3_ok
  | 4, _ => exact tyX4_ok
  | 5, _ => exact tyX5_ok
  | 6, _ => exact tyX6_ok
  | 7, _ => exact tyX7_ok
  | 8, _ => exact tyX8_ok
  | 9, _ => exact tyX9_ok
  | 10, _ => exact tyX10_ok
  | 11, _ => exact tyX11_ok
  | n + 12, h => omega
theorem ab_nmE {ci : Nat} (h : ci < 12) : ∀ a, a < ab_nf ci → ∀ b, b < ab_nf ci → a ≠ b → (ab_fd ci a).2.1 ≠ (ab_fd ci b).2.1 := by
  match ci, h with
  | 0, _ => exact nmX0
  | 1, _ => exact nmX1
  | 2, _ => exact nmX2
  | 3, _ => exact nmX3
  | 4, _ => exact nmX4
  | 5, _ => exact nmX5
  | 6, _ => exact nmX6
  | 7, _ => exact nmX7
  | 8, _ => exact nmX8
  | 9, _ => exact nmX9
  | 10, _ => exact nmX10
  | 11, _ => exact nmX11
  | n + 12, h => omega
end
section
/-! what an instruction asks, taken apart; the locals -/
section ABV
variable {C : ab_C} {M : ab_M} {Q : ab_Q} {h : ab_H} {cs sl : Nat} {X : ab_T → Prop}
theorem abv_go {t : ab_T} (hs : ab_all C M Q h cs sl X (ab_go t)) : X t := hs.2 (True, t) List.mem_cons_self trivial
theorem abv_gc {g : Prop} {t : ab_T} (hs : ab_all C M Q h cs sl X (ab_gc g t)) : g ∧ X t := ⟨hs.1, hs.2 (True, t) List.mem_cons_self trivial⟩
theorem abv_br {g : Prop} {t1 t2 : ab_T} (hs : ab_all C M Q h cs sl X (ab_br g t1 t2)) : (g → X t1) ∧ (¬ g → X t2) := ⟨hs.2 (g, t1) List.mem_cons_self, hs.2 (¬ g, t2) (List.mem_cons_of_mem _ List.mem_cons_self)⟩
theorem abv_no (hs : ab_all C M Q h cs sl X ab_no) : False := hs.1
theorem abv_pi {st : List Value} {k : Int32 → List Value → ab_R} (hs : ab_all C M Q h cs sl X (ab_pi st k)) : ∃ v r, st = .int v :: r ∧ ab_all C M Q h cs sl X (k v r) := by
  unfold ab_pi at hs
  split at hs
  · exact ⟨_, _, rfl, hs⟩
  · exact (abv_no hs).elim
theorem abv_pl {st : List Value} {k : Int64 → List Value → ab_R} (hs : ab_all C M Q h cs sl X (ab_pl st k)) : ∃ v r, st = .long v :: r ∧ ab_all C M Q h cs sl X (k v r) := by
  unfold ab_pl at hs
  split at hs
  · exact ⟨_, _, rfl, hs⟩
  · exact (abv_no hs).elim
theorem abv_pr {st : List Value} {k : Nat → List Value → ab_R} (hs : ab_all C M Q h cs sl X (ab_pr st k)) : ∃ v r, st = .ref v :: r ∧ ab_all C M Q h cs sl X (k v r) := by
  unfold ab_pr at hs
  split at hs
  · exact ⟨_, _, rfl, hs⟩
  · exact (abv_no hs).elim
theorem abv_li {L : ab_Lo} {i : Nat} {k : Int32 → ab_R} (hs : ab_all C M Q h cs sl X (ab_li L i k)) : ∃ v, L[i]? = some (some (.int v)) ∧ ab_all C M Q h cs sl X (k v) := by
  unfold ab_li at hs
  split at hs
  · exact ⟨_, ‹_›, hs⟩
  · exact (abv_no hs).elim
theorem abv_ll {L : ab_Lo} {i : Nat} {k : Int64 → ab_R} (hs : ab_all C M Q h cs sl X (ab_ll L i k)) : ∃ v, L[i]? = some (some (.long v)) ∧ ab_all C M Q h cs sl X (k v) := by
  unfold ab_ll at hs
  split at hs
  · exact ⟨_, ‹_›, hs⟩
  · exact (abv_no hs).elim
theorem abv_lr {L : ab_Lo} {i : Nat} {k : Nat → ab_R} (hs : ab_all C M Q h cs sl X (ab_lr L i k)) : ∃ v, L[i]? = some (some (.ref v)) ∧ ab_all C M Q h cs sl X (k v) := by
  unfold ab_lr at hs
  split at hs
  · exact ⟨_, ‹_›, hs⟩
  · exact (abv_no hs).elim
end ABV
theorem ab_find_mem : ∀ (l : List ab_I) (pc : Nat) (q : Instr × Nat × Nat × Nat × List Nat), ab_find pc l = some q → (pc, q) ∈ l
  | [], _, _, h => by simp [ab_find] at h
  | a :: t, pc, q, h => by
    unfold ab_find at h
    split at h
    · rename_i hb
      have e := Nat.eq_of_beq_eq_true hb
      cases h
      rw [e]
      exact List.mem_cons_self
    · exact List.mem_cons_of_mem _ (ab_find_mem t pc q h)
theorem ab_s1_ex (q : Option Value) (t : ab_Lo) (i : Nat) (v : Value) : ∃ q', ab_s1 (q :: t) (i + 1) v = q' :: ab_s1 t i v ∧ (q' = none ∨ (q' = q ∧ ¬ (i = 0 ∧ ∃ x, q = some x ∧ x.category = 2))) := by
  cases i with
  | zero =>
    cases q with
    | none => exact ⟨none, rfl, Or.inl rfl⟩
    | some w => cases w <;> first | exact ⟨none, rfl, Or.inl rfl⟩ | exact ⟨_, rfl, Or.inr ⟨rfl, fun z => by obtain ⟨-, x, hx, hc⟩ := z; cases hx; simp [Value.category] at hc⟩⟩
  | succ i =>
    cases q with
    | none => exact ⟨none, rfl, Or.inl rfl⟩
    | some w => cases w <;> exact ⟨_, rfl, Or.inr ⟨rfl, fun z => by omega⟩⟩
theorem ab_s2_ex (q : Option Value) (t : ab_Lo) (i : Nat) (v : Value) : ∃ q', ab_s2 (q :: t) (i + 1) v = q' :: ab_s2 t i v ∧ (q' = none ∨ (q' = q ∧ ¬ (i = 0 ∧ ∃ x, q = some x ∧ x.category = 2))) := by
  cases i with
  | zero =>
    cases q with
    | none => exact ⟨none, by cases t <;> rfl, Or.inl rfl⟩
    | some w =>
      rcases lv_cat w with hw | hw
      · refine ⟨some w, ?_, Or.inr ⟨rfl, fun z => ?_⟩⟩
        · cases w <;> first | (cases t <;> rfl) | (simp [Value.category] at hw)
        · obtain ⟨-, x, hx, hc⟩ := z
          cases hx
          omega
      · refine ⟨none, ?_, Or.inl rfl⟩
        cases w <;> first | (simp [Value.category] at hw; done) | (cases t <;> rfl)
  | succ i =>
    cases q with
    | none => exact ⟨none, by cases t <;> rfl, Or.inl rfl⟩
    | some w => exact ⟨some w, by cases w <;> cases t <;> rfl, Or.inr ⟨rfl, fun z => by omega⟩⟩
theorem ab_s1_get : ∀ (L : ab_Lo) (i : Nat) (v : Value) (j : Nat) (w : Value), (ab_s1 L i v)[j]? = some (some w) → (j = i ∧ w = v) ∨ (j ≠ i ∧ L[j]? = some (some w) ∧ ¬ (j + 1 = i ∧ w.category = 2))
  | [], i, v, j, w, h => by simp [ab_s1] at h
  | q :: t, 0, v, j, w, h => by
    cases j with
    | zero =>
      have h : some (some v) = some (some w) := h
      cases h
      exact Or.inl ⟨rfl, rfl⟩
    | succ j => exact Or.inr ⟨by omega, h, by omega⟩
  | q :: t, i + 1, v, j, w, h => by
    obtain ⟨q', e, hq⟩ := ab_s1_ex q t i v
    rw [e] at h
    cases j with
    | zero =>
      have h : some q' = some (some w) := h
      cases h
      rcases hq with hq | ⟨hq, hn⟩
      · cases hq
      · refine Or.inr ⟨by omega, by rw [← hq]; rfl, fun z => hn ⟨by omega, w, hq.symm, z.2⟩⟩
    | succ j =>
      have h : (ab_s1 t i v)[j]? = some (some w) := h
      rcases ab_s1_get t i v j w h with ⟨h1, h2⟩ | ⟨h1, h2, h3⟩
      · exact Or.inl ⟨by omega, h2⟩
      · exact Or.inr ⟨by omega, h2, fun z => h3 ⟨by omega, z.2⟩⟩
theorem ab_s2_get : ∀ (L : ab_Lo) (i : Nat) (v : Value) (j : Nat) (w : Value), (ab_s2 L i v)[j]? = some (some w) → (j = i ∧ w = v) ∨ (j ≠ i ∧ j ≠ i + 1 ∧ L[j]? = some (some w) ∧ ¬ (j + 1 = i ∧ w.category = 2))
  | [], i, v, j, w, h => by simp [ab_s2] at h
  | [q], 0, v, j, w, h => by
    cases j with
    | zero =>
      have h : some (some v) = some (some w) := h
      cases h
      exact Or.inl ⟨rfl, rfl⟩
    | succ j =>
      have h : ([] : ab_Lo)[j]? = some (some w) := h
      simp at h
  | q :: q2 :: t, 0, v, j, w, h => by
    match j, h with
    | 0, h =>
      have h : some (some v) = some (some w) := h
      cases h
      exact Or.inl ⟨rfl, rfl⟩
    | 1, h =>
      have h : some none = some (some w) := h
      cases h
    | j + 2, h => exact Or.inr ⟨by omega, by omega, h, by omega⟩
  | q :: t, i + 1, v, j, w, h => by
    obtain ⟨q', e, hq⟩ := ab_s2_ex q t i v
    rw [e] at h
    cases j with
    | zero =>
      have h : some q' = some (some w) := h
      cases h
      rcases hq with hq | ⟨hq, hn⟩
      · cases hq
      · refine Or.inr ⟨by omega, by omega, by rw [← hq]; rfl, fun z => hn ⟨by omega, w, hq.symm, z.2⟩⟩
    | succ j =>
      have h : (ab_s2 t i v)[j]? = some (some w) := h
      rcases ab_s2_get t i v j w h with ⟨h1, h2⟩ | ⟨h1, h0, h2, h3⟩
      · exact Or.inl ⟨by omega, h2⟩
      · exact Or.inr ⟨by omega, by omega, h2, fun z => h3 ⟨by omega, z.2⟩⟩
def ab_LR (g : ab_W) (ls : Array Slot) (nL : Nat) (L : ab_Lo) : Prop := ls.size = nL ∧ lv_wf ls ∧ ∀ (i : Nat) (v : Value), L[i]? = some (some v) → ls[i]? = some (Slot.val (ab_cv g v))
def ab_as (g : ab_W) (L : ab_Lo) : List (Nat × Value) := (List.range L.length).filterMap (fun i => match L[i]? with
  | some (some v) => some (i, ab_cv g v)
  | _ => none)
theorem ab_as_mem {g : ab_W} {L : ab_Lo} {i : Nat} {v : Value} (h : L[i]? = some (some v)) : (i, ab_cv g v) ∈ ab_as g L := by
  refine List.mem_filterMap.mpr ⟨i, List.mem_range.mpr (List.getElem?_eq_some_iff.mp h).1, ?_⟩
  rw [h]
theorem ab_as_inv {g : ab_W} {L : ab_Lo} {q : Nat × Value} (h : q ∈ ab_as g L) : ∃ v, L[q.1]? = some (some v) ∧ q.2 = ab_cv g v := by
  obtain ⟨i, -, hi⟩ := List.mem_filterMap.mp h
  split at hi
  · rename_i v hv
    cases hi
    exact ⟨v, hv, rfl⟩
  · cases hi
theorem ab_as_has {g : ab_W} {ls : Array Slot} {nL : Nat} {L : ab_Lo} (h : ab_LR g ls nL L) : lv_has ls nL (ab_as g L) := by
  refine ⟨h.1, h.2.1, fun q hq => ?_⟩
  obtain ⟨v, h1, h2⟩ := ab_as_inv hq
  rw [h2]
  exact h.2.2 _ _ h1
theorem ab_LR.s1 {g : ab_W} {ls : Array Slot} {nL : Nat} {L : ab_Lo} {i : Nat} {v w : Value} (hv : ab_vf g = .null ∨ ∃ a, ab_vf g = .ref a) (hw : ab_cv g v = w) (h : lv_has ls nL ((i, w) :: (ab_as g L).filter (fun q => !(q.1 == i) && !(q.1 + 1 == i && q.2.category == 2)))) : ab_LR g ls nL (ab_s1 L i v) := by
  subst hw
  refine ⟨h.1, h.2.1, fun j w hj => ?_⟩
  rcases ab_s1_get L i v j w hj with ⟨rfl, rfl⟩ | ⟨h1, h2, h3⟩
  · exact h.2.2 (j, ab_cv g w) List.mem_cons_self
  · refine h.2.2 (j, ab_cv g w) (List.mem_cons_of_mem _ (List.mem_filter.mpr ⟨ab_as_mem h2, ?_⟩))
    have e := ab_cv_cat hv w
    simp only [e]
    by_cases a : j + 1 = i
    · have hc : ¬ w.category = 2 := fun z => h3 ⟨a, z⟩
      simp [h1, hc]
    · simp [h1, a]
theorem ab_LR.s2 {g : ab_W} {ls : Array Slot} {nL : Nat} {L : ab_Lo} {i : Nat} {v w : Value} (hv : ab_vf g = .null ∨ ∃ a, ab_vf g = .ref a) (hw : ab_cv g v = w) (h : lv_has ls nL ((i, w) :: (ab_as g L).filter (fun q => !(q.1 == i) && (!(q.1 == i + 1) && !(q.1 + 1 == i && q.2.category == 2))))) : ab_LR g ls nL (ab_s2 L i v) := by
  subst hw
  refine ⟨h.1, h.2.1, fun j w hj => ?_⟩
  rcases ab_s2_get L i v j w hj with ⟨rfl, rfl⟩ | ⟨h1, h0, h2, h3⟩
  · exact h.2.2 (j, ab_cv g w) List.mem_cons_self
  · refine h.2.2 (j, ab_cv g w) (List.mem_cons_of_mem _ (List.mem_filter.mpr ⟨ab_as_mem h2, ?_⟩))
    have e := ab_cv_cat hv w
    simp only [e]
    by_cases a : j + 1 = i
    · have hc : ¬ w.category = 2 := fun z => h3 ⟨a, z⟩
      simp [h1, h0, hc]
    · simp [h1, h0, a]
theorem ab_en_get {g : ab_W} (hv : ab_vf g = .null ∨ ∃ a, ab_vf g = .ref a) : ∀ (As : List Value) (b i : Nat) (v : Value), (ab_en As)[i]? = some (some v) → (b + i, ab_cv g v) ∈ lv_args b (As.map (ab_cv g))
  | [], b, i, v, h => by simp [ab_en] at h
  | a :: t, b, i, v, h => by
    have hc := ab_cv_cat hv a
    rcases lv_cat a with h1 | h1
    · have e : ab_en (a :: t) = some a :: ab_en t := by
        show (match a.category with | 2 => _ | _ => _) = _
        rw [h1]
        rfl
      rw [e] at h
      show _ ∈ (b, ab_cv g a) :: lv_args (if (ab_cv g a).category = 2 then b + 2 else b + 1) (t.map (ab_cv g))
      rw [hc, h1, if_neg (by decide)]
      cases i with
      | zero =>
        have h : some (some a) = some (some v) := h
        cases h
        exact List.mem_cons_self
      | succ i =>
        have := ab_en_get hv t (b + 1) i v h
        rw [show b + (i + 1) = b + 1 + i by omega]
        exact List.mem_cons_of_mem _ this
    · have e : ab_en (a :: t) = some a :: none :: ab_en t := by
        show (match a.category with | 2 => _ | _ => _) = _
        rw [h1]
        rfl
      rw [e] at h
      show _ ∈ (b, ab_cv g a) :: lv_args (if (ab_cv g a).category = 2 then b + 2 else b + 1) (t.map (ab_cv g))
      rw [hc, h1, if_pos rfl]
      match i, h with
      | 0, h =>
        have h : some (some a) = some (some v) := h
        cases h
        exact List.mem_cons_self
      | 1, h =>
        have h : some none = some (some v) := h
        cases h
      | i + 2, h =>
        have := ab_en_get hv t (b + 2) i v h
        rw [show b + (i + 2) = b + 2 + i by omega]
        exact List.mem_cons_of_mem _ this
theorem ab_en_len {g : ab_W} (hv : ab_vf g = .null ∨ ∃ a, ab_vf g = .ref a) : ∀ (As : List Value), (lg_sl (As.map (ab_cv g))).length = (ab_en As).length
  | [] => rfl
  | a :: t => by
    have hc := ab_cv_cat hv a
    have ih := ab_en_len hv t
    rcases lv_cat a with h1 | h1
    · have e : ab_en (a :: t) = some a :: ab_en t := by
        show (match a.category with | 2 => _ | _ => _) = _
        rw [h1]
        rfl
      rw [e]
      unfold lg_sl at ih ⊢
      simp only [List.map_cons, List.flatMap_cons, List.length_append, ih]
      rw [hc, h1]
      simp; omega
    · have e : ab_en (a :: t) = some a :: none :: ab_en t := by
        show (match a.category with | 2 => _ | _ => _) = _
        rw [h1]
        rfl
      rw [e]
      unfold lg_sl at ih ⊢
      simp only [List.map_cons, List.flatMap_cons, List.length_append, ih]
      rw [hc, h1]
      simp; omega
theorem ab_LR.entry {g : ab_W} (hv : ab_vf g = .null ∨ ∃ a, ab_vf g = .ref a) {As : List Value} {n : Nat} (hn : (ab_en As).length ≤ n) : ab_LR g (lg_sl (As.map (ab_cv g)) ++ List.replicate (n - (lg_sl (As.map (ab_cv g))).length) Slot.unset).toArray n (ab_ent As n) := by
  have h := lv_entry (As.map (ab_cv g)) (n := n) (by rw [ab_en_len hv]; exact hn)
  refine ⟨h.1, h.2.1, fun i v hi => ?_⟩
  have hi2 : (ab_en As)[i]? = some (some v) := by
    unfold ab_ent at hi
    by_cases hl : i < (ab_en As).length
    · rwa [List.getElem?_append_left hl] at hi
    · rw [List.getElem?_append_right (by omega), List.getElem?_replicate] at hi
      split at hi <;> cases hi
  have := ab_en_get hv As 0 i v hi2
  rw [Nat.zero_add] at this
  exact h.2.2 (i, ab_cv g v) this
end
section
/-! methods as contracts; calls -/
theorem ab_at_in {z : Nat} {w : Cond} (h : ab_at z w = true) : w ∈ ab_TB := by
  unfold ab_at at h
  simp only [Bool.and_eq_true, decide_eq_true_eq] at h
  exact List.mem_filter.mpr ⟨List.mem_of_getElem? h.1, h.2⟩
theorem ab_atN_in {z : Nat} {w : Cond} (h : ab_atN z w = true) : w ∈ lw_tbl := by
  unfold ab_atN at h
  simp only [decide_eq_true_eq] at h
  exact List.mem_of_getElem? h
def ab_cw (M : ab_M) : List Cond := Cond.code (ab_my M) (ab_mb M) (ab_ml M) (ab_mr M) :: ab_TB
def ab_rm (d : Nat) (M : ab_M) : Room := { frames := d + 1, cells := ab_mc M, slots := ab_ms M, locals := 60 * (d + 1) }
theorem ab_good {M : ab_M} (h : Cond.code (ab_my M) (ab_mb M) (ab_ml M) (ab_mr M) ∈ ab_TB) : GoodIn ab_TB (ab_cw M) := by
  intro w hw
  have hm : w ∈ ab_TB := by
    rcases List.mem_cons.mp hw with rfl | hw
    · exact h
    · exact hw
  exact ⟨hm, good_of_word (List.mem_filter.mp hm).2⟩
/-- what stands around a method's body -/
def ab_X (g : ab_W) (M : ab_M) (d : Nat) (p : Program) (R : Room) (s : State) (m : MethodId) (args : Array Value) (meth : Method) (c : Code) : Prop :=
  p.tables.exec = Jvm.exec ∧ c.code = ab_mb M ∧ c.maxLocals = ab_ml M ∧ s.vm.findClass (ab_my M).cls = some m.cls ∧ (∀ w ∈ ab_TB, w.before args s = true) ∧ ab_F g s ∧ (d + 1 ≤ R.frames ∧ 60 * (d + 1) ≤ R.locals ∧ ab_mc M ≤ R.cells ∧ ab_ms M ≤ R.slots) ∧ ((ab_my M).name = "<init>" → meth.name = "<init>")
def ab_ret (M : ab_M) (pc : Nat) : Option Value → Prop
  | none => decode (ab_mb M) pc = .ok (.return_, 1) ∧ ab_mr M = none
  | some (.int v) => decode (ab_mb M) pc = .ok (.ireturn, 1) ∧ ∃ ty, ab_mr M = some ty ∧ narrow ty (.int v) = .int v
  | some (.long _) => decode (ab_mb M) pc = .ok (.lreturn, 1) ∧ ab_mr M = some .long
  | some (.ref v) => decode (ab_mb M) pc = .ok (.areturn, 1) ∧ v < 1000000 ∧ ∃ n, ab_mr M = some (.object n)
  | _ => False
/-- the machine does what the abstract machine does, from t on -/
def ab_Snd (g : ab_W) (l : Launch) (d : Nat) (M : ab_M) (Q : ab_Q) (t : ab_T) : Prop :=
  ∀ (p : Program) (e : Env) (R : Room) (s : State) (m : MethodId) (args : Array Value) (below : List Frame) (meth : Method) (c : Code) (H : Heap) (locs : List Loc) (ls : Array Slot) (Qw : State → Prop),
    ab_X g M d p R s m args meth c → va_S (ab_A g) s.heap H locs → ab_Rel g t.2.2.2.1 H → ab_LR g ls (ab_ml M) t.2.1 →
    (∀ (pc : Nat) (ls : Array Slot) (H : Heap) (locs : List Loc) (r : Option Value) (h : ab_H) (cs sl : Nat), ab_ret M pc r → cs ≤ ab_mc M → sl ≤ ab_ms M → va_S (ab_A g) s.heap H locs → ab_Rel g h H → Q r h →
      W p l e R s m args below meth c H locs cs sl Qw (F0 m pc ls (r.toList.map (ab_cv g)))) →
    W p l e R s m args below meth c H locs t.2.2.2.2.1 t.2.2.2.2.2 Qw (F0 m t.1 ls (t.2.2.1.map (ab_cv g)))
def ab_Qc (g : ab_W) (Q : ab_Q) : Array Value → State → Outcome → State → Prop := fun _ st oc t => (∃ (r : Option Value) (h2 : ab_H), oc = .returned (r.map (ab_cv g)) ∧ Q r h2 ∧ ab_Rel g h2 t.heap) ∧ va_F (ab_A g) st t
theorem ab_met {g : ab_W} {l : Launch} {d : Nat} {M : ab_M} {Q : ab_Q} {As : List Value} {h : ab_H} (hpl : plainName (ab_my M).cls = true) (hlen : (ab_en As).length ≤ ab_ml M) (hsnd : ab_Snd g l d M Q (0, ab_ent As (ab_ml M), [], h, 0, 0)) :
    Met l (ab_my M) (ab_cw M) (ab_rm d M) (va_Pc (As.map (ab_cv g)) (fun U => ab_Rel g h U.heap ∧ ab_F g U)) (ab_Qc g Q) (ab_mc M) (ab_ms M) (ab_A g) := by
  refine Met.ofW (cc := ab_mb M) (maxL := ab_ml M) (ret := ab_mr M) hpl rfl ?_
  intro p e s m args below meth c s₁ B hml hv
  obtain ⟨rfl, hR, hF⟩ := hv
  have hts := atoms_spec (ws := ab_cw M) B.pre
  have hown := findClass_of_methodNamed B.named
  have hlocks := B.notSynchronized
  have hr := B.returns
  have hx := B.exec
  have hb := B.bytes
  rw [lg_entry_eq]
  refine hsnd p e _ s m _ below meth c s.heap [] _ _ ⟨B.exec, B.bytes, hml, hown, fun w hw => hts w (List.mem_cons_of_mem _ hw), hF, ⟨Nat.le_refl _, Nat.le_refl _, Nat.le_refl _, Nat.le_refl _⟩, fun hn => ((name_of_methodNamed B.named B.method).1).trans hn⟩ va_S.rf hR (ab_LR.entry hF.2.2.2.2.2.2.2.2.2.1 hlen) ?_
  intro pc ls H locs r h2 cs sl hret hcs hsl hS hR2 hQ
  refine W.widen hcs hsl ?_
  have hq : ∀ t : State, t.heap = H → ab_Qc g Q ((As.map (ab_cv g)).toArray) s (.returned (r.map (ab_cv g))) t := fun t ht => ⟨⟨r, h2, rfl, hQ, by rw [ht]; exact hR2⟩, hS.F ht⟩
  match r, hret, hq with
  | none, hret, hq => exact W.vret hx hb (hr.trans hret.2) (fun t ht _ => hq t ht) hS.2.2 hret.1
  | some (.int v), hret, hq =>
    obtain ⟨h1, ty, h3, h4⟩ := hret
    exact W.zret hx hb (hr.trans h3) h4 (fun t ht _ => hq t ht) hS.2.2 h1
  | some (.long v), hret, hq => exact W.lret hx hb (hr.trans hret.2) (fun t ht _ => hq t ht) hS.2.2 hret.1
  | some (.ref v), hret, hq =>
    obtain ⟨h1, h3, n, h4⟩ := hret
    exact W.aret hx hb (hr.trans h4) (Or.inl ⟨n, rfl⟩) (Or.inr ⟨_, ab_rv_lt h3⟩) (fun t ht _ => hq t ht) hS.2.2 h1
theorem ab_goes {p : Program} {l : Launch} {e : Env} {R : Room} {s : State} {m : MethodId} {args : Array Value} {below : List Frame} {meth : Method} {c : Code} {H : Heap} {locs : List Loc} {cs sl mc ms pc : Nat} {Qw : State → Prop} {ls : Array Slot} {st0 rest : List Value} {a : Array Value} {g : ab_W} {Q : ab_Q}
    (hr : va_Run p l e R s m args below meth c H locs cs sl mc ms (F0 m pc ls st0) rest (ab_Qc g Q a) (ab_A g)) (hS : va_S (ab_A g) s.heap H locs)
    (kk : ∀ (r : Option Value) (h2 : ab_H) (H1 : Heap) (locs1 : List Loc), Q r h2 → ab_Rel g h2 H1 → va_S (ab_A g) s.heap H1 locs1 → W p l e R s m args below meth c H1 locs1 (cs + mc) (sl + ms) Qw (F0 m (pc + 3) ls ((r.map (ab_cv g)).toList ++ rest))) :
    W p l e R s m args below meth c H locs cs sl Qw (F0 m pc ls st0) := by
  intro T hT X
  obtain ⟨v, st₀, t, T', L, h0, X', hL, e1, e2, ⟨⟨r, h2, hv, hq, hR⟩, hz, hk⟩, st⟩ := hr T hT X
  cases hv
  rw [h0] at hz hk
  obtain ⟨t2, a1, b1⟩ := kk r h2 T'.heap (locs ++ L) hq (by rw [e1]; exact hR)
    ⟨Nat.le_trans hS.1 (by rw [e1]; exact hz), fun q h1 h3 => by rw [e1, hk q (Nat.lt_of_lt_of_le h1 hS.1) h3]; exact hS.2.1 q h1 h3, fun q hq2 => by
      rcases List.mem_append.mp hq2 with h | h
      · exact hS.2.2 q h
      · exact hL q h⟩ T' rfl X'
  exact ⟨t2, st t2 a1, b1⟩
theorem ab_blind (g : ab_W) (h : ab_H) (As : List Value) : FrameBlind (va_Pc As (fun U => ab_Rel g h U.heap ∧ ab_F g U)) := fun _ _ _ _ q => ⟨q.1, q.2.1, q.2.2.same rfl rfl⟩
/-- the words of a method of the table -/
theorem ab_words {M : ab_M} (h : ab_okM M) : Cond.code (ab_my M) (ab_mb M) (ab_ml M) (ab_mr M) ∈ ab_TB ∧ Cond.initialized (ab_my M).cls ∈ ab_TB ∧ ab_ml M ≤ 40 ∧ plainName (ab_my M).cls = true ∧ ((ab_my M).cls ≠ "java/lang/invoke/MethodHandle" ∧ (ab_my M).cls ≠ "java/lang/invoke/VarHandle") ∧
    (ab_mk M = 0 → Cond.static (ab_my M) ∈ ab_TB) ∧ (ab_mk M = 1 → Cond.instanceMethod (ab_my M) ∈ ab_TB ∧ Cond.selects (ab_my M).cls (ab_my M) (ab_my M) ∈ ab_TB) ∧ (ab_mk M = 2 → Cond.instanceMethod (ab_my M) ∈ ab_TB ∧ (ab_my M).name = "<init>" ∧ ab_mr M = none) ∧ (ab_mo M).all (ab_ce M) = true := by
  obtain ⟨z, hz⟩ := h
  unfold ab_cm at hz
  simp only [Bool.and_eq_true, decide_eq_true_eq] at hz
  obtain ⟨⟨⟨⟨⟨⟨⟨h1, h2⟩, h3⟩, h4⟩, h5⟩, h6⟩, h7⟩, h8⟩ := hz
  refine ⟨ab_at_in h1, ab_at_in h2, h3, h4, ⟨h5, h6⟩, fun e => ?_, fun e => ?_, fun e => ?_, h8⟩
  · rw [e] at h7
    exact ab_at_in h7
  · rw [e] at h7
    simp only [Bool.and_eq_true] at h7
    exact ⟨ab_at_in h7.1, ab_at_in h7.2⟩
  · rw [e] at h7
    simp only [Bool.and_eq_true, decide_eq_true_eq] at h7
    exact ⟨ab_at_in h7.1.1, h7.1.2, h7.2⟩
theorem ab_pn_ok {y : MethodName} {n : Nat} (h : ab_pn y n = true) : (parseMethodDescriptor y.desc).map (fun d => d.parameters.length) = some n := by
  unfold ab_pn at h
  simpa using h
section ABC
variable {p : Program} {l : Launch} {e : Env} {R : Room} {s : State} {m : MethodId} {args : Array Value} {below : List Frame} {meth : Method} {c : Code} {H : Heap} {locs : List Loc} {cs sl pc d x n k z : Nat} {Qw : State → Prop} {ls : Array Slot} {st : List Value} {g : ab_W} {Q : ab_Q} {M M2 : ab_M} {h : ab_H}
/-- a call of a static method -/
theorem ab_callS (hX : ab_X g M (d + 1) p R s m args meth c) (hS : va_S (ab_A g) s.heap H locs) (hR : ab_Rel g h H) (hls : ls.size = ab_ml M) (hok : ab_okM M2) (hk : ab_mk M2 = 0) (hlink : (Cond.methodLink (ab_my M).cls k (ab_my M2) ∈ ab_TB) ∨ (Cond.methodLinkNest (ab_my M).cls k (ab_my M2) "SaintTheft" ∈ lw_tbl)) (hn : ab_pn (ab_my M2) n = true) (hd : decode (ab_mb M) pc = .ok (.invokestatic k, 3))
    (hl : n ≤ st.length) (hw : ((st.drop n).map fun v => v.category).sum ≤ 8) (hlen : (ab_en (st.take n).reverse).length ≤ ab_ml M2) (hc : cs + ab_mc M2 ≤ ab_mc M) (hs : sl + ab_ms M2 ≤ ab_ms M) (hsnd : ab_Snd g l d M2 Q (0, ab_ent (st.take n).reverse (ab_ml M2), [], h, 0, 0))
    (kk : ∀ (r : Option Value) (h2 : ab_H) (H1 : Heap) (locs1 : List Loc), Q r h2 → ab_Rel g h2 H1 → va_S (ab_A g) s.heap H1 locs1 → W p l e R s m args below meth c H1 locs1 (cs + ab_mc M2) (sl + ab_ms M2) Qw (F0 m (pc + 3) ls ((r.toList ++ st.drop n).map (ab_cv g)))) :
    W p l e R s m args below meth c H locs cs sl Qw (F0 m pc ls (st.map (ab_cv g))) := by
  obtain ⟨hx, hb, hml, hown, hts, hF, ⟨r1, r2, r3, r4⟩, -⟩ := hX
  obtain ⟨w1, w2, w3, w4, w5, w6, -⟩ := ab_words hok
  have hvf := hF.2.2.2.2.2.2.2.2.2.1
  have hM := ab_met w4 hlen hsnd
  have hst : st.map (ab_cv g) = (((st.take n).reverse).map (ab_cv g)).reverse ++ (st.drop n).map (ab_cv g) := by
    rw [← List.map_reverse, List.reverse_reverse, ← List.map_append, List.take_append_drop]
  have hp : PreS s H (va_Pc (((st.take n).reverse).map (ab_cv g)) (fun U => ab_Rel g h U.heap ∧ ab_F g U)) (((st.take n).reverse).map (ab_cv g)) := ⟨ab_blind g h _, fun U hU hW => ⟨rfl, by rw [hU]; exact hR, hF.warm hU hW hS⟩⟩
  have hroom : 2 * (F0 m pc ls (st.map (ab_cv g))).monitorRoom + (((st.drop n).map (ab_cv g)).map fun v => v.category).sum ≤ 8 := lv_room (by rw [ab_cats hvf]; exact hw)
  have hlr : (ab_rm d M2).frames + 1 ≤ R.frames ∧ 8 + (ab_ml M2 + 11) + (ab_rm d M2).locals ≤ R.locals := ⟨r1, by show 8 + (ab_ml M2 + 11) + 60 * (d + 1) ≤ R.locals; omega⟩
  have kk2 : ∀ (r : Option Value) (h2 : ab_H) (H1 : Heap) (locs1 : List Loc), Q r h2 → ab_Rel g h2 H1 → va_S (ab_A g) s.heap H1 locs1 → W p l e R s m args below meth c H1 locs1 (cs + ab_mc M2) (sl + ab_ms M2) Qw (F0 m (pc + 3) ls ((r.map (ab_cv g)).toList ++ (st.drop n).map (ab_cv g))) := by
    intro r h2 H1 locs1 a1 a2 a3
    have := kk r h2 H1 locs1 a1 a2 a3
    rw [List.map_append] at this
    cases r with
    | none => exact this
    | some v => exact this
  have hnl : (((st.take n).reverse).map (ab_cv g)).length = n := by simp; omega
  rcases hlink with hl1 | hl1
  · exact ab_goes (va_runS ⟨hx, hb, hml, hown, hts⟩ hM ⟨callB_of n hts (ab_good w1) rfl rfl rfl (hts _ w2) (hts _ hl1) ⟨w5.1, w5.2, ab_pn_ok hn⟩ hlr, hts _ (w6 hk)⟩ hp rfl hnl hls hst hroom hd ⟨by omega, by omega⟩) hS kk2
  · exact ab_goes (va_runSN ⟨hx, hb, hml, hown, hts⟩ hM ⟨va_cnB n hts (ab_good w1) rfl rfl rfl (hF.2.1 _ _ _ _ hl1) (hts _ w2) ⟨w5.1, w5.2, ab_pn_ok hn⟩ hlr, hts _ (w6 hk), trivial⟩ hp rfl hnl hls hst hroom hd ⟨by omega, by omega⟩) hS kk2
/-- .. of a constructor -/
theorem ab_callI {b : Nat} {As rest : List Value} (hX : ab_X g M (d + 1) p R s m args meth c) (hS : va_S (ab_A g) s.heap H locs) (hR : ab_Rel g h H) (hls : ls.size = ab_ml M) (hok : ab_okM M2) (hk : ab_mk M2 = 2) (hlink : (Cond.methodLink (ab_my M).cls k (ab_my M2) ∈ ab_TB) ∨ (Cond.methodLinkNest (ab_my M).cls k (ab_my M2) "SaintTheft" ∈ lw_tbl)) (hn : ab_pn (ab_my M2) n = true) (hd : decode (ab_mb M) pc = .ok (.invokespecial k, 3))
    (hnl : As.length = n) (hst : st = As.reverse ++ .ref b :: rest) (hb1 : b < 1000000) (hw : (rest.map fun v => v.category).sum ≤ 8) (hlen : (ab_en (.ref b :: As)).length ≤ ab_ml M2) (hc : cs + ab_mc M2 ≤ ab_mc M) (hs : sl + ab_ms M2 ≤ ab_ms M) (hsnd : ab_Snd g l d M2 Q (0, ab_ent (.ref b :: As) (ab_ml M2), [], h, 0, 0))
    (kk : ∀ (r : Option Value) (h2 : ab_H) (H1 : Heap) (locs1 : List Loc), Q r h2 → ab_Rel g h2 H1 → va_S (ab_A g) s.heap H1 locs1 → W p l e R s m args below meth c H1 locs1 (cs + ab_mc M2) (sl + ab_ms M2) Qw (F0 m (pc + 3) ls ((r.toList ++ rest).map (ab_cv g)))) :
    W p l e R s m args below meth c H locs cs sl Qw (F0 m pc ls (st.map (ab_cv g))) := by
  obtain ⟨hx, hb, hml, hown, hts, hF, ⟨r1, r2, r3, r4⟩, -⟩ := hX
  obtain ⟨w1, w2, w3, w4, w5, -, -, w6, -⟩ := ab_words hok
  obtain ⟨w7, w8, w9⟩ := w6 hk
  have hvf := hF.2.2.2.2.2.2.2.2.2.1
  have hM := ab_met w4 hlen hsnd
  have e1 : ab_cv g (.ref b) = .ref (ab_B g + b) := ab_rv_lt hb1
  have hst2 : st.map (ab_cv g) = (As.map (ab_cv g)).reverse ++ .ref (ab_B g + b) :: rest.map (ab_cv g) := by
    rw [hst, List.map_append, List.map_cons, List.map_reverse, e1]
  rw [List.map_cons, e1] at hM
  have hp : PreS s H (va_Pc (.ref (ab_B g + b) :: As.map (ab_cv g)) (fun U => ab_Rel g h U.heap ∧ ab_F g U)) (.ref (ab_B g + b) :: As.map (ab_cv g)) := ⟨ab_blind g h _, fun U hU hW => ⟨rfl, by rw [hU]; exact hR, hF.warm hU hW hS⟩⟩
  have hroom : 2 * (F0 m pc ls (st.map (ab_cv g))).monitorRoom + ((rest.map (ab_cv g)).map fun v => v.category).sum ≤ 8 := lv_room (by rw [ab_cats hvf]; exact hw)
  have hlr : (ab_rm d M2).frames + 1 ≤ R.frames ∧ 8 + (ab_ml M2 + 11) + (ab_rm d M2).locals ≤ R.locals := ⟨r1, by show 8 + (ab_ml M2 + 11) + 60 * (d + 1) ≤ R.locals; omega⟩
  have kk2 : ∀ (r : Option Value) (h2 : ab_H) (H1 : Heap) (locs1 : List Loc), Q r h2 → ab_Rel g h2 H1 → va_S (ab_A g) s.heap H1 locs1 → W p l e R s m args below meth c H1 locs1 (cs + ab_mc M2) (sl + ab_ms M2) Qw (F0 m (pc + 3) ls ((r.map (ab_cv g)).toList ++ rest.map (ab_cv g))) := by
    intro r h2 H1 locs1 a1 a2 a3
    have := kk r h2 H1 locs1 a1 a2 a3
    rw [List.map_append] at this
    cases r with
    | none => exact this
    | some v => exact this
  have hcw : ab_cw M2 = Cond.code (ab_my M2) (ab_mb M2) (ab_ml M2) none :: ab_TB := by unfold ab_cw; rw [w9]
  have hnl2 : (As.map (ab_cv g)).length = n := by rw [List.length_map]; exact hnl
  rcases hlink with hl1 | hl1
  · exact ab_goes (va_runI ⟨hx, hb, hml, hown, hts⟩ hM ⟨callB_of n hts (ab_good w1) hcw rfl rfl (hts _ w2) (hts _ hl1) ⟨w5.1, w5.2, ab_pn_ok hn⟩ hlr, w8, hts _ w7⟩ hp rfl hnl2 hls hst2 hroom hd ⟨by omega, by omega⟩) hS kk2
  · exact ab_goes (va_runIN ⟨hx, hb, hml, hown, hts⟩ hM ⟨va_cnB n hts (ab_good w1) hcw rfl rfl (hF.2.1 _ _ _ _ hl1) (hts _ w2) ⟨w5.1, w5.2, ab_pn_ok hn⟩ hlr, w8, hts _ w7⟩ hp rfl hnl2 hls hst2 hroom hd ⟨by omega, by omega⟩) hS kk2
/-- the cell of a receiver -/
theorem ab_recv {b y : Nat} (hF : ab_F g s) (hS : va_S (ab_A g) s.heap H locs) (hR : ab_Rel g h H) (hy : y < 12 ∨ y = 90) (hc : ab_S h b = .inl y) : ∃ a, ab_cv g (.ref b) = .ref a ∧ ∃ cell : Cell, H[a]? = some cell ∧ cell.vm.isStatics = false ∧ s.vm.findClass (ab_cnm y) = some cell.cls := by
  obtain ⟨hK, -, -, -, hV, -⟩ := hF
  obtain ⟨hP, -, hsp⟩ := hR
  rcases ab_inl hsp hc (by omega) with h1 | ⟨rfl, h1⟩
  · have hE : ab_E g h b = .inr (y, (List.range (ab_nf y)).map (fun k => ab_cv g (ab_fv h y b k))) := by
      unfold ab_E
      rw [hc]
    have hy12 : y < 12 := by
      rcases hy with hy | rfl
      · exact hy
      · obtain ⟨r, q1, -⟩ := hP b _ (by rw [ab_ws_at h1, hE])
        exact absurd q1 (by simp [ab_cls])
    have hlt : b < 1000000 := by have := hsp.2.1; omega
    exact ⟨ab_B g + b, ab_rv_lt hlt, va_recv hK hP (ab_clsE hy12) (by rw [ab_ws_at h1, hE])⟩
  · rcases h1 with rfl | rfl
    · exact ⟨ab_aK g 0, rfl, vk_recv hV (by decide) hS⟩
    · exact ⟨ab_aK g 1, rfl, vk_recv hV (by decide) hS⟩
/-- .. of a method of an object -/
theorem ab_callV {b y : Nat} {As rest : List Value} (hX : ab_X g M (d + 1) p R s m args meth c) (hS : va_S (ab_A g) s.heap H locs) (hR : ab_Rel g h H) (hls : ls.size = ab_ml M) (hok : ab_okM M2) (hk : ab_mk M2 = 1) (hlink : Cond.methodLink (ab_my M).cls k (ab_my M2) ∈ ab_TB) (hn : ab_pn (ab_my M2) n = true) (hd : decode (ab_mb M) pc = .ok (.invokevirtual k, 3)) (hy : y < 12 ∨ y = 90) (hcn : ab_cnm y = (ab_my M2).cls) (hcb : ab_S h b = .inl y)
    (hnl : As.length = n) (hst : st = As.reverse ++ .ref b :: rest) (hw : (rest.map fun v => v.category).sum ≤ 8) (hlen : (ab_en (.ref b :: As)).length ≤ ab_ml M2) (hc : cs + ab_mc M2 ≤ ab_mc M) (hs : sl + ab_ms M2 ≤ ab_ms M) (hsnd : ab_Snd g l d M2 Q (0, ab_ent (.ref b :: As) (ab_ml M2), [], h, 0, 0))
    (kk : ∀ (r : Option Value) (h2 : ab_H) (H1 : Heap) (locs1 : List Loc), Q r h2 → ab_Rel g h2 H1 → va_S (ab_A g) s.heap H1 locs1 → W p l e R s m args below meth c H1 locs1 (cs + ab_mc M2) (sl + ab_ms M2) Qw (F0 m (pc + 3) ls ((r.toList ++ rest).map (ab_cv g)))) :
    W p l e R s m args below meth c H locs cs sl Qw (F0 m pc ls (st.map (ab_cv g))) := by
  obtain ⟨hx, hb, hml, hown, hts, hF, ⟨r1, r2, r3, r4⟩, -⟩ := hX
  obtain ⟨w1, w2, w3, w4, w5, -, w6, -, -⟩ := ab_words hok
  obtain ⟨w7, w8⟩ := w6 hk
  have hvf := hF.2.2.2.2.2.2.2.2.2.1
  have hM := ab_met w4 hlen hsnd
  obtain ⟨a, e1, hcell⟩ := ab_recv hF hS hR hy hcb
  have hst2 : st.map (ab_cv g) = (As.map (ab_cv g)).reverse ++ .ref a :: rest.map (ab_cv g) := by
    rw [hst, List.map_append, List.map_cons, List.map_reverse, e1]
  rw [List.map_cons, e1] at hM
  rw [hcn] at hcell
  have hp : PreV s H (ab_my M2).cls a (va_Pc (.ref a :: As.map (ab_cv g)) (fun U => ab_Rel g h U.heap ∧ ab_F g U)) (As.map (ab_cv g)) := ⟨ab_blind g h _, hcell, fun U hU hW => ⟨rfl, by rw [hU]; exact hR, hF.warm hU hW hS⟩⟩
  have hroom : 2 * (F0 m pc ls (st.map (ab_cv g))).monitorRoom + ((rest.map (ab_cv g)).map fun v => v.category).sum ≤ 8 := lv_room (by rw [ab_cats hvf]; exact hw)
  have hlr : (ab_rm d M2).frames + 1 ≤ R.frames ∧ 8 + (ab_ml M2 + 11) + (ab_rm d M2).locals ≤ R.locals := ⟨r1, by show 8 + (ab_ml M2 + 11) + 60 * (d + 1) ≤ R.locals; omega⟩
  have kk2 : ∀ (r : Option Value) (h2 : ab_H) (H1 : Heap) (locs1 : List Loc), Q r h2 → ab_Rel g h2 H1 → va_S (ab_A g) s.heap H1 locs1 → W p l e R s m args below meth c H1 locs1 (cs + ab_mc M2) (sl + ab_ms M2) Qw (F0 m (pc + 3) ls ((r.map (ab_cv g)).toList ++ rest.map (ab_cv g))) := by
    intro r h2 H1 locs1 a1 a2 a3
    have := kk r h2 H1 locs1 a1 a2 a3
    rw [List.map_append] at this
    cases r with
    | none => exact this
    | some v => exact this
  have hnl2 : (As.map (ab_cv g)).length = n := by rw [List.length_map]; exact hnl
  exact ab_goes (va_runV ⟨hx, hb, hml, hown, hts⟩ hM ⟨callB_of n hts (ab_good w1) rfl rfl rfl (hts _ w2) (hts _ hlink) ⟨w5.1, w5.2, ab_pn_ok hn⟩ hlr, hts _ w7, hts _ w8⟩ hp rfl hnl2 hls hst2 hroom hd ⟨by omega, by omega⟩) hS kk2
end ABC
end
section
/-! instructions that read and write the heap -/
theorem ab_lyE {ci : Nat} (h : ci < 12) : ∀ w ∈ u_ws (ab_cnm ci) (ab_fd ci) (ab_nf ci), w ∈ ab_TB := by
  have key : ∀ {l : List Cond}, (∀ w ∈ l, w ∈ lw_tbl ∧ goodWord w = true) → ∀ w ∈ l, w ∈ ab_TB := fun h w hw => List.mem_filter.mpr (h w hw)
  match ci, h with
  | 0, _ => exact key ab_ly0
  | 1, _ => exact key ab_ly1
  | 2, _ => exact key ab_ly2
  | 3, _ => exact key ab_ly3
  | 4, _ => exact key ab_ly4
  | 5, _ => exact key ab_ly5
  | 6, _ => exact key ab_ly6
  | 7, _ => exact key ab_ly7
  | 8, _ => exact key ab_ly8
  | 9, _ => exact key ab_ly9
  | 10, _ => exact key ab_ly10
  | 11, _ => exact key ab_ly11
  | n + 12, h => omega
theorem ab_insE {ci : Nat} (h : ci < 12) : Cond.instantiable (ab_cnm ci) (ab_nf ci) ∈ ab_TB ∧ Cond.initialized (ab_cnm ci) ∈ ab_TB := by
  have key : ∀ {z z2 : Nat} {w w2 : Cond}, (ab_at z w = true ∧ ab_at z2 w2 = true) → w ∈ ab_TB ∧ w2 ∈ ab_TB := fun h => ⟨ab_at_in h.1, ab_at_in h.2⟩
  match ci, h with
  | 0, _ => exact key ab_ins0
  | 1, _ => exact key ab_ins1
  | 2, _ => exact key ab_ins2
  | 3, _ => exact key ab_ins3
  | 4, _ => exact key ab_ins4
  | 5, _ => exact key ab_ins5
  | 6, _ => exact key ab_ins6
  | 7, _ => exact key ab_ins7
  | 8, _ => exact key ab_ins8
  | 9, _ => exact key ab_ins9
  | 10, _ => exact key ab_ins10
  | 11, _ => exact key ab_ins11
  | n + 12, h => omega
theorem ab_E_obj {g : ab_W} {h : ab_H} {c ci : Nat} (hc : ab_S h c = .inl ci) : ab_E g h c = .inr (ci, (List.range (ab_nf ci)).map (fun k => ab_cv g (ab_fv h ci c k))) := by
  unfold ab_E; rw [hc]
theorem ab_own {g : ab_W} {h : ab_H} {H : Heap} {c ci : Nat} (hP : va_P (ab_D g) ab_cls (ab_ws g h) H) (hl : c < h.1) (hc : ab_S h c = .inl ci) : ci < 12 := by
  obtain ⟨r, q1, -⟩ := hP c _ (by rw [ab_ws_at hl, ab_E_obj hc])
  have := (List.getElem?_eq_some_iff.mp q1).1
  simpa [ab_cls] using this
theorem ab_fs_at {g : ab_W} {h : ab_H} {c ci k : Nat} (hk : k < ab_nf ci) : ((List.range (ab_nf ci)).map (fun k => ab_cv g (ab_fv h ci c k)))[k]? = some (ab_cv g (ab_fv h ci c k)) := by
  rw [List.getElem?_map, List.getElem?_range hk]
  rfl
section ABH
variable {p : Program} {l : Launch} {e : Env} {R : Room} {s : State} {m : MethodId} {args : Array Value} {below : List Frame} {meth : Method} {c : Code} {H : Heap} {locs : List Loc} {cs sl pc : Nat} {Qw : State → Prop} {ls : Array Slot} {g : ab_W} {M : ab_M} {h h2 : ab_H} {ci k idx c0 n : Nat} {v : Value} {r : List Value}
theorem ab_putf (hx : p.tables.exec = Jvm.exec) (hb : c.code = ab_mb M) (hown : s.vm.findClass (ab_my M).cls = some m.cls) (hts : ∀ w ∈ ab_TB, w.before args s = true) (hF : ab_F g s) (hnm : (ab_my M).name = "<init>" → meth.name = "<init>") (hS : va_S (ab_A g) s.heap H locs) (hR : ab_Rel g h H) (h12 : ci < 12) (hk : k < ab_nf ci)
    (hlink : Cond.fieldLink (ab_my M).cls idx (ab_fd ci k).1 (ab_fd ci k).2.1 (ab_fd ci k).2.2.1 ∈ ab_TB) (hfin : (ab_fd ci k).2.2.2 = false ∨ ((ab_my M).name = "<init>" ∧ (ab_fd ci k).1 = (ab_my M).cls)) (hc : ab_S h c0 = .inl ci) (hn : narrow (ab_ty ci k) v = v) (hfit : fits (ab_ty ci k) v = true) (hd : decode (ab_mb M) pc = .ok (.putfield idx, 3))
    (h2n : h2.1 = h.1) (h2s : ab_Sp g h2) (h2E : ab_E g h2 c0 = .inr (ci, ((List.range (ab_nf ci)).map (fun j => ab_cv g (ab_fv h ci c0 j))).set k v)) (h2o : ∀ q, q ≠ c0 → ab_E g h2 q = ab_E g h q)
    (kk : ∀ (H1 : Heap) (locs1 : List Loc), va_S (ab_A g) s.heap H1 locs1 → ab_Rel g h2 H1 → W p l e R s m args below meth c H1 locs1 cs sl Qw (F0 m (pc + 3) ls r)) : W p l e R s m args below meth c H locs cs sl Qw (F0 m pc ls (v :: .ref (ab_B g + c0) :: r)) := by
  obtain ⟨hP, hz, hsp⟩ := hR
  have hK := hF.1
  have hlt : c0 < h.1 := by
    rcases ab_inl hsp hc (by omega) with q | ⟨q, -⟩
    · exact q
    · omega
  have he : (ab_ws g h)[c0]? = some (ab_B g + c0, .inr (ci, (List.range (ab_nf ci)).map (fun j => ab_cv g (ab_fv h ci c0 j)))) := by rw [ab_ws_at hlt, ab_E_obj hc]
  have hD := ab_ws_D g h
  have hcl := ab_clsE h12
  have hin := ab_lyE h12
  have hap := va_apart (own := (ab_my M).cls) hts hin (ab_ty ci) (ab_tyE h12) (ab_nmE h12) hK hcl
  obtain ⟨r0, h1, cell, q1, q2, q3, q4⟩ := hP c0 _ he
  have hr : r0 = (ab_cnm ci, ab_fd ci, ab_nf ci) := Option.some.inj (h1.symm.trans hcl)
  subst hr
  obtain ⟨hSl, hfc, kC, hkC, hkind⟩ := hK.1 ci _ hcl
  obtain ⟨cf, kf, fi, f, hi, hsl⟩ := hSl k hk
  have hst := (u_facts hfc hkC (u_lays hts hin hk) hi).1
  have hlen : k < ((List.range (ab_nf ci)).map (fun j => ab_cv g (ab_fv h ci c0 j))).length := by simpa using hk
  have fin : ∀ (H' : Heap), H'[ab_B g + c0]? = some (cell.setSlot (f.slot) v) → H'.size = H.size → (∀ q, q ≠ ab_B g + c0 → H'[q]? = H[q]?) → W p l e R s m args below meth c H' (locs ++ [⟨ab_B g + c0, f.slot⟩]) cs sl Qw (F0 m (pc + 3) ls r) := by
    intro H' e1 e2 e3
    rw [hsl] at e1 ⊢
    have hP2 := hP.set (e := .inr (ci, ((List.range (ab_nf ci)).map (fun j => ab_cv g (ab_fv h ci c0 j))).set k v)) (H1 := H') hD he ⟨_, hcl, t_OB.to (V := updV (vp_V _) k v) ⟨_, e1, q2, q3, t_set q4 hap hk v⟩ (fun j _ => vp_updV_set hlen v j)⟩ e3
    rw [ab_ws_set h2n hlt h2E h2o] at hP2
    exact kk H' _ (hS.put e2 e3 (Nat.le_add_right _ _)) ⟨hP2, by rw [e2, hz, h2n], h2s⟩
  have hlay := hts _ (hin _ (u_in_lay hk))
  unfold u_lay at hlay
  by_cases hf : (ab_fd ci k).2.2.2 = true
  · rw [if_pos hf] at hlay
    rcases hfin with q | ⟨w1, w2⟩
    · rw [hf] at q; cases q
    · have hcf : m.cls = cf := by
        obtain ⟨_, _, c', _, _, _, -, -, hf', -, -, -, hown2, -⟩ := Cond.laysFinal_spec hlay
        have e1 : c' = cf := by have := hi.symm.trans hf'; simp at this; exact this.1.symm
        rw [w2] at hown2
        rw [← e1]; exact Option.some.inj (hown.symm.trans hown2)
      have h6 := u_fits hfc hkC hkind (Or.inr hlay) hi (ab_tyE h12 k hk) hn hfit
      exact W.putFinK hx hb hown (hts _ hlink) hi hst hcf (hnm w1) (by rw [q2]; exact h6) q1 q3 (by rw [hsl]; exact k2_hasslot (q4 k hk)) rfl rfl hd fin
  · rw [if_neg hf] at hlay
    have h6 := u_store hfc hkC hkind hlay hi (ab_tyE h12 k hk) hn hfit
    exact W.putK hx hb (f := f) ⟨hown, hts _ hlink, ⟨_, _, _, hi⟩, hst⟩ (by rw [q2]; exact h6) q1 q3 (by rw [hsl]; exact k2_hasslot (q4 k hk)) rfl rfl hd fin
theorem ab_E_i {ty : FieldType} (hc : ab_S h c0 = .inr (ty, n)) (ht : ty ≠ .long) : ab_E g h c0 = .inl (ab_cA g ty, n, .inl (ab_i h c0)) := by
  unfold ab_E; rw [hc]
  cases ty <;> first | rfl | exact absurd rfl ht
theorem ab_E_l (hc : ab_S h c0 = .inr (.long, n)) : ab_E g h c0 = .inl (ab_cA g .long, n, .inr (.inl (ab_l h c0))) := by
  unfold ab_E; rw [hc]
/-- the world behind a store into an array of ints of some kind -/
theorem ab_ast {ty : FieldType} {H1 : Heap} {j : Nat} {z : Int32} (hR : ab_Rel g h H) (hlt : c0 < h.1) (hc : ab_S h c0 = .inr (ty, n)) (ht : ty ≠ .long) (e1 : H1[ab_B g + c0]? = some ((arrV (ab_cA g ty) n (fun j => .int (ab_i h c0 j))).setSlot j (.int z))) (e2 : H1.size = H.size) (e3 : ∀ q, q ≠ ab_B g + c0 → H1[q]? = H[q]?) : ab_Rel g (ab_ui h c0 j z) H1 := by
  obtain ⟨hP, hz, hsp⟩ := hR
  have h6 := hsp.2.1
  have he : (ab_ws g h)[c0]? = some (ab_B g + c0, .inl (ab_cA g ty, n, .inl (ab_i h c0))) := by rw [ab_ws_at hlt, ab_E_i hc ht]
  have hE : ab_E g (ab_ui h c0 j z) c0 = .inl (ab_cA g ty, n, .inl (upd (ab_i h c0) j z)) := by
    have := ab_E_i (g := g) (h := ab_ui h c0 j z) (c0 := c0) (n := n) hc ht
    rw [this]
    simp [ab_ui, ab_i, va_up]
  have hP2 := hP.set (e := .inl (ab_cA g ty, n, .inl (upd (ab_i h c0) j z))) (ab_ws_D g h) he (by
    show H1[ab_B g + c0]? = some (vp_cell _ _)
    rw [e1, vp_cell_i, arrV_store]
    congr 2
    funext q
    by_cases hq : q = j
    · subst hq; simp [updV, upd]
    · simp [updV, upd, hq]) e3
  rw [ab_ws_set (h := h) (h2 := ab_ui h c0 j z) rfl hlt hE (fun q hq => ab_E_ui hq)] at hP2
  exact ⟨hP2, by rw [e2, hz]; rfl, hsp.ui (by omega)⟩
theorem ab_astl {H1 : Heap} {j : Nat} {z : Int64} (hR : ab_Rel g h H) (hlt : c0 < h.1) (hc : ab_S h c0 = .inr (.long, n)) (e1 : H1[ab_B g + c0]? = some ((arrV (ab_cA g .long) n (fun j => .long (ab_l h c0 j))).setSlot j (.long z))) (e2 : H1.size = H.size) (e3 : ∀ q, q ≠ ab_B g + c0 → H1[q]? = H[q]?) : ab_Rel g (ab_ul h c0 j z) H1 := by
  obtain ⟨hP, hz, hsp⟩ := hR
  have he : (ab_ws g h)[c0]? = some (ab_B g + c0, .inl (ab_cA g .long, n, .inr (.inl (ab_l h c0)))) := by rw [ab_ws_at hlt, ab_E_l hc]
  have hE : ab_E g (ab_ul h c0 j z) c0 = .inl (ab_cA g .long, n, .inr (.inl (vp_updL (ab_l h c0) j z))) := by
    have := ab_E_l (g := g) (h := ab_ul h c0 j z) (c0 := c0) (n := n) hc
    rw [this]
    simp [ab_ul, ab_l, va_up]
  have hP2 := hP.set (e := .inl (ab_cA g .long, n, .inr (.inl (vp_updL (ab_l h c0) j z)))) (ab_ws_D g h) he (by
    show H1[ab_B g + c0]? = some (vp_cell _ _)
    rw [e1, vp_cell_l, arrV_store]
    congr 2
    funext q
    by_cases hq : q = j
    · subst hq; simp [updV, vp_updL]
    · simp [updV, vp_updL, hq]) e3
  rw [ab_ws_set (h := h) (h2 := ab_ul h c0 j z) rfl hlt hE (fun q hq => ab_E_ul hq)] at hP2
  exact ⟨hP2, by rw [e2, hz]; rfl, hsp.ul⟩
/-- the world behind a new cell -/
theorem ab_new {q : ab_Sh} {z : va_E} {H1 : Heap} (hR : ab_Rel g h H) (hl : h.1 < 600000) (hE : ab_E g (ab_nw h q) h.1 = z) (e1 : va_at (ab_D g) ab_cls (ab_B g + h.1, z) H1) (e2 : H1.size = H.size + 1) (e3 : ∀ q, q < H.size → H1[q]? = H[q]?) : ab_Rel g (ab_nw h q) H1 := by
  obtain ⟨hP, hz, hsp⟩ := hR
  have hP2 : va_P (ab_D g) ab_cls (ab_ws g h ++ [(ab_B g + h.1, z)]) H1 := (hP.kept (fun k x hx => e3 _ (hP k x hx).lt)).app (fun k x hx => by
    have hk : k < 1 := (List.getElem?_eq_some_iff.mp hx).1
    rw [show k = 0 by omega] at hx
    cases hx
    exact e1)
  rw [ab_ws_new hE] at hP2
  exact ⟨hP2, by rw [e2, hz]; show _ = ab_B g + (h.1 + 1); omega, hsp.nw hl⟩
theorem ab_S_put {H0 H1 : Heap} (hS : va_S (ab_A g) H0 H locs) (hR : H.size = ab_B g + h.1) (e2 : H1.size = H.size + 1) (e3 : ∀ q, q < H.size → H1[q]? = H[q]?) : va_S (ab_A g) H0 H1 locs := ⟨Nat.le_trans hS.1 (by omega), fun q h1 h2 => (e3 q (Nat.lt_of_lt_of_le h1 hS.1)).trans (hS.2.1 q h1 h2), hS.2.2⟩
end ABH
end
section
/-! rows that the next part needs -/
theorem ab_sw_mem (v : Int32) (lo : Int) (L : ab_Lo) (r : List Value) (h : ab_H) (cs sl : Nat) : ∀ (ts : List Nat) (b j : Nat) (hj : j < ts.length), (v.toInt = lo + ((b + j : Nat) : Int), (ts[j], L, r, h, cs, sl)) ∈ ab_sw v lo L r h cs sl b ts
  | [], _, _, hj => absurd hj (Nat.not_lt_zero _)
  | t :: ts, b, 0, _ => List.mem_cons_self
  | t :: ts, b, j + 1, hj => by
    have := ab_sw_mem v lo L r h cs sl ts (b + 1) j (by simpa using hj)
    rw [show b + 1 + j = b + (j + 1) by omega] at this
    exact List.mem_cons_of_mem _ this
theorem ab_init_all : ∀ ci, ci < 12 → ∀ k, k < ab_nf ci → (ab_isR (ab_ty ci k) = true → defaultValue (ab_ty ci k) = .null) ∧ (ab_isR (ab_ty ci k) = false → defaultValue (ab_ty ci k) = .int 0) := by decide +kernel
theorem ab_init_ok {ci : Nat} (h : ci < 12) (k : Nat) (hk : k < ab_nf ci) : (ab_isR (ab_ty ci k) = true → defaultValue (ab_ty ci k) = .null) ∧ (ab_isR (ab_ty ci k) = false → defaultValue (ab_ty ci k) = .int 0) := ab_init_all ci h k hk
theorem ab_alen_row {p : Program} {l : Launch} {e : Env} {R : Room} {s : State} {m : MethodId} {args : Array Value} {below : List Frame} {meth : Method} {c : Code} {H : Heap} {locs : List Loc} {cs sl pc : Nat} {Qw : State → Prop} {ls : Array Slot} {g : ab_W} {cc : ByteArray} {h : ab_H} {c0 n : Nat} {ty : FieldType} {r : List Value} (hx : p.tables.exec = Jvm.exec) (hb : c.code = cc) (hK : va_K (ab_D g) ab_cls (ab_tys g) s) (hP : va_P (ab_D g) ab_cls (ab_ws g h) H) (hlt : c0 < h.1) (hsc : ab_S h c0 = .inr (ty, n)) (hty : ty = .int ∨ ty = .byte ∨ ty = .boolean ∨ ty = .long) (hd : decode cc pc = .ok (.arraylength, 1))
    (kk : W p l e R s m args below meth c H locs cs sl Qw (F0 m (pc + 1) ls (.int (Int32.ofNat n) :: r))) : W p l e R s m args below meth c H locs cs sl Qw (F0 m pc ls (.ref (ab_B g + c0) :: r)) := by
  rcases hty with rfl | rfl | rfl | rfl
  · exact va_alen hx hb hK hP c0 0 (by rw [ab_ws_at hlt, ab_E_i hsc (by decide)]) (ty := .int) rfl rfl hd kk
  · exact va_alen hx hb hK hP c0 1 (by rw [ab_ws_at hlt, ab_E_i hsc (by decide)]) (ty := .byte) rfl rfl hd kk
  · exact va_alen hx hb hK hP c0 2 (by rw [ab_ws_at hlt, ab_E_i hsc (by decide)]) (ty := .boolean) rfl rfl hd kk
  · exact va_alen hx hb hK hP c0 3 (by rw [ab_ws_at hlt, ab_E_l hsc]) (ty := .long) rfl rfl hd kk
end
section
/-! a run, taken apart; the methods of Math, which the machine has rows of its own for -/
theorem ab_un {MT : List ab_M} {d : Nat} {M : ab_M} {Q : ab_Q} {pc : Nat} {L : ab_Lo} {st : List Value} {h : ab_H} {cs sl : Nat} (hw : ab_wp MT d M Q pc L st h cs sl) : ab_all (ab_call MT d) M Q h cs sl (ab_lfp (ab_call MT d) M Q) (ab_step M pc L st h cs sl) :=
  hw (fun t => ab_all (ab_call MT d) M Q t.2.2.2.1 t.2.2.2.2.1 t.2.2.2.2.2 (ab_lfp (ab_call MT d) M Q) (ab_step M t.1 t.2.1 t.2.2.1 t.2.2.2.1 t.2.2.2.2.1 t.2.2.2.2.2)) (fun _ _ _ _ _ _ hr => ab_all_mono (ab_call_mono MT d) (fun _ ht => ab_mk_ ht) hr)
theorem ab_inv_max {d : Nat} {Q : ab_Q} {L : ab_Lo} {h : ab_H} (hw : ab_wp ab_MT d mJ9_max_7cf53 Q 0 L [] h 0 0) : ∃ a b : Int32, L[0]? = some (some (.int a)) ∧ L[1]? = some (some (.int b)) ∧ Q (some (.int (if a < b then b else a))) h := by
  obtain ⟨a, ha, h1⟩ := abv_li (ab_un hw)
  obtain ⟨b, hb, h2⟩ := abv_li (ab_un (abv_go h1))
  obtain ⟨k1, k2⟩ := abv_br (g := a < b) (t1 := (9, L, [], h, 0, 0)) (t2 := (5, L, [], h, 0, 0)) (ab_un (abv_go h2))
  refine ⟨a, b, ha, hb, ?_⟩
  by_cases hab : a < b
  · rw [if_pos hab]
    obtain ⟨w, hw2, h5⟩ := abv_li (ab_un (k1 hab))
    cases hb.symm.trans hw2
    exact (ab_un (abv_go h5)).2
  · rw [if_neg hab]
    obtain ⟨w, hw2, h5⟩ := abv_li (ab_un (k2 hab))
    cases ha.symm.trans hw2
    exact (ab_un (abv_go (ab_un (abv_go h5)))).2
theorem ab_inv_min {d : Nat} {Q : ab_Q} {L : ab_Lo} {h : ab_H} (hw : ab_wp ab_MT d mJ9_min_7cf53 Q 0 L [] h 0 0) : ∃ a b : Int32, L[0]? = some (some (.int a)) ∧ L[1]? = some (some (.int b)) ∧ Q (some (.int (if b < a then b else a))) h := by
  obtain ⟨a, ha, h1⟩ := abv_li (ab_un hw)
  obtain ⟨b, hb, h2⟩ := abv_li (ab_un (abv_go h1))
  obtain ⟨k1, k2⟩ := abv_br (g := b < a) (t1 := (9, L, [], h, 0, 0)) (t2 := (5, L, [], h, 0, 0)) (ab_un (abv_go h2))
  refine ⟨a, b, ha, hb, ?_⟩
  by_cases hab : b < a
  · rw [if_pos hab]
    obtain ⟨w, hw2, h5⟩ := abv_li (ab_un (k1 hab))
    cases hb.symm.trans hw2
    exact (ab_un (abv_go h5)).2
  · rw [if_neg hab]
    obtain ⟨w, hw2, h5⟩ := abv_li (ab_un (k2 hab))
    cases ha.symm.trans hw2
    exact (ab_un (abv_go (ab_un (abv_go h5)))).2
theorem ab_inv_maxl {d : Nat} {Q : ab_Q} {L : ab_Lo} {h : ab_H} (hw : ab_wp ab_MT d mJ9_max_f86c9 Q 0 L [] h 0 0) : ∃ a b : Int64, L[0]? = some (some (.long a)) ∧ L[2]? = some (some (.long b)) ∧ Q (some (.long (if b < a then a else b))) h := by
  obtain ⟨a, ha, h1⟩ := abv_ll (ab_un hw)
  obtain ⟨b, hb, h2⟩ := abv_ll (ab_un (abv_go h1))
  obtain ⟨k1, k2⟩ := abv_br (g := lg_cmp a b < 0) (t1 := (10, L, [], h, 0, 0)) (t2 := (6, L, [], h, 0, 0)) (ab_un (abv_go (t := (3, L, [.int (lg_cmp a b)], h, 0, 0)) (ab_un (abv_go h2))))
  refine ⟨a, b, ha, hb, ?_⟩
  by_cases hab : lg_cmp a b < 0
  · obtain ⟨w, hw2, h6⟩ := abv_ll (ab_un (k1 hab))
    cases hb.symm.trans hw2
    have hq : Q (some (.long b)) h := (ab_un (abv_go h6)).2
    have hn : ¬ b < a := by
      intro z
      unfold lg_cmp at hab
      rw [if_pos z] at hab
      exact absurd hab (by decide)
    rw [if_neg hn]
    exact hq
  · obtain ⟨w, hw2, h6⟩ := abv_ll (ab_un (k2 hab))
    cases ha.symm.trans hw2
    have hq : Q (some (.long a)) h := (ab_un (abv_go (ab_un (abv_go h6)))).2
    by_cases hba : b < a
    · rw [if_pos hba]
      exact hq
    · rw [if_neg hba]
      have : a = b := by
        unfold lg_cmp at hab
        rw [if_neg hba] at hab
        by_cases he : a = b
        · exact he
        · rw [if_neg he] at hab
          exact absurd (by decide) hab
      rw [← this]
      exact hq
theorem ab_mw0 : ab_at 603 (.static Lib.Math.max.name) = true ∧ ab_at 604 (.code Lib.Math.max.name Lib.Math.max.code 2 (some .int)) = true ∧ ab_at 606 (.static Lib.Math.min.name) = true ∧ ab_at 607 (.code Lib.Math.min.name Lib.Math.min.code 2 (some .int)) = true ∧ ab_at 1165 (.static Lib.MathLoose.max_long.x) = true ∧ ab_at 1166 (.code Lib.MathLoose.max_long.x Lib.MathLoose.max_long.code 4 (some .long)) = true ∧ ab_at 114 (.initialized "java/lang/Math") = true := by decide +kernel
def ab_nomath (w : Cond) : Bool := match w with
  | .methodLinkNest _ _ y _ => decide (y.cls ≠ "java/lang/Math")
  | _ => true
theorem ab_mw1 : lw_tbl.all ab_nomath = true := by decide +kernel
theorem ab_mth_cls {M : ab_M} (h : ab_mth M) : (ab_my M).cls = "java/lang/Math" ∧ ab_mk M = 0 ∧ ab_mc M = 0 ∧ ab_ms M = 0 := by
  rcases h with rfl | rfl | rfl <;> exact ⟨rfl, rfl, rfl, rfl⟩
theorem ab_mth_nest {M : ab_M} (h : ab_mth M) {a : String} {i : Nat} {ho : String} (hn : Cond.methodLinkNest a i (ab_my M) ho ∈ lw_tbl) : False := by
  have := List.all_eq_true.mp ab_mw1 _ hn
  unfold ab_nomath at this
  simp only [decide_eq_true_eq] at this
  exact this (ab_mth_cls h).1
section ABM
variable {p : Program} {l : Launch} {e : Env} {R : Room} {s : State} {m : MethodId} {args : Array Value} {below : List Frame} {meth : Method} {c : Code} {H : Heap} {locs : List Loc} {cs sl pc d n k : Nat} {Qw : State → Prop} {ls : Array Slot} {st : List Value} {g : ab_W} {Q : ab_Q} {M M2 : ab_M} {h : ab_H}
theorem ab_two {As : List Value} (h1 : As.length = 2) (h2 : (ab_en As).length ≤ 2) : ∃ a b, As = [a, b] ∧ ab_ent As 2 = [some a, some b] := by
  match As, h1 with
  | [a, b], _ =>
    refine ⟨a, b, rfl, ?_⟩
    rcases lv_cat a with ha | ha <;> rcases lv_cat b with hb | hb <;> simp [ab_ent, ab_en, ha, hb] at h2 ⊢
theorem ab_callM (hX : ab_X g M (d + 1) p R s m args meth c) (hS : va_S (ab_A g) s.heap H locs) (hR : ab_Rel g h H) (hls : ls.size = ab_ml M) (hm : ab_mth M2) (hlink : (Cond.methodLink (ab_my M).cls k (ab_my M2) ∈ ab_TB) ∨ (Cond.methodLinkNest (ab_my M).cls k (ab_my M2) "SaintTheft" ∈ lw_tbl)) (hn : ab_pn (ab_my M2) n = true) (hd : decode (ab_mb M) pc = .ok (.invokestatic k, 3))
    (hl : n ≤ st.length) (hw : ((st.drop n).map fun v => v.category).sum ≤ 8) (hlen : (ab_en (st.take n).reverse).length ≤ ab_ml M2) (hc : cs + ab_mc M2 ≤ ab_mc M) (hs : sl + ab_ms M2 ≤ ab_ms M) (hwp : ab_lfp (ab_call ab_MT d) M2 Q (0, ab_ent (st.take n).reverse (ab_ml M2), [], h, 0, 0))
    (kk : ∀ (r : Option Value) (h2 : ab_H) (H1 : Heap) (locs1 : List Loc), Q r h2 → ab_Rel g h2 H1 → va_S (ab_A g) s.heap H1 locs1 → W p l e R s m args below meth c H1 locs1 (cs + ab_mc M2) (sl + ab_ms M2) Qw (F0 m (pc + 3) ls ((r.toList ++ st.drop n).map (ab_cv g)))) :
    W p l e R s m args below meth c H locs cs sl Qw (F0 m pc ls (st.map (ab_cv g))) := by
  obtain ⟨hx, hb, hml, hown, hts, hF, ⟨r1, r2, r3, r4⟩, -⟩ := hX
  have hvf := hF.2.2.2.2.2.2.2.2.2.1
  have hcats : (((st.drop n).map (ab_cv g)).map fun v => v.category).sum ≤ 8 := by rw [ab_cats hvf]; exact hw
  have hst : st = (st.take n).reverse.reverse ++ st.drop n := by rw [List.reverse_reverse, List.take_append_drop]
  obtain ⟨w1, w2, w3, w4, w5, w6, w7⟩ := ab_mw0
  rcases hlink with hlk | hlk
  · rcases hm with rfl | rfl | rfl
    · have hn2 : n = 2 := by
        have h1 : some 2 = some n := ab_pn_ok hn
        cases h1; rfl
      subst hn2
      obtain ⟨a, b, e1, e2⟩ := ab_two (As := (st.take 2).reverse) (by simp; omega) hlen
      have hwp : ab_lfp (ab_call ab_MT d) mJ9_max_7cf53 Q (0, ab_ent (st.take 2).reverse 2, [], h, 0, 0) := hwp
      rw [e2] at hwp
      obtain ⟨x1, x2, q1, q2, q3⟩ := ab_inv_max hwp
      cases q1
      cases q2
      have hst2 : st.map (ab_cv g) = .int x2 :: .int x1 :: (st.drop 2).map (ab_cv g) := by rw [hst, e1]; rfl
      rw [hst2]
      exact va_mmax hx hb (hml.trans hls.symm) hown (hts _ hlk) (hts _ (ab_at_in w1)) (hts _ (ab_at_in w7)) (hts _ (ab_at_in w2)) (by omega) (by omega) (by omega) (by omega) hd (kk _ h H locs q3 hR hS)
    · have hn2 : n = 2 := by
        have h1 : some 2 = some n := ab_pn_ok hn
        cases h1; rfl
      subst hn2
      have hwp : ab_lfp (ab_call ab_MT d) mJ9_max_f86c9 Q (0, ab_ent (st.take 2).reverse 4, [], h, 0, 0) := hwp
      obtain ⟨x1, x2, q1, q2, q3⟩ := ab_inv_maxl hwp
      have hl2 : ((st.take 2).reverse).length = 2 := by simp; omega
      match hAs : (st.take 2).reverse, hl2 with
      | [a, b], _ =>
        rw [hAs] at q1 q2 hst
        have ha : a = .long x1 := by
          rcases lv_cat a with ha | ha <;> simp [ab_ent, ab_en, ha] at q1 <;> exact q1
        subst ha
        have hb2 : b = .long x2 := by
          have q4 : (ab_ent [.long x1, b] 4)[2]? = some (some b) := by cases b <;> rfl
          cases q4.symm.trans q2
          rfl
        subst hb2
        have hst2 : st.map (ab_cv g) = .long x2 :: .long x1 :: (st.drop 2).map (ab_cv g) := by rw [hst]; simp [ab_cv]
        rw [hst2]
        exact va_mmax_long hx hb (hml.trans hls.symm) hown (hts _ hlk) (hts _ (ab_at_in w5)) (hts _ (ab_at_in w7)) (hts _ (ab_at_in w6)) (by omega) (by omega) (by omega) (by omega) hd (kk _ h H locs q3 hR hS)
    · have hn2 : n = 2 := by
        have h1 : some 2 = some n := ab_pn_ok hn
        cases h1; rfl
      subst hn2
      obtain ⟨a, b, e1, e2⟩ := ab_two (As := (st.take 2).reverse) (by simp; omega) hlen
      have hwp : ab_lfp (ab_call ab_MT d) mJ9_min_7cf53 Q (0, ab_ent (st.take 2).reverse 2, [], h, 0, 0) := hwp
      rw [e2] at hwp
      obtain ⟨x1, x2, q1, q2, q3⟩ := ab_inv_min hwp
      cases q1
      cases q2
      have hst2 : st.map (ab_cv g) = .int x2 :: .int x1 :: (st.drop 2).map (ab_cv g) := by rw [hst, e1]; rfl
      rw [hst2]
      exact va_mmin hx hb (hml.trans hls.symm) hown (hts _ hlk) (hts _ (ab_at_in w3)) (hts _ (ab_at_in w7)) (hts _ (ab_at_in w4)) (by omega) (by omega) (by omega) (by omega) hd (kk _ h H locs q3 hR hS)
  · exact (ab_mth_nest hm hlk).elim
end ABM
end
section
/-! the machine does what the abstract machine does: an instruction -/
theorem ab_ret_fits (ty : FieldType) (i : Nat) (h : ab_isR ty = true) : narrow ty (.ref i) = .ref i ∧ fits ty (.ref i) = true := by
  cases ty <;> first | exact ⟨rfl, rfl⟩ | cases h
set_option maxHeartbeats 4000000 in
theorem ab_step_snd {g : ab_W} {l : Launch} {d : Nat} {M : ab_M} {Q : ab_Q} (hce : (ab_mo M).all (ab_ce M) = true) {C : ab_C} (hC : ∀ k As h mc ms (Q2 : ab_Q), C k As h mc ms Q2 → ∃ (d2 : Nat) (M2 : ab_M), d = d2 + 1 ∧ ab_MT[k]? = some M2 ∧ ab_mc M2 = mc ∧ ab_ms M2 = ms ∧ (ab_en As).length ≤ ab_ml M2 ∧ ((ab_okM M2 ∧ ab_Snd g l d2 M2 Q2 (0, ab_ent As (ab_ml M2), [], h, 0, 0)) ∨ (ab_mth M2 ∧ ab_lfp (ab_call ab_MT d2) M2 Q2 (0, ab_ent As (ab_ml M2), [], h, 0, 0)))) :
    ∀ pc L st h cs sl, ab_all C M Q h cs sl (ab_Snd g l d M Q) (ab_step M pc L st h cs sl) → ab_Snd g l d M Q (pc, L, st, h, cs, sl) := by
  intro pc L st h cs sl hs p e R s m args below meth c H locs ls Qw hX hS hR hL hQ
  have hR : ab_Rel g h H := hR
  have hL : ab_LR g ls (ab_ml M) L := hL
  show W p l e R s m args below meth c H locs cs sl Qw (F0 m pc ls (st.map (ab_cv g)))
  obtain ⟨hx, hb, hml, hown, hts, hF, ⟨r1, r2, r3, r4⟩, hnm⟩ := id hX
  have hvf := hF.2.2.2.2.2.2.2.2.2.1
  obtain ⟨hP, hz, hsp⟩ := id hR
  have hK := hF.1
  have h6 := hsp.2.1
  have go : ∀ {pc2 : Nat} {st2 : List Value}, ab_Snd g l d M Q (pc2, L, st2, h, cs, sl) → W p l e R s m args below meth c H locs cs sl Qw (F0 m pc2 ls (st2.map (ab_cv g))) := fun k => k p e R s m args below meth c H locs ls Qw hX hS hR hL hQ
  have goL : ∀ {pc2 : Nat} {L2 : ab_Lo} {st2 : List Value} (ls2 : Array Slot), ab_LR g ls2 (ab_ml M) L2 → ab_Snd g l d M Q (pc2, L2, st2, h, cs, sl) → W p l e R s m args below meth c H locs cs sl Qw (F0 m pc2 ls2 (st2.map (ab_cv g))) := fun ls2 hL2 k => k p e R s m args below meth c H locs ls2 Qw hX hS hR hL2 hQ
  have goH : ∀ {pc2 : Nat} {st2 : List Value} {h2 : ab_H} {cs2 sl2 : Nat} (H2 : Heap) (locs2 : List Loc), va_S (ab_A g) s.heap H2 locs2 → ab_Rel g h2 H2 → ab_Snd g l d M Q (pc2, L, st2, h2, cs2, sl2) → W p l e R s m args below meth c H2 locs2 cs2 sl2 Qw (F0 m pc2 ls (st2.map (ab_cv g))) := fun H2 locs2 hS2 hR2 k => k p e R s m args below meth c H2 locs2 ls Qw hX hS2 hR2 hL hQ
  unfold ab_step at hs
  cases hf : ab_find pc (ab_mo M) with
  | none =>
    rw [hf] at hs
    exact (abv_no hs).elim
  | some q =>
    obtain ⟨ins, len, x, y, ts⟩ := q
    rw [hf] at hs
    have hm := ab_find_mem _ _ _ hf
    have hc := List.all_eq_true.mp hce _ hm
    unfold ab_ce at hc
    simp only [Bool.and_eq_true, decide_eq_true_eq] at hc
    obtain ⟨⟨hd, hlen⟩, hw⟩ := hc
    cases ins with
    | iload i =>
      obtain rfl : len = 2 := Nat.eq_of_beq_eq_true hlen
      obtain ⟨v, hv, hs1⟩ := abv_li hs
      exact lv_iload hx hb hd (hL.2.2 _ _ hv) (go (abv_go hs1))
    | iload_n i =>
      obtain rfl : len = 1 := Nat.eq_of_beq_eq_true hlen
      obtain ⟨v, hv, hs1⟩ := abv_li hs
      exact lv_iload_n hx hb hd rfl (hL.2.2 _ _ hv) (go (abv_go hs1))
    | lload i =>
      obtain rfl : len = 2 := Nat.eq_of_beq_eq_true hlen
      obtain ⟨v, hv, hs1⟩ := abv_ll hs
      exact lv_lload hx hb hd (hL.2.2 _ _ hv) (go (abv_go hs1))
    | lload_n i =>
      obtain rfl : len = 1 := Nat.eq_of_beq_eq_true hlen
      obtain ⟨v, hv, hs1⟩ := abv_ll hs
      exact lv_lload_n hx hb hd rfl (hL.2.2 _ _ hv) (go (abv_go hs1))
    | aload i =>
      obtain rfl : len = 2 := Nat.eq_of_beq_eq_true hlen
      obtain ⟨v, hv, hs1⟩ := abv_lr hs
      have q := hL.2.2 _ _ hv
      have k := go (abv_go hs1)
      rw [List.map_cons] at k
      rcases ab_rv_ref hvf v with hr | ⟨a, hr⟩
      · have e1 : ab_cv g (.ref v) = .null := hr
        rw [e1] at q k
        exact lv_aloadN hx hb hd q k
      · have e1 : ab_cv g (.ref v) = .ref a := hr
        rw [e1] at q k
        exact lv_aload hx hb hd q k
    | aload_n i =>
      obtain rfl : len = 1 := Nat.eq_of_beq_eq_true hlen
      obtain ⟨v, hv, hs1⟩ := abv_lr hs
      have q := hL.2.2 _ _ hv
      have k := go (abv_go hs1)
      rw [List.map_cons] at k
      rcases ab_rv_ref hvf v with hr | ⟨a, hr⟩
      · have e1 : ab_cv g (.ref v) = .null := hr
        rw [e1] at q k
        exact lv_aload_nN hx hb hd rfl q k
      · have e1 : ab_cv g (.ref v) = .ref a := hr
        rw [e1] at q k
        exact lv_aload_n hx hb hd rfl q k
    | istore i =>
      obtain rfl : len = 2 := Nat.eq_of_beq_eq_true hlen
      obtain ⟨v, r, rfl, hs1⟩ := abv_pi hs
      obtain ⟨hi, k⟩ := abv_gc hs1
      exact lv_istore hx hb hd (ab_as_has hL) hi rfl (fun ls2 h2 => goL ls2 (ab_LR.s1 hvf rfl h2) k)
    | istore_n i =>
      obtain rfl : len = 1 := Nat.eq_of_beq_eq_true hlen
      obtain ⟨v, r, rfl, hs1⟩ := abv_pi hs
      obtain ⟨hi, k⟩ := abv_gc hs1
      exact lv_istore_n hx hb hd rfl (ab_as_has hL) hi rfl (fun ls2 h2 => goL ls2 (ab_LR.s1 hvf rfl h2) k)
    | lstore i =>
      obtain rfl : len = 2 := Nat.eq_of_beq_eq_true hlen
      obtain ⟨v, r, rfl, hs1⟩ := abv_pl hs
      obtain ⟨hi, k⟩ := abv_gc hs1
      exact lv_lstore hx hb hd (ab_as_has hL) hi rfl (fun ls2 h2 => goL ls2 (ab_LR.s2 hvf rfl h2) k)
    | lstore_n i =>
      obtain rfl : len = 1 := Nat.eq_of_beq_eq_true hlen
      obtain ⟨v, r, rfl, hs1⟩ := abv_pl hs
      obtain ⟨hi, k⟩ := abv_gc hs1
      exact lv_lstore_n hx hb hd rfl (ab_as_has hL) hi rfl (fun ls2 h2 => goL ls2 (ab_LR.s2 hvf rfl h2) k)
    | astore i =>
      obtain rfl : len = 2 := Nat.eq_of_beq_eq_true hlen
      obtain ⟨v, r, rfl, hs1⟩ := abv_pr hs
      obtain ⟨⟨hv, hi⟩, k⟩ := abv_gc hs1
      have e1 : ab_cv g (.ref v) = .ref (ab_B g + v) := ab_rv_lt hv
      rw [List.map_cons, e1]
      exact lv_astore hx hb hd (ab_as_has hL) hi rfl (fun ls2 h2 => goL ls2 (ab_LR.s1 hvf e1 h2) k)
    | astore_n i =>
      obtain rfl : len = 1 := Nat.eq_of_beq_eq_true hlen
      obtain ⟨v, r, rfl, hs1⟩ := abv_pr hs
      obtain ⟨⟨hv, hi⟩, k⟩ := abv_gc hs1
      have e1 : ab_cv g (.ref v) = .ref (ab_B g + v) := ab_rv_lt hv
      rw [List.map_cons, e1]
      exact lv_astore_n hx hb hd rfl (ab_as_has hL) hi rfl (fun ls2 h2 => goL ls2 (ab_LR.s1 hvf e1 h2) k)
    | iinc i n =>
      obtain rfl : len = 3 := Nat.eq_of_beq_eq_true hlen
      obtain ⟨v, hv, hs1⟩ := abv_li hs
      obtain ⟨hi, k⟩ := abv_gc hs1
      obtain ⟨j, hj⟩ := List.getElem?_of_mem (ab_as_mem (g := g) hv)
      exact lv_iinc hx hb hd (ab_as_has hL) (k := j) hj rfl hi rfl (fun ls2 h2 => goL ls2 (ab_LR.s1 hvf rfl h2) k)
    | iconst n =>
      obtain rfl : len = 1 := Nat.eq_of_beq_eq_true hlen
      exact lv_iconst hx hb hd rfl (go (abv_go hs))
    | bipush n =>
      obtain rfl : len = 2 := Nat.eq_of_beq_eq_true hlen
      exact lv_bipush hx hb hd rfl (go (abv_go hs))
    | sipush n =>
      obtain rfl : len = 3 := Nat.eq_of_beq_eq_true hlen
      exact lv_sipush hx hb hd rfl (go (abv_go hs))
    | lconst n =>
      obtain rfl : len = 1 := Nat.eq_of_beq_eq_true hlen
      exact lv_lconst hx hb hd rfl (go (abv_go hs))
    | ldc k =>
      obtain rfl : len = 2 := Nat.eq_of_beq_eq_true hlen
      match ts, hs, hw with
      | [], hs, hw => cases hw
      | [z], hs, hw => exact lv_ldc hx hb hown (hts _ (ab_at_in hw)) hd (go (abv_go hs))
      | [z, z2], hs, hw =>
        have k2 := go (abv_go hs)
        have hw : ((decide (x = 1000001) && decide (k = 25) && decide ((ab_my M).cls = RX8)) || (decide (x = 1000002) && decide (k = 88) && decide ((ab_my M).cls = RX8))) = true := hw
        simp only [Bool.or_eq_true, Bool.and_eq_true, decide_eq_true_eq] at hw
        rw [List.map_cons] at k2
        rcases hw with ⟨⟨rfl, rfl⟩, h8⟩ | ⟨⟨rfl, rfl⟩, h8⟩
        · rw [h8] at hown
          exact va_ldcS hx hb hown hF.2.2.1 hd k2
        · rw [h8] at hown
          exact va_ldcS hx hb hown hF.2.2.2.1 hd k2
      | z :: z2 :: z3 :: t, hs, hw => cases hw
    | ldc_w k =>
      obtain rfl : len = 3 := Nat.eq_of_beq_eq_true hlen
      match ts, hs, hw with
      | [], hs, hw => cases hw
      | z :: t, hs, hw => exact lv_ldcw hx hb hown (hts _ (ab_at_in hw)) hd (go (abv_go hs))
    | ldc2_w k =>
      obtain rfl : len = 3 := Nat.eq_of_beq_eq_true hlen
      match ts, hs, hw with
      | [], hs, hw => cases hw
      | z :: t, hs, hw => exact lv_ldc2 hx hb hown (hts _ (ab_at_in hw)) hd (go (abv_go hs))
    | getstatic k =>
      obtain rfl : len = 3 := Nat.eq_of_beq_eq_true hlen
      match ts, hs, hw with
      | [], hs, hw => cases hw
      | [z], hs, hw => exact va_gets hx hb hF.2.2.2.2.2.2.2.1 hS hown (hts _ (ab_at_in hw)) (fun _ h => h) hd (go (abv_go hs))
      | z :: z2 :: t, hs, hw =>
        have k2 := go (abv_go hs)
        exact va_gets hx hb hF.2.2.2.2.2.2.2.2.1 hS hown (hts _ (ab_at_in hw)) (fun _ h => h) hd k2
    | getfield k =>
      obtain rfl : len = 3 := Nat.eq_of_beq_eq_true hlen
      obtain ⟨c0, r, rfl, hs1⟩ := abv_pr hs
      obtain ⟨hcs, k2⟩ := abv_gc hs1
      have hwf : Cond.fieldLink (ab_my M).cls k (ab_fd x y).1 (ab_fd x y).2.1 (ab_fd x y).2.2.1 ∈ ab_TB ∧ (x < 12 ∨ x = 90) ∧ y < ab_nf x ∧ ab_gv ts (.int (ab_i h c0 y)) (ab_rf (ab_p h c0 y)) = ab_fv h x c0 y := by
        clear hs1 k2 hm hf hlen
        match ts, hw with
        | [], hw => cases hw
        | [z], hw =>
          have hw : (ab_at z (.fieldLink (ab_my M).cls k (ab_fd x y).1 (ab_fd x y).2.1 (ab_fd x y).2.2.1) && (decide (x < 12) || decide (x = 90)) && decide (y < ab_nf x) && !ab_isR (ab_ty x y)) = true := hw
          simp only [Bool.and_eq_true, Bool.or_eq_true, decide_eq_true_eq, Bool.not_eq_true'] at hw
          exact ⟨ab_at_in hw.1.1.1, hw.1.1.2, hw.1.2, by unfold ab_fv; rw [hw.2]; rfl⟩
        | z :: z2 :: t, hw =>
          have hw : (ab_at z (.fieldLink (ab_my M).cls k (ab_fd x y).1 (ab_fd x y).2.1 (ab_fd x y).2.2.1) && (decide (x < 12) || decide (x = 90)) && decide (y < ab_nf x) && ab_isR (ab_ty x y)) = true := hw
          simp only [Bool.and_eq_true, Bool.or_eq_true, decide_eq_true_eq] at hw
          exact ⟨ab_at_in hw.1.1.1, hw.1.1.2, hw.1.2, by unfold ab_fv; rw [hw.2]; rfl⟩
      obtain ⟨w1, w2, w3, w4⟩ := hwf
      rw [w4] at k2
      have k3 := go k2
      rw [List.map_cons] at k3 ⊢
      rcases ab_inl hsp hcs (by omega) with hlt | ⟨rfl, hstr⟩
      · have h12 := ab_own hP hlt hcs
        have e1 : ab_cv g (.ref c0) = .ref (ab_B g + c0) := ab_rv_lt (by omega)
        rw [e1]
        exact va_get hx hb hts (ab_lyE h12) hown hK hP c0 (by rw [ab_ws_at hlt, ab_E_obj hcs]) (ab_clsE h12) y w3 (hts _ w1) (fun _ h => h) (ab_fs_at w3) hd k3
      · obtain ⟨hV, -⟩ := hF.2.2.2.2.1
        have hy : y = 0 ∨ y = 1 := by have : y < 2 := w3; omega
        rcases hstr with rfl | rfl <;> rcases hy with rfl | rfl
        · have e3 : ab_cv g (ab_fv h 90 1000001 0) = .ref (ab_aV g 0) := by
            show ab_cv g (ab_rf (ab_p h 1000001 0)) = _
            rw [(hsp.2.2 1000001 (by decide)).2.2]
            rfl
          rw [e3] at k3
          exact vk_getf hx hb (hV 0 (by decide)).2.2.1 hS hown (hts _ w1) (fun _ h => h) hd k3
        · have e3 : ab_cv g (ab_fv h 90 1000001 1) = .int 0 := by
            show Value.int (ab_i h 1000001 1) = _
            rw [(hsp.2.2 1000001 (by decide)).2.1]
            rfl
          rw [e3] at k3
          exact vk_getf hx hb (hV 0 (by decide)).2.1 hS hown (hts _ w1) (fun _ h => h) hd k3
        · have e3 : ab_cv g (ab_fv h 90 1000002 0) = .ref (ab_aV g 1) := by
            show ab_cv g (ab_rf (ab_p h 1000002 0)) = _
            rw [(hsp.2.2 1000002 (by decide)).2.2]
            rfl
          rw [e3] at k3
          exact vk_getf hx hb (hV 1 (by decide)).2.2.1 hS hown (hts _ w1) (fun _ h => h) hd k3
        · have e3 : ab_cv g (ab_fv h 90 1000002 1) = .int 0 := by
            show Value.int (ab_i h 1000002 1) = _
            rw [(hsp.2.2 1000002 (by decide)).2.1]
            rfl
          rw [e3] at k3
          exact vk_getf hx hb (hV 1 (by decide)).2.1 hS hown (hts _ w1) (fun _ h => h) hd k3
    | putfield k =>
      obtain rfl : len = 3 := Nat.eq_of_beq_eq_true hlen
      match ts, hs, hw with
      | [], hs, hw => cases hw
      | [z], hs, hw =>
        have hw : (ab_at z (.fieldLink (ab_my M).cls k (ab_fd x y).1 (ab_fd x y).2.1 (ab_fd x y).2.2.1) && decide (x < 12) && decide (y < ab_nf x) && decide (ab_ty x y = .int) && (!(ab_fd x y).2.2.2 || (decide ((ab_my M).name = "<init>") && decide ((ab_fd x y).1 = (ab_my M).cls)))) = true := hw
        simp only [Bool.and_eq_true, Bool.or_eq_true, decide_eq_true_eq, Bool.not_eq_true'] at hw
        obtain ⟨⟨⟨⟨w1, w2⟩, w3⟩, w4⟩, w5⟩ := hw
        obtain ⟨v, r, rfl, hs1⟩ := abv_pi hs
        obtain ⟨c0, r, rfl, hs2⟩ := abv_pr hs1
        obtain ⟨⟨g1, g2, g3⟩, k2⟩ := abv_gc hs2
        have e1 : ab_cv g (.ref c0) = .ref (ab_B g + c0) := ab_rv_lt g2
        have hnr : ab_isR (ab_ty x y) = false := by rw [w4]; rfl
        have hE : ab_E g (ab_ui h c0 y v) c0 = .inr (x, ((List.range (ab_nf x)).map (fun j => ab_cv g (ab_fv h x c0 j))).set y (.int v)) := by
          rw [ab_E_obj (h := ab_ui h c0 y v) (show ab_S (ab_ui h c0 y v) c0 = .inl x from g1)]
          congr 2
          apply List.ext_getElem?
          intro i
          rw [List.getElem?_set]
          by_cases hi : y = i
          · subst hi
            rw [if_pos rfl, if_pos (by simpa using w3), ab_fs_at w3]
            unfold ab_fv
            rw [hnr]
            simp [ab_ui, ab_i, va_up, upd, ab_cv]
          · rw [if_neg hi]
            by_cases hi2 : i < ab_nf x
            · rw [ab_fs_at hi2, ab_fs_at hi2]
              congr 2
              unfold ab_fv
              split <;> simp [ab_ui, ab_i, ab_p, va_up, upd, Ne.symm hi]
            · rw [List.getElem?_eq_none (by simp; omega), List.getElem?_eq_none (by simp; omega)]
        rw [List.map_cons, List.map_cons, e1]
        exact ab_putf hx hb hown hts hF hnm hS hR w2 w3 (ab_at_in w1) w5 g1 (by rw [w4]; rfl) (by rw [w4]; rfl) hd (h2 := ab_ui h c0 y v) rfl (hsp.ui g2) hE (fun q hq => ab_E_ui hq) (fun H1 locs1 a1 a2 => goH H1 locs1 a1 a2 k2)
      | [z, z2], hs, hw =>
        have hw : (ab_at z (.fieldLink (ab_my M).cls k (ab_fd x y).1 (ab_fd x y).2.1 (ab_fd x y).2.2.1) && decide (x < 12) && decide (y < ab_nf x) && decide (ab_ty x y = .boolean) && (!(ab_fd x y).2.2.2 || (decide ((ab_my M).name = "<init>") && decide ((ab_fd x y).1 = (ab_my M).cls)))) = true := hw
        simp only [Bool.and_eq_true, Bool.or_eq_true, decide_eq_true_eq, Bool.not_eq_true'] at hw
        obtain ⟨⟨⟨⟨w1, w2⟩, w3⟩, w4⟩, w5⟩ := hw
        obtain ⟨v, r, rfl, hs3⟩ := abv_pi hs
        obtain ⟨c0, r, rfl, hs4⟩ := abv_pr hs3
        obtain ⟨⟨g1, g2, g3⟩, k2⟩ := abv_gc hs4
        have e1 : ab_cv g (.ref c0) = .ref (ab_B g + c0) := ab_rv_lt g2
        have hnr : ab_isR (ab_ty x y) = false := by rw [w4]; rfl
        have hE : ab_E g (ab_ui h c0 y v) c0 = .inr (x, ((List.range (ab_nf x)).map (fun j => ab_cv g (ab_fv h x c0 j))).set y (.int v)) := by
          rw [ab_E_obj (h := ab_ui h c0 y v) (show ab_S (ab_ui h c0 y v) c0 = .inl x from g1)]
          congr 2
          apply List.ext_getElem?
          intro i
          rw [List.getElem?_set]
          by_cases hi : y = i
          · subst hi
            rw [if_pos rfl, if_pos (by simpa using w3), ab_fs_at w3]
            unfold ab_fv
            rw [hnr]
            simp [ab_ui, ab_i, va_up, upd, ab_cv]
          · rw [if_neg hi]
            by_cases hi2 : i < ab_nf x
            · rw [ab_fs_at hi2, ab_fs_at hi2]
              congr 2
              unfold ab_fv
              split <;> simp [ab_ui, ab_i, ab_p, va_up, upd, Ne.symm hi]
            · rw [List.getElem?_eq_none (by simp; omega), List.getElem?_eq_none (by simp; omega)]
        rw [List.map_cons, List.map_cons, e1]
        exact ab_putf hx hb hown hts hF hnm hS hR w2 w3 (ab_at_in w1) w5 g1 (by rw [w4]; rcases g3 with rfl | rfl <;> rfl) (by rw [w4]; rcases g3 with rfl | rfl <;> rfl) hd (h2 := ab_ui h c0 y v) rfl (hsp.ui g2) hE (fun q hq => ab_E_ui hq) (fun H1 locs1 a1 a2 => goH H1 locs1 a1 a2 k2)
      | z :: z2 :: z3 :: t, hs, hw =>
        have hw : (ab_at z (.fieldLink (ab_my M).cls k (ab_fd x y).1 (ab_fd x y).2.1 (ab_fd x y).2.2.1) && decide (x < 12) && decide (y < ab_nf x) && ab_isR (ab_ty x y) && (!(ab_fd x y).2.2.2 || (decide ((ab_my M).name = "<init>") && decide ((ab_fd x y).1 = (ab_my M).cls)))) = true := hw
        simp only [Bool.and_eq_true, Bool.or_eq_true, decide_eq_true_eq, Bool.not_eq_true'] at hw
        obtain ⟨⟨⟨⟨w1, w2⟩, w3⟩, w4⟩, w5⟩ := hw
        obtain ⟨v, r, rfl, hs5⟩ := abv_pr hs
        obtain ⟨c0, r, rfl, hs6⟩ := abv_pr hs5
        obtain ⟨⟨g1, g2, g3⟩, k2⟩ := abv_gc hs6
        have e1 : ab_cv g (.ref c0) = .ref (ab_B g + c0) := ab_rv_lt g2
        have e2 : ab_cv g (.ref v) = .ref (ab_B g + v) := ab_rv_lt g3
        have hnr : ab_isR (ab_ty x y) = true := w4
        have hE : ab_E g (ab_up h c0 y (some v)) c0 = .inr (x, ((List.range (ab_nf x)).map (fun j => ab_cv g (ab_fv h x c0 j))).set y (.ref (ab_B g + v))) := by
          rw [ab_E_obj (h := ab_up h c0 y (some v)) (show ab_S (ab_up h c0 y (some v)) c0 = .inl x from g1)]
          congr 2
          apply List.ext_getElem?
          intro i
          rw [List.getElem?_set]
          by_cases hi : y = i
          · subst hi
            rw [if_pos rfl, if_pos (by simpa using w3), ab_fs_at w3]
            unfold ab_fv
            rw [hnr]
            simp [ab_up, ab_p, va_up, ab_rf, ab_cv, ab_rv_lt g3]
          · rw [if_neg hi]
            by_cases hi2 : i < ab_nf x
            · rw [ab_fs_at hi2, ab_fs_at hi2]
              congr 2
              unfold ab_fv
              split <;> simp [ab_up, ab_i, ab_p, va_up, Ne.symm hi]
            · rw [List.getElem?_eq_none (by simp; omega), List.getElem?_eq_none (by simp; omega)]
        rw [List.map_cons, List.map_cons, e1, e2]
        exact ab_putf hx hb hown hts hF hnm hS hR w2 w3 (ab_at_in w1) w5 g1 (ab_ret_fits _ _ w4).1 (ab_ret_fits _ _ w4).2 hd (h2 := ab_up h c0 y (some v)) rfl (hsp.up g2) hE (fun q hq => ab_E_up hq) (fun H1 locs1 a1 a2 => goH H1 locs1 a1 a2 k2)
    | new k =>
      obtain rfl : len = 3 := Nat.eq_of_beq_eq_true hlen
      match ts, hs, hw with
      | [], hs, hw => cases hw
      | z :: t, hs, hw =>
        have hw : (ab_at z (.classLink (ab_my M).cls k (ab_cnm x)) && decide (x < 12) && decide (y = ab_nf x)) = true := hw
        simp only [Bool.and_eq_true, decide_eq_true_eq] at hw
        obtain ⟨⟨w1, w2⟩, w3⟩ := hw
        subst w3
        obtain ⟨⟨g1, g2, g3⟩, k2⟩ := abv_gc hs
        obtain ⟨w4, w5⟩ := ab_insE w2
        have hKn := hK.1 x _ (ab_clsE w2)
        refine W.newcK hx hb hown (hts _ (ab_at_in w1)) (hts _ w4) (hts _ w5) rfl hd (by omega) (by omega) hKn.2.1 rfl fun H1 kC hkC e1 z1 o1 => ?_
        have hR2 : ab_Rel g (ab_nw h (.inl x)) H1 := ab_new hR g1 (ab_E_obj (h := ab_nw h (.inl x)) (c := h.1) (ci := x) (by simp [ab_nw, ab_S, va_up])) (by
          refine ⟨_, ab_clsE w2, ?_⟩
          have hb2 := (u_born (ab_ty x) hts (ab_lyE w2) hKn hkC e1 (ab_tyE w2))
          rw [hz] at hb2
          refine hb2.to (fun j hj => ?_)
          show _ = vp_V _ j
          unfold vp_V
          rw [List.getD_eq_getElem?_getD, ab_fs_at hj]
          show defaultValue (ab_ty x j) = ab_cv g (ab_fv (ab_nw h (.inl x)) x h.1 j)
          unfold ab_fv
          have hi := ab_init_ok w2 j hj
          cases ht : ab_isR (ab_ty x j) with
          | true => rw [hi.1 ht]; simp [ab_nw, ab_p, va_up, ab_rf, ab_cv]
          | false => rw [hi.2 ht]; simp [ab_nw, ab_i, va_up, ab_cv]) z1 o1
        have k3 := goH H1 locs (ab_S_put hS hz z1 o1) hR2 k2
        rw [List.map_cons, show ab_cv g (.ref h.1) = .ref (ab_B g + h.1) from ab_rv_lt (by omega), ← hz] at k3
        exact k3
    | newarray a =>
      obtain rfl : len = 2 := Nat.eq_of_beq_eq_true hlen
      obtain ⟨v, r, rfl, hs1⟩ := abv_pi hs
      obtain ⟨⟨g1, g2, g3, g4, g5⟩, k2⟩ := abv_gc hs1
      have hty : (Cond.arrayClass (newarray.typeOf a)).before args s = true ∧ ab_cA g (newarray.typeOf a) = ab_cA g (newarray.typeOf a) ∧ s.vm.findClass ("[" ++ (newarray.typeOf a).toString) = some (ab_cA g (newarray.typeOf a)) ∧ (∀ (hq : ab_H) (c0 n : Nat), ab_S hq c0 = .inr (newarray.typeOf a, n) → vp_cell (ab_cA g (newarray.typeOf a)) (n, match newarray.typeOf a with
        | .long => .inr (.inl (fun _ => 0))
        | _ => .inl (fun _ => 0)) = arrV (ab_cA g (newarray.typeOf a)) n (fun _ => defaultValue (newarray.typeOf a))) ∧ componentBytes (newarray.typeOf a) ≤ 8 := by
        cases a <;> first | (cases hw; done) | skip
        · exact ⟨hts _ (ab_at_in ab_arr_boolean), rfl, (hK.2 2 _ rfl).2, fun _ _ _ _ => rfl, by decide⟩
        · exact ⟨hts _ (ab_at_in ab_arr_byte), rfl, (hK.2 1 _ rfl).2, fun _ _ _ _ => rfl, by decide⟩
        · exact ⟨hts _ (ab_at_in ab_arr_int), rfl, (hK.2 0 _ rfl).2, fun _ _ _ _ => rfl, by decide⟩
        · exact ⟨hts _ (ab_at_in ab_arr_long), rfl, (hK.2 3 _ rfl).2, fun _ _ _ _ => rfl, by decide⟩
      obtain ⟨w1, -, w2, w3, w4⟩ := hty
      refine va_newaK hx hb w1 rfl hd rfl g2 rfl (Nat.le_trans (Nat.mul_le_mul g3 w4) (by decide)) (by omega) (by omega) rfl fun H1 cA2 e1 z1 o1 hAr hNm => ?_
      have hcA : cA2 = ab_cA g (newarray.typeOf a) := Option.some.inj (hNm.symm.trans w2)
      subst hcA
      have hSn : ab_S (ab_nw h (.inr (newarray.typeOf a, v.toNatClampNeg))) h.1 = .inr (newarray.typeOf a, v.toNatClampNeg) := by simp [ab_nw, ab_S, va_up]
      have hE : ab_E g (ab_nw h (.inr (newarray.typeOf a, v.toNatClampNeg))) h.1 = .inl (ab_cA g (newarray.typeOf a), v.toNatClampNeg, match newarray.typeOf a with
        | .long => .inr (.inl (fun _ => 0))
        | _ => .inl (fun _ => 0)) := by
        unfold ab_E
        rw [hSn]
        cases a <;> simp [newarray.typeOf, ab_nw, ab_l, ab_i, va_up]
      have hR2 : ab_Rel g (ab_nw h (.inr (newarray.typeOf a, v.toNatClampNeg))) H1 := ab_new hR g1 hE (by
        show H1[ab_B g + h.1]? = some (vp_cell _ _)
        rw [w3 _ h.1 _ hSn, ← hz]
        exact e1) z1 o1
      have k3 := goH H1 locs (ab_S_put hS hz z1 o1) hR2 k2
      rw [List.map_cons, show ab_cv g (.ref h.1) = .ref (ab_B g + h.1) from ab_rv_lt (by omega), ← hz] at k3
      exact k3
    | arraylength =>
      obtain rfl : len = 1 := Nat.eq_of_beq_eq_true hlen
      obtain ⟨c0, r, rfl, hs1⟩ := abv_pr hs
      cases hsc : ab_S h c0 with
      | inl q =>
        rw [hsc] at hs1
        exact (abv_no hs1).elim
      | inr q =>
        obtain ⟨ty, n⟩ := q
        rw [hsc] at hs1
        obtain ⟨hty, k2⟩ := abv_gc hs1
        have k3 := go k2
        rw [List.map_cons] at k3 ⊢
        rcases ab_inr hsp hsc with hlt | ⟨rfl, rfl, rfl⟩ | ⟨rfl, rfl, rfl⟩ | ⟨rfl, rfl, rfl⟩
        · have e1 : ab_cv g (.ref c0) = .ref (ab_B g + c0) := ab_rv_lt (by omega)
          rw [e1]
          exact ab_alen_row hx hb hK hP hlt hsc hty hd k3
        · exact va_slen hx hb hF.2.2.2.2.2.1 (Nat.lt_of_lt_of_le hF.2.2.2.2.2.2.1 hF.2.2.2.2.2.2.2.2.2.2) (Nat.not_le.mpr hF.2.2.2.2.2.2.1) hS hd k3
        · exact va_tlen hx hb (hF.2.2.2.2.1.1 0 (by decide)).2.2.2 hS rfl hd k3
        · exact va_tlen hx hb (hF.2.2.2.2.1.1 1 (by decide)).2.2.2 hS rfl hd k3
    | iaload =>
      obtain rfl : len = 1 := Nat.eq_of_beq_eq_true hlen
      obtain ⟨j, r, rfl, hs1⟩ := abv_pi hs
      obtain ⟨c0, r, rfl, hs2⟩ := abv_pr hs1
      cases hsc : ab_S h c0 with
      | inl q =>
        rw [hsc] at hs2
        exact (abv_no hs2).elim
      | inr q =>
        obtain ⟨ty, n⟩ := q
        rw [hsc] at hs2
        cases ty with
        | int =>
          obtain ⟨hin, k2⟩ := abv_gc hs2
          have k3 := go k2
          rw [List.map_cons] at k3
          rw [List.map_cons, List.map_cons]
          rcases ab_inr hsp hsc with hlt | ⟨rfl, hty, rfl⟩ | ⟨rfl, hty, rfl⟩ | ⟨rfl, hty, rfl⟩
          · have e1 : ab_cv g (.ref c0) = .ref (ab_B g + c0) := ab_rv_lt (by omega)
            rw [e1]
            exact va_iald hx hb hK hP c0 0 (by rw [ab_ws_at hlt, ab_E_i hsc (by decide)]) rfl hin hd k3
          · rw [(hsp.2.2 1000000 (by decide)).2.1] at k3
            exact va_sld hx hb hF.2.2.2.2.2.1 (Nat.lt_of_lt_of_le hF.2.2.2.2.2.2.1 hF.2.2.2.2.2.2.2.2.2.2) (Nat.not_le.mpr hF.2.2.2.2.2.2.1) hS hin hd k3
          · cases hty
          · cases hty
        | _ => exact (abv_no hs2).elim
    | baload =>
      obtain rfl : len = 1 := Nat.eq_of_beq_eq_true hlen
      obtain ⟨j, r, rfl, hs1⟩ := abv_pi hs
      obtain ⟨c0, r, rfl, hs2⟩ := abv_pr hs1
      cases hsc : ab_S h c0 with
      | inl q =>
        rw [hsc] at hs2
        exact (abv_no hs2).elim
      | inr q =>
        obtain ⟨ty, n⟩ := q
        rw [hsc] at hs2
        cases ty with
        | byte =>
          obtain ⟨hin, k2⟩ := abv_gc hs2
          have k3 := go k2
          rw [List.map_cons] at k3
          rw [List.map_cons, List.map_cons]
          rcases ab_inr hsp hsc with hlt | ⟨rfl, hty, rfl⟩ | ⟨rfl, hty, rfl⟩ | ⟨rfl, hty, rfl⟩
          · have e1 : ab_cv g (.ref c0) = .ref (ab_B g + c0) := ab_rv_lt (by omega)
            rw [e1]
            exact va_bald hx hb hK hP c0 1 (by rw [ab_ws_at hlt, ab_E_i hsc (by decide)]) rfl hin hd k3
          · cases hty
          · rw [(hsp.2.2 1000011 (by decide)).2.1] at k3
            exact va_tb hx hb (hF.2.2.2.2.1.1 0 (by decide)).2.2.2 hS hin rfl hd k3
          · rw [(hsp.2.2 1000012 (by decide)).2.1] at k3
            exact va_tb hx hb (hF.2.2.2.2.1.1 1 (by decide)).2.2.2 hS hin rfl hd k3
        | boolean =>
          obtain ⟨hin, k2⟩ := abv_gc hs2
          have k3 := go k2
          rw [List.map_cons] at k3
          rw [List.map_cons, List.map_cons]
          rcases ab_inr hsp hsc with hlt | ⟨rfl, hty, rfl⟩ | ⟨rfl, hty, rfl⟩ | ⟨rfl, hty, rfl⟩
          · have e1 : ab_cv g (.ref c0) = .ref (ab_B g + c0) := ab_rv_lt (by omega)
            rw [e1]
            exact va_zald hx hb hK hP c0 2 (by rw [ab_ws_at hlt, ab_E_i hsc (by decide)]) rfl hin hd k3
          · cases hty
          · cases hty
          · cases hty
        | _ => exact (abv_no hs2).elim
    | laload =>
      obtain rfl : len = 1 := Nat.eq_of_beq_eq_true hlen
      obtain ⟨j, r, rfl, hs1⟩ := abv_pi hs
      obtain ⟨c0, r, rfl, hs2⟩ := abv_pr hs1
      cases hsc : ab_S h c0 with
      | inl q =>
        rw [hsc] at hs2
        exact (abv_no hs2).elim
      | inr q =>
        obtain ⟨ty, n⟩ := q
        rw [hsc] at hs2
        cases ty with
        | long =>
          obtain ⟨hin, k2⟩ := abv_gc hs2
          have k3 := go k2
          rw [List.map_cons] at k3
          rw [List.map_cons, List.map_cons]
          rcases ab_inr hsp hsc with hlt | ⟨rfl, hty, rfl⟩ | ⟨rfl, hty, rfl⟩ | ⟨rfl, hty, rfl⟩
          · have e1 : ab_cv g (.ref c0) = .ref (ab_B g + c0) := ab_rv_lt (by omega)
            rw [e1]
            exact va_lald hx hb hK hP c0 3 (by rw [ab_ws_at hlt, ab_E_l hsc]) rfl hin hd k3
          · cases hty
          · cases hty
          · cases hty
        | _ => exact (abv_no hs2).elim
    | iastore =>
      obtain rfl : len = 1 := Nat.eq_of_beq_eq_true hlen
      obtain ⟨v, r, rfl, hs1⟩ := abv_pi hs
      obtain ⟨j, r, rfl, hs2⟩ := abv_pi hs1
      obtain ⟨c0, r, rfl, hs3⟩ := abv_pr hs2
      cases hsc : ab_S h c0 with
      | inl q =>
        rw [hsc] at hs3
        exact (abv_no hs3).elim
      | inr q =>
        obtain ⟨ty, n⟩ := q
        rw [hsc] at hs3
        cases ty with
        | int =>
          obtain ⟨⟨g2, hin⟩, k2⟩ := abv_gc hs3
          have hlt : c0 < h.1 := by
            rcases ab_inr hsp hsc with q | ⟨rfl, -⟩ | ⟨rfl, -⟩ | ⟨rfl, -⟩
            · exact q
            all_goals omega
          have e1 : ab_cv g (.ref c0) = .ref (ab_B g + c0) := ab_rv_lt g2
          rw [List.map_cons, List.map_cons, List.map_cons, e1]
          exact W.iast hx hb (show H[ab_B g + c0]? = some (vp_cell _ _) from hP c0 (ab_B g + c0, .inl (ab_cA g .int, n, .inl (ab_i h c0))) (by rw [ab_ws_at hlt, ab_E_i hsc (by decide)])) ((hK.2 0 _ rfl).1 n (fun j => .int (ab_i h c0 j))) (fun q => by cases q) (by show ¬ (j < 0 ∨ (arrV _ _ _).slots.size ≤ _); rw [arrV_size]; exact hin) rfl rfl hd fun H1 a1 a2 a3 => goH H1 _ (hS.put a2 a3 (Nat.le_add_right _ _)) (ab_ast hR hlt hsc (by decide) a1 a2 a3) k2
        | _ => exact (abv_no hs3).elim
    | bastore =>
      obtain rfl : len = 1 := Nat.eq_of_beq_eq_true hlen
      obtain ⟨v, r, rfl, hs1⟩ := abv_pi hs
      obtain ⟨j, r, rfl, hs2⟩ := abv_pi hs1
      obtain ⟨c0, r, rfl, hs3⟩ := abv_pr hs2
      cases hsc : ab_S h c0 with
      | inl q =>
        rw [hsc] at hs3
        exact (abv_no hs3).elim
      | inr q =>
        obtain ⟨ty, n⟩ := q
        rw [hsc] at hs3
        cases ty with
        | byte =>
          obtain ⟨⟨g2, hin⟩, k2⟩ := abv_gc hs3
          have hlt : c0 < h.1 := by
            rcases ab_inr hsp hsc with q | ⟨rfl, -⟩ | ⟨rfl, -⟩ | ⟨rfl, -⟩
            · exact q
            all_goals omega
          have e1 : ab_cv g (.ref c0) = .ref (ab_B g + c0) := ab_rv_lt g2
          rw [List.map_cons, List.map_cons, List.map_cons, e1]
          exact W.bast hx hb (show H[ab_B g + c0]? = some (vp_cell _ _) from hP c0 (ab_B g + c0, .inl (ab_cA g .byte, n, .inl (ab_i h c0))) (by rw [ab_ws_at hlt, ab_E_i hsc (by decide)])) ((hK.2 1 _ rfl).1 n (fun j => .int (ab_i h c0 j))) (fun q => by cases q) (by show ¬ (j < 0 ∨ (arrV _ _ _).slots.size ≤ _); rw [arrV_size]; exact hin) rfl rfl hd fun H1 a1 a2 a3 => goH H1 _ (hS.put a2 a3 (Nat.le_add_right _ _)) (ab_ast hR hlt hsc (by decide) a1 a2 a3) k2
        | boolean =>
          obtain ⟨⟨g2, hin⟩, k2⟩ := abv_gc hs3
          have hlt : c0 < h.1 := by
            rcases ab_inr hsp hsc with q | ⟨rfl, -⟩ | ⟨rfl, -⟩ | ⟨rfl, -⟩
            · exact q
            all_goals omega
          have e1 : ab_cv g (.ref c0) = .ref (ab_B g + c0) := ab_rv_lt g2
          rw [List.map_cons, List.map_cons, List.map_cons, e1]
          exact W.zast hx hb (show H[ab_B g + c0]? = some (vp_cell _ _) from hP c0 (ab_B g + c0, .inl (ab_cA g .boolean, n, .inl (ab_i h c0))) (by rw [ab_ws_at hlt, ab_E_i hsc (by decide)])) ((hK.2 2 _ rfl).1 n (fun j => .int (ab_i h c0 j))) (fun q => by cases q) (by show ¬ (j < 0 ∨ (arrV _ _ _).slots.size ≤ _); rw [arrV_size]; exact hin) rfl rfl hd fun H1 a1 a2 a3 => goH H1 _ (hS.put a2 a3 (Nat.le_add_right _ _)) (ab_ast hR hlt hsc (by decide) a1 a2 a3) k2
        | _ => exact (abv_no hs3).elim
    | lastore =>
      obtain rfl : len = 1 := Nat.eq_of_beq_eq_true hlen
      obtain ⟨v, r, rfl, hs1⟩ := abv_pl hs
      obtain ⟨j, r, rfl, hs2⟩ := abv_pi hs1
      obtain ⟨c0, r, rfl, hs3⟩ := abv_pr hs2
      cases hsc : ab_S h c0 with
      | inl q =>
        rw [hsc] at hs3
        exact (abv_no hs3).elim
      | inr q =>
        obtain ⟨ty, n⟩ := q
        rw [hsc] at hs3
        cases ty with
        | long =>
          obtain ⟨⟨g2, hin⟩, k2⟩ := abv_gc hs3
          have hlt : c0 < h.1 := by
            rcases ab_inr hsp hsc with q | ⟨rfl, -⟩ | ⟨rfl, -⟩ | ⟨rfl, -⟩
            · exact q
            all_goals omega
          have e1 : ab_cv g (.ref c0) = .ref (ab_B g + c0) := ab_rv_lt g2
          rw [List.map_cons, List.map_cons, List.map_cons, e1]
          exact W.last hx hb (show H[ab_B g + c0]? = some (vp_cell _ _) from hP c0 (ab_B g + c0, .inl (ab_cA g .long, n, .inr (.inl (ab_l h c0)))) (by rw [ab_ws_at hlt, ab_E_l hsc])) ((hK.2 3 _ rfl).1 n (fun j => .long (ab_l h c0 j))) (fun q => by cases q) (by show ¬ (j < 0 ∨ (arrV _ _ _).slots.size ≤ _); rw [arrV_size]; exact hin) rfl rfl hd fun H1 a1 a2 a3 => goH H1 _ (hS.put a2 a3 (Nat.le_add_right _ _)) (ab_astl hR hlt hsc a1 a2 a3) k2
        | _ => exact (abv_no hs3).elim
    | iadd =>
      obtain rfl : len = 1 := Nat.eq_of_beq_eq_true hlen
      obtain ⟨b, r, rfl, hs1⟩ := abv_pi hs
      obtain ⟨a, r, rfl, hs2⟩ := abv_pi hs1
      exact lv_iadd hx hb hd (go (abv_go hs2))
    | isub =>
      obtain rfl : len = 1 := Nat.eq_of_beq_eq_true hlen
      obtain ⟨b, r, rfl, hs1⟩ := abv_pi hs
      obtain ⟨a, r, rfl, hs2⟩ := abv_pi hs1
      exact lv_isub hx hb hd (go (abv_go hs2))
    | imul =>
      obtain rfl : len = 1 := Nat.eq_of_beq_eq_true hlen
      obtain ⟨b, r, rfl, hs1⟩ := abv_pi hs
      obtain ⟨a, r, rfl, hs2⟩ := abv_pi hs1
      exact lv_imul hx hb hd (go (abv_go hs2))
    | iand =>
      obtain rfl : len = 1 := Nat.eq_of_beq_eq_true hlen
      obtain ⟨b, r, rfl, hs1⟩ := abv_pi hs
      obtain ⟨a, r, rfl, hs2⟩ := abv_pi hs1
      exact lv_iand hx hb hd (go (abv_go hs2))
    | ior =>
      obtain rfl : len = 1 := Nat.eq_of_beq_eq_true hlen
      obtain ⟨b, r, rfl, hs1⟩ := abv_pi hs
      obtain ⟨a, r, rfl, hs2⟩ := abv_pi hs1
      exact lv_ior hx hb hd (go (abv_go hs2))
    | ixor =>
      obtain rfl : len = 1 := Nat.eq_of_beq_eq_true hlen
      obtain ⟨b, r, rfl, hs1⟩ := abv_pi hs
      obtain ⟨a, r, rfl, hs2⟩ := abv_pi hs1
      exact lv_ixor hx hb hd (go (abv_go hs2))
    | ishl =>
      obtain rfl : len = 1 := Nat.eq_of_beq_eq_true hlen
      obtain ⟨b, r, rfl, hs1⟩ := abv_pi hs
      obtain ⟨a, r, rfl, hs2⟩ := abv_pi hs1
      exact lv_ishl hx hb hd (go (abv_go hs2))
    | ishr =>
      obtain rfl : len = 1 := Nat.eq_of_beq_eq_true hlen
      obtain ⟨b, r, rfl, hs1⟩ := abv_pi hs
      obtain ⟨a, r, rfl, hs2⟩ := abv_pi hs1
      exact lv_ishr hx hb hd (go (abv_go hs2))
    | iushr =>
      obtain rfl : len = 1 := Nat.eq_of_beq_eq_true hlen
      obtain ⟨b, r, rfl, hs1⟩ := abv_pi hs
      obtain ⟨a, r, rfl, hs2⟩ := abv_pi hs1
      exact lv_iushr hx hb hd rfl (go (abv_go hs2))
    | idiv =>
      obtain rfl : len = 1 := Nat.eq_of_beq_eq_true hlen
      obtain ⟨b, r, rfl, hs1⟩ := abv_pi hs
      obtain ⟨a, r, rfl, hs2⟩ := abv_pi hs1
      obtain ⟨hne, k⟩ := abv_gc hs2
      exact lv_idiv hx hb hd hne (go k)
    | irem =>
      obtain rfl : len = 1 := Nat.eq_of_beq_eq_true hlen
      obtain ⟨b, r, rfl, hs1⟩ := abv_pi hs
      obtain ⟨a, r, rfl, hs2⟩ := abv_pi hs1
      obtain ⟨hne, k⟩ := abv_gc hs2
      exact lv_irem hx hb hd hne (go k)
    | ladd =>
      obtain rfl : len = 1 := Nat.eq_of_beq_eq_true hlen
      obtain ⟨b, r, rfl, hs1⟩ := abv_pl hs
      obtain ⟨a, r, rfl, hs2⟩ := abv_pl hs1
      exact lv_ladd hx hb hd (go (abv_go hs2))
    | lmul =>
      obtain rfl : len = 1 := Nat.eq_of_beq_eq_true hlen
      obtain ⟨b, r, rfl, hs1⟩ := abv_pl hs
      obtain ⟨a, r, rfl, hs2⟩ := abv_pl hs1
      exact lv_lmul hx hb hd (go (abv_go hs2))
    | ldiv =>
      obtain rfl : len = 1 := Nat.eq_of_beq_eq_true hlen
      obtain ⟨b, r, rfl, hs1⟩ := abv_pl hs
      obtain ⟨a, r, rfl, hs2⟩ := abv_pl hs1
      obtain ⟨hne, k⟩ := abv_gc hs2
      exact lv_ldiv hx hb hd hne (go k)
    | lrem =>
      obtain rfl : len = 1 := Nat.eq_of_beq_eq_true hlen
      obtain ⟨b, r, rfl, hs1⟩ := abv_pl hs
      obtain ⟨a, r, rfl, hs2⟩ := abv_pl hs1
      obtain ⟨hne, k⟩ := abv_gc hs2
      exact lv_lrem hx hb hd hne (go k)
    | lcmp =>
      obtain rfl : len = 1 := Nat.eq_of_beq_eq_true hlen
      obtain ⟨b, r, rfl, hs1⟩ := abv_pl hs
      obtain ⟨a, r, rfl, hs2⟩ := abv_pl hs1
      exact W.lcmp hx hb hd (go (abv_go hs2))
    | i2l =>
      obtain rfl : len = 1 := Nat.eq_of_beq_eq_true hlen
      obtain ⟨a, r, rfl, hs1⟩ := abv_pi hs
      exact lv_i2l hx hb hd rfl (go (abv_go hs1))
    | l2i =>
      obtain rfl : len = 1 := Nat.eq_of_beq_eq_true hlen
      obtain ⟨a, r, rfl, hs1⟩ := abv_pl hs
      exact lv_l2i hx hb hd rfl (go (abv_go hs1))
    | i2b =>
      obtain rfl : len = 1 := Nat.eq_of_beq_eq_true hlen
      obtain ⟨a, r, rfl, hs1⟩ := abv_pi hs
      exact lv_i2b hx hb hd rfl (go (abv_go hs1))
    | i2c =>
      obtain rfl : len = 1 := Nat.eq_of_beq_eq_true hlen
      obtain ⟨a, r, rfl, hs1⟩ := abv_pi hs
      exact lv_i2c hx hb hd rfl (go (abv_go hs1))
    | ifCond cnd off =>
      obtain rfl : len = 3 := Nat.eq_of_beq_eq_true hlen
      obtain ⟨a, r, rfl, hs1⟩ := abv_pi hs
      obtain ⟨k1, k2⟩ := abv_br hs1
      have ht : (pc : Int) + off = (x : Int) := by simpa using hw
      cases cnd with
      | eq => exact lv_if_eq hx hb hd ht (fun q => go (k1 q)) (fun q => go (k2 q))
      | ne => exact lv_if_ne hx hb hd ht (fun q => go (k1 q)) (fun q => go (k2 (fun z => z q)))
      | lt => exact lv_if_lt hx hb hd ht (fun q => go (k1 q)) (fun q => go (k2 q))
      | ge => exact lv_if_ge hx hb hd ht (fun q => go (k1 q)) (fun q => go (k2 q))
      | gt => exact lv_if_gt hx hb hd ht (fun q => go (k1 q)) (fun q => go (k2 q))
      | le => exact lv_if_le hx hb hd ht (fun q => go (k1 q)) (fun q => go (k2 q))
    | if_icmp cnd off =>
      obtain rfl : len = 3 := Nat.eq_of_beq_eq_true hlen
      obtain ⟨b, r, rfl, hs1⟩ := abv_pi hs
      obtain ⟨a, r, rfl, hs2⟩ := abv_pi hs1
      obtain ⟨k1, k2⟩ := abv_br hs2
      have ht : (pc : Int) + off = (x : Int) := by simpa using hw
      cases cnd with
      | eq => exact lv_icmp_eq hx hb hd ht (fun q => go (k1 q)) (fun q => go (k2 q))
      | ne => exact lv_icmp_ne hx hb hd ht (fun q => go (k1 q)) (fun q => go (k2 (fun z => z q)))
      | lt => exact lv_icmp_lt hx hb hd ht (fun q => go (k1 q)) (fun q => go (k2 q))
      | ge => exact lv_icmp_ge hx hb hd ht (fun q => go (k1 q)) (fun q => go (k2 q))
      | gt => exact lv_icmp_gt hx hb hd ht (fun q => go (k1 q)) (fun q => go (k2 q))
      | le => exact lv_icmp_le hx hb hd ht (fun q => go (k1 q)) (fun q => go (k2 q))
    | goto off =>
      obtain rfl : len = 3 := Nat.eq_of_beq_eq_true hlen
      have ht : (pc : Int) + off = (x : Int) := by simpa using hw
      exact lv_goto hx hb hd ht (go (abv_go hs))
    | tableswitch dflt lo hi offs =>
      obtain ⟨a, r, rfl, hs1⟩ := abv_pi hs
      have hlen : (decide ((pc : Int) + dflt = (x : Int)) && decide (offs.toList.map (fun o => (pc : Int) + o) = ts.map Int.ofNat) && decide (hi + 1 = lo + (ts.length : Int))) = true := hlen
      simp only [Bool.and_eq_true, decide_eq_true_eq] at hlen
      obtain ⟨⟨t1, t2⟩, t3⟩ := hlen
      by_cases hout : a.toInt < lo ∨ hi < a.toInt
      · exact lv_tableOut hx hb hd hout t1 (go (hs1.2 _ List.mem_cons_self hout))
      · have hj : (a.toInt - lo).toNat < ts.length := by omega
        have ho : offs.toList.length = ts.length := by have := congrArg List.length t2; simpa using this
        have hol : (a.toInt - lo).toNat < offs.toList.length := by omega
        have e1 := congrArg (fun q => q[(a.toInt - lo).toNat]?) t2
        simp only [List.getElem?_map, List.getElem?_eq_getElem hol, List.getElem?_eq_getElem hj, Option.map_some, Option.some.injEq] at e1
        refine lv_tableIn hx hb hd (fun q => hout (Or.inl q)) (fun q => hout (Or.inr q)) (off := offs.toList[(a.toInt - lo).toNat]) (by rw [← Array.getElem?_toList, List.getElem?_eq_getElem hol]) (tgt := ts[(a.toInt - lo).toNat]) e1 (go ?_)
        refine hs1.2 _ (List.mem_cons_of_mem _ (ab_sw_mem a lo L r h cs sl ts 0 (a.toInt - lo).toNat hj)) ?_
        show a.toInt = lo + _
        omega
    | dup =>
      obtain rfl : len = 1 := Nat.eq_of_beq_eq_true hlen
      match st, hs with
      | [], hs => exact (abv_no hs).elim
      | v :: r, hs =>
        obtain ⟨g1, k⟩ := abv_gc hs
        exact lv_dup hx hb hd (by rw [ab_cv_cat hvf]; exact g1) (go k)
    | dup2 =>
      obtain rfl : len = 1 := Nat.eq_of_beq_eq_true hlen
      match st, hs with
      | [], hs => exact (abv_no hs).elim
      | [_], hs => exact (abv_no hs).elim
      | v :: w :: r, hs =>
        obtain ⟨⟨g1, g2⟩, k⟩ := abv_gc hs
        exact lv_dup2_11 hx hb hd (by rw [ab_cv_cat hvf]; exact g1) (by rw [ab_cv_cat hvf]; exact g2) (go k)
    | pop =>
      obtain rfl : len = 1 := Nat.eq_of_beq_eq_true hlen
      match st, hs with
      | [], hs => exact (abv_no hs).elim
      | v :: r, hs =>
        obtain ⟨g1, k⟩ := abv_gc hs
        exact lv_pop hx hb hd (by rw [ab_cv_cat hvf]; exact g1) (go k)
    | invokestatic k =>
      obtain rfl : len = 3 := Nat.eq_of_beq_eq_true hlen
      match ts, hs, hw with
      | [], hs, hw => exact (abv_no hs).elim
      | [z], hs, hw => exact (abv_no hs).elim
      | z :: n :: t, hs, hw =>
        obtain ⟨⟨g1, g2⟩, mc, ms, g3, g4, g5⟩ := hs
        obtain ⟨d2, M2, rfl, m1, rfl, rfl, m5, m6⟩ := hC _ _ _ _ _ _ g5
        have m1 : ab_MT[x]? = some M2 := m1
        rw [m1] at hw
        have hl : (Cond.methodLink (ab_my M).cls k (ab_my M2) ∈ ab_TB ∨ Cond.methodLinkNest (ab_my M).cls k (ab_my M2) "SaintTheft" ∈ lw_tbl) ∧ ab_pn (ab_my M2) n = true ∧ ab_mk M2 = 0 := by
          match t, hw with
          | [], hw =>
            have hw : (ab_at z (.methodLink (ab_my M).cls k (ab_my M2)) && ab_pn (ab_my M2) n && Nat.beq (ab_mk M2) 0) = true := hw
            simp only [Bool.and_eq_true] at hw
            exact ⟨Or.inl (ab_at_in hw.1.1), hw.1.2, Nat.eq_of_beq_eq_true hw.2⟩
          | _ :: _, hw =>
            have hw : (ab_atN z (.methodLinkNest (ab_my M).cls k (ab_my M2) "SaintTheft") && ab_pn (ab_my M2) n && Nat.beq (ab_mk M2) 0) = true := hw
            simp only [Bool.and_eq_true] at hw
            exact ⟨Or.inr (ab_atN_in hw.1.1), hw.1.2, Nat.eq_of_beq_eq_true hw.2⟩
        rcases m6 with ⟨m2, m6⟩ | ⟨m2, m6⟩
        · exact ab_callS hX hS hR hL.1 m2 hl.2.2 hl.1 hl.2.1 hd g1 g2 m5 g3 g4 m6 (fun r h2 H1 locs1 a1 a2 a3 => a1 p e R s m args below meth c H1 locs1 ls Qw hX a3 a2 hL hQ)
        · exact ab_callM hX hS hR hL.1 m2 hl.1 hl.2.1 hd g1 g2 m5 g3 g4 m6 (fun r h2 H1 locs1 a1 a2 a3 => a1 p e R s m args below meth c H1 locs1 ls Qw hX a3 a2 hL hQ)
    | invokevirtual k =>
      obtain rfl : len = 3 := Nat.eq_of_beq_eq_true hlen
      match ts, hs, hw with
      | [], hs, hw => exact (abv_no hs).elim
      | [z], hs, hw => exact (abv_no hs).elim
      | z :: n :: t, hs, hw =>
        have hs2 : ab_all C M Q h cs sl (ab_Snd g l d M Q) (match st.drop n with
          | .ref c :: r => .inr (.inl ((n ≤ st.length ∧ ab_S h c = .inl y ∧ (r.map fun v => v.category).sum ≤ 8), x, .ref c :: (st.take n).reverse, fun mc ms v h => (pc + 3, L, v.toList ++ r, h, cs + mc, sl + ms)))
          | _ => ab_no) := hs
        match hdr : st.drop n, hs2 with
        | .ref b :: rest, hs2 =>
          obtain ⟨⟨g1, g0, g2⟩, mc, ms, g3, g4, g5⟩ := hs2
          obtain ⟨d2, M2, rfl, m1, rfl, rfl, m5, m6⟩ := hC _ _ _ _ _ _ g5
          have m1 : ab_MT[x]? = some M2 := m1
          rw [m1] at hw
          match t, hw with
          | [], hw =>
            have hw : (ab_at z (.methodLink (ab_my M).cls k (ab_my M2)) && ab_pn (ab_my M2) n && Nat.beq (ab_mk M2) 1 && decide (ab_cnm y = (ab_my M2).cls) && (decide (y < 12) || decide (y = 90))) = true := hw
            simp only [Bool.and_eq_true, Bool.or_eq_true, decide_eq_true_eq] at hw
            rcases m6 with ⟨m2, m6⟩ | ⟨m2, m6⟩
            case inr => exact absurd ((ab_mth_cls m2).2.1.symm.trans (Nat.eq_of_beq_eq_true hw.1.1.2)) (by decide)
            exact ab_callV hX hS hR hL.1 m2 (Nat.eq_of_beq_eq_true hw.1.1.2) (ab_at_in hw.1.1.1.1) hw.1.1.1.2 hd hw.2 hw.1.2 g0 (by simp; omega) (by rw [List.reverse_reverse, ← hdr, List.take_append_drop]) g2 m5 g3 g4 m6 (fun r h2 H1 locs1 a1 a2 a3 => a1 p e R s m args below meth c H1 locs1 ls Qw hX a3 a2 hL hQ)
        | [], hs2 => exact (abv_no hs2).elim
        | .int _ :: _, hs2 => exact (abv_no hs2).elim
        | .long _ :: _, hs2 => exact (abv_no hs2).elim
        | .float _ :: _, hs2 => exact (abv_no hs2).elim
        | .double _ :: _, hs2 => exact (abv_no hs2).elim
        | .null :: _, hs2 => exact (abv_no hs2).elim
        | .retAddr _ :: _, hs2 => exact (abv_no hs2).elim
    | invokespecial k =>
      obtain rfl : len = 3 := Nat.eq_of_beq_eq_true hlen
      match ts, hs, hw with
      | [], hs, hw => cases hw
      | [z], hs, hw =>
        obtain ⟨b, r, rfl, hs1⟩ := abv_pr hs
        obtain ⟨⟨g1, g2⟩, k2⟩ := abv_gc hs1
        have e1 : ab_cv g (.ref b) = .ref (ab_B g + b) := ab_rv_lt g1
        rw [List.map_cons, e1]
        have hsum := g2
        rw [← ab_cats hvf] at hsum
        exact W.objInit hx hb hown (hts _ (ab_at_in hw)) (hts _ (ab_at_in ab_obj0.1)) (hts _ (ab_at_in ab_obj0.2)) rfl (hL.1.trans hml.symm) rfl hd (by omega) (by show 2 * 0 + _ + 12 ≤ _; omega) (go k2)
      | z :: n :: t, hs, hw =>
        have hs2 : ab_all C M Q h cs sl (ab_Snd g l d M Q) (match st.drop n with
          | .ref c :: r => .inr (.inl ((n ≤ st.length ∧ c < 1000000 ∧ (r.map fun v => v.category).sum ≤ 8), x, .ref c :: (st.take n).reverse, fun mc ms v h => (pc + 3, L, v.toList ++ r, h, cs + mc, sl + ms)))
          | _ => ab_no) := hs
        match hdr : st.drop n, hs2 with
        | .ref b :: rest, hs2 =>
          obtain ⟨⟨g1, g0, g2⟩, mc, ms, g3, g4, g5⟩ := hs2
          obtain ⟨d2, M2, rfl, m1, rfl, rfl, m5, m6⟩ := hC _ _ _ _ _ _ g5
          have m1 : ab_MT[x]? = some M2 := m1
          rw [m1] at hw
          have hl : (Cond.methodLink (ab_my M).cls k (ab_my M2) ∈ ab_TB ∨ Cond.methodLinkNest (ab_my M).cls k (ab_my M2) "SaintTheft" ∈ lw_tbl) ∧ ab_pn (ab_my M2) n = true ∧ ab_mk M2 = 2 := by
            match t, hw with
            | [], hw =>
              have hw : (ab_at z (.methodLink (ab_my M).cls k (ab_my M2)) && ab_pn (ab_my M2) n && Nat.beq (ab_mk M2) 2) = true := hw
              simp only [Bool.and_eq_true] at hw
              exact ⟨Or.inl (ab_at_in hw.1.1), hw.1.2, Nat.eq_of_beq_eq_true hw.2⟩
            | _ :: _, hw =>
              have hw : (ab_atN z (.methodLinkNest (ab_my M).cls k (ab_my M2) "SaintTheft") && ab_pn (ab_my M2) n && Nat.beq (ab_mk M2) 2) = true := hw
              simp only [Bool.and_eq_true] at hw
              exact ⟨Or.inr (ab_atN_in hw.1.1), hw.1.2, Nat.eq_of_beq_eq_true hw.2⟩
          rcases m6 with ⟨m2, m6⟩ | ⟨m2, m6⟩
          case inr => exact absurd ((ab_mth_cls m2).2.1.symm.trans hl.2.2) (by decide)
          exact ab_callI hX hS hR hL.1 m2 hl.2.2 hl.1 hl.2.1 hd (by simp; omega) (by rw [List.reverse_reverse, ← hdr, List.take_append_drop]) g0 g2 m5 g3 g4 m6 (fun r h2 H1 locs1 a1 a2 a3 => a1 p e R s m args below meth c H1 locs1 ls Qw hX a3 a2 hL hQ)
        | [], hs2 => exact (abv_no hs2).elim
        | .int _ :: _, hs2 => exact (abv_no hs2).elim
        | .long _ :: _, hs2 => exact (abv_no hs2).elim
        | .float _ :: _, hs2 => exact (abv_no hs2).elim
        | .double _ :: _, hs2 => exact (abv_no hs2).elim
        | .null :: _, hs2 => exact (abv_no hs2).elim
        | .retAddr _ :: _, hs2 => exact (abv_no hs2).elim
    | ireturn =>
      obtain rfl : len = 1 := Nat.eq_of_beq_eq_true hlen
      dsimp only at hs
      split at hs
      · split at hs
        · rename_i v q ty hmr
          exact hQ pc ls H locs (some (.int v)) h cs sl ⟨hd, ty, hmr, hs.1.1⟩ hs.1.2.1 hs.1.2.2 hS hR hs.2
        · exact (abv_no hs).elim
      · exact (abv_no hs).elim
    | lreturn =>
      obtain rfl : len = 1 := Nat.eq_of_beq_eq_true hlen
      dsimp only at hs
      split at hs
      · split at hs
        · rename_i v q hmr
          exact hQ pc ls H locs (some (.long v)) h cs sl ⟨hd, hmr⟩ hs.1.1 hs.1.2 hS hR hs.2
        · exact (abv_no hs).elim
      · exact (abv_no hs).elim
    | areturn =>
      obtain rfl : len = 1 := Nat.eq_of_beq_eq_true hlen
      dsimp only at hs
      split at hs
      · split at hs
        · rename_i v q nn hmr
          exact hQ pc ls H locs (some (.ref v)) h cs sl ⟨hd, hs.1.1, nn, hmr⟩ hs.1.2.1 hs.1.2.2 hS hR hs.2
        · exact (abv_no hs).elim
      · exact (abv_no hs).elim
    | return_ =>
      obtain rfl : len = 1 := Nat.eq_of_beq_eq_true hlen
      dsimp only at hs
      split at hs
      · split at hs
        · rename_i hmr
          exact hQ pc ls H locs none h cs sl ⟨hd, hmr⟩ hs.1.1 hs.1.2 hS hR hs.2
        · exact (abv_no hs).elim
      · exact (abv_no hs).elim
    | _ => exact (abv_no hs).elim
set_option maxHeartbeats 4000000 in
/-- the machine does what the abstract machine does -/
theorem ab_sound {g : ab_W} {l : Launch} : ∀ (d : Nat) (M : ab_M) (Q : ab_Q) (t : ab_T), (ab_mo M).all (ab_ce M) = true → ab_lfp (ab_call ab_MT d) M Q t → ab_Snd g l d M Q t := by
  intro d
  induction d with
  | zero =>
    intro M Q t hce hl
    exact hl (ab_Snd g l 0 M Q) (ab_step_snd hce (fun _ _ _ _ _ _ h => h.elim))
  | succ d ih =>
    intro M Q t hce hl
    refine hl (ab_Snd g l (d + 1) M Q) (ab_step_snd hce (fun k As h mc ms Q2 hc => ?_))
    obtain ⟨M2, h1, h2, h3, h4, h5⟩ := hc
    refine ⟨d, M2, rfl, h1, h2, h3, h4, ?_⟩
    rcases ab_okT M2 (List.mem_of_getElem? h1) with hm | hm
    · exact Or.inl ⟨hm, ih M2 Q2 _ (ab_words hm).2.2.2.2.2.2.2.2 h5⟩
    · exact Or.inr ⟨hm, h5⟩
end
section
/-! the abstract machine's rows, for walking: one an instruction; the heap is (n, S, I, G, P) -/
def wr (I : Nat → Nat → Int32) (c k : Nat) (v : Int32) : Nat → Nat → Int32 := va_up I c (upd (I c) k v)
def wl (G : Nat → Nat → Int64) (c k : Nat) (v : Int64) : Nat → Nat → Int64 := va_up G c (vp_updL (G c) k v)
def wq (P : Nat → Nat → Option Nat) (c k : Nat) (v : Option Nat) : Nat → Nat → Option Nat := va_up P c (va_up (P c) k v)
theorem wr_at (I : Nat → Nat → Int32) (c k : Nat) (v : Int32) (c2 k2 : Nat) : wr I c k v c2 k2 = if c2 = c then (if k2 = k then v else I c k2) else I c2 k2 := by
  unfold wr va_up upd
  by_cases h : c2 = c
  · subst h; simp
  · simp [h]
theorem wl_at (G : Nat → Nat → Int64) (c k : Nat) (v : Int64) (c2 k2 : Nat) : wl G c k v c2 k2 = if c2 = c then (if k2 = k then v else G c k2) else G c2 k2 := by
  unfold wl va_up vp_updL
  by_cases h : c2 = c
  · subst h; simp
  · simp [h]
theorem wq_at (P : Nat → Nat → Option Nat) (c k : Nat) (v : Option Nat) (c2 k2 : Nat) : wq P c k v c2 k2 = if c2 = c then (if k2 = k then v else P c k2) else P c2 k2 := by
  unfold wq va_up
  by_cases h : c2 = c
  · subst h; simp
  · simp [h]
abbrev WP (d : Nat) (M : ab_M) (Q : ab_Q) (pc : Nat) (L : ab_Lo) (st : List Value) (h : ab_H) (cs sl : Nat) : Prop := ab_wp ab_MT d M Q pc L st h cs sl
section WX
variable {d : Nat} {M : ab_M} {Q : ab_Q} {pc e x y cs sl : Nat} {L L2 : ab_Lo} {r : List Value} {n : Nat} {S : Nat → ab_Sh} {I : Nat → Nat → Int32} {G : Nat → Nat → Int64} {P : Nat → Nat → Option Nat} {h : ab_H} {ts : List Nat}
theorem wx_one {t : ab_T} {st : List Value} (hs : ab_step M pc L st h cs sl = ab_go t) (k : ab_lfp (ab_call ab_MT d) M Q t) : WP d M Q pc L st h cs sl := ab_mk_ (by
  rw [hs]
  refine ⟨trivial, fun q hq _ => ?_⟩
  rcases List.mem_singleton.mp hq with rfl
  exact k)
theorem wx_chk {t : ab_T} {g : Prop} {st : List Value} (hs : ab_step M pc L st h cs sl = ab_gc g t) (hg : g) (k : ab_lfp (ab_call ab_MT d) M Q t) : WP d M Q pc L st h cs sl := ab_mk_ (by
  rw [hs]
  refine ⟨hg, fun q hq _ => ?_⟩
  rcases List.mem_singleton.mp hq with rfl
  exact k)
theorem wx_brs {t1 t2 : ab_T} {g : Prop} {st : List Value} (hs : ab_step M pc L st h cs sl = ab_br g t1 t2) (k1 : g → ab_lfp (ab_call ab_MT d) M Q t1) (k2 : ¬ g → ab_lfp (ab_call ab_MT d) M Q t2) : WP d M Q pc L st h cs sl := ab_mk_ (by
  rw [hs]
  refine ⟨trivial, fun q hq hg => ?_⟩
  rcases List.mem_cons.mp hq with rfl | hq
  · exact k1 hg
  · rcases List.mem_singleton.mp hq with rfl
    exact k2 hg)
theorem wx_iload {i : Nat} {v : Int32} {st : List Value} (hf : ab_find pc (ab_mo M) = some (.iload i, 2, x, y, ts)) (he : pc + 2 = e) (hl : L[i]? = some (some (.int v))) (k : WP d M Q e L (.int v :: st) h cs sl) : WP d M Q pc L st h cs sl := by
  subst he
  exact wx_one (by unfold ab_step; rw [hf]; show ab_li L i _ = _; unfold ab_li; rw [hl]) k
theorem wx_iload_n {i : Fin 4} {v : Int32} {st : List Value} (hf : ab_find pc (ab_mo M) = some (.iload_n i, 1, x, y, ts)) (he : pc + 1 = e) (hl : L[i.val]? = some (some (.int v))) (k : WP d M Q e L (.int v :: st) h cs sl) : WP d M Q pc L st h cs sl := by
  subst he
  exact wx_one (by unfold ab_step; rw [hf]; show ab_li L i.val _ = _; unfold ab_li; rw [hl]) k
theorem wx_lload {i : Nat} {v : Int64} {st : List Value} (hf : ab_find pc (ab_mo M) = some (.lload i, 2, x, y, ts)) (he : pc + 2 = e) (hl : L[i]? = some (some (.long v))) (k : WP d M Q e L (.long v :: st) h cs sl) : WP d M Q pc L st h cs sl := by
  subst he
  exact wx_one (by unfold ab_step; rw [hf]; show ab_ll L i _ = _; unfold ab_ll; rw [hl]) k
theorem wx_lload_n {i : Fin 4} {v : Int64} {st : List Value} (hf : ab_find pc (ab_mo M) = some (.lload_n i, 1, x, y, ts)) (he : pc + 1 = e) (hl : L[i.val]? = some (some (.long v))) (k : WP d M Q e L (.long v :: st) h cs sl) : WP d M Q pc L st h cs sl := by
  subst he
  exact wx_one (by unfold ab_step; rw [hf]; show ab_ll L i.val _ = _; unfold ab_ll; rw [hl]) k
theorem wx_aload {i : Nat} {v : Nat} {st : List Value} (hf : ab_find pc (ab_mo M) = some (.aload i, 2, x, y, ts)) (he : pc + 2 = e) (hl : L[i]? = some (some (.ref v))) (k : WP d M Q e L (.ref v :: st) h cs sl) : WP d M Q pc L st h cs sl := by
  subst he
  exact wx_one (by unfold ab_step; rw [hf]; show ab_lr L i _ = _; unfold ab_lr; rw [hl]) k
theorem wx_aload_n {i : Fin 4} {v : Nat} {st : List Value} (hf : ab_find pc (ab_mo M) = some (.aload_n i, 1, x, y, ts)) (he : pc + 1 = e) (hl : L[i.val]? = some (some (.ref v))) (k : WP d M Q e L (.ref v :: st) h cs sl) : WP d M Q pc L st h cs sl := by
  subst he
  exact wx_one (by unfold ab_step; rw [hf]; show ab_lr L i.val _ = _; unfold ab_lr; rw [hl]) k
theorem wx_istore {i : Nat} {v : Int32} (hf : ab_find pc (ab_mo M) = some (.istore i, 2, x, y, ts)) (he : pc + 2 = e) (hg : i < ab_ml M) (hL : ab_s1 L i (.int v) = L2) (k : WP d M Q e L2 r h cs sl) : WP d M Q pc L (.int v :: r) h cs sl := by
  subst he
  subst hL
  exact wx_chk (by unfold ab_step; rw [hf]; try rfl) hg k
theorem wx_istore_n {i : Fin 4} {v : Int32} (hf : ab_find pc (ab_mo M) = some (.istore_n i, 1, x, y, ts)) (he : pc + 1 = e) (hg : i.val < ab_ml M) (hL : ab_s1 L i.val (.int v) = L2) (k : WP d M Q e L2 r h cs sl) : WP d M Q pc L (.int v :: r) h cs sl := by
  subst he
  subst hL
  exact wx_chk (by unfold ab_step; rw [hf]; try rfl) hg k
theorem wx_lstore {i : Nat} {v : Int64} (hf : ab_find pc (ab_mo M) = some (.lstore i, 2, x, y, ts)) (he : pc + 2 = e) (hg : i + 1 < ab_ml M) (hL : ab_s2 L i (.long v) = L2) (k : WP d M Q e L2 r h cs sl) : WP d M Q pc L (.long v :: r) h cs sl := by
  subst he
  subst hL
  exact wx_chk (by unfold ab_step; rw [hf]; try rfl) hg k
theorem wx_lstore_n {i : Fin 4} {v : Int64} (hf : ab_find pc (ab_mo M) = some (.lstore_n i, 1, x, y, ts)) (he : pc + 1 = e) (hg : i.val + 1 < ab_ml M) (hL : ab_s2 L i.val (.long v) = L2) (k : WP d M Q e L2 r h cs sl) : WP d M Q pc L (.long v :: r) h cs sl := by
  subst he
  subst hL
  exact wx_chk (by unfold ab_step; rw [hf]; try rfl) hg k
theorem wx_astore {i : Nat} {v : Nat} (hf : ab_find pc (ab_mo M) = some (.astore i, 2, x, y, ts)) (he : pc + 2 = e) (hg : v < 1000000 ∧ i < ab_ml M) (hL : ab_s1 L i (.ref v) = L2) (k : WP d M Q e L2 r h cs sl) : WP d M Q pc L (.ref v :: r) h cs sl := by
  subst he
  subst hL
  exact wx_chk (by unfold ab_step; rw [hf]; try rfl) hg k
theorem wx_astore_n {i : Fin 4} {v : Nat} (hf : ab_find pc (ab_mo M) = some (.astore_n i, 1, x, y, ts)) (he : pc + 1 = e) (hg : v < 1000000 ∧ i.val < ab_ml M) (hL : ab_s1 L i.val (.ref v) = L2) (k : WP d M Q e L2 r h cs sl) : WP d M Q pc L (.ref v :: r) h cs sl := by
  subst he
  subst hL
  exact wx_chk (by unfold ab_step; rw [hf]; try rfl) hg k
theorem wx_iinc {i : Nat} {m : Int} {v : Int32} {st : List Value} (hf : ab_find pc (ab_mo M) = some (.iinc i m, 3, x, y, ts)) (he : pc + 3 = e) (hl : L[i]? = some (some (.int v))) (hg : i < ab_ml M) (hL : ab_s1 L i (.int (v + Int32.ofInt m)) = L2) (k : WP d M Q e L2 st h cs sl) : WP d M Q pc L st h cs sl := by
  subst he
  subst hL
  exact wx_chk (by unfold ab_step; rw [hf]; show ab_li L i _ = _; unfold ab_li; rw [hl]) hg k
theorem wx_iconst {m : Int} {v : Int32} {st : List Value} (hf : ab_find pc (ab_mo M) = some (.iconst m, 1, x, y, ts)) (he : pc + 1 = e) (hv : Int32.ofInt m = v) (k : WP d M Q e L (.int v :: st) h cs sl) : WP d M Q pc L st h cs sl := by
  subst he
  subst hv
  exact wx_one (by unfold ab_step; rw [hf]; try rfl) k
theorem wx_bipush {m : Int} {v : Int32} {st : List Value} (hf : ab_find pc (ab_mo M) = some (.bipush m, 2, x, y, ts)) (he : pc + 2 = e) (hv : (Int8.ofInt m).toInt32 = v) (k : WP d M Q e L (.int v :: st) h cs sl) : WP d M Q pc L st h cs sl := by
  subst he
  subst hv
  exact wx_one (by unfold ab_step; rw [hf]; try rfl) k
theorem wx_sipush {m : Int} {v : Int32} {st : List Value} (hf : ab_find pc (ab_mo M) = some (.sipush m, 3, x, y, ts)) (he : pc + 3 = e) (hv : (Int16.ofInt m).toInt32 = v) (k : WP d M Q e L (.int v :: st) h cs sl) : WP d M Q pc L st h cs sl := by
  subst he
  subst hv
  exact wx_one (by unfold ab_step; rw [hf]; try rfl) k
theorem wx_lconst {m : Fin 2} {v : Int64} {st : List Value} (hf : ab_find pc (ab_mo M) = some (.lconst m, 1, x, y, ts)) (he : pc + 1 = e) (hv : Int64.ofNat m.val = v) (k : WP d M Q e L (.long v :: st) h cs sl) : WP d M Q pc L st h cs sl := by
  subst he
  subst hv
  exact wx_one (by unfold ab_step; rw [hf]; try rfl) k
theorem wx_ldc {m z : Nat} {v : Int32} {st : List Value} (hf : ab_find pc (ab_mo M) = some (.ldc m, 2, x, y, [z])) (he : pc + 2 = e) (hv : Int32.ofNat x = v) (k : WP d M Q e L (.int v :: st) h cs sl) : WP d M Q pc L st h cs sl := by
  subst he
  subst hv
  exact wx_one (by unfold ab_step; rw [hf]; try rfl) k
theorem wx_ldcs {m z z2 : Nat} {st : List Value} (hf : ab_find pc (ab_mo M) = some (.ldc m, 2, x, y, [z, z2])) (he : pc + 2 = e) (k : WP d M Q e L (.ref x :: st) h cs sl) : WP d M Q pc L st h cs sl := by
  subst he
  exact wx_one (by unfold ab_step; rw [hf]; try rfl) k
theorem wx_ldcw {m : Nat} {v : Int32} {st : List Value} (hf : ab_find pc (ab_mo M) = some (.ldc_w m, 3, x, y, ts)) (he : pc + 3 = e) (hv : Int32.ofNat x = v) (k : WP d M Q e L (.int v :: st) h cs sl) : WP d M Q pc L st h cs sl := by
  subst he
  subst hv
  exact wx_one (by unfold ab_step; rw [hf]; try rfl) k
theorem wx_ldc2 {m : Nat} {v : Int64} {st : List Value} (hf : ab_find pc (ab_mo M) = some (.ldc2_w m, 3, x, y, ts)) (he : pc + 3 = e) (hv : Int64.ofNat x = v) (k : WP d M Q e L (.long v :: st) h cs sl) : WP d M Q pc L st h cs sl := by
  subst he
  subst hv
  exact wx_one (by unfold ab_step; rw [hf]; try rfl) k
theorem wx_gets {m z : Nat} {st : List Value} (hf : ab_find pc (ab_mo M) = some (.getstatic m, 3, x, y, [z])) (he : pc + 3 = e) (k : WP d M Q e L (.int 1 :: st) h cs sl) : WP d M Q pc L st h cs sl := by
  subst he
  exact wx_one (by unfold ab_step; rw [hf]; try rfl) k
theorem wx_gets2 {m z z2 : Nat} {st : List Value} (hf : ab_find pc (ab_mo M) = some (.getstatic m, 3, x, y, [z, z2])) (he : pc + 3 = e) (k : WP d M Q e L (.ref 1000020 :: st) h cs sl) : WP d M Q pc L st h cs sl := by
  subst he
  exact wx_one (by unfold ab_step; rw [hf]; try rfl) k
theorem wx_geti {m z c : Nat} (hf : ab_find pc (ab_mo M) = some (.getfield m, 3, x, y, [z])) (he : pc + 3 = e) (hS : S c = .inl x) (k : WP d M Q e L (.int (I c y) :: r) (n, S, I, G, P) cs sl) : WP d M Q pc L (.ref c :: r) (n, S, I, G, P) cs sl := by
  subst he
  exact wx_chk (by unfold ab_step; rw [hf]; try rfl) hS k
theorem wx_getr {m z z2 c v : Nat} (hf : ab_find pc (ab_mo M) = some (.getfield m, 3, x, y, [z, z2])) (he : pc + 3 = e) (hS : S c = .inl x) (hP : P c y = some v) (k : WP d M Q e L (.ref v :: r) (n, S, I, G, P) cs sl) : WP d M Q pc L (.ref c :: r) (n, S, I, G, P) cs sl := by
  subst he
  refine wx_chk (by unfold ab_step; rw [hf]; try rfl) hS ?_
  show WP d M Q (pc + 3) L (ab_rf (P c y) :: r) (n, S, I, G, P) cs sl
  rw [hP]
  exact k
theorem wx_puti {m z c : Nat} {v : Int32} (hf : ab_find pc (ab_mo M) = some (.putfield m, 3, x, y, [z])) (he : pc + 3 = e) (hS : S c = .inl x) (hc : c < 1000000) (k : WP d M Q e L r (n, S, wr I c y v, G, P) cs sl) : WP d M Q pc L (.int v :: .ref c :: r) (n, S, I, G, P) cs sl := by
  subst he
  exact wx_chk (g := S c = .inl x ∧ c < 1000000 ∧ narrow .int (.int v) = .int v) (by unfold ab_step; rw [hf]; try rfl) ⟨hS, hc, rfl⟩ k
theorem wx_putz {m z z2 c : Nat} {v : Int32} (hf : ab_find pc (ab_mo M) = some (.putfield m, 3, x, y, [z, z2])) (he : pc + 3 = e) (hS : S c = .inl x) (hc : c < 1000000) (hv : v = 0 ∨ v = 1) (k : WP d M Q e L r (n, S, wr I c y v, G, P) cs sl) : WP d M Q pc L (.int v :: .ref c :: r) (n, S, I, G, P) cs sl := by
  subst he
  exact wx_chk (g := S c = .inl x ∧ c < 1000000 ∧ (v = 0 ∨ v = 1)) (by unfold ab_step; rw [hf]; try rfl) ⟨hS, hc, hv⟩ k
theorem wx_putr {m z z2 z3 c v : Nat} (hf : ab_find pc (ab_mo M) = some (.putfield m, 3, x, y, [z, z2, z3])) (he : pc + 3 = e) (hS : S c = .inl x) (hc : c < 1000000) (hv : v < 1000000) (k : WP d M Q e L r (n, S, I, G, wq P c y (some v)) cs sl) : WP d M Q pc L (.ref v :: .ref c :: r) (n, S, I, G, P) cs sl := by
  subst he
  exact wx_chk (g := S c = .inl x ∧ c < 1000000 ∧ v < 1000000) (by unfold ab_step; rw [hf]; try rfl) ⟨hS, hc, hv⟩ k
theorem wx_alen {c N : Nat} {ty : FieldType} {v : Int32} (hf : ab_find pc (ab_mo M) = some (.arraylength, 1, x, y, ts)) (he : pc + 1 = e) (hS : S c = .inr (ty, N)) (hg : ty = .int ∨ ty = .byte ∨ ty = .boolean ∨ ty = .long) (hv : Int32.ofNat N = v) (k : WP d M Q e L (.int v :: r) (n, S, I, G, P) cs sl) : WP d M Q pc L (.ref c :: r) (n, S, I, G, P) cs sl := by
  subst he
  subst hv
  refine wx_chk (t := (pc + 1, L, .int (Int32.ofNat N) :: r, (n, S, I, G, P), cs, sl)) (by unfold ab_step; rw [hf]; show (match S c with | .inr (ty, n) => _ | _ => _) = _; rw [hS]) hg k
theorem wx_iald {c N : Nat} {j : Int32} (hf : ab_find pc (ab_mo M) = some (.iaload, 1, x, y, ts)) (he : pc + 1 = e) (hS : S c = .inr (.int, N)) (hg : vp_in j N) (k : WP d M Q e L (.int (I c j.toNatClampNeg) :: r) (n, S, I, G, P) cs sl) : WP d M Q pc L (.int j :: .ref c :: r) (n, S, I, G, P) cs sl := by
  subst he
  refine wx_chk (t := (pc + 1, L, .int (I c j.toNatClampNeg) :: r, (n, S, I, G, P), cs, sl)) (by unfold ab_step; rw [hf]; show (match S c with | .inr (.int, n) => _ | _ => _) = _; rw [hS]) hg k
theorem wx_bald {c N : Nat} {j : Int32} (hf : ab_find pc (ab_mo M) = some (.baload, 1, x, y, ts)) (he : pc + 1 = e) (hS : S c = .inr (.byte, N)) (hg : vp_in j N) (k : WP d M Q e L (.int (I c j.toNatClampNeg) :: r) (n, S, I, G, P) cs sl) : WP d M Q pc L (.int j :: .ref c :: r) (n, S, I, G, P) cs sl := by
  subst he
  refine wx_chk (t := (pc + 1, L, .int (I c j.toNatClampNeg) :: r, (n, S, I, G, P), cs, sl)) (by unfold ab_step; rw [hf]; show (match S c with | .inr (.byte, n) => _ | .inr (.boolean, n) => _ | _ => _) = _; rw [hS]) hg k
theorem wx_zald {c N : Nat} {j : Int32} (hf : ab_find pc (ab_mo M) = some (.baload, 1, x, y, ts)) (he : pc + 1 = e) (hS : S c = .inr (.boolean, N)) (hg : vp_in j N) (k : WP d M Q e L (.int (I c j.toNatClampNeg) :: r) (n, S, I, G, P) cs sl) : WP d M Q pc L (.int j :: .ref c :: r) (n, S, I, G, P) cs sl := by
  subst he
  refine wx_chk (t := (pc + 1, L, .int (I c j.toNatClampNeg) :: r, (n, S, I, G, P), cs, sl)) (by unfold ab_step; rw [hf]; show (match S c with | .inr (.byte, n) => _ | .inr (.boolean, n) => _ | _ => _) = _; rw [hS]) hg k
theorem wx_lald {c N : Nat} {j : Int32} (hf : ab_find pc (ab_mo M) = some (.laload, 1, x, y, ts)) (he : pc + 1 = e) (hS : S c = .inr (.long, N)) (hg : vp_in j N) (k : WP d M Q e L (.long (G c j.toNatClampNeg) :: r) (n, S, I, G, P) cs sl) : WP d M Q pc L (.int j :: .ref c :: r) (n, S, I, G, P) cs sl := by
  subst he
  refine wx_chk (t := (pc + 1, L, .long (G c j.toNatClampNeg) :: r, (n, S, I, G, P), cs, sl)) (by unfold ab_step; rw [hf]; show (match S c with | .inr (.long, n) => _ | _ => _) = _; rw [hS]) hg k
theorem wx_iast {c N : Nat} {j : Int32} {v : Int32} (hf : ab_find pc (ab_mo M) = some (.iastore, 1, x, y, ts)) (he : pc + 1 = e) (hS : S c = .inr (.int, N)) (hc : c < 1000000) (hg : vp_in j N) (k : WP d M Q e L r (n, S, wr I c j.toNatClampNeg v, G, P) cs sl) : WP d M Q pc L (.int v :: .int j :: .ref c :: r) (n, S, I, G, P) cs sl := by
  subst he
  refine wx_chk (g := c < 1000000 ∧ vp_in j N) (t := (pc + 1, L, r, (n, S, wr I c j.toNatClampNeg v, G, P), cs, sl)) (by unfold ab_step; rw [hf]; show (match S c with | .inr (.int, n) => _ | _ => _) = _; rw [hS]; try rfl) ⟨hc, hg⟩ k
theorem wx_bast {c N : Nat} {j : Int32} {v : Int32} (hf : ab_find pc (ab_mo M) = some (.bastore, 1, x, y, ts)) (he : pc + 1 = e) (hS : S c = .inr (.byte, N)) (hc : c < 1000000) (hg : vp_in j N) (k : WP d M Q e L r (n, S, wr I c j.toNatClampNeg (vp_nar .byte v), G, P) cs sl) : WP d M Q pc L (.int v :: .int j :: .ref c :: r) (n, S, I, G, P) cs sl := by
  subst he
  refine wx_chk (g := c < 1000000 ∧ vp_in j N) (t := (pc + 1, L, r, (n, S, wr I c j.toNatClampNeg (vp_nar .byte v), G, P), cs, sl)) (by unfold ab_step; rw [hf]; show (match S c with | .inr (.byte, n) => _ | .inr (.boolean, n) => _ | _ => _) = _; rw [hS]; try rfl) ⟨hc, hg⟩ k
theorem wx_zast {c N : Nat} {j : Int32} {v : Int32} (hf : ab_find pc (ab_mo M) = some (.bastore, 1, x, y, ts)) (he : pc + 1 = e) (hS : S c = .inr (.boolean, N)) (hc : c < 1000000) (hg : vp_in j N) (k : WP d M Q e L r (n, S, wr I c j.toNatClampNeg (vp_nar .boolean v), G, P) cs sl) : WP d M Q pc L (.int v :: .int j :: .ref c :: r) (n, S, I, G, P) cs sl := by
  subst he
  refine wx_chk (g := c < 1000000 ∧ vp_in j N) (t := (pc + 1, L, r, (n, S, wr I c j.toNatClampNeg (vp_nar .boolean v), G, P), cs, sl)) (by unfold ab_step; rw [hf]; show (match S c with | .inr (.byte, n) => _ | .inr (.boolean, n) => _ | _ => _) = _; rw [hS]; try rfl) ⟨hc, hg⟩ k
theorem wx_last {c N : Nat} {j : Int32} {v : Int64} (hf : ab_find pc (ab_mo M) = some (.lastore, 1, x, y, ts)) (he : pc + 1 = e) (hS : S c = .inr (.long, N)) (hc : c < 1000000) (hg : vp_in j N) (k : WP d M Q e L r (n, S, I, wl G c j.toNatClampNeg v, P) cs sl) : WP d M Q pc L (.long v :: .int j :: .ref c :: r) (n, S, I, G, P) cs sl := by
  subst he
  refine wx_chk (g := c < 1000000 ∧ vp_in j N) (t := (pc + 1, L, r, (n, S, I, wl G c j.toNatClampNeg v, P), cs, sl)) (by unfold ab_step; rw [hf]; show (match S c with | .inr (.long, n) => _ | _ => _) = _; rw [hS]; try rfl) ⟨hc, hg⟩ k
theorem wx_iadd {a b : Int32} (hf : ab_find pc (ab_mo M) = some (.iadd, 1, x, y, ts)) (he : pc + 1 = e) (k : WP d M Q e L (.int (a + b) :: r) h cs sl) : WP d M Q pc L (.int b :: .int a :: r) h cs sl := by
  subst he
  exact wx_one (by unfold ab_step; rw [hf]; try rfl) k
theorem wx_isub {a b : Int32} (hf : ab_find pc (ab_mo M) = some (.isub, 1, x, y, ts)) (he : pc + 1 = e) (k : WP d M Q e L (.int (a - b) :: r) h cs sl) : WP d M Q pc L (.int b :: .int a :: r) h cs sl := by
  subst he
  exact wx_one (by unfold ab_step; rw [hf]; try rfl) k
theorem wx_imul {a b : Int32} (hf : ab_find pc (ab_mo M) = some (.imul, 1, x, y, ts)) (he : pc + 1 = e) (k : WP d M Q e L (.int (a * b) :: r) h cs sl) : WP d M Q pc L (.int b :: .int a :: r) h cs sl := by
  subst he
  exact wx_one (by unfold ab_step; rw [hf]; try rfl) k
theorem wx_iand {a b : Int32} (hf : ab_find pc (ab_mo M) = some (.iand, 1, x, y, ts)) (he : pc + 1 = e) (k : WP d M Q e L (.int (a &&& b) :: r) h cs sl) : WP d M Q pc L (.int b :: .int a :: r) h cs sl := by
  subst he
  exact wx_one (by unfold ab_step; rw [hf]; try rfl) k
theorem wx_ior {a b : Int32} (hf : ab_find pc (ab_mo M) = some (.ior, 1, x, y, ts)) (he : pc + 1 = e) (k : WP d M Q e L (.int (a ||| b) :: r) h cs sl) : WP d M Q pc L (.int b :: .int a :: r) h cs sl := by
  subst he
  exact wx_one (by unfold ab_step; rw [hf]; try rfl) k
theorem wx_ixor {a b : Int32} (hf : ab_find pc (ab_mo M) = some (.ixor, 1, x, y, ts)) (he : pc + 1 = e) (k : WP d M Q e L (.int (a ^^^ b) :: r) h cs sl) : WP d M Q pc L (.int b :: .int a :: r) h cs sl := by
  subst he
  exact wx_one (by unfold ab_step; rw [hf]; try rfl) k
theorem wx_ishl {a b : Int32} (hf : ab_find pc (ab_mo M) = some (.ishl, 1, x, y, ts)) (he : pc + 1 = e) (k : WP d M Q e L (.int (a <<< (b &&& 31)) :: r) h cs sl) : WP d M Q pc L (.int b :: .int a :: r) h cs sl := by
  subst he
  exact wx_one (by unfold ab_step; rw [hf]; try rfl) k
theorem wx_ishr {a b : Int32} (hf : ab_find pc (ab_mo M) = some (.ishr, 1, x, y, ts)) (he : pc + 1 = e) (k : WP d M Q e L (.int (a >>> (b &&& 31)) :: r) h cs sl) : WP d M Q pc L (.int b :: .int a :: r) h cs sl := by
  subst he
  exact wx_one (by unfold ab_step; rw [hf]; try rfl) k
theorem wx_iushr {a b : Int32} (hf : ab_find pc (ab_mo M) = some (.iushr, 1, x, y, ts)) (he : pc + 1 = e) (k : WP d M Q e L (.int ((a.toUInt32 >>> (b.toUInt32 &&& Int32.toUInt32 31)).toInt32) :: r) h cs sl) : WP d M Q pc L (.int b :: .int a :: r) h cs sl := by
  subst he
  exact wx_one (by unfold ab_step; rw [hf]; try rfl) k
theorem wx_idiv {a b : Int32} (hf : ab_find pc (ab_mo M) = some (.idiv, 1, x, y, ts)) (he : pc + 1 = e) (hg : ¬ b = 0) (k : WP d M Q e L (.int (a / b) :: r) h cs sl) : WP d M Q pc L (.int b :: .int a :: r) h cs sl := by
  subst he
  exact wx_chk (by unfold ab_step; rw [hf]; try rfl) hg k
theorem wx_irem {a b : Int32} (hf : ab_find pc (ab_mo M) = some (.irem, 1, x, y, ts)) (he : pc + 1 = e) (hg : ¬ b = 0) (k : WP d M Q e L (.int (a - a / b * b) :: r) h cs sl) : WP d M Q pc L (.int b :: .int a :: r) h cs sl := by
  subst he
  exact wx_chk (by unfold ab_step; rw [hf]; try rfl) hg k
theorem wx_ladd {a b : Int64} (hf : ab_find pc (ab_mo M) = some (.ladd, 1, x, y, ts)) (he : pc + 1 = e) (k : WP d M Q e L (.long (a + b) :: r) h cs sl) : WP d M Q pc L (.long b :: .long a :: r) h cs sl := by
  subst he
  exact wx_one (by unfold ab_step; rw [hf]; try rfl) k
theorem wx_lmul {a b : Int64} (hf : ab_find pc (ab_mo M) = some (.lmul, 1, x, y, ts)) (he : pc + 1 = e) (k : WP d M Q e L (.long (a * b) :: r) h cs sl) : WP d M Q pc L (.long b :: .long a :: r) h cs sl := by
  subst he
  exact wx_one (by unfold ab_step; rw [hf]; try rfl) k
theorem wx_ldiv {a b : Int64} (hf : ab_find pc (ab_mo M) = some (.ldiv, 1, x, y, ts)) (he : pc + 1 = e) (hg : ¬ b = 0) (k : WP d M Q e L (.long (a / b) :: r) h cs sl) : WP d M Q pc L (.long b :: .long a :: r) h cs sl := by
  subst he
  exact wx_chk (by unfold ab_step; rw [hf]; try rfl) hg k
theorem wx_lrem {a b : Int64} (hf : ab_find pc (ab_mo M) = some (.lrem, 1, x, y, ts)) (he : pc + 1 = e) (hg : ¬ b = 0) (k : WP d M Q e L (.long (a - a / b * b) :: r) h cs sl) : WP d M Q pc L (.long b :: .long a :: r) h cs sl := by
  subst he
  exact wx_chk (by unfold ab_step; rw [hf]; try rfl) hg k
theorem wx_lcmp {a b : Int64} (hf : ab_find pc (ab_mo M) = some (.lcmp, 1, x, y, ts)) (he : pc + 1 = e) (k : WP d M Q e L (.int (lg_cmp a b) :: r) h cs sl) : WP d M Q pc L (.long b :: .long a :: r) h cs sl := by
  subst he
  exact wx_one (by unfold ab_step; rw [hf]; try rfl) k
theorem wx_i2l {a : Int32} (hf : ab_find pc (ab_mo M) = some (.i2l, 1, x, y, ts)) (he : pc + 1 = e) (k : WP d M Q e L (.long (a.toInt64) :: r) h cs sl) : WP d M Q pc L (.int a :: r) h cs sl := by
  subst he
  exact wx_one (by unfold ab_step; rw [hf]; try rfl) k
theorem wx_l2i {a : Int64} (hf : ab_find pc (ab_mo M) = some (.l2i, 1, x, y, ts)) (he : pc + 1 = e) (k : WP d M Q e L (.int (a.toInt32) :: r) h cs sl) : WP d M Q pc L (.long a :: r) h cs sl := by
  subst he
  exact wx_one (by unfold ab_step; rw [hf]; try rfl) k
theorem wx_i2b {a : Int32} (hf : ab_find pc (ab_mo M) = some (.i2b, 1, x, y, ts)) (he : pc + 1 = e) (k : WP d M Q e L (.int (a.toInt8.toInt32) :: r) h cs sl) : WP d M Q pc L (.int a :: r) h cs sl := by
  subst he
  exact wx_one (by unfold ab_step; rw [hf]; try rfl) k
theorem wx_i2c {a : Int32} (hf : ab_find pc (ab_mo M) = some (.i2c, 1, x, y, ts)) (he : pc + 1 = e) (k : WP d M Q e L (.int ((a.toUInt32 % 65536).toInt32) :: r) h cs sl) : WP d M Q pc L (.int a :: r) h cs sl := by
  subst he
  exact wx_one (by unfold ab_step; rw [hf]; try rfl) k
theorem wx_if_eq {a : Int32} {off : Int} (hf : ab_find pc (ab_mo M) = some (.ifCond .eq off, 3, x, y, ts)) (he : pc + 3 = e) (k1 : a = 0 → WP d M Q x L r h cs sl) (k2 : ¬ a = 0 → WP d M Q e L r h cs sl) : WP d M Q pc L (.int a :: r) h cs sl := by
  subst he
  exact wx_brs (by unfold ab_step; rw [hf]; try rfl) k1 (fun z => (k2 z))
theorem wx_ic_eq {a b : Int32} {off : Int} (hf : ab_find pc (ab_mo M) = some (.if_icmp .eq off, 3, x, y, ts)) (he : pc + 3 = e) (k1 : a = b → WP d M Q x L r h cs sl) (k2 : ¬ a = b → WP d M Q e L r h cs sl) : WP d M Q pc L (.int b :: .int a :: r) h cs sl := by
  subst he
  exact wx_brs (by unfold ab_step; rw [hf]; try rfl) k1 (fun z => (k2 z))
theorem wx_if_ne {a : Int32} {off : Int} (hf : ab_find pc (ab_mo M) = some (.ifCond .ne off, 3, x, y, ts)) (he : pc + 3 = e) (k1 : ¬ a = 0 → WP d M Q x L r h cs sl) (k2 : a = 0 → WP d M Q e L r h cs sl) : WP d M Q pc L (.int a :: r) h cs sl := by
  subst he
  exact wx_brs (by unfold ab_step; rw [hf]; try rfl) k1 (fun z => (k2 (Classical.not_not.mp z)))
theorem wx_ic_ne {a b : Int32} {off : Int} (hf : ab_find pc (ab_mo M) = some (.if_icmp .ne off, 3, x, y, ts)) (he : pc + 3 = e) (k1 : ¬ a = b → WP d M Q x L r h cs sl) (k2 : a = b → WP d M Q e L r h cs sl) : WP d M Q pc L (.int b :: .int a :: r) h cs sl := by
  subst he
  exact wx_brs (by unfold ab_step; rw [hf]; try rfl) k1 (fun z => (k2 (Classical.not_not.mp z)))
theorem wx_if_lt {a : Int32} {off : Int} (hf : ab_find pc (ab_mo M) = some (.ifCond .lt off, 3, x, y, ts)) (he : pc + 3 = e) (k1 : a < 0 → WP d M Q x L r h cs sl) (k2 : ¬ a < 0 → WP d M Q e L r h cs sl) : WP d M Q pc L (.int a :: r) h cs sl := by
  subst he
  exact wx_brs (by unfold ab_step; rw [hf]; try rfl) k1 (fun z => (k2 z))
theorem wx_ic_lt {a b : Int32} {off : Int} (hf : ab_find pc (ab_mo M) = some (.if_icmp .lt off, 3, x, y, ts)) (he : pc + 3 = e) (k1 : a < b → WP d M Q x L r h cs sl) (k2 : ¬ a < b → WP d M Q e L r h cs sl) : WP d M Q pc L (.int b :: .int a :: r) h cs sl := by
  subst he
  exact wx_brs (by unfold ab_step; rw [hf]; try rfl) k1 (fun z => (k2 z))
theorem wx_if_ge {a : Int32} {off : Int} (hf : ab_find pc (ab_mo M) = some (.ifCond .ge off, 3, x, y, ts)) (he : pc + 3 = e) (k1 : 0 ≤ a → WP d M Q x L r h cs sl) (k2 : ¬ 0 ≤ a → WP d M Q e L r h cs sl) : WP d M Q pc L (.int a :: r) h cs sl := by
  subst he
  exact wx_brs (by unfold ab_step; rw [hf]; try rfl) k1 (fun z => (k2 z))
theorem wx_ic_ge {a b : Int32} {off : Int} (hf : ab_find pc (ab_mo M) = some (.if_icmp .ge off, 3, x, y, ts)) (he : pc + 3 = e) (k1 : b ≤ a → WP d M Q x L r h cs sl) (k2 : ¬ b ≤ a → WP d M Q e L r h cs sl) : WP d M Q pc L (.int b :: .int a :: r) h cs sl := by
  subst he
  exact wx_brs (by unfold ab_step; rw [hf]; try rfl) k1 (fun z => (k2 z))
theorem wx_if_gt {a : Int32} {off : Int} (hf : ab_find pc (ab_mo M) = some (.ifCond .gt off, 3, x, y, ts)) (he : pc + 3 = e) (k1 : 0 < a → WP d M Q x L r h cs sl) (k2 : ¬ 0 < a → WP d M Q e L r h cs sl) : WP d M Q pc L (.int a :: r) h cs sl := by
  subst he
  exact wx_brs (by unfold ab_step; rw [hf]; try rfl) k1 (fun z => (k2 z))
theorem wx_ic_gt {a b : Int32} {off : Int} (hf : ab_find pc (ab_mo M) = some (.if_icmp .gt off, 3, x, y, ts)) (he : pc + 3 = e) (k1 : b < a → WP d M Q x L r h cs sl) (k2 : ¬ b < a → WP d M Q e L r h cs sl) : WP d M Q pc L (.int b :: .int a :: r) h cs sl := by
  subst he
  exact wx_brs (by unfold ab_step; rw [hf]; try rfl) k1 (fun z => (k2 z))
theorem wx_if_le {a : Int32} {off : Int} (hf : ab_find pc (ab_mo M) = some (.ifCond .le off, 3, x, y, ts)) (he : pc + 3 = e) (k1 : a ≤ 0 → WP d M Q x L r h cs sl) (k2 : ¬ a ≤ 0 → WP d M Q e L r h cs sl) : WP d M Q pc L (.int a :: r) h cs sl := by
  subst he
  exact wx_brs (by unfold ab_step; rw [hf]; try rfl) k1 (fun z => (k2 z))
theorem wx_ic_le {a b : Int32} {off : Int} (hf : ab_find pc (ab_mo M) = some (.if_icmp .le off, 3, x, y, ts)) (he : pc + 3 = e) (k1 : a ≤ b → WP d M Q x L r h cs sl) (k2 : ¬ a ≤ b → WP d M Q e L r h cs sl) : WP d M Q pc L (.int b :: .int a :: r) h cs sl := by
  subst he
  exact wx_brs (by unfold ab_step; rw [hf]; try rfl) k1 (fun z => (k2 z))
theorem wx_goto {off : Int} {st : List Value} (hf : ab_find pc (ab_mo M) = some (.goto off, 3, x, y, ts)) (k : WP d M Q x L st h cs sl) : WP d M Q pc L st h cs sl := wx_one (by unfold ab_step; rw [hf]; try rfl) k
theorem wx_sw {a : Int32} {df lo hi : Int} {offs : Array Int} {len : Nat} (hf : ab_find pc (ab_mo M) = some (.tableswitch df lo hi offs, len, x, y, ts)) (k0 : (a.toInt < lo ∨ hi < a.toInt) → WP d M Q x L r h cs sl) (k : ∀ q ∈ ab_sw a lo L r h cs sl 0 ts, q.1 → ab_lfp (ab_call ab_MT d) M Q q.2) : WP d M Q pc L (.int a :: r) h cs sl := ab_mk_ (by
  unfold ab_step
  rw [hf]
  refine ⟨trivial, fun q hq hg => ?_⟩
  rcases List.mem_cons.mp hq with rfl | hq
  · exact k0 hg
  · exact k q hq hg)
theorem wx_dup {v : Value} (hf : ab_find pc (ab_mo M) = some (.dup, 1, x, y, ts)) (he : pc + 1 = e) (hg : v.category = 1) (k : WP d M Q e L (v :: v :: r) h cs sl) : WP d M Q pc L (v :: r) h cs sl := by
  subst he
  exact wx_chk (by unfold ab_step; rw [hf]; try rfl) hg k
theorem wx_dup2 {v w : Value} (hf : ab_find pc (ab_mo M) = some (.dup2, 1, x, y, ts)) (he : pc + 1 = e) (hg : v.category = 1 ∧ w.category = 1) (k : WP d M Q e L (v :: w :: v :: w :: r) h cs sl) : WP d M Q pc L (v :: w :: r) h cs sl := by
  subst he
  exact wx_chk (by unfold ab_step; rw [hf]; try rfl) hg k
theorem wx_pop {v : Value} (hf : ab_find pc (ab_mo M) = some (.pop, 1, x, y, ts)) (he : pc + 1 = e) (hg : v.category = 1) (k : WP d M Q e L r h cs sl) : WP d M Q pc L (v :: r) h cs sl := by
  subst he
  exact wx_chk (by unfold ab_step; rw [hf]; try rfl) hg k
theorem wx_obj {m z c : Nat} (hf : ab_find pc (ab_mo M) = some (.invokespecial m, 3, x, y, [z])) (he : pc + 3 = e) (hg : c < 1000000 ∧ (r.map fun v => v.category).sum ≤ 8) (k : WP d M Q e L r h cs sl) : WP d M Q pc L (.ref c :: r) h cs sl := by
  subst he
  exact wx_chk (by unfold ab_step; rw [hf]; try rfl) hg k
theorem wx_new {m z : Nat} {st : List Value} (hf : ab_find pc (ab_mo M) = some (.new m, 3, x, y, [z])) (he : pc + 3 = e) (hg : n < 600000 ∧ cs + 1 ≤ ab_mc M ∧ sl + y ≤ ab_ms M) (k : WP d M Q e L (.ref n :: st) (ab_nw (n, S, I, G, P) (.inl x)) (cs + 1) (sl + y)) : WP d M Q pc L st (n, S, I, G, P) cs sl := by
  subst he
  exact wx_chk (by unfold ab_step; rw [hf]; try rfl) hg k
theorem wx_newa {a : ArrayType} {v : Int32} (hf : ab_find pc (ab_mo M) = some (.newarray a, 2, x, y, ts)) (he : pc + 2 = e) (hg : n < 600000 ∧ ¬ v < 0 ∧ v.toNatClampNeg ≤ 100000 ∧ cs + 1 ≤ ab_mc M ∧ sl + v.toNatClampNeg ≤ ab_ms M) (k : WP d M Q e L (.ref n :: r) (ab_nw (n, S, I, G, P) (.inr (ab_aty a, v.toNatClampNeg))) (cs + 1) (sl + v.toNatClampNeg)) : WP d M Q pc L (.int v :: r) (n, S, I, G, P) cs sl := by
  subst he
  exact wx_chk (by unfold ab_step; rw [hf]; try rfl) hg k
theorem wx_iret {v : Int32} {ty : FieldType} (hf : ab_find pc (ab_mo M) = some (.ireturn, 1, x, y, ts)) (hr : ab_mr M = some ty) (hn : narrow ty (.int v) = .int v) (hc : cs ≤ ab_mc M ∧ sl ≤ ab_ms M) (hq : Q (some (.int v)) h) : WP d M Q pc L [.int v] h cs sl := ab_mk_ (by
  unfold ab_step
  rw [hf]
  show ab_all _ _ _ _ _ _ _ (match ab_mr M with | some ty => _ | none => _)
  rw [hr]
  exact ⟨⟨hn, hc⟩, hq⟩)
theorem wx_lret {v : Int64} (hf : ab_find pc (ab_mo M) = some (.lreturn, 1, x, y, ts)) (hr : ab_mr M = some .long) (hc : cs ≤ ab_mc M ∧ sl ≤ ab_ms M) (hq : Q (some (.long v)) h) : WP d M Q pc L [.long v] h cs sl := ab_mk_ (by
  unfold ab_step
  rw [hf]
  show ab_all _ _ _ _ _ _ _ (match ab_mr M with | some .long => _ | _ => _)
  rw [hr]
  exact ⟨hc, hq⟩)
theorem wx_aret {v : Nat} {nm : String} (hf : ab_find pc (ab_mo M) = some (.areturn, 1, x, y, ts)) (hr : ab_mr M = some (.object nm)) (hv : v < 1000000) (hc : cs ≤ ab_mc M ∧ sl ≤ ab_ms M) (hq : Q (some (.ref v)) h) : WP d M Q pc L [.ref v] h cs sl := ab_mk_ (by
  unfold ab_step
  rw [hf]
  show ab_all _ _ _ _ _ _ _ (match ab_mr M with | some (.object _) => _ | _ => _)
  rw [hr]
  exact ⟨⟨hv, hc⟩, hq⟩)
theorem wx_ret (hf : ab_find pc (ab_mo M) = some (.return_, 1, x, y, ts)) (hr : ab_mr M = none) (hc : cs ≤ ab_mc M ∧ sl ≤ ab_ms M) (hq : Q none h) : WP d M Q pc L [] h cs sl := ab_mk_ (by
  unfold ab_step
  rw [hf]
  show ab_all _ _ _ _ _ _ _ (match ab_mr M with | none => _ | _ => _)
  rw [hr]
  exact ⟨hc, hq⟩)
theorem wx_cs0 {m z : Nat} {t : List Nat} {mc ms : Nat} (hf : ab_find pc (ab_mo M) = some (.invokestatic m, 3, x, y, z :: 0 :: t)) (he : pc + 3 = e) (hw : (r.map fun v => v.category).sum ≤ 8) (hm : cs + mc ≤ ab_mc M ∧ sl + ms ≤ ab_ms M) (k : ab_call ab_MT d x [] h mc ms (fun v h2 => WP d M Q e L (v.toList ++ r) h2 (cs + mc) (sl + ms))) : WP d M Q pc L (r) h cs sl := ab_mk_ (by
  subst he
  unfold ab_step
  rw [hf]
  exact ⟨⟨by simp, hw⟩, mc, ms, hm.1, hm.2, k⟩)
theorem wx_cv0 {c m z : Nat} {t : List Nat} {mc ms : Nat} (hf : ab_find pc (ab_mo M) = some (.invokevirtual m, 3, x, y, z :: 0 :: t)) (he : pc + 3 = e) (hS : ab_S h c = .inl y) (hw : (r.map fun v => v.category).sum ≤ 8) (hm : cs + mc ≤ ab_mc M ∧ sl + ms ≤ ab_ms M) (k : ab_call ab_MT d x [.ref c] h mc ms (fun v h2 => WP d M Q e L (v.toList ++ r) h2 (cs + mc) (sl + ms))) : WP d M Q pc L (.ref c :: r) h cs sl := ab_mk_ (by
  subst he
  unfold ab_step
  rw [hf]
  exact ⟨⟨by simp, hS, hw⟩, mc, ms, hm.1, hm.2, k⟩)
theorem wx_ci0 {c m z : Nat} {t : List Nat} {mc ms : Nat} (hf : ab_find pc (ab_mo M) = some (.invokespecial m, 3, x, y, z :: 0 :: t)) (he : pc + 3 = e) (hS : c < 1000000) (hw : (r.map fun v => v.category).sum ≤ 8) (hm : cs + mc ≤ ab_mc M ∧ sl + ms ≤ ab_ms M) (k : ab_call ab_MT d x [.ref c] h mc ms (fun v h2 => WP d M Q e L (v.toList ++ r) h2 (cs + mc) (sl + ms))) : WP d M Q pc L (.ref c :: r) h cs sl := ab_mk_ (by
  subst he
  unfold ab_step
  rw [hf]
  exact ⟨⟨by simp, hS, hw⟩, mc, ms, hm.1, hm.2, k⟩)
theorem wx_cs1 {a1 : Value} {m z : Nat} {t : List Nat} {mc ms : Nat} (hf : ab_find pc (ab_mo M) = some (.invokestatic m, 3, x, y, z :: 1 :: t)) (he : pc + 3 = e) (hw : (r.map fun v => v.category).sum ≤ 8) (hm : cs + mc ≤ ab_mc M ∧ sl + ms ≤ ab_ms M) (k : ab_call ab_MT d x [a1] h mc ms (fun v h2 => WP d M Q e L (v.toList ++ r) h2 (cs + mc) (sl + ms))) : WP d M Q pc L (a1 :: r) h cs sl := ab_mk_ (by
  subst he
  unfold ab_step
  rw [hf]
  exact ⟨⟨by simp, hw⟩, mc, ms, hm.1, hm.2, k⟩)
theorem wx_cv1 {a1 : Value} {c m z : Nat} {t : List Nat} {mc ms : Nat} (hf : ab_find pc (ab_mo M) = some (.invokevirtual m, 3, x, y, z :: 1 :: t)) (he : pc + 3 = e) (hS : ab_S h c = .inl y) (hw : (r.map fun v => v.category).sum ≤ 8) (hm : cs + mc ≤ ab_mc M ∧ sl + ms ≤ ab_ms M) (k : ab_call ab_MT d x [.ref c, a1] h mc ms (fun v h2 => WP d M Q e L (v.toList ++ r) h2 (cs + mc) (sl + ms))) : WP d M Q pc L (a1 :: .ref c :: r) h cs sl := ab_mk_ (by
  subst he
  unfold ab_step
  rw [hf]
  exact ⟨⟨by simp, hS, hw⟩, mc, ms, hm.1, hm.2, k⟩)
theorem wx_ci1 {a1 : Value} {c m z : Nat} {t : List Nat} {mc ms : Nat} (hf : ab_find pc (ab_mo M) = some (.invokespecial m, 3, x, y, z :: 1 :: t)) (he : pc + 3 = e) (hS : c < 1000000) (hw : (r.map fun v => v.category).sum ≤ 8) (hm : cs + mc ≤ ab_mc M ∧ sl + ms ≤ ab_ms M) (k : ab_call ab_MT d x [.ref c, a1] h mc ms (fun v h2 => WP d M Q e L (v.toList ++ r) h2 (cs + mc) (sl + ms))) : WP d M Q pc L (a1 :: .ref c :: r) h cs sl := ab_mk_ (by
  subst he
  unfold ab_step
  rw [hf]
  exact ⟨⟨by simp, hS, hw⟩, mc, ms, hm.1, hm.2, k⟩)
theorem wx_cs2 {a1 a2 : Value} {m z : Nat} {t : List Nat} {mc ms : Nat} (hf : ab_find pc (ab_mo M) = some (.invokestatic m, 3, x, y, z :: 2 :: t)) (he : pc + 3 = e) (hw : (r.map fun v => v.category).sum ≤ 8) (hm : cs + mc ≤ ab_mc M ∧ sl + ms ≤ ab_ms M) (k : ab_call ab_MT d x [a1, a2] h mc ms (fun v h2 => WP d M Q e L (v.toList ++ r) h2 (cs + mc) (sl + ms))) : WP d M Q pc L (a2 :: a1 :: r) h cs sl := ab_mk_ (by
  subst he
  unfold ab_step
  rw [hf]
  exact ⟨⟨by simp, hw⟩, mc, ms, hm.1, hm.2, k⟩)
theorem wx_cv2 {a1 a2 : Value} {c m z : Nat} {t : List Nat} {mc ms : Nat} (hf : ab_find pc (ab_mo M) = some (.invokevirtual m, 3, x, y, z :: 2 :: t)) (he : pc + 3 = e) (hS : ab_S h c = .inl y) (hw : (r.map fun v => v.category).sum ≤ 8) (hm : cs + mc ≤ ab_mc M ∧ sl + ms ≤ ab_ms M) (k : ab_call ab_MT d x [.ref c, a1, a2] h mc ms (fun v h2 => WP d M Q e L (v.toList ++ r) h2 (cs + mc) (sl + ms))) : WP d M Q pc L (a2 :: a1 :: .ref c :: r) h cs sl := ab_mk_ (by
  subst he
  unfold ab_step
  rw [hf]
  exact ⟨⟨by simp, hS, hw⟩, mc, ms, hm.1, hm.2, k⟩)
theorem wx_ci2 {a1 a2 : Value} {c m z : Nat} {t : List Nat} {mc ms : Nat} (hf : ab_find pc (ab_mo M) = some (.invokespecial m, 3, x, y, z :: 2 :: t)) (he : pc + 3 = e) (hS : c < 1000000) (hw : (r.map fun v => v.category).sum ≤ 8) (hm : cs + mc ≤ ab_mc M ∧ sl + ms ≤ ab_ms M) (k : ab_call ab_MT d x [.ref c, a1, a2] h mc ms (fun v h2 => WP d M Q e L (v.toList ++ r) h2 (cs + mc) (sl + ms))) : WP d M Q pc L (a2 :: a1 :: .ref c :: r) h cs sl := ab_mk_ (by
  subst he
  unfold ab_step
  rw [hf]
  exact ⟨⟨by simp, hS, hw⟩, mc, ms, hm.1, hm.2, k⟩)
theorem wx_cs3 {a1 a2 a3 : Value} {m z : Nat} {t : List Nat} {mc ms : Nat} (hf : ab_find pc (ab_mo M) = some (.invokestatic m, 3, x, y, z :: 3 :: t)) (he : pc + 3 = e) (hw : (r.map fun v => v.category).sum ≤ 8) (hm : cs + mc ≤ ab_mc M ∧ sl + ms ≤ ab_ms M) (k : ab_call ab_MT d x [a1, a2, a3] h mc ms (fun v h2 => WP d M Q e L (v.toList ++ r) h2 (cs + mc) (sl + ms))) : WP d M Q pc L (a3 :: a2 :: a1 :: r) h cs sl := ab_mk_ (by
  subst he
  unfold ab_step
  rw [hf]
  exact ⟨⟨by simp, hw⟩, mc, ms, hm.1, hm.2, k⟩)
theorem wx_cv3 {a1 a2 a3 : Value} {c m z : Nat} {t : List Nat} {mc ms : Nat} (hf : ab_find pc (ab_mo M) = some (.invokevirtual m, 3, x, y, z :: 3 :: t)) (he : pc + 3 = e) (hS : ab_S h c = .inl y) (hw : (r.map fun v => v.category).sum ≤ 8) (hm : cs + mc ≤ ab_mc M ∧ sl + ms ≤ ab_ms M) (k : ab_call ab_MT d x [.ref c, a1, a2, a3] h mc ms (fun v h2 => WP d M Q e L (v.toList ++ r) h2 (cs + mc) (sl + ms))) : WP d M Q pc L (a3 :: a2 :: a1 :: .ref c :: r) h cs sl := ab_mk_ (by
  subst he
  unfold ab_step
  rw [hf]
  exact ⟨⟨by simp, hS, hw⟩, mc, ms, hm.1, hm.2, k⟩)
theorem wx_ci3 {a1 a2 a3 : Value} {c m z : Nat} {t : List Nat} {mc ms : Nat} (hf : ab_find pc (ab_mo M) = some (.invokespecial m, 3, x, y, z :: 3 :: t)) (he : pc + 3 = e) (hS : c < 1000000) (hw : (r.map fun v => v.category).sum ≤ 8) (hm : cs + mc ≤ ab_mc M ∧ sl + ms ≤ ab_ms M) (k : ab_call ab_MT d x [.ref c, a1, a2, a3] h mc ms (fun v h2 => WP d M Q e L (v.toList ++ r) h2 (cs + mc) (sl + ms))) : WP d M Q pc L (a3 :: a2 :: a1 :: .ref c :: r) h cs sl := ab_mk_ (by
  subst he
  unfold ab_step
  rw [hf]
  exact ⟨⟨by simp, hS, hw⟩, mc, ms, hm.1, hm.2, k⟩)
theorem wx_cs4 {a1 a2 a3 a4 : Value} {m z : Nat} {t : List Nat} {mc ms : Nat} (hf : ab_find pc (ab_mo M) = some (.invokestatic m, 3, x, y, z :: 4 :: t)) (he : pc + 3 = e) (hw : (r.map fun v => v.category).sum ≤ 8) (hm : cs + mc ≤ ab_mc M ∧ sl + ms ≤ ab_ms M) (k : ab_call ab_MT d x [a1, a2, a3, a4] h mc ms (fun v h2 => WP d M Q e L (v.toList ++ r) h2 (cs + mc) (sl + ms))) : WP d M Q pc L (a4 :: a3 :: a2 :: a1 :: r) h cs sl := ab_mk_ (by
  subst he
  unfold ab_step
  rw [hf]
  exact ⟨⟨by simp, hw⟩, mc, ms, hm.1, hm.2, k⟩)
theorem wx_cv4 {a1 a2 a3 a4 : Value} {c m z : Nat} {t : List Nat} {mc ms : Nat} (hf : ab_find pc (ab_mo M) = some (.invokevirtual m, 3, x, y, z :: 4 :: t)) (he : pc + 3 = e) (hS : ab_S h c = .inl y) (hw : (r.map fun v => v.category).sum ≤ 8) (hm : cs + mc ≤ ab_mc M ∧ sl + ms ≤ ab_ms M) (k : ab_call ab_MT d x [.ref c, a1, a2, a3, a4] h mc ms (fun v h2 => WP d M Q e L (v.toList ++ r) h2 (cs + mc) (sl + ms))) : WP d M Q pc L (a4 :: a3 :: a2 :: a1 :: .ref c :: r) h cs sl := ab_mk_ (by
  subst he
  unfold ab_step
  rw [hf]
  exact ⟨⟨by simp, hS, hw⟩, mc, ms, hm.1, hm.2, k⟩)
theorem wx_ci4 {a1 a2 a3 a4 : Value} {c m z : Nat} {t : List Nat} {mc ms : Nat} (hf : ab_find pc (ab_mo M) = some (.invokespecial m, 3, x, y, z :: 4 :: t)) (he : pc + 3 = e) (hS : c < 1000000) (hw : (r.map fun v => v.category).sum ≤ 8) (hm : cs + mc ≤ ab_mc M ∧ sl + ms ≤ ab_ms M) (k : ab_call ab_MT d x [.ref c, a1, a2, a3, a4] h mc ms (fun v h2 => WP d M Q e L (v.toList ++ r) h2 (cs + mc) (sl + ms))) : WP d M Q pc L (a4 :: a3 :: a2 :: a1 :: .ref c :: r) h cs sl := ab_mk_ (by
  subst he
  unfold ab_step
  rw [hf]
  exact ⟨⟨by simp, hS, hw⟩, mc, ms, hm.1, hm.2, k⟩)
theorem wx_cs5 {a1 a2 a3 a4 a5 : Value} {m z : Nat} {t : List Nat} {mc ms : Nat} (hf : ab_find pc (ab_mo M) = some (.invokestatic m, 3, x, y, z :: 5 :: t)) (he : pc + 3 = e) (hw : (r.map fun v => v.category).sum ≤ 8) (hm : cs + mc ≤ ab_mc M ∧ sl + ms ≤ ab_ms M) (k : ab_call ab_MT d x [a1, a2, a3, a4, a5] h mc ms (fun v h2 => WP d M Q e L (v.toList ++ r) h2 (cs + mc) (sl + ms))) : WP d M Q pc L (a5 :: a4 :: a3 :: a2 :: a1 :: r) h cs sl := ab_mk_ (by
  subst he
  unfold ab_step
  rw [hf]
  exact ⟨⟨by simp, hw⟩, mc, ms, hm.1, hm.2, k⟩)
theorem wx_cv5 {a1 a2 a3 a4 a5 : Value} {c m z : Nat} {t : List Nat} {mc ms : Nat} (hf : ab_find pc (ab_mo M) = some (.invokevirtual m, 3, x, y, z :: 5 :: t)) (he : pc + 3 = e) (hS : ab_S h c = .inl y) (hw : (r.map fun v => v.category).sum ≤ 8) (hm : cs + mc ≤ ab_mc M ∧ sl + ms ≤ ab_ms M) (k : ab_call ab_MT d x [.ref c, a1, a2, a3, a4, a5] h mc ms (fun v h2 => WP d M Q e L (v.toList ++ r) h2 (cs + mc) (sl + ms))) : WP d M Q pc L (a5 :: a4 :: a3 :: a2 :: a1 :: .ref c :: r) h cs sl := ab_mk_ (by
  subst he
  unfold ab_step
  rw [hf]
  exact ⟨⟨by simp, hS, hw⟩, mc, ms, hm.1, hm.2, k⟩)
theorem wx_ci5 {a1 a2 a3 a4 a5 : Value} {c m z : Nat} {t : List Nat} {mc ms : Nat} (hf : ab_find pc (ab_mo M) = some (.invokespecial m, 3, x, y, z :: 5 :: t)) (he : pc + 3 = e) (hS : c < 1000000) (hw : (r.map fun v => v.category).sum ≤ 8) (hm : cs + mc ≤ ab_mc M ∧ sl + ms ≤ ab_ms M) (k : ab_call ab_MT d x [.ref c, a1, a2, a3, a4, a5] h mc ms (fun v h2 => WP d M Q e L (v.toList ++ r) h2 (cs + mc) (sl + ms))) : WP d M Q pc L (a5 :: a4 :: a3 :: a2 :: a1 :: .ref c :: r) h cs sl := ab_mk_ (by
  subst he
  unfold ab_step
  rw [hf]
  exact ⟨⟨by simp, hS, hw⟩, mc, ms, hm.1, hm.2, k⟩)
theorem wx_cs6 {a1 a2 a3 a4 a5 a6 : Value} {m z : Nat} {t : List Nat} {mc ms : Nat} (hf : ab_find pc (ab_mo M) = some (.invokestatic m, 3, x, y, z :: 6 :: t)) (he : pc + 3 = e) (hw : (r.map fun v => v.category).sum ≤ 8) (hm : cs + mc ≤ ab_mc M ∧ sl + ms ≤ ab_ms M) (k : ab_call ab_MT d x [a1, a2, a3, a4, a5, a6] h mc ms (fun v h2 => WP d M Q e L (v.toList ++ r) h2 (cs + mc) (sl + ms))) : WP d M Q pc L (a6 :: a5 :: a4 :: a3 :: a2 :: a1 :: r) h cs sl := ab_mk_ (by
  subst he
  unfold ab_step
  rw [hf]
  exact ⟨⟨by simp, hw⟩, mc, ms, hm.1, hm.2, k⟩)
theorem wx_cv6 {a1 a2 a3 a4 a5 a6 : Value} {c m z : Nat} {t : List Nat} {mc ms : Nat} (hf : ab_find pc (ab_mo M) = some (.invokevirtual m, 3, x, y, z :: 6 :: t)) (he : pc + 3 = e) (hS : ab_S h c = .inl y) (hw : (r.map fun v => v.category).sum ≤ 8) (hm : cs + mc ≤ ab_mc M ∧ sl + ms ≤ ab_ms M) (k : ab_call ab_MT d x [.ref c, a1, a2, a3, a4, a5, a6] h mc ms (fun v h2 => WP d M Q e L (v.toList ++ r) h2 (cs + mc) (sl + ms))) : WP d M Q pc L (a6 :: a5 :: a4 :: a3 :: a2 :: a1 :: .ref c :: r) h cs sl := ab_mk_ (by
  subst he
  unfold ab_step
  rw [hf]
  exact ⟨⟨by simp, hS, hw⟩, mc, ms, hm.1, hm.2, k⟩)
theorem wx_ci6 {a1 a2 a3 a4 a5 a6 : Value} {c m z : Nat} {t : List Nat} {mc ms : Nat} (hf : ab_find pc (ab_mo M) = some (.invokespecial m, 3, x, y, z :: 6 :: t)) (he : pc + 3 = e) (hS : c < 1000000) (hw : (r.map fun v => v.category).sum ≤ 8) (hm : cs + mc ≤ ab_mc M ∧ sl + ms ≤ ab_ms M) (k : ab_call ab_MT d x [.ref c, a1, a2, a3, a4, a5, a6] h mc ms (fun v h2 => WP d M Q e L (v.toList ++ r) h2 (cs + mc) (sl + ms))) : WP d M Q pc L (a6 :: a5 :: a4 :: a3 :: a2 :: a1 :: .ref c :: r) h cs sl := ab_mk_ (by
  subst he
  unfold ab_step
  rw [hf]
  exact ⟨⟨by simp, hS, hw⟩, mc, ms, hm.1, hm.2, k⟩)
theorem wx_cs7 {a1 a2 a3 a4 a5 a6 a7 : Value} {m z : Nat} {t : List Nat} {mc ms : Nat} (hf : ab_find pc (ab_mo M) = some (.invokestatic m, 3, x, y, z :: 7 :: t)) (he : pc + 3 = e) (hw : (r.map fun v => v.category).sum ≤ 8) (hm : cs + mc ≤ ab_mc M ∧ sl + ms ≤ ab_ms M) (k : ab_call ab_MT d x [a1, a2, a3, a4, a5, a6, a7] h mc ms (fun v h2 => WP d M Q e L (v.toList ++ r) h2 (cs + mc) (sl + ms))) : WP d M Q pc L (a7 :: a6 :: a5 :: a4 :: a3 :: a2 :: a1 :: r) h cs sl := ab_mk_ (by
  subst he
  unfold ab_step
  rw [hf]
  exact ⟨⟨by simp, hw⟩, mc, ms, hm.1, hm.2, k⟩)
theorem wx_cv7 {a1 a2 a3 a4 a5 a6 a7 : Value} {c m z : Nat} {t : List Nat} {mc ms : Nat} (hf : ab_find pc (ab_mo M) = some (.invokevirtual m, 3, x, y, z :: 7 :: t)) (he : pc + 3 = e) (hS : ab_S h c = .inl y) (hw : (r.map fun v => v.category).sum ≤ 8) (hm : cs + mc ≤ ab_mc M ∧ sl + ms ≤ ab_ms M) (k : ab_call ab_MT d x [.ref c, a1, a2, a3, a4, a5, a6, a7] h mc ms (fun v h2 => WP d M Q e L (v.toList ++ r) h2 (cs + mc) (sl + ms))) : WP d M Q pc L (a7 :: a6 :: a5 :: a4 :: a3 :: a2 :: a1 :: .ref c :: r) h cs sl := ab_mk_ (by
  subst he
  unfold ab_step
  rw [hf]
  exact ⟨⟨by simp, hS, hw⟩, mc, ms, hm.1, hm.2, k⟩)
theorem wx_ci7 {a1 a2 a3 a4 a5 a6 a7 : Value} {c m z : Nat} {t : List Nat} {mc ms : Nat} (hf : ab_find pc (ab_mo M) = some (.invokespecial m, 3, x, y, z :: 7 :: t)) (he : pc + 3 = e) (hS : c < 1000000) (hw : (r.map fun v => v.category).sum ≤ 8) (hm : cs + mc ≤ ab_mc M ∧ sl + ms ≤ ab_ms M) (k : ab_call ab_MT d x [.ref c, a1, a2, a3, a4, a5, a6, a7] h mc ms (fun v h2 => WP d M Q e L (v.toList ++ r) h2 (cs + mc) (sl + ms))) : WP d M Q pc L (a7 :: a6 :: a5 :: a4 :: a3 :: a2 :: a1 :: .ref c :: r) h cs sl := ab_mk_ (by
  subst he
  unfold ab_step
  rw [hf]
  exact ⟨⟨by simp, hS, hw⟩, mc, ms, hm.1, hm.2, k⟩)
end WX
/-- into a method of the table -/
theorem wx_in {d k : Nat} {M : ab_M} {As : List Value} {h : ab_H} {mc ms : Nat} {Q : ab_Q} (hM : ab_MT[k]? = some M) (hc : ab_mc M = mc) (hs : ab_ms M = ms) (hl : (ab_en As).length ≤ ab_ml M) (w : WP d M Q 0 (ab_ent As (ab_ml M)) [] h 0 0) : ab_call ab_MT (d + 1) k As h mc ms Q := ⟨M, hM, hc, hs, hl, w⟩
end
section
/-! rows for numbers that are small: nI -/
section WXN
variable {d : Nat} {M : ab_M} {Q : ab_Q} {pc e x y cs sl : Nat} {L L2 : ab_Lo} {r : List Value} {n : Nat} {S : Nat → ab_Sh} {I : Nat → Nat → Int32} {G : Nat → Nat → Int64} {P : Nat → Nat → Option Nat} {h : ab_H} {ts : List Nat}
theorem wn_iadd {a b : Nat} (hf : ab_find pc (ab_mo M) = some (.iadd, 1, x, y, ts)) (he : pc + 1 = e) (k : WP d M Q e L (.int (nI (a + b)) :: r) h cs sl) : WP d M Q pc L (.int (nI b) :: .int (nI a) :: r) h cs sl := wx_iadd hf he (by rw [nI_add]; exact k)
theorem wn_isub {a b : Nat} (hf : ab_find pc (ab_mo M) = some (.isub, 1, x, y, ts)) (he : pc + 1 = e) (hb : b ≤ a) (k : WP d M Q e L (.int (nI (a - b)) :: r) h cs sl) : WP d M Q pc L (.int (nI b) :: .int (nI a) :: r) h cs sl := wx_isub hf he (by rw [pk_sub hb]; exact k)
theorem wn_imul {a b : Nat} (hf : ab_find pc (ab_mo M) = some (.imul, 1, x, y, ts)) (he : pc + 1 = e) (k : WP d M Q e L (.int (nI (a * b)) :: r) h cs sl) : WP d M Q pc L (.int (nI b) :: .int (nI a) :: r) h cs sl := wx_imul hf he (by rw [pk_mul]; exact k)
theorem wn_iinc {i a : Nat} {m : Nat} {st : List Value} (hf : ab_find pc (ab_mo M) = some (.iinc i (Int.ofNat m), 3, x, y, ts)) (he : pc + 3 = e) (hl : L[i]? = some (some (.int (nI a)))) (hg : i < ab_ml M) (hL : ab_s1 L i (.int (nI (a + m))) = L2) (k : WP d M Q e L2 st h cs sl) : WP d M Q pc L st h cs sl := wx_iinc hf he hl hg (by rw [show Int32.ofInt (Int.ofNat m) = nI m from rfl, nI_add]; exact hL) k
theorem nI_dec {a m : Nat} (h : m + 1 ≤ a) : nI a + Int32.ofInt (Int.negSucc m) = nI (a - (m + 1)) := by
  have e : Int32.ofInt (Int.negSucc m) = -nI (m + 1) := by
    have e2 : Int.negSucc m = -(Int.ofNat (m + 1)) := rfl
    rw [e2, Int32.ofInt_neg]
    rfl
  rw [e, ← Int32.sub_eq_add_neg, pk_sub h]
theorem wn_idec {i a : Nat} {m : Nat} {st : List Value} (hf : ab_find pc (ab_mo M) = some (.iinc i (Int.negSucc m), 3, x, y, ts)) (he : pc + 3 = e) (hl : L[i]? = some (some (.int (nI a)))) (hm : m + 1 ≤ a) (hg : i < ab_ml M) (hL : ab_s1 L i (.int (nI (a - (m + 1)))) = L2) (k : WP d M Q e L2 st h cs sl) : WP d M Q pc L st h cs sl := wx_iinc hf he hl hg (by rw [nI_dec hm]; exact hL) k
theorem wn_iald {c N : Nat} {j : Nat} (hf : ab_find pc (ab_mo M) = some (.iaload, 1, x, y, ts)) (he : pc + 1 = e) (hS : S c = .inr (.int, N)) (hj : j < N) (hN : N < 2 ^ 31) (k : WP d M Q e L (.int (I c j) :: r) (n, S, I, G, P) cs sl) : WP d M Q pc L (.int (nI j) :: .ref c :: r) (n, S, I, G, P) cs sl := wx_iald hf he hS (vp_in_nI hj hN) (by rw [nI_clamp (by omega)]; exact k)
theorem wn_bald {c N : Nat} {j : Nat} (hf : ab_find pc (ab_mo M) = some (.baload, 1, x, y, ts)) (he : pc + 1 = e) (hS : S c = .inr (.byte, N)) (hj : j < N) (hN : N < 2 ^ 31) (k : WP d M Q e L (.int (I c j) :: r) (n, S, I, G, P) cs sl) : WP d M Q pc L (.int (nI j) :: .ref c :: r) (n, S, I, G, P) cs sl := wx_bald hf he hS (vp_in_nI hj hN) (by rw [nI_clamp (by omega)]; exact k)
theorem wn_zald {c N : Nat} {j : Nat} (hf : ab_find pc (ab_mo M) = some (.baload, 1, x, y, ts)) (he : pc + 1 = e) (hS : S c = .inr (.boolean, N)) (hj : j < N) (hN : N < 2 ^ 31) (k : WP d M Q e L (.int (I c j) :: r) (n, S, I, G, P) cs sl) : WP d M Q pc L (.int (nI j) :: .ref c :: r) (n, S, I, G, P) cs sl := wx_zald hf he hS (vp_in_nI hj hN) (by rw [nI_clamp (by omega)]; exact k)
theorem wn_lald {c N : Nat} {j : Nat} (hf : ab_find pc (ab_mo M) = some (.laload, 1, x, y, ts)) (he : pc + 1 = e) (hS : S c = .inr (.long, N)) (hj : j < N) (hN : N < 2 ^ 31) (k : WP d M Q e L (.long (G c j) :: r) (n, S, I, G, P) cs sl) : WP d M Q pc L (.int (nI j) :: .ref c :: r) (n, S, I, G, P) cs sl := wx_lald hf he hS (vp_in_nI hj hN) (by rw [nI_clamp (by omega)]; exact k)
theorem wn_iast {c N : Nat} {j : Nat} {v : Int32} (hf : ab_find pc (ab_mo M) = some (.iastore, 1, x, y, ts)) (he : pc + 1 = e) (hS : S c = .inr (.int, N)) (hc : c < 1000000) (hj : j < N) (hN : N < 2 ^ 31) (k : WP d M Q e L r (n, S, wr I c j v, G, P) cs sl) : WP d M Q pc L (.int v :: .int (nI j) :: .ref c :: r) (n, S, I, G, P) cs sl := wx_iast hf he hS hc (vp_in_nI hj hN) (by rw [nI_clamp (by omega)]; exact k)
theorem wn_bast {c N : Nat} {j : Nat} {v : Int32} (hf : ab_find pc (ab_mo M) = some (.bastore, 1, x, y, ts)) (he : pc + 1 = e) (hS : S c = .inr (.byte, N)) (hc : c < 1000000) (hj : j < N) (hN : N < 2 ^ 31) (k : WP d M Q e L r (n, S, wr I c j (vp_nar .byte v), G, P) cs sl) : WP d M Q pc L (.int v :: .int (nI j) :: .ref c :: r) (n, S, I, G, P) cs sl := wx_bast hf he hS hc (vp_in_nI hj hN) (by rw [nI_clamp (by omega)]; exact k)
theorem wn_zast {c N : Nat} {j : Nat} {v : Int32} (hf : ab_find pc (ab_mo M) = some (.bastore, 1, x, y, ts)) (he : pc + 1 = e) (hS : S c = .inr (.boolean, N)) (hc : c < 1000000) (hj : j < N) (hN : N < 2 ^ 31) (k : WP d M Q e L r (n, S, wr I c j (vp_nar .boolean v), G, P) cs sl) : WP d M Q pc L (.int v :: .int (nI j) :: .ref c :: r) (n, S, I, G, P) cs sl := wx_zast hf he hS hc (vp_in_nI hj hN) (by rw [nI_clamp (by omega)]; exact k)
theorem wn_last {c N : Nat} {j : Nat} {v : Int64} (hf : ab_find pc (ab_mo M) = some (.lastore, 1, x, y, ts)) (he : pc + 1 = e) (hS : S c = .inr (.long, N)) (hc : c < 1000000) (hj : j < N) (hN : N < 2 ^ 31) (k : WP d M Q e L r (n, S, I, wl G c j v, P) cs sl) : WP d M Q pc L (.long v :: .int (nI j) :: .ref c :: r) (n, S, I, G, P) cs sl := wx_last hf he hS hc (vp_in_nI hj hN) (by rw [nI_clamp (by omega)]; exact k)
theorem wn_ic_eq {a b : Nat} {off : Int} (hf : ab_find pc (ab_mo M) = some (.if_icmp .eq off, 3, x, y, ts)) (he : pc + 3 = e) (ha : a < 2 ^ 31) (hb : b < 2 ^ 31) (k1 : a = b → WP d M Q x L r h cs sl) (k2 : ¬ a = b → WP d M Q e L r h cs sl) : WP d M Q pc L (.int (nI b) :: .int (nI a) :: r) h cs sl := wx_ic_eq hf he (fun z => k1 ((nI_eq ha hb).mp z)) (fun z => k2 (fun q => z ((nI_eq ha hb).mpr q)))
theorem wn_ic_ne {a b : Nat} {off : Int} (hf : ab_find pc (ab_mo M) = some (.if_icmp .ne off, 3, x, y, ts)) (he : pc + 3 = e) (ha : a < 2 ^ 31) (hb : b < 2 ^ 31) (k1 : ¬ a = b → WP d M Q x L r h cs sl) (k2 : a = b → WP d M Q e L r h cs sl) : WP d M Q pc L (.int (nI b) :: .int (nI a) :: r) h cs sl := wx_ic_ne hf he (fun z => k1 ((not_congr (nI_eq ha hb)).mp z)) (fun z => k2 ((nI_eq ha hb).mp z))
theorem wn_ic_lt {a b : Nat} {off : Int} (hf : ab_find pc (ab_mo M) = some (.if_icmp .lt off, 3, x, y, ts)) (he : pc + 3 = e) (ha : a < 2 ^ 31) (hb : b < 2 ^ 31) (k1 : a < b → WP d M Q x L r h cs sl) (k2 : ¬ a < b → WP d M Q e L r h cs sl) : WP d M Q pc L (.int (nI b) :: .int (nI a) :: r) h cs sl := wx_ic_lt hf he (fun z => k1 ((nI_ltI ha hb).mp z)) (fun z => k2 (fun q => z ((nI_ltI ha hb).mpr q)))
theorem wn_ic_ge {a b : Nat} {off : Int} (hf : ab_find pc (ab_mo M) = some (.if_icmp .ge off, 3, x, y, ts)) (he : pc + 3 = e) (ha : a < 2 ^ 31) (hb : b < 2 ^ 31) (k1 : b ≤ a → WP d M Q x L r h cs sl) (k2 : ¬ b ≤ a → WP d M Q e L r h cs sl) : WP d M Q pc L (.int (nI b) :: .int (nI a) :: r) h cs sl := wx_ic_ge hf he (fun z => k1 ((nI_leI hb ha).mp z)) (fun z => k2 (fun q => z ((nI_leI hb ha).mpr q)))
theorem wn_ic_gt {a b : Nat} {off : Int} (hf : ab_find pc (ab_mo M) = some (.if_icmp .gt off, 3, x, y, ts)) (he : pc + 3 = e) (ha : a < 2 ^ 31) (hb : b < 2 ^ 31) (k1 : b < a → WP d M Q x L r h cs sl) (k2 : ¬ b < a → WP d M Q e L r h cs sl) : WP d M Q pc L (.int (nI b) :: .int (nI a) :: r) h cs sl := wx_ic_gt hf he (fun z => k1 ((nI_ltI hb ha).mp z)) (fun z => k2 (fun q => z ((nI_ltI hb ha).mpr q)))
theorem wn_ic_le {a b : Nat} {off : Int} (hf : ab_find pc (ab_mo M) = some (.if_icmp .le off, 3, x, y, ts)) (he : pc + 3 = e) (ha : a < 2 ^ 31) (hb : b < 2 ^ 31) (k1 : a ≤ b → WP d M Q x L r h cs sl) (k2 : ¬ a ≤ b → WP d M Q e L r h cs sl) : WP d M Q pc L (.int (nI b) :: .int (nI a) :: r) h cs sl := wx_ic_le hf he (fun z => k1 ((nI_leI ha hb).mp z)) (fun z => k2 (fun q => z ((nI_leI ha hb).mpr q)))
theorem wn_if_eq {a : Nat} {off : Int} (hf : ab_find pc (ab_mo M) = some (.ifCond .eq off, 3, x, y, ts)) (he : pc + 3 = e) (ha : a < 2 ^ 31) (k1 : a = 0 → WP d M Q x L r h cs sl) (k2 : ¬ a = 0 → WP d M Q e L r h cs sl) : WP d M Q pc L (.int (nI a) :: r) h cs sl := wx_if_eq hf he (fun z => k1 ((nI_eq ha (by decide : 0 < 2 ^ 31)).mp (by rw [nI_0]; exact z))) (fun z => k2 (fun q => z (by have w := (nI_eq ha (by decide : 0 < 2 ^ 31)).mpr q; rwa [nI_0] at w)))
theorem wn_if_ne {a : Nat} {off : Int} (hf : ab_find pc (ab_mo M) = some (.ifCond .ne off, 3, x, y, ts)) (he : pc + 3 = e) (ha : a < 2 ^ 31) (k1 : ¬ a = 0 → WP d M Q x L r h cs sl) (k2 : a = 0 → WP d M Q e L r h cs sl) : WP d M Q pc L (.int (nI a) :: r) h cs sl := wx_if_ne hf he (fun z => k1 ((not_congr (nI_eq ha (by decide : 0 < 2 ^ 31))).mp (by rw [nI_0]; exact z))) (fun z => k2 ((nI_eq ha (by decide : 0 < 2 ^ 31)).mp (by rw [nI_0]; exact z)))
theorem wn_if_gt {a : Nat} {off : Int} (hf : ab_find pc (ab_mo M) = some (.ifCond .gt off, 3, x, y, ts)) (he : pc + 3 = e) (ha : a < 2 ^ 31) (k1 : 0 < a → WP d M Q x L r h cs sl) (k2 : ¬ 0 < a → WP d M Q e L r h cs sl) : WP d M Q pc L (.int (nI a) :: r) h cs sl := wx_if_gt hf he (fun z => k1 ((nI_ltI (by decide : 0 < 2 ^ 31) ha).mp (by rw [nI_0]; exact z))) (fun z => k2 (fun q => z (by have w := (nI_ltI (by decide : 0 < 2 ^ 31) ha).mpr q; rwa [nI_0] at w)))
theorem wn_if_le {a : Nat} {off : Int} (hf : ab_find pc (ab_mo M) = some (.ifCond .le off, 3, x, y, ts)) (he : pc + 3 = e) (ha : a < 2 ^ 31) (k1 : a ≤ 0 → WP d M Q x L r h cs sl) (k2 : ¬ a ≤ 0 → WP d M Q e L r h cs sl) : WP d M Q pc L (.int (nI a) :: r) h cs sl := wx_if_le hf he (fun z => k1 ((nI_leI ha (by decide : 0 < 2 ^ 31)).mp (by rw [nI_0]; exact z))) (fun z => k2 (fun q => z (by have w := (nI_leI ha (by decide : 0 < 2 ^ 31)).mpr q; rwa [nI_0] at w)))
theorem wn_if_lt {a : Nat} {off : Int} (hf : ab_find pc (ab_mo M) = some (.ifCond .lt off, 3, x, y, ts)) (he : pc + 3 = e) (ha : a < 2 ^ 31) (k2 : WP d M Q e L r h cs sl) : WP d M Q pc L (.int (nI a) :: r) h cs sl := wx_if_lt hf he (fun z => absurd z (nI_pos ha)) (fun _ => k2)
theorem wn_if_ge {a : Nat} {off : Int} (hf : ab_find pc (ab_mo M) = some (.ifCond .ge off, 3, x, y, ts)) (he : pc + 3 = e) (ha : a < 2 ^ 31) (k1 : WP d M Q x L r h cs sl) : WP d M Q pc L (.int (nI a) :: r) h cs sl := wx_if_ge hf he (fun _ => k1) (fun z => absurd (nI_pos' ha) z)
end WXN
end
section
/-! THE CLAIM OUT OF ONE WALK OF THE LAW'S BODY. Your part is whole_start (and what it stands on); all else here is the same for every law, but numbers. -/
def R_law : String := "SaintTheftLaw"
def lw_P (b : Addr) (xs : List Int32) (args : Array Value) (s : State) : Prop := args = #[.ref b] ∧ s.IntsAt b xs ∧ xs.length ≤ 3072 ∧ (Jvm.Cond.and given_1 narrow_1).before args s = true
def lw_Q (_ : Array Value) (s : State) (o : Outcome) (t : State) : Prop := o = .returned (some (.int 1)) ∧ Framed s o t [] 600000 7302250
def lw_Z (below : List Frame) (a : Array Value) (s : State) : State → Prop := fun t => ∃ o, t.status = .running ∧ Ended t below o ∧ lw_Q a s o t
/-- the law's own end, with 1 on the stack, nothing written that was there before, its room as the claim has it -/
theorem lw_ret {p : Program} {l : Launch} {e : Env} {s : State} {m : MethodId} {below : List Frame} {meth : Method} {c : Code} {b : Nat} (hx : p.tables.exec = Jvm.exec) (hb : c.code = code) (hr : meth.sig.returnType = ret) (hlocks : meth.locks = false) {pc : Nat} {H : Heap} {ls : Array Slot} (hdg : decode code pc = .ok (.ireturn, 1)) : W p l e room_1 s m #[Value.ref b] below meth c H [] 600000 7302250 (lw_Z below #[Value.ref b] s) (F0 m pc ls [.int 1]) := by
  intro T hT X
  obtain ⟨fs, hret, hrun, hended, hW, hframe⟩ := X.leave (v := some (.int 1)) (hlocks := hlocks) (fun h => by rw [hr] at h; cases h)
  have hmeth' : T.vm.method? m = some meth := X.method'
  refine ⟨T.setFrames fs, ?_, .returned (some (.int 1)), hrun, hended, rfl, ⟨_, rfl⟩, hW, hframe⟩
  jvm_step X.here [X.here.top, hx, hb, hdg, hmeth', hr, ret, narrow_b1]
  (try refine ⟨rfl, ?_⟩); (try refine ⟨rfl, ?_⟩)
  first | (intro acts; rw [hret _ acts rfl rfl rfl]) | rw [hret _ _ rfl rfl rfl]
  exact Steps.refl _
/-- what holds at the law's entry: the machine, the code, the tables' words (any of lw_tbl by 'hts w (by decide +kernel)'), the script of L ints xs at the cell b, what the Statement gives of the start (any of its parts by flat_of_before) -/
def lw_At (p : Program) (s : State) (m : MethodId) (meth : Method) (c : Code) (b L : Nat) (xs : Nat → Int32) : Prop :=
  p.tables.exec = Jvm.exec ∧ c.code = code ∧ meth.sig.returnType = ret ∧ c.maxLocals = 4 ∧ s.vm.findClass R_law = some m.cls ∧ (∀ w ∈ lw_tbl, w.before #[Value.ref b] s = true) ∧ va_X b L xs s s.heap ∧ b < s.heap.size ∧ meth.locks = false ∧ (Jvm.Cond.and given_1 narrow_1).before #[Value.ref b] s = true
end
section
/-! the law's start: out of a run of the abstract machine -/
def ab_h0 (L : Nat) (xs : Nat → Int32) : ab_H := (0, fun a => if a < 1000000 then .inl 999 else ab_spS L a, ab_spI xs, fun _ _ => 0, ab_spP)
theorem ab_h0_Sp (g : ab_W) : ab_Sp g (ab_h0 (ab_Lx g) (ab_xs g)) := by
  refine ⟨fun a _ h => ?_, Nat.zero_le _, fun a h => ⟨?_, rfl, rfl⟩⟩
  · show (if a < 1000000 then _ else _) = _
    rw [if_pos h]
  · show (if a < 1000000 then _ else _) = _
    rw [if_neg (by omega)]
theorem ab_arr_of {args : Array Value} {s : State} {ty : FieldType} (h : (Cond.arrayClass ty).before args s = true) (hty : ty = .int ∨ ty = .byte ∨ ty = .boolean ∨ ty = .long) : ∃ cA : ClassId, ArrOfT s cA ty ∧ va_RA s cA ty := by
  obtain ⟨cA, kA, comp, h1, h2, h3⟩ := Cond.arrayClass_spec h
  refine ⟨cA, fun n z => ⟨fun k h => (by cases h), kA, h2, comp, h3⟩, ?_⟩
  rcases hty with rfl | rfl | rfl | rfl <;> exact h1
def ab_tm (i : Nat) : Term := .string "SaintTheft$Tokens" (if i = 0 then 25 else 88)
set_option maxRecDepth 100000 in
theorem ab_gv1 : ∀ i, i < 2 → (Cond.exactly (ab_tm i) "java/lang/String" ∈ flatC (Jvm.Cond.and given_1 narrow_1) ∧ Cond.eq (.field (ab_tm i) "java/lang/String" "coder" "B") (.int 0) ∈ flatC (Jvm.Cond.and given_1 narrow_1) ∧ Cond.arrayOf (.field (ab_tm i) "java/lang/String" "value" "[B") .byte ∈ flatC (Jvm.Cond.and given_1 narrow_1) ∧ Cond.eq (.length (.field (ab_tm i) "java/lang/String" "value" "[B")) (.int (Int32.ofNat (([139, 9] : List Nat).getD i 0))) ∈ flatC (Jvm.Cond.and given_1 narrow_1)) := by decide +kernel
set_option maxRecDepth 100000 in
theorem ab_gv2 : ∀ i, i < 2 → ∀ j, j < ([139, 9] : List Nat).getD i 0 → Cond.eq (.elem (.field (ab_tm i) "java/lang/String" "value" "[B") (.int (Int32.ofNat j))) (.int (([ab_w0, ab_w1].getD i []).getD j 0)) ∈ flatC (Jvm.Cond.and given_1 narrow_1) := by decide +kernel
set_option maxRecDepth 100000 in
theorem ab_gv3 : (Cond.not (Cond.eq (ab_tm 0) (ab_tm 1)) ∈ flatC (Jvm.Cond.and given_1 narrow_1) ∨ Cond.not (Cond.eq (ab_tm 1) (ab_tm 0)) ∈ flatC (Jvm.Cond.and given_1 narrow_1)) ∧ Cond.eq (.static "java/lang/String" "COMPACT_STRINGS" "Z") (.int 1) ∈ flatC (Jvm.Cond.and given_1 narrow_1) ∧ Cond.isRef (.static "jdk/internal/util/Preconditions" "SIOOBE_FORMATTER" "Ljava/util/function/BiFunction;") ∈ flatC (Jvm.Cond.and given_1 narrow_1) := by decide +kernel
theorem ab_kn {args : Array Value} {s : State} (hts : ∀ w ∈ ab_TB, w.before args s = true) : ∃ (dC : Nat → ClassId) (dI : Nat → Nat → Nat), ∀ (k : Nat) (q : vw_C), ab_cls[k]? = some q → u_Kn s q.1 q.2.1 q.2.2 (dC k) (dI k) := by
  have h0 : ∀ k : Nat, ∃ q : ClassId × (Nat → Nat), k < 12 → u_Kn s (ab_cnm k) (ab_fd k) (ab_nf k) q.1 q.2 := by
    intro k
    by_cases hk : k < 12
    · obtain ⟨cC, iS, h⟩ := u_known (C := ab_cnm k) (T := ab_fd k) (N := ab_nf k) (n := ab_nf k) hts (ab_lyE hk) (hts _ (ab_insE hk).1)
      exact ⟨(cC, iS), fun _ => h⟩
    · exact ⟨(0, fun _ => 0), fun h => absurd h hk⟩
  obtain ⟨f, hf⟩ := Classical.axiomOfChoice h0
  refine ⟨fun k => (f k).1, fun k => (f k).2, fun k q hq => ?_⟩
  have hk : k < 12 := by
    have := (List.getElem?_eq_some_iff.mp hq).1
    simpa [ab_cls] using this
  rw [ab_clsE hk] at hq
  cases hq
  exact hf k hk
set_option maxHeartbeats 4000000 in
theorem ab_start_open (hwp : ∀ (L : Nat) (xs : Nat → Int32), L ≤ 3072 → WP 100 mL_law (fun r _ => r = some (.int 1)) 0 [some (.ref 1000000), none, none, none] [] (ab_h0 L xs) 0 0)
    {p : Program} {e : Env} {s : State} {m : MethodId} {below : List Frame} {meth : Method} {c : Code} (l : Launch) {b L : Nat} {xs : Nat → Int32} (hL : L ≤ 3072) (C0 : lw_At p s m meth c b L xs) : W p l e room_1 s m #[Value.ref b] below meth c s.heap [] 0 0 (lw_Z below #[Value.ref b] s) (entryFrame m ([Value.ref b] : List Value).toArray 4) := by
  obtain ⟨hx, hb, hr, hml, hown, hts, hX, hbl, hlocks, hgv⟩ := id C0
  have hgf := flat_of_before _ hgv
  have htb : ∀ w ∈ ab_TB, w.before #[Value.ref b] s = true := fun w hw => hts w (List.mem_filter.mp hw).1
  have hA : ∀ a : Nat, a < s.heap.size → ¬ (fun q : Nat => s.heap.size ≤ q) a := fun a h => Nat.not_le.mpr h
  obtain ⟨dC, dI, hKc⟩ := ab_kn htb
  obtain ⟨cI, hI1, hI2⟩ := ab_arr_of (htb _ (ab_at_in ab_arr_int)) (Or.inl rfl)
  obtain ⟨cB, hB1, hB2⟩ := ab_arr_of (htb _ (ab_at_in ab_arr_byte)) (Or.inr (Or.inl rfl))
  obtain ⟨cZ, hZ1, hZ2⟩ := ab_arr_of (htb _ (ab_at_in ab_arr_boolean)) (Or.inr (Or.inr (Or.inl rfl)))
  obtain ⟨cL, hL1, hL2⟩ := ab_arr_of (htb _ (ab_at_in ab_arr_long)) (Or.inr (Or.inr (Or.inr rfl)))
  obtain ⟨adK, adV, hVS, hVe⟩ := vk_Sof (args := #[Value.ref b]) (s := s) (N := 2) (tm := ab_tm) (len := [139, 9]) (byt := [ab_w0, ab_w1]) (A := fun q : Nat => s.heap.size ≤ q)
    (fun i hi => by match i, hi with | 0, _ => decide | 1, _ => decide)
    (fun i hi => hgf _ (ab_gv1 i hi).1) (fun i hi => hgf _ (ab_gv1 i hi).2.1) (fun i hi => hgf _ (ab_gv1 i hi).2.2.1) (fun i hi => hgf _ (ab_gv1 i hi).2.2.2) (fun i hi j hj => hgf _ (ab_gv2 i hi j hj))
    (fun i j hi hj hij => by
      match i, j, hi, hj, hij with
      | 0, 0, _, _, h => exact absurd rfl h
      | 1, 1, _, _, h => exact absurd rfl h
      | 0, 1, _, _, _ => exact ab_gv3.1.imp (hgf _) (hgf _)
      | 1, 0, _, _, _ => exact ab_gv3.1.symm.imp (hgf _) (hgf _)) hA
  have hcs := va_Zof (A := fun q : Nat => s.heap.size ≤ q) (hts _ (ab_atN_in ab_st_cs.1)) (htb _ (ab_at_in ab_st_cs.2)) (va_eqi (hgf _ ab_gv3.2.1)) hA
  have hfm := va_Zqof (A := fun q : Nat => s.heap.size ≤ q) (hts _ (ab_atN_in ab_st_fm.1)) (htb _ (ab_at_in ab_st_fm.2)) (hgf _ ab_gv3.2.2) hA
  obtain ⟨vf, hvf, hvz⟩ : ∃ vf : Value, (vf = .null ∨ ∃ a, vf = .ref a) ∧ va_Z "jdk/internal/util/Preconditions" "SIOOBE_FORMATTER" "Ljava/util/function/BiFunction;" vf (fun q : Nat => s.heap.size ≤ q) s s.heap := by
    rcases hfm with h | ⟨t, h⟩
    · exact ⟨_, Or.inl rfl, h⟩
    · exact ⟨_, Or.inr ⟨t, rfl⟩, h⟩
  let g : ab_W := (s.heap.size, b, L, xs, adK, adV, vf, (dC, dI), fun ty => match ty with
    | .byte => cB
    | .boolean => cZ
    | .long => cL
    | _ => cI)
  have hF : ab_F g s := by
    refine ⟨⟨hKc, fun k q hq => ?_⟩, fun a i y ho hm => va_Nw.of rfl (hts _ hm), vk_R.of (hts _ (ab_atN_in ab_sr0)) (hVe 0 (by decide)), vk_R.of (hts _ (ab_atN_in ab_sr1)) (hVe 1 (by decide)), hVS, hX, hbl, hcs, hvz, hvf, Nat.le_refl _⟩
    match k, hq with
    | 0, hq => cases hq; exact ⟨hI1, hI2⟩
    | 1, hq => cases hq; exact ⟨hB1, hB2⟩
    | 2, hq => cases hq; exact ⟨hZ1, hZ2⟩
    | 3, hq => cases hq; exact ⟨hL1, hL2⟩
    | k + 4, hq => simp [ab_tys] at hq
  have hR : ab_Rel g (ab_h0 L xs) s.heap := ⟨fun k q hq => by
    obtain ⟨h1, -⟩ := ab_ws_inv hq
    exact absurd h1 (Nat.not_lt_zero _), rfl, ab_h0_Sp g⟩
  have hsnd := ab_sound (g := g) (l := l) 100 mL_law _ _ ckL_law (hwp L xs hL)
  rw [lg_entry_eq]
  refine hsnd p e room_1 s m _ below meth c s.heap [] _ _ ⟨hx, hb, hml, hown, htb, hF, ⟨by decide, by decide, by decide, by decide⟩, fun h => absurd h (by decide)⟩ va_S.rf hR (ab_LR.entry (g := g) (As := [.ref 1000000]) (n := 4) hvf (by decide)) ?_
  intro pc ls H locs r h cs sl hret hcs hsl hS hR2 hQ
  subst hQ
  refine W.widen hcs hsl ?_
  refine va_forget (fun q hq => hS.2.2 q hq) ?_
  exact lw_ret hx hb hr hlocks hret.1
end
section
/-! the cells behind the two constructors, by wip/whole/lay.py: shapes and references -/
def SHl : List ab_Sh := [.inl 10, .inl 7, .inl 2, .inr (.int, 420), .inr (.int, 420), .inr (.int, 5), .inr (.int, 9), .inr (.int, 20), .inr (.long, 17), .inr (.long, 6), .inr (.int, 6), .inr (.int, 36), .inr (.int, 6), .inr (.int, 5), .inr (.int, 5), .inr (.int, 5), .inl 7, .inl 2, .inr (.int, 420), .inr (.int, 420), .inr (.int, 5), .inr (.int, 9), .inr (.int, 20), .inr (.long, 17), .inr (.long, 6), .inr (.int, 6), .inr (.int, 36), .inr (.int, 6), .inr (.int, 5), .inr (.int, 5), .inr (.int, 5), .inl 6, .inr (.byte, 2000), .inl 4, .inl 8, .inr (.long, 24), .inr (.int, 402), .inr (.int, 402), .inr (.long, 402), .inl 5, .inr (.int, 55), .inl 0, .inr (.int, 5), .inr (.int, 5), .inl 1, .inl 5, .inr (.int, 55), .inr (.int, 6), .inl 3, .inr (.int, 2200), .inr (.int, 165), .inr (.boolean, 3), .inl 9, .inr (.int, 20), .inr (.boolean, 20), .inl 11, .inr (.byte, 2000), .inr (.byte, 2000), .inr (.int, 403), .inr (.int, 403), .inr (.int, 403), .inr (.long, 403), .inr (.long, 24), .inr (.long, 17), .inr (.int, 17), .inr (.int, 2), .inr (.int, 12), .inr (.int, 2), .inr (.int, 72), .inr (.int, 2), .inr (.int, 12), .inr (.int, 12), .inr (.int, 2), .inr (.int, 10), .inr (.int, 10), .inr (.int, 10), .inr (.int, 2), .inr (.int, 10), .inr (.int, 10), .inr (.boolean, 260), .inr (.int, 260), .inr (.int, 260), .inr (.int, 260), .inr (.int, 260), .inr (.int, 840), .inr (.int, 840), .inr (.int, 64), .inr (.int, 9), .inr (.int, 400), .inr (.int, 36), .inr (.int, 49), .inr (.int, 49), .inr (.int, 5), .inr (.boolean, 30), .inr (.int, 1960), .inr (.int, 20), .inr (.boolean, 20), .inr (.boolean, 3), .inr (.int, 147)]
def SH (Lx a : Nat) : ab_Sh := match SHl[a]? with
  | some q => q
  | none => if a < 1000000 then .inl 999 else ab_spS Lx a
def PLl : List (List (Option Nat)) := [[some 1, some 16, some 31, some 33, some 39, some 41, some 44, some 48, some 52], [some 2, some 8, some 9, some 10, some 11, some 12, some 13, some 14, some 15, none, none, none, none, none, none, none], [some 3, some 4, some 5, some 6, some 7, none], [], [], [], [], [], [], [], [], [], [], [], [], [], [some 17, some 23, some 24, some 25, some 26, some 27, some 28, some 29, some 30, none, none, none, none, none, none, none], [some 18, some 19, some 20, some 21, some 22, none], [], [], [], [], [], [], [], [], [], [], [], [], [], [some 32, none], [], [some 34, some 16, some 17, none, none, none, none, none, none], [some 35, some 36, some 37, some 38, none], [], [], [], [], [some 40], [], [some 42, some 43, some 1, some 2], [], [], [some 41, some 39, some 45, some 47], [some 46], [], [], [some 49, some 50, some 51, none, none], [], [], [], [some 53, some 54, none], [], [], [none, some 56, none, some 57, none, some 58, some 59, some 60, some 61, some 62, none, none, none, none, none, none, none, none, none, none, none, some 63, some 64, some 65, some 66, some 67, some 68, some 69, some 70, some 71, some 72, some 73, some 74, some 75, some 76, some 77, some 78, none, some 79, some 80, some 81, some 82, some 83, none, some 84, some 85, some 86, none, some 87, some 88, none, some 89, some 90, some 91, none, some 92, some 93, none, some 94, none, none, none, some 95, some 96, some 97, some 98], [], [], [], [], [], [], [], [], [], [], [], [], [], [], [], [], [], [], [], [], [], [], [], [], [], [], [], [], [], [], [], [], [], [], [], [], [], [], [], [], [], [], []]
def PL (c k : Nat) : Option Nat := match PLl[c]? with
  | some q => q.getD k none
  | none => ab_spP c k
/-- the references: the text that is read, the reader's text, the course's text are the moving ones -/
def PF (t rt u c k : Nat) : Option Nat := match c with
  | 0 => match k with
    | 0 => some t
    | 1 => some (17 - t)
    | _ => PL 0 k
  | 33 => match k with
    | 1 => some rt
    | 2 => some (rt + 1)
    | _ => PL 33 k
  | 41 => match k with
    | 2 => some u
    | 3 => some (u + 1)
    | _ => PL 41 k
  | _ => PL c k
abbrev hp (Lx t rt u : Nat) (I : Nat → Nat → Int32) (G : Nat → Nat → Int64) : ab_H := (99, SH Lx, I, G, PF t rt u)
end
section
/-! what the two programs compute, in plain functions -/
/-- a text: churches, relics, pilgrims; how far; homes, needs, gifts; which relics are true; the laws as functions of what they look at; the seed -/
abbrev tx : Type := Nat × Nat × Nat × (Nat → Nat → Int32) × (Nat → Nat) × (Nat → Int32) × (Nat → Int32) × (Nat → Bool) × (Nat → (Nat → Int32) → Int32) × Int32
abbrev tC (T : tx) : Nat := T.1
abbrev tR (T : tx) : Nat := T.2.1
abbrev tP (T : tx) : Nat := T.2.2.1
abbrev tF (T : tx) : Nat → Nat → Int32 := T.2.2.2.1
abbrev tH (T : tx) : Nat → Nat := T.2.2.2.2.1
abbrev tN (T : tx) : Nat → Int32 := T.2.2.2.2.2.1
abbrev tG (T : tx) : Nat → Int32 := T.2.2.2.2.2.2.1
abbrev tT (T : tx) : Nat → Bool := T.2.2.2.2.2.2.2.1
abbrev tL (T : tx) : Nat → (Nat → Int32) → Int32 := T.2.2.2.2.2.2.2.2.1
abbrev tS (T : tx) : Int32 := T.2.2.2.2.2.2.2.2.2
def b1 (b : Bool) : Int32 := if b then nI 1 else nI 0
/-- a text as it is when it has been read -/
def tok (T : tx) : Prop := tC T ≤ 6 ∧ tR T ≤ 6 ∧ tP T ≤ 5 ∧ (∀ a, a < tP T → tH T a < tC T) ∧ (∀ e, tR T ≤ e → tT T e = false) ∧ (∀ a b, a < tC T → b < tC T → ∃ n, n ≤ 999 ∧ tF T a b = nI n) ∧ (∀ k f g, (∀ j, j < 9 → f j = g j) → tL T k f = tL T k g)
def mixS (h w : Int32) : Int32 := ((h ^^^ w) * nI 1103515245 + nI 12345) ^^^ ((((h ^^^ w) * nI 1103515245 + nI 12345).toUInt32 >>> ((nI 15).toUInt32 &&& Int32.toUInt32 31)).toInt32)
def lotS (sd w : Int32) : Int32 := ((mixS (mixS sd (nI 111)) w).toUInt32 >>> ((nI 1).toUInt32 &&& Int32.toUInt32 31)).toInt32
/-- the lot, of a hundred -/
def lotH (sd w : Int32) : Int32 := lotS sd w - lotS sd w / nI 100 * nI 100
def heldS (v m : Int32) : Int32 := if v < nI 0 then nI 0 else if m < v then m else v
/-- a row of what goes on: watchers 0, where relics are 6, wonders of churches 12, what they took 18, wonders of relics 24, carried 30, given 36, wonders of pilgrims 41, year 46, tried 47, caught 48 -/
abbrev rw_ : Type := Nat → Int32
def atC (r : rw_) (c e : Nat) : Bool := decide (r (6 + e) = nI c)
def bs6 (b0 b1 b2 b3 b4 b5 : Bool) : Nat := (if b0 then 1 else 0) + (if b1 then 2 else 0) + (if b2 then 4 else 0) + (if b3 then 8 else 0) + (if b4 then 16 else 0) + (if b5 then 32 else 0)
def cn6 (b0 b1 b2 b3 b4 b5 : Bool) : Nat := (if b0 then 1 else 0) + (if b1 then 1 else 0) + (if b2 then 1 else 0) + (if b3 then 1 else 0) + (if b4 then 1 else 0) + (if b5 then 1 else 0)
def bsF (f : Nat → Bool) : Nat := bs6 (f 0) (f 1) (f 2) (f 3) (f 4) (f 5)
def cnF (f : Nat → Bool) : Nat := cn6 (f 0) (f 1) (f 2) (f 3) (f 4) (f 5)
/-- what a law looks at, beside pilgrims: the relics at a church, the year -/
def vs0 (r : rw_) (c : Nat) : Nat → Int32 := fun k => if k = 0 then nI (cnF (atC r c)) else if k = 7 then r 46 else nI 0
def vsP (T : tx) (r : rw_) (a c : Nat) : Nat → Int32 := fun k => if k = 1 then r (12 + c) else if k = 2 then tF T (tH T a) c else if k = 3 then tN T a else if k = 4 then tG T a else vs0 r c k
def vsV (T : tx) (r : rw_) (a c : Nat) : Nat → Int32 := fun k => if k = 6 then r c else if k = 8 then nI (cnF (fun e => atC r c e && tT T e)) else vsP T r a c k
def drawS (T : tx) (r : rw_) (a c : Nat) : Int32 := tL T 0 (vsV T r a c)
def giveS (T : tx) (r : rw_) (a c : Nat) : Int32 := heldS (tL T 2 (vsV T r a c)) (nI 99)
def healS (T : tx) (r : rw_) (c a : Nat) (tr : Int32) : Int32 := heldS (tL T 1 (fun k => if k = 8 then tr else vsP T r a c k)) (nI 100)
def leavS (T : tx) (r : rw_) (c e n : Nat) : Int32 := heldS (tL T 3 (fun k => if k = 8 then b1 (tT T e) else if k = 5 then nI n else if k = 1 then r (12 + c) else vs0 r c k)) (nI 100)
def caugS (T : tx) (r : rw_) (c : Nat) (w : Int32) (n : Nat) : Int32 := heldS (tL T 4 (fun k => if k = 6 then w else if k = 5 then nI n else vs0 r c k)) (nI 100)
/-- where a pilgrim goes: by the churches before c -/
def goalL (T : tx) (r : rw_) (a : Nat) : Nat → Int32 × Int32
  | 0 => (-2, nI 0)
  | c + 1 => if tF T (tH T a) c = nI 999 ∨ cnF (atC r c) = 0 then goalL T r a c else if (goalL T r a c).1 < nI 0 ∨ (goalL T r a c).2 < drawS T r a c then (nI c, drawS T r a c) else goalL T r a c
def goalS (T : tx) (r : rw_) (a : Nat) : Int32 := (goalL T r a (tC T)).1
def up1 (r : rw_) (k : Nat) (v : Int32) : rw_ := fun j => if j = k then r j + v else r j
/-- a pilgrim at a church: the relics before e -/
def visL (T : tx) (sd : Int32) (a c : Nat) (r : rw_) : Nat → rw_ × Nat
  | 0 => (r, 0)
  | e + 1 => if (visL T sd a c r e).1 (6 + e) = nI c ∧ lotH sd (nI 64 * (visL T sd a c r e).1 46 + nI (8 * a) + nI e) < healS T (visL T sd a c r e).1 c a (b1 (tT T e)) then (up1 (up1 (up1 (visL T sd a c r e).1 (12 + c) (nI 1)) (24 + e) (nI 1)) (41 + a) (nI 1), (visL T sd a c r e).2 + 2 ^ e) else visL T sd a c r e
def visR (T : tx) (sd : Int32) (a c : Nat) (r : rw_) : rw_ := up1 (up1 (visL T sd a c r 6).1 (18 + c) (giveS T (visL T sd a c r 6).1 a c)) (36 + a) (giveS T (visL T sd a c r 6).1 a c)
def visW (T : tx) (sd : Int32) (a c : Nat) (r : rw_) : Nat := (visL T sd a c r 6).2
/-- a year: the pilgrims before a, by the goals of the year's start; the relics at which a wonder was written, as bits -/
def yrL (T : tx) (sd : Int32) (r : rw_) : Nat → rw_ × (Nat → Nat)
  | 0 => (r, fun _ => 0)
  | a + 1 => if goalS T r a < nI 0 then ((yrL T sd r a).1, fun j => if j = a then 0 else (yrL T sd r a).2 j) else (visR T sd a (goalS T r a).toNatClampNeg (yrL T sd r a).1, fun j => if j = a then visW T sd a (goalS T r a).toNatClampNeg (yrL T sd r a).1 else (yrL T sd r a).2 j)
def yrS (T : tx) (sd : Int32) (r : rw_) : rw_ := up1 (yrL T sd r (tP T)).1 46 (nI 1)
def yrW (T : tx) (sd : Int32) (r : rw_) : Nat → Nat := (yrL T sd r (tP T)).2
def yrsS (T : tx) (sd : Int32) (r : rw_) : Nat → rw_
  | 0 => r
  | n + 1 => yrS T sd (yrsS T sd r n)
/-- a row as the class keeps it: 55 cells -/
def cst (r : rw_) (k : Nat) : Int32 := if k < 6 then r k else if k < 18 then r (k + 6) else if k < 24 then nI (bsF (atC r (k - 18))) else if k < 30 then r (k - 18) else r (k - 6)
/-- where the relics are: at churches, or nowhere -/
def rok (T : tx) (r : rw_) : Prop := (∀ e, e < tR T → r (6 + e) = -1 ∨ ∃ c, c < tC T ∧ r (6 + e) = nI c) ∧ ∀ e, tR T ≤ e → e < 6 → r (6 + e) = -1
end
section
/-! contracts of the small methods of the class -/
theorem heldS_eq {v m : Int32} (hm : ¬ m < nI 0) : (if nI 0 < (if v < m then v else m) then (if v < m then v else m) else nI 0) = heldS v m := by
  unfold heldS
  rw [nI_0] at *
  simp only [Int32.lt_iff_toInt_lt, Int32.toInt_zero] at *
  by_cases h1 : v.toInt < m.toInt
  · rw [if_pos h1, if_neg (by omega : ¬ m.toInt < v.toInt)]
    by_cases h2 : 0 < v.toInt
    · rw [if_pos h2, if_neg (by omega)]
    · rw [if_neg h2]
      by_cases h3 : v.toInt < 0
      · rw [if_pos h3]
      · rw [if_neg h3]
        exact Int32.toInt_inj.mp (by rw [Int32.toInt_zero]; omega)
  · rw [if_neg h1, if_neg (by omega : ¬ v.toInt < 0)]
    by_cases h2 : m.toInt < v.toInt
    · rw [if_pos h2]
      by_cases h3 : 0 < m.toInt
      · rw [if_pos h3]
      · rw [if_neg h3]
        exact Int32.toInt_inj.mp (by rw [Int32.toInt_zero]; omega)
    · rw [if_neg h2]
      have e : m = v := Int32.toInt_inj.mp (by omega)
      subst e
      by_cases h3 : 0 < m.toInt
      · rw [if_pos h3]
      · rw [if_neg h3]
        exact Int32.toInt_inj.mp (by rw [Int32.toInt_zero]; omega)
theorem win_ok {v : Int32} {lo hi : Nat} {P : Prop} (hl : lo ≤ hi) (hb : hi < 2 ^ 31) (h1 : ∀ k, lo ≤ k → k ≤ hi → v = nI k → P) (c2 : ¬ v < nI lo) (c7 : ¬ nI hi < v) : P := by
  have a1 : (lo : Int) ≤ v.toInt := by rw [Int32.lt_iff_toInt_lt, nI_toInt (by omega)] at c2; omega
  have a2 : v.toInt ≤ (hi : Int) := by rw [Int32.lt_iff_toInt_lt, nI_toInt hb] at c7; omega
  obtain ⟨k, hk, e⟩ := nI_of (x := v) (by rw [Int32.lt_iff_toInt_lt, Int32.toInt_zero]; omega)
  subst e
  rw [nI_toInt hk] at a1 a2
  exact h1 k (by omega) (by omega) rfl
def bc0 (v : Int32) : Int32 := v - ((v.toUInt32 >>> ((nI 1).toUInt32 &&& Int32.toUInt32 31)).toInt32 &&& nI 1431655765)
def bc1 (v : Int32) : Int32 := (v &&& nI 858993459) + ((v.toUInt32 >>> ((nI 2).toUInt32 &&& Int32.toUInt32 31)).toInt32 &&& nI 858993459)
def bc2 (v : Int32) : Int32 := (v + (v.toUInt32 >>> ((nI 4).toUInt32 &&& Int32.toUInt32 31)).toInt32) &&& nI 252645135
def bc3 (v : Int32) : Int32 := v + (v.toUInt32 >>> ((nI 8).toUInt32 &&& Int32.toUInt32 31)).toInt32
def bc4 (v : Int32) : Int32 := v + (v.toUInt32 >>> ((nI 16).toUInt32 &&& Int32.toUInt32 31)).toInt32
def bcS (v : Int32) : Int32 := bc4 (bc3 (bc2 (bc1 (bc0 v)))) &&& nI 63
theorem c_X5_get {d Lx t rt u : Nat} {I : Nat → Nat → Int32} {G : Nat → Nat → Int64} {Q : ab_Q} {c j : Nat} (hc : c = 39 ∨ c = 45) (hj : j < 55) (hq : Q (some (.int (I (c + 1) j))) (hp Lx t rt u I G)) : ab_call ab_MT (d + 1) 74 [.ref c, .int (nI j)] (hp Lx t rt u I G) 0 0 Q := by
  rcases hc with rfl | rfl
  all_goals
    refine wx_in (M := mX5_get) rfl rfl rfl (Nat.le_of_ble_eq_true rfl) ?_
    refine wx_iload_n rfl (e := 1) rfl rfl ?_
    refine wn_if_lt rfl (e := 4) rfl (by omega) ?_
    refine wx_iload_n rfl (e := 5) rfl rfl ?_
    refine wx_bipush (v := (nI 55)) rfl (e := 7) rfl (by decide) ?_
    first | refine wn_ic_ge rfl (e := 10) rfl (by omega) (by omega) (fun c_7 => absurd c_7 (by omega)) (fun c_7 => ?_) | refine wx_ic_ge rfl (e := 10) rfl (fun c_7 => absurd c_7 (by omega)) (fun c_7 => ?_)
    refine wx_aload_n rfl (e := 11) rfl rfl ?_
    refine wx_getr rfl (e := 14) rfl rfl rfl ?_
    refine wx_iload_n rfl (e := 15) rfl rfl ?_
    first | refine wn_iald rfl (e := 16) rfl rfl (by omega) (by decide) ?_ | refine wx_iald rfl (e := 16) rfl rfl (by assumption) ?_
    refine wx_goto rfl ?_
    refine wx_iret rfl rfl rfl ⟨by decide, by decide⟩ ?_
    exact hq
theorem c_X5_set {d Lx t rt u : Nat} {I : Nat → Nat → Int32} {G : Nat → Nat → Int64} {Q : ab_Q} {c j : Nat} {v : Int32} (hc : c = 39 ∨ c = 45) (hj : j < 55) (hq : Q none (hp Lx t rt u (wr I (c + 1) j v) G)) : ab_call ab_MT (d + 1) 75 [.ref c, .int (nI j), .int v] (hp Lx t rt u I G) 0 0 Q := by
  rcases hc with rfl | rfl
  all_goals
    refine wx_in (M := mX5_set) rfl rfl rfl (Nat.le_of_ble_eq_true rfl) ?_
    refine wx_iload_n rfl (e := 1) rfl rfl ?_
    refine wn_if_lt rfl (e := 4) rfl (by omega) ?_
    refine wx_iload_n rfl (e := 5) rfl rfl ?_
    refine wx_bipush (v := (nI 55)) rfl (e := 7) rfl (by decide) ?_
    first | refine wn_ic_ge rfl (e := 10) rfl (by omega) (by omega) (fun c_7 => absurd c_7 (by omega)) (fun c_7 => ?_) | refine wx_ic_ge rfl (e := 10) rfl (fun c_7 => absurd c_7 (by omega)) (fun c_7 => ?_)
    refine wx_aload_n rfl (e := 11) rfl rfl ?_
    refine wx_getr rfl (e := 14) rfl rfl rfl ?_
    refine wx_iload_n rfl (e := 15) rfl rfl ?_
    refine wx_iload_n rfl (e := 16) rfl rfl ?_
    first | refine wn_iast rfl (e := 17) rfl rfl (by decide) (by omega) (by decide) ?_ | refine wx_iast rfl (e := 17) rfl rfl (by decide) (by assumption) ?_
    refine wx_ret rfl rfl ⟨by decide, by decide⟩ ?_
    exact hq
theorem c_X5_add {d Lx t rt u : Nat} {I : Nat → Nat → Int32} {G : Nat → Nat → Int64} {Q : ab_Q} {c j : Nat} {v : Int32} (hc : c = 39 ∨ c = 45) (hj : j < 55) (hq : Q none (hp Lx t rt u (wr I (c + 1) j (I (c + 1) j + v)) G)) : ab_call ab_MT (d + 1) 76 [.ref c, .int (nI j), .int v] (hp Lx t rt u I G) 0 0 Q := by
  rcases hc with rfl | rfl
  all_goals
    refine wx_in (M := mX5_add) rfl rfl rfl (Nat.le_of_ble_eq_true rfl) ?_
    refine wx_iload_n rfl (e := 1) rfl rfl ?_
    refine wn_if_lt rfl (e := 4) rfl (by omega) ?_
    refine wx_iload_n rfl (e := 5) rfl rfl ?_
    refine wx_bipush (v := (nI 55)) rfl (e := 7) rfl (by decide) ?_
    first | refine wn_ic_ge rfl (e := 10) rfl (by omega) (by omega) (fun c_7 => absurd c_7 (by omega)) (fun c_7 => ?_) | refine wx_ic_ge rfl (e := 10) rfl (fun c_7 => absurd c_7 (by omega)) (fun c_7 => ?_)
    refine wx_aload_n rfl (e := 11) rfl rfl ?_
    refine wx_getr rfl (e := 14) rfl rfl rfl ?_
    refine wx_iload_n rfl (e := 15) rfl rfl ?_
    refine wx_dup2 rfl (e := 16) rfl ⟨rfl, rfl⟩ ?_
    first | refine wn_iald rfl (e := 17) rfl rfl (by omega) (by decide) ?_ | refine wx_iald rfl (e := 17) rfl rfl (by assumption) ?_
    refine wx_iload_n rfl (e := 18) rfl rfl ?_
    first | refine wn_iadd rfl (e := 19) rfl ?_ | refine wx_iadd rfl (e := 19) rfl ?_
    first | refine wn_iast rfl (e := 20) rfl rfl (by decide) (by omega) (by decide) ?_ | refine wx_iast rfl (e := 20) rfl rfl (by decide) (by assumption) ?_
    refine wx_ret rfl rfl ⟨by decide, by decide⟩ ?_
    exact hq
theorem c_X7_churches {d Lx t rt u : Nat} {I : Nat → Nat → Int32} {G : Nat → Nat → Int64} {Q : ab_Q} {o : Nat} (ho : o = 1 ∨ o = 16) (hq : Q (some (.int (I o 10))) (hp Lx t rt u I G)) : ab_call ab_MT (d + 1) 92 [.ref o] (hp Lx t rt u I G) 0 0 Q := by
  rcases ho with rfl | rfl
  all_goals
    refine wx_in (M := mX7_churches) rfl rfl rfl (Nat.le_of_ble_eq_true rfl) ?_
    refine wx_aload_n rfl (e := 1) rfl rfl ?_
    refine wx_geti rfl (e := 4) rfl rfl ?_
    refine wx_iret rfl rfl rfl ⟨by decide, by decide⟩ ?_
    exact hq
theorem c_X7_roads {d Lx t rt u : Nat} {I : Nat → Nat → Int32} {G : Nat → Nat → Int64} {Q : ab_Q} {o : Nat} (ho : o = 1 ∨ o = 16) (hq : Q (some (.int (I o 11))) (hp Lx t rt u I G)) : ab_call ab_MT (d + 1) 93 [.ref o] (hp Lx t rt u I G) 0 0 Q := by
  rcases ho with rfl | rfl
  all_goals
    refine wx_in (M := mX7_roads) rfl rfl rfl (Nat.le_of_ble_eq_true rfl) ?_
    refine wx_aload_n rfl (e := 1) rfl rfl ?_
    refine wx_geti rfl (e := 4) rfl rfl ?_
    refine wx_iret rfl rfl rfl ⟨by decide, by decide⟩ ?_
    exact hq
theorem c_X7_relics {d Lx t rt u : Nat} {I : Nat → Nat → Int32} {G : Nat → Nat → Int64} {Q : ab_Q} {o : Nat} (ho : o = 1 ∨ o = 16) (hq : Q (some (.int (I o 12))) (hp Lx t rt u I G)) : ab_call ab_MT (d + 1) 94 [.ref o] (hp Lx t rt u I G) 0 0 Q := by
  rcases ho with rfl | rfl
  all_goals
    refine wx_in (M := mX7_relics) rfl rfl rfl (Nat.le_of_ble_eq_true rfl) ?_
    refine wx_aload_n rfl (e := 1) rfl rfl ?_
    refine wx_geti rfl (e := 4) rfl rfl ?_
    refine wx_iret rfl rfl rfl ⟨by decide, by decide⟩ ?_
    exact hq
theorem c_X7_trueRelics {d Lx t rt u : Nat} {I : Nat → Nat → Int32} {G : Nat → Nat → Int64} {Q : ab_Q} {o : Nat} (ho : o = 1 ∨ o = 16) (hq : Q (some (.int (I o 13))) (hp Lx t rt u I G)) : ab_call ab_MT (d + 1) 95 [.ref o] (hp Lx t rt u I G) 0 0 Q := by
  rcases ho with rfl | rfl
  all_goals
    refine wx_in (M := mX7_trueRelics) rfl rfl rfl (Nat.le_of_ble_eq_true rfl) ?_
    refine wx_aload_n rfl (e := 1) rfl rfl ?_
    refine wx_geti rfl (e := 4) rfl rfl ?_
    refine wx_iret rfl rfl rfl ⟨by decide, by decide⟩ ?_
    exact hq
theorem c_X7_pilgrims {d Lx t rt u : Nat} {I : Nat → Nat → Int32} {G : Nat → Nat → Int64} {Q : ab_Q} {o : Nat} (ho : o = 1 ∨ o = 16) (hq : Q (some (.int (I o 14))) (hp Lx t rt u I G)) : ab_call ab_MT (d + 1) 96 [.ref o] (hp Lx t rt u I G) 0 0 Q := by
  rcases ho with rfl | rfl
  all_goals
    refine wx_in (M := mX7_pilgrims) rfl rfl rfl (Nat.le_of_ble_eq_true rfl) ?_
    refine wx_aload_n rfl (e := 1) rfl rfl ?_
    refine wx_geti rfl (e := 4) rfl rfl ?_
    refine wx_iret rfl rfl rfl ⟨by decide, by decide⟩ ?_
    exact hq
theorem c_X7_seed {d Lx t rt u : Nat} {I : Nat → Nat → Int32} {G : Nat → Nat → Int64} {Q : ab_Q} {o : Nat} (ho : o = 1 ∨ o = 16) (hq : Q (some (.int (I o 15))) (hp Lx t rt u I G)) : ab_call ab_MT (d + 1) 97 [.ref o] (hp Lx t rt u I G) 0 0 Q := by
  rcases ho with rfl | rfl
  all_goals
    refine wx_in (M := mX7_seed) rfl rfl rfl (Nat.le_of_ble_eq_true rfl) ?_
    refine wx_aload_n rfl (e := 1) rfl rfl ?_
    refine wx_geti rfl (e := 4) rfl rfl ?_
    refine wx_iret rfl rfl rfl ⟨by decide, by decide⟩ ?_
    exact hq
theorem c_X7_laws {d Lx t rt u : Nat} {I : Nat → Nat → Int32} {G : Nat → Nat → Int64} {Q : ab_Q} {o : Nat} (ho : o = 1 ∨ o = 16) (hq : Q (some (.ref (o + 1))) (hp Lx t rt u I G)) : ab_call ab_MT (d + 1) 91 [.ref o] (hp Lx t rt u I G) 0 0 Q := by
  rcases ho with rfl | rfl
  all_goals
    refine wx_in (M := mX7_laws) rfl rfl rfl (Nat.le_of_ble_eq_true rfl) ?_
    refine wx_aload_n rfl (e := 1) rfl rfl ?_
    refine wx_getr rfl (e := 4) rfl rfl rfl ?_
    refine wx_aret rfl rfl (by decide) ⟨by decide, by decide⟩ ?_
    exact hq
theorem c_X7_watchersOf {d Lx t rt u : Nat} {I : Nat → Nat → Int32} {G : Nat → Nat → Int64} {Q : ab_Q} {o n k : Nat} (ho : o = 1 ∨ o = 16) (hn : I o 10 = nI n) (hk : k < n) (hb : n < 2 ^ 31) (hj : k < 6) (hq : Q (some (.int (I (o + 9) k))) (hp Lx t rt u I G)) : ab_call ab_MT (d + 1) 102 [.ref o, .int (nI k)] (hp Lx t rt u I G) 0 0 Q := by
  rcases ho with rfl | rfl
  all_goals
    refine wx_in (M := mX7_watchersOf) rfl rfl rfl (Nat.le_of_ble_eq_true rfl) ?_
    refine wx_iload_n rfl (e := 1) rfl rfl ?_
    refine wn_if_lt rfl (e := 4) rfl (by omega) ?_
    refine wx_iload_n rfl (e := 5) rfl rfl ?_
    refine wx_aload_n rfl (e := 6) rfl rfl ?_
    refine wx_geti rfl (e := 9) rfl rfl ?_
    rw [hn]
    first | refine wn_ic_ge rfl (e := 12) rfl (by omega) (by omega) (fun c_9 => absurd c_9 (by omega)) (fun c_9 => ?_) | refine wx_ic_ge rfl (e := 12) rfl (fun c_9 => absurd c_9 (by omega)) (fun c_9 => ?_)
    refine wx_aload_n rfl (e := 13) rfl rfl ?_
    refine wx_getr rfl (e := 16) rfl rfl rfl ?_
    refine wx_iload_n rfl (e := 17) rfl rfl ?_
    first | refine wn_iald rfl (e := 18) rfl rfl (by omega) (by decide) ?_ | refine wx_iald rfl (e := 18) rfl rfl (by assumption) ?_
    refine wx_goto rfl ?_
    refine wx_iret rfl rfl rfl ⟨by decide, by decide⟩ ?_
    exact hq
theorem c_X7_home {d Lx t rt u : Nat} {I : Nat → Nat → Int32} {G : Nat → Nat → Int64} {Q : ab_Q} {o n k : Nat} (ho : o = 1 ∨ o = 16) (hn : I o 14 = nI n) (hk : k < n) (hb : n < 2 ^ 31) (hj : k < 5) (hq : Q (some (.int (I (o + 12) k))) (hp Lx t rt u I G)) : ab_call ab_MT (d + 1) 104 [.ref o, .int (nI k)] (hp Lx t rt u I G) 0 0 Q := by
  rcases ho with rfl | rfl
  all_goals
    refine wx_in (M := mX7_home) rfl rfl rfl (Nat.le_of_ble_eq_true rfl) ?_
    refine wx_iload_n rfl (e := 1) rfl rfl ?_
    refine wn_if_lt rfl (e := 4) rfl (by omega) ?_
    refine wx_iload_n rfl (e := 5) rfl rfl ?_
    refine wx_aload_n rfl (e := 6) rfl rfl ?_
    refine wx_geti rfl (e := 9) rfl rfl ?_
    rw [hn]
    first | refine wn_ic_ge rfl (e := 12) rfl (by omega) (by omega) (fun c_9 => absurd c_9 (by omega)) (fun c_9 => ?_) | refine wx_ic_ge rfl (e := 12) rfl (fun c_9 => absurd c_9 (by omega)) (fun c_9 => ?_)
    refine wx_aload_n rfl (e := 13) rfl rfl ?_
    refine wx_getr rfl (e := 16) rfl rfl rfl ?_
    refine wx_iload_n rfl (e := 17) rfl rfl ?_
    first | refine wn_iald rfl (e := 18) rfl rfl (by omega) (by decide) ?_ | refine wx_iald rfl (e := 18) rfl rfl (by assumption) ?_
    refine wx_goto rfl ?_
    refine wx_iret rfl rfl rfl ⟨by decide, by decide⟩ ?_
    exact hq
theorem c_X7_needOf {d Lx t rt u : Nat} {I : Nat → Nat → Int32} {G : Nat → Nat → Int64} {Q : ab_Q} {o n k : Nat} (ho : o = 1 ∨ o = 16) (hn : I o 14 = nI n) (hk : k < n) (hb : n < 2 ^ 31) (hj : k < 5) (hq : Q (some (.int (I (o + 13) k))) (hp Lx t rt u I G)) : ab_call ab_MT (d + 1) 105 [.ref o, .int (nI k)] (hp Lx t rt u I G) 0 0 Q := by
  rcases ho with rfl | rfl
  all_goals
    refine wx_in (M := mX7_needOf) rfl rfl rfl (Nat.le_of_ble_eq_true rfl) ?_
    refine wx_iload_n rfl (e := 1) rfl rfl ?_
    refine wn_if_lt rfl (e := 4) rfl (by omega) ?_
    refine wx_iload_n rfl (e := 5) rfl rfl ?_
    refine wx_aload_n rfl (e := 6) rfl rfl ?_
    refine wx_geti rfl (e := 9) rfl rfl ?_
    rw [hn]
    first | refine wn_ic_ge rfl (e := 12) rfl (by omega) (by omega) (fun c_9 => absurd c_9 (by omega)) (fun c_9 => ?_) | refine wx_ic_ge rfl (e := 12) rfl (fun c_9 => absurd c_9 (by omega)) (fun c_9 => ?_)
    refine wx_aload_n rfl (e := 13) rfl rfl ?_
    refine wx_getr rfl (e := 16) rfl rfl rfl ?_
    refine wx_iload_n rfl (e := 17) rfl rfl ?_
    first | refine wn_iald rfl (e := 18) rfl rfl (by omega) (by decide) ?_ | refine wx_iald rfl (e := 18) rfl rfl (by assumption) ?_
    refine wx_goto rfl ?_
    refine wx_iret rfl rfl rfl ⟨by decide, by decide⟩ ?_
    exact hq
theorem c_X7_giftOf {d Lx t rt u : Nat} {I : Nat → Nat → Int32} {G : Nat → Nat → Int64} {Q : ab_Q} {o n k : Nat} (ho : o = 1 ∨ o = 16) (hn : I o 14 = nI n) (hk : k < n) (hb : n < 2 ^ 31) (hj : k < 5) (hq : Q (some (.int (I (o + 14) k))) (hp Lx t rt u I G)) : ab_call ab_MT (d + 1) 106 [.ref o, .int (nI k)] (hp Lx t rt u I G) 0 0 Q := by
  rcases ho with rfl | rfl
  all_goals
    refine wx_in (M := mX7_giftOf) rfl rfl rfl (Nat.le_of_ble_eq_true rfl) ?_
    refine wx_iload_n rfl (e := 1) rfl rfl ?_
    refine wn_if_lt rfl (e := 4) rfl (by omega) ?_
    refine wx_iload_n rfl (e := 5) rfl rfl ?_
    refine wx_aload_n rfl (e := 6) rfl rfl ?_
    refine wx_geti rfl (e := 9) rfl rfl ?_
    rw [hn]
    first | refine wn_ic_ge rfl (e := 12) rfl (by omega) (by omega) (fun c_9 => absurd c_9 (by omega)) (fun c_9 => ?_) | refine wx_ic_ge rfl (e := 12) rfl (fun c_9 => absurd c_9 (by omega)) (fun c_9 => ?_)
    refine wx_aload_n rfl (e := 13) rfl rfl ?_
    refine wx_getr rfl (e := 16) rfl rfl rfl ?_
    refine wx_iload_n rfl (e := 17) rfl rfl ?_
    first | refine wn_iald rfl (e := 18) rfl rfl (by omega) (by decide) ?_ | refine wx_iald rfl (e := 18) rfl rfl (by assumption) ?_
    refine wx_goto rfl ?_
    refine wx_iret rfl rfl rfl ⟨by decide, by decide⟩ ?_
    exact hq
theorem c_X7_churchOf {d Lx t rt u : Nat} {I : Nat → Nat → Int32} {G : Nat → Nat → Int64} {Q : ab_Q} {o n k : Nat} (ho : o = 1 ∨ o = 16) (hn : I o 12 = nI n) (hb : n ≤ 6) (hk : k < 6) (hq : k < n → Q (some (.int (I (o + 11) k))) (hp Lx t rt u I G)) (hq2 : n ≤ k → Q (some (.int (-1))) (hp Lx t rt u I G)) : ab_call ab_MT (d + 1) 103 [.ref o, .int (nI k)] (hp Lx t rt u I G) 0 0 Q := by
  rcases ho with rfl | rfl
  all_goals
    refine wx_in (M := mX7_churchOf) rfl rfl rfl (Nat.le_of_ble_eq_true rfl) ?_
    refine wx_iload_n rfl (e := 1) rfl rfl ?_
    refine wn_if_lt rfl (e := 4) rfl (by omega) ?_
    refine wx_iload_n rfl (e := 5) rfl rfl ?_
    refine wx_aload_n rfl (e := 6) rfl rfl ?_
    refine wx_geti rfl (e := 9) rfl rfl ?_
    rw [hn]
    first | refine wn_ic_ge rfl (e := 12) rfl (by omega) (by omega) (fun c_9 => ?_) (fun c_9 => ?_) | refine wx_ic_ge rfl (e := 12) rfl (fun c_9 => ?_) (fun c_9 => ?_)
    · refine wx_iconst (v := (-1)) rfl (e := 22) rfl (by decide) ?_
      refine wx_iret rfl rfl rfl ⟨by decide, by decide⟩ ?_
      first | exact hq (by omega) | exact hq2 (by omega)
    · refine wx_aload_n rfl (e := 13) rfl rfl ?_
      refine wx_getr rfl (e := 16) rfl rfl rfl ?_
      refine wx_iload_n rfl (e := 17) rfl rfl ?_
      first | refine wn_iald rfl (e := 18) rfl rfl (by omega) (by decide) ?_ | refine wx_iald rfl (e := 18) rfl rfl (by assumption) ?_
      refine wx_goto rfl ?_
      refine wx_iret rfl rfl rfl ⟨by decide, by decide⟩ ?_
      first | exact hq (by omega) | exact hq2 (by omega)
theorem c_X7_watchersOf2 {d Lx t rt u : Nat} {I : Nat → Nat → Int32} {G : Nat → Nat → Int64} {Q : ab_Q} {o n k : Nat} (ho : o = 1 ∨ o = 16) (hn : I o 10 = nI n) (hb : n ≤ 6) (hk : k < 6) (hq : k < n → Q (some (.int (I (o + 9) k))) (hp Lx t rt u I G)) (hq2 : n ≤ k → Q (some (.int (nI 0))) (hp Lx t rt u I G)) : ab_call ab_MT (d + 1) 102 [.ref o, .int (nI k)] (hp Lx t rt u I G) 0 0 Q := by
  rcases ho with rfl | rfl
  all_goals
    refine wx_in (M := mX7_watchersOf) rfl rfl rfl (Nat.le_of_ble_eq_true rfl) ?_
    refine wx_iload_n rfl (e := 1) rfl rfl ?_
    refine wn_if_lt rfl (e := 4) rfl (by omega) ?_
    refine wx_iload_n rfl (e := 5) rfl rfl ?_
    refine wx_aload_n rfl (e := 6) rfl rfl ?_
    refine wx_geti rfl (e := 9) rfl rfl ?_
    rw [hn]
    first | refine wn_ic_ge rfl (e := 12) rfl (by omega) (by omega) (fun c_9 => ?_) (fun c_9 => ?_) | refine wx_ic_ge rfl (e := 12) rfl (fun c_9 => ?_) (fun c_9 => ?_)
    · refine wx_iconst (v := (nI 0)) rfl (e := 22) rfl (by decide) ?_
      refine wx_iret rfl rfl rfl ⟨by decide, by decide⟩ ?_
      first | exact hq (by omega) | exact hq2 (by omega)
    · refine wx_aload_n rfl (e := 13) rfl rfl ?_
      refine wx_getr rfl (e := 16) rfl rfl rfl ?_
      refine wx_iload_n rfl (e := 17) rfl rfl ?_
      first | refine wn_iald rfl (e := 18) rfl rfl (by omega) (by decide) ?_ | refine wx_iald rfl (e := 18) rfl rfl (by assumption) ?_
      refine wx_goto rfl ?_
      refine wx_iret rfl rfl rfl ⟨by decide, by decide⟩ ?_
      first | exact hq (by omega) | exact hq2 (by omega)
theorem c_X7_truth {d Lx t rt u : Nat} {I : Nat → Nat → Int32} {G : Nat → Nat → Int64} {Q : ab_Q} {o n k : Nat} (ho : o = 1 ∨ o = 16) (hn : I o 12 = nI n) (hk : k < n) (hb : n < 2 ^ 31) (hq : Q (some (.int ((I o 13 >>> (nI k &&& 31)) &&& nI 1))) (hp Lx t rt u I G)) : ab_call ab_MT (d + 1) 101 [.ref o, .int (nI k)] (hp Lx t rt u I G) 0 0 Q := by
  rcases ho with rfl | rfl
  all_goals
    refine wx_in (M := mX7_truth) rfl rfl rfl (Nat.le_of_ble_eq_true rfl) ?_
    refine wx_iload_n rfl (e := 1) rfl rfl ?_
    refine wn_if_lt rfl (e := 4) rfl (by omega) ?_
    refine wx_iload_n rfl (e := 5) rfl rfl ?_
    refine wx_aload_n rfl (e := 6) rfl rfl ?_
    refine wx_geti rfl (e := 9) rfl rfl ?_
    rw [hn]
    first | refine wn_ic_ge rfl (e := 12) rfl (by omega) (by omega) (fun c_9 => absurd c_9 (by omega)) (fun c_9 => ?_) | refine wx_ic_ge rfl (e := 12) rfl (fun c_9 => absurd c_9 (by omega)) (fun c_9 => ?_)
    refine wx_aload_n rfl (e := 13) rfl rfl ?_
    refine wx_geti rfl (e := 16) rfl rfl ?_
    refine wx_iload_n rfl (e := 17) rfl rfl ?_
    refine wx_ishr rfl (e := 18) rfl ?_
    refine wx_iconst (v := (nI 1)) rfl (e := 19) rfl (by decide) ?_
    refine wx_iand rfl (e := 20) rfl ?_
    refine wx_goto rfl ?_
    refine wx_iret rfl rfl rfl ⟨by decide, by decide⟩ ?_
    exact hq
theorem c_X7_far {d Lx t rt u : Nat} {I : Nat → Nat → Int32} {G : Nat → Nat → Int64} {Q : ab_Q} {o n a b : Nat} (ho : o = 1 ∨ o = 16) (hn : I o 10 = nI n) (ha : a < n) (hb : b < n) (h6 : n ≤ 6) (hq : Q (some (.int (I (o + 10) (a * 6 + b)))) (hp Lx t rt u I G)) : ab_call ab_MT (d + 1) 107 [.ref o, .int (nI a), .int (nI b)] (hp Lx t rt u I G) 0 0 Q := by
  rcases ho with rfl | rfl
  all_goals
    refine wx_in (M := mX7_far) rfl rfl rfl (Nat.le_of_ble_eq_true rfl) ?_
    refine wx_iload_n rfl (e := 1) rfl rfl ?_
    refine wn_if_lt rfl (e := 4) rfl (by omega) ?_
    refine wx_iload_n rfl (e := 5) rfl rfl ?_
    refine wx_aload_n rfl (e := 6) rfl rfl ?_
    refine wx_geti rfl (e := 9) rfl rfl ?_
    rw [hn]
    first | refine wn_ic_ge rfl (e := 12) rfl (by omega) (by omega) (fun c_9 => absurd c_9 (by omega)) (fun c_9 => ?_) | refine wx_ic_ge rfl (e := 12) rfl (fun c_9 => absurd c_9 (by omega)) (fun c_9 => ?_)
    refine wx_iload_n rfl (e := 13) rfl rfl ?_
    refine wn_if_lt rfl (e := 16) rfl (by omega) ?_
    refine wx_iload_n rfl (e := 17) rfl rfl ?_
    refine wx_aload_n rfl (e := 18) rfl rfl ?_
    refine wx_geti rfl (e := 21) rfl rfl ?_
    rw [hn]
    first | refine wn_ic_ge rfl (e := 24) rfl (by omega) (by omega) (fun c_21 => absurd c_21 (by omega)) (fun c_21 => ?_) | refine wx_ic_ge rfl (e := 24) rfl (fun c_21 => absurd c_21 (by omega)) (fun c_21 => ?_)
    refine wx_iconst (v := (nI 1)) rfl (e := 25) rfl (by decide) ?_
    refine wx_goto rfl ?_
    refine wx_istore_n (L2 := [_, _, _, _]) rfl (e := 30) rfl (by decide) rfl ?_
    refine wx_iload_n rfl (e := 31) rfl rfl ?_
    first | refine wn_if_eq rfl (e := 34) rfl (by omega) (fun c_31 => absurd c_31 (by omega)) (fun c_31 => ?_) | refine wx_if_eq rfl (e := 34) rfl (fun c_31 => absurd c_31 (by omega)) (fun c_31 => ?_)
    refine wx_aload_n rfl (e := 35) rfl rfl ?_
    refine wx_getr rfl (e := 38) rfl rfl rfl ?_
    refine wx_iload_n rfl (e := 39) rfl rfl ?_
    refine wx_bipush (v := (nI 6)) rfl (e := 41) rfl (by decide) ?_
    first | refine wn_imul rfl (e := 42) rfl ?_ | refine wx_imul rfl (e := 42) rfl ?_
    refine wx_iload_n rfl (e := 43) rfl rfl ?_
    first | refine wn_iadd rfl (e := 44) rfl ?_ | refine wx_iadd rfl (e := 44) rfl ?_
    first | refine wn_iald rfl (e := 45) rfl rfl (by omega) (by decide) ?_ | refine wx_iald rfl (e := 45) rfl rfl (by assumption) ?_
    refine wx_goto rfl ?_
    refine wx_iret rfl rfl rfl ⟨by decide, by decide⟩ ?_
    exact hq
theorem c_X7_hasChurch {d Lx t rt u : Nat} {I : Nat → Nat → Int32} {G : Nat → Nat → Int64} {Q : ab_Q} {o n : Nat} {v : Int32} (ho : o = 1 ∨ o = 16) (hn : I o 10 = nI n) (hb : n < 2 ^ 31) (h1 : ∀ k, k < n → v = nI k → Q (some (.int (nI 1))) (hp Lx t rt u I G)) (h0 : (∀ k, k < n → v ≠ nI k) → Q (some (.int (nI 0))) (hp Lx t rt u I G)) : ab_call ab_MT (d + 1) 98 [.ref o, .int v] (hp Lx t rt u I G) 0 0 Q := by
  rcases ho with rfl | rfl
  all_goals
    refine wx_in (M := mX7_hasChurch) rfl rfl rfl (Nat.le_of_ble_eq_true rfl) ?_
    refine wx_iload_n rfl (e := 1) rfl rfl ?_
    refine wx_if_lt rfl (e := 4) rfl (fun c_1 => ?_) (fun c_1 => ?_)
    · refine wx_iconst (v := (nI 0)) rfl (e := 17) rfl (by decide) ?_
      refine wx_iret rfl rfl rfl ⟨by decide, by decide⟩ ?_
      first | (exact h0 (fun k hk e => by subst e; exact absurd c_1 (nI_pos (by omega)))) | (exact h0 (fun k hk e => by subst e; exact absurd c_9 (nI_ge hk hb))) | (obtain ⟨k, hk, e⟩ := nI_of c_1; subst e; exact h1 k (Nat.lt_of_not_le (fun z => c_9 (nI_le z hk))) rfl)
    · refine wx_iload_n rfl (e := 5) rfl rfl ?_
      refine wx_aload_n rfl (e := 6) rfl rfl ?_
      refine wx_geti rfl (e := 9) rfl rfl ?_
      rw [hn]
      first | refine wn_ic_ge rfl (e := 12) rfl (by omega) (by omega) (fun c_9 => ?_) (fun c_9 => ?_) | refine wx_ic_ge rfl (e := 12) rfl (fun c_9 => ?_) (fun c_9 => ?_)
      · refine wx_iconst (v := (nI 0)) rfl (e := 17) rfl (by decide) ?_
        refine wx_iret rfl rfl rfl ⟨by decide, by decide⟩ ?_
        first | (exact h0 (fun k hk e => by subst e; exact absurd c_1 (nI_pos (by omega)))) | (exact h0 (fun k hk e => by subst e; exact absurd c_9 (nI_ge hk hb))) | (obtain ⟨k, hk, e⟩ := nI_of c_1; subst e; exact h1 k (Nat.lt_of_not_le (fun z => c_9 (nI_le z hk))) rfl)
      · refine wx_iconst (v := (nI 1)) rfl (e := 13) rfl (by decide) ?_
        refine wx_goto rfl ?_
        refine wx_iret rfl rfl rfl ⟨by decide, by decide⟩ ?_
        first | (exact h0 (fun k hk e => by subst e; exact absurd c_1 (nI_pos (by omega)))) | (exact h0 (fun k hk e => by subst e; exact absurd c_9 (nI_ge hk hb))) | (obtain ⟨k, hk, e⟩ := nI_of c_1; subst e; exact h1 k (Nat.lt_of_not_le (fun z => c_9 (nI_le z hk))) rfl)
theorem c_X7_hasRelic {d Lx t rt u : Nat} {I : Nat → Nat → Int32} {G : Nat → Nat → Int64} {Q : ab_Q} {o n : Nat} {v : Int32} (ho : o = 1 ∨ o = 16) (hn : I o 12 = nI n) (hb : n < 2 ^ 31) (h1 : ∀ k, k < n → v = nI k → Q (some (.int (nI 1))) (hp Lx t rt u I G)) (h0 : (∀ k, k < n → v ≠ nI k) → Q (some (.int (nI 0))) (hp Lx t rt u I G)) : ab_call ab_MT (d + 1) 99 [.ref o, .int v] (hp Lx t rt u I G) 0 0 Q := by
  rcases ho with rfl | rfl
  all_goals
    refine wx_in (M := mX7_hasRelic) rfl rfl rfl (Nat.le_of_ble_eq_true rfl) ?_
    refine wx_iload_n rfl (e := 1) rfl rfl ?_
    refine wx_if_lt rfl (e := 4) rfl (fun c_1 => ?_) (fun c_1 => ?_)
    · refine wx_iconst (v := (nI 0)) rfl (e := 17) rfl (by decide) ?_
      refine wx_iret rfl rfl rfl ⟨by decide, by decide⟩ ?_
      first | (exact h0 (fun k hk e => by subst e; exact absurd c_1 (nI_pos (by omega)))) | (exact h0 (fun k hk e => by subst e; exact absurd c_9 (nI_ge hk hb))) | (obtain ⟨k, hk, e⟩ := nI_of c_1; subst e; exact h1 k (Nat.lt_of_not_le (fun z => c_9 (nI_le z hk))) rfl)
    · refine wx_iload_n rfl (e := 5) rfl rfl ?_
      refine wx_aload_n rfl (e := 6) rfl rfl ?_
      refine wx_geti rfl (e := 9) rfl rfl ?_
      rw [hn]
      first | refine wn_ic_ge rfl (e := 12) rfl (by omega) (by omega) (fun c_9 => ?_) (fun c_9 => ?_) | refine wx_ic_ge rfl (e := 12) rfl (fun c_9 => ?_) (fun c_9 => ?_)
      · refine wx_iconst (v := (nI 0)) rfl (e := 17) rfl (by decide) ?_
        refine wx_iret rfl rfl rfl ⟨by decide, by decide⟩ ?_
        first | (exact h0 (fun k hk e => by subst e; exact absurd c_1 (nI_pos (by omega)))) | (exact h0 (fun k hk e => by subst e; exact absurd c_9 (nI_ge hk hb))) | (obtain ⟨k, hk, e⟩ := nI_of c_1; subst e; exact h1 k (Nat.lt_of_not_le (fun z => c_9 (nI_le z hk))) rfl)
      · refine wx_iconst (v := (nI 1)) rfl (e := 13) rfl (by decide) ?_
        refine wx_goto rfl ?_
        refine wx_iret rfl rfl rfl ⟨by decide, by decide⟩ ?_
        first | (exact h0 (fun k hk e => by subst e; exact absurd c_1 (nI_pos (by omega)))) | (exact h0 (fun k hk e => by subst e; exact absurd c_9 (nI_ge hk hb))) | (obtain ⟨k, hk, e⟩ := nI_of c_1; subst e; exact h1 k (Nat.lt_of_not_le (fun z => c_9 (nI_le z hk))) rfl)
theorem c_X7_hasPilgrim {d Lx t rt u : Nat} {I : Nat → Nat → Int32} {G : Nat → Nat → Int64} {Q : ab_Q} {o n : Nat} {v : Int32} (ho : o = 1 ∨ o = 16) (hn : I o 14 = nI n) (hb : n < 2 ^ 31) (h1 : ∀ k, k < n → v = nI k → Q (some (.int (nI 1))) (hp Lx t rt u I G)) (h0 : (∀ k, k < n → v ≠ nI k) → Q (some (.int (nI 0))) (hp Lx t rt u I G)) : ab_call ab_MT (d + 1) 100 [.ref o, .int v] (hp Lx t rt u I G) 0 0 Q := by
  rcases ho with rfl | rfl
  all_goals
    refine wx_in (M := mX7_hasPilgrim) rfl rfl rfl (Nat.le_of_ble_eq_true rfl) ?_
    refine wx_iload_n rfl (e := 1) rfl rfl ?_
    refine wx_if_lt rfl (e := 4) rfl (fun c_1 => ?_) (fun c_1 => ?_)
    · refine wx_iconst (v := (nI 0)) rfl (e := 17) rfl (by decide) ?_
      refine wx_iret rfl rfl rfl ⟨by decide, by decide⟩ ?_
      first | (exact h0 (fun k hk e => by subst e; exact absurd c_1 (nI_pos (by omega)))) | (exact h0 (fun k hk e => by subst e; exact absurd c_9 (nI_ge hk hb))) | (obtain ⟨k, hk, e⟩ := nI_of c_1; subst e; exact h1 k (Nat.lt_of_not_le (fun z => c_9 (nI_le z hk))) rfl)
    · refine wx_iload_n rfl (e := 5) rfl rfl ?_
      refine wx_aload_n rfl (e := 6) rfl rfl ?_
      refine wx_geti rfl (e := 9) rfl rfl ?_
      rw [hn]
      first | refine wn_ic_ge rfl (e := 12) rfl (by omega) (by omega) (fun c_9 => ?_) (fun c_9 => ?_) | refine wx_ic_ge rfl (e := 12) rfl (fun c_9 => ?_) (fun c_9 => ?_)
      · refine wx_iconst (v := (nI 0)) rfl (e := 17) rfl (by decide) ?_
        refine wx_iret rfl rfl rfl ⟨by decide, by decide⟩ ?_
        first | (exact h0 (fun k hk e => by subst e; exact absurd c_1 (nI_pos (by omega)))) | (exact h0 (fun k hk e => by subst e; exact absurd c_9 (nI_ge hk hb))) | (obtain ⟨k, hk, e⟩ := nI_of c_1; subst e; exact h1 k (Nat.lt_of_not_le (fun z => c_9 (nI_le z hk))) rfl)
      · refine wx_iconst (v := (nI 1)) rfl (e := 13) rfl (by decide) ?_
        refine wx_goto rfl ?_
        refine wx_iret rfl rfl rfl ⟨by decide, by decide⟩ ?_
        first | (exact h0 (fun k hk e => by subst e; exact absurd c_1 (nI_pos (by omega)))) | (exact h0 (fun k hk e => by subst e; exact absurd c_9 (nI_ge hk hb))) | (obtain ⟨k, hk, e⟩ := nI_of c_1; subst e; exact h1 k (Nat.lt_of_not_le (fun z => c_9 (nI_le z hk))) rfl)
theorem c_X2_setVar {d Lx t rt u : Nat} {I : Nat → Nat → Int32} {G : Nat → Nat → Int64} {Q : ab_Q} {w j : Nat} {v : Int32} (hw : w = 2 ∨ w = 17) (hj : j < 9) (hq : Q none (hp Lx t rt u (wr I (w + 4) j v) G)) : ab_call ab_MT (d + 1) 41 [.ref w, .int (nI j), .int v] (hp Lx t rt u I G) 0 0 Q := by
  rcases hw with rfl | rfl
  all_goals
    refine wx_in (M := mX2_setVar) rfl rfl rfl (Nat.le_of_ble_eq_true rfl) ?_
    refine wx_iload_n rfl (e := 1) rfl rfl ?_
    refine wn_if_lt rfl (e := 4) rfl (by omega) ?_
    refine wx_iload_n rfl (e := 5) rfl rfl ?_
    refine wx_bipush (v := (nI 9)) rfl (e := 7) rfl (by decide) ?_
    first | refine wn_ic_ge rfl (e := 10) rfl (by omega) (by omega) (fun c_7 => absurd c_7 (by omega)) (fun c_7 => ?_) | refine wx_ic_ge rfl (e := 10) rfl (fun c_7 => absurd c_7 (by omega)) (fun c_7 => ?_)
    refine wx_aload_n rfl (e := 11) rfl rfl ?_
    refine wx_getr rfl (e := 14) rfl rfl rfl ?_
    refine wx_iload_n rfl (e := 15) rfl rfl ?_
    refine wx_iload_n rfl (e := 16) rfl rfl ?_
    first | refine wn_iast rfl (e := 17) rfl rfl (by decide) (by omega) (by decide) ?_ | refine wx_iast rfl (e := 17) rfl rfl (by decide) (by assumption) ?_
    refine wx_ret rfl rfl ⟨by decide, by decide⟩ ?_
    exact hq
theorem c_X2_varOf {d Lx t rt u : Nat} {I : Nat → Nat → Int32} {G : Nat → Nat → Int64} {Q : ab_Q} {w : Nat} {v : Int32} (hw : w = 2 ∨ w = 17) (h1 : ∀ j, j < 9 → v = nI j → Q (some (.int (I (w + 4) j))) (hp Lx t rt u I G)) (h0 : (∀ j, j < 9 → v ≠ nI j) → Q (some (.int (nI 0))) (hp Lx t rt u I G)) : ab_call ab_MT (d + 1) 42 [.ref w, .int v] (hp Lx t rt u I G) 0 0 Q := by
  rcases hw with rfl | rfl
  all_goals
    refine wx_in (M := mX2_varOf) rfl rfl rfl (Nat.le_of_ble_eq_true rfl) ?_
    refine wx_iload_n rfl (e := 1) rfl rfl ?_
    refine wx_if_lt rfl (e := 4) rfl (fun c_1 => ?_) (fun c_1 => ?_)
    · refine wx_iconst (v := (nI 0)) rfl (e := 20) rfl (by decide) ?_
      refine wx_iret rfl rfl rfl ⟨by decide, by decide⟩ ?_
      first | exact h1 k hk9 rfl | (exact h0 (fun k hk e => by subst e; exact absurd c_1 (nI_pos (by omega)))) | (exact h0 (fun k hk e => by subst e; exact absurd c_7 (nI_ge hk (by decide))))
    · refine wx_iload_n rfl (e := 5) rfl rfl ?_
      refine wx_bipush (v := (nI 9)) rfl (e := 7) rfl (by decide) ?_
      first | refine wn_ic_ge rfl (e := 10) rfl (by omega) (by omega) (fun c_7 => ?_) (fun c_7 => ?_) | refine wx_ic_ge rfl (e := 10) rfl (fun c_7 => ?_) (fun c_7 => ?_)
      · refine wx_iconst (v := (nI 0)) rfl (e := 20) rfl (by decide) ?_
        refine wx_iret rfl rfl rfl ⟨by decide, by decide⟩ ?_
        first | exact h1 k hk9 rfl | (exact h0 (fun k hk e => by subst e; exact absurd c_1 (nI_pos (by omega)))) | (exact h0 (fun k hk e => by subst e; exact absurd c_7 (nI_ge hk (by decide))))
      · obtain ⟨k, hk, e⟩ := nI_of c_1
        subst e
        have hk9 : k < 9 := Nat.lt_of_not_le (fun z => c_7 (nI_le z hk))
        refine wx_aload_n rfl (e := 11) rfl rfl ?_
        refine wx_getr rfl (e := 14) rfl rfl rfl ?_
        refine wx_iload_n rfl (e := 15) rfl rfl ?_
        first | refine wn_iald rfl (e := 16) rfl rfl (by omega) (by decide) ?_ | refine wx_iald rfl (e := 16) rfl rfl (by assumption) ?_
        refine wx_goto rfl ?_
        refine wx_iret rfl rfl rfl ⟨by decide, by decide⟩ ?_
        first | exact h1 k hk9 rfl | (exact h0 (fun k hk e => by subst e; exact absurd c_1 (nI_pos (by omega)))) | (exact h0 (fun k hk e => by subst e; exact absurd c_7 (nI_ge hk (by decide))))
theorem c_J9_max_7cf53 {d : Nat} {h : ab_H} {Q : ab_Q} {a b : Int32} (hq : Q (some (.int (if a < b then b else a))) h) : ab_call ab_MT (d + 1) 299 [.int a, .int b] h 0 0 Q := by
  refine wx_in (M := mJ9_max_7cf53) rfl rfl rfl (Nat.le_of_ble_eq_true rfl) ?_
  refine wx_iload_n rfl (e := 1) rfl rfl ?_
  refine wx_iload_n rfl (e := 2) rfl rfl ?_
  first | refine wn_ic_lt rfl (e := 5) rfl (by omega) (by omega) (fun c_2 => ?_) (fun c_2 => ?_) | refine wx_ic_lt rfl (e := 5) rfl (fun c_2 => ?_) (fun c_2 => ?_)
  · refine wx_iload_n rfl (e := 10) rfl rfl ?_
    refine wx_iret rfl rfl rfl ⟨by decide, by decide⟩ ?_
    first | (rw [if_pos c_2] at hq; exact hq) | (rw [if_neg c_2] at hq; exact hq)
  · refine wx_iload_n rfl (e := 6) rfl rfl ?_
    refine wx_goto rfl ?_
    refine wx_iret rfl rfl rfl ⟨by decide, by decide⟩ ?_
    first | (rw [if_pos c_2] at hq; exact hq) | (rw [if_neg c_2] at hq; exact hq)
theorem c_J9_min_7cf53 {d : Nat} {h : ab_H} {Q : ab_Q} {a b : Int32} (hq : Q (some (.int (if b < a then b else a))) h) : ab_call ab_MT (d + 1) 301 [.int a, .int b] h 0 0 Q := by
  refine wx_in (M := mJ9_min_7cf53) rfl rfl rfl (Nat.le_of_ble_eq_true rfl) ?_
  refine wx_iload_n rfl (e := 1) rfl rfl ?_
  refine wx_iload_n rfl (e := 2) rfl rfl ?_
  first | refine wn_ic_gt rfl (e := 5) rfl (by omega) (by omega) (fun c_2 => ?_) (fun c_2 => ?_) | refine wx_ic_gt rfl (e := 5) rfl (fun c_2 => ?_) (fun c_2 => ?_)
  · refine wx_iload_n rfl (e := 10) rfl rfl ?_
    refine wx_iret rfl rfl rfl ⟨by decide, by decide⟩ ?_
    first | (rw [if_pos c_2] at hq; exact hq) | (rw [if_neg c_2] at hq; exact hq)
  · refine wx_iload_n rfl (e := 6) rfl rfl ?_
    refine wx_goto rfl ?_
    refine wx_iret rfl rfl rfl ⟨by decide, by decide⟩ ?_
    first | (rw [if_pos c_2] at hq; exact hq) | (rw [if_neg c_2] at hq; exact hq)
theorem c_X10_heldTo {d : Nat} {h : ab_H} {Q : ab_Q} {v m : Int32} (hm : ¬ m < nI 0) (hq : Q (some (.int (heldS v m))) h) : ab_call ab_MT (d + 2) 181 [.int v, .int m] h 0 0 Q := by
  refine wx_in (M := mX10_heldTo) rfl rfl rfl (Nat.le_of_ble_eq_true rfl) ?_
  refine wx_iconst (v := (nI 0)) rfl (e := 1) rfl (by decide) ?_
  refine wx_iload_n rfl (e := 2) rfl rfl ?_
  refine wx_iload_n rfl (e := 3) rfl rfl ?_
  refine wx_cs2 (mc := 0) (ms := 0) rfl (e := 6) rfl (Nat.le_of_ble_eq_true rfl) ⟨by decide, by decide⟩ ?_
  refine c_J9_min_7cf53 ?_
  refine wx_cs2 (mc := 0) (ms := 0) rfl (e := 9) rfl (Nat.le_of_ble_eq_true rfl) ⟨by decide, by decide⟩ ?_
  refine c_J9_max_7cf53 ?_
  refine wx_iret rfl rfl rfl ⟨by decide, by decide⟩ ?_
  rw [heldS_eq hm]
  exact hq
theorem c_X0_mixed {d : Nat} {h : ab_H} {Q : ab_Q} {a b : Int32} (hq : Q (some (.int (mixS a b))) h) : ab_call ab_MT (d + 1) 5 [.int a, .int b] h 0 0 Q := by
  refine wx_in (M := mX0_mixed) rfl rfl rfl (Nat.le_of_ble_eq_true rfl) ?_
  refine wx_iload_n rfl (e := 1) rfl rfl ?_
  refine wx_iload_n rfl (e := 2) rfl rfl ?_
  refine wx_ixor rfl (e := 3) rfl ?_
  refine wx_ldc (v := (nI 1103515245)) rfl (e := 5) rfl (by decide) ?_
  refine wx_imul rfl (e := 6) rfl ?_
  refine wx_sipush (v := (nI 12345)) rfl (e := 9) rfl (by decide) ?_
  refine wx_iadd rfl (e := 10) rfl ?_
  refine wx_istore_n (L2 := [_, _, _]) rfl (e := 11) rfl (by decide) rfl ?_
  refine wx_iload_n rfl (e := 12) rfl rfl ?_
  refine wx_iload_n rfl (e := 13) rfl rfl ?_
  refine wx_bipush (v := (nI 15)) rfl (e := 15) rfl (by decide) ?_
  refine wx_iushr rfl (e := 16) rfl ?_
  refine wx_ixor rfl (e := 17) rfl ?_
  refine wx_iret rfl rfl rfl ⟨by decide, by decide⟩ ?_
  unfold mixS at hq
  exact hq
theorem c_X0_lot {d : Nat} {h : ab_H} {Q : ab_Q} {a b : Int32} (hq : Q (some (.int (lotS a b))) h) : ab_call ab_MT (d + 2) 4 [.int a, .int b] h 0 0 Q := by
  refine wx_in (M := mX0_lot) rfl rfl rfl (Nat.le_of_ble_eq_true rfl) ?_
  refine wx_iload_n rfl (e := 1) rfl rfl ?_
  refine wx_bipush (v := (nI 111)) rfl (e := 3) rfl (by decide) ?_
  refine wx_cs2 (mc := 0) (ms := 0) rfl (e := 6) rfl (Nat.le_of_ble_eq_true rfl) ⟨by decide, by decide⟩ ?_
  refine c_X0_mixed ?_
  refine wx_iload_n rfl (e := 7) rfl rfl ?_
  refine wx_cs2 (mc := 0) (ms := 0) rfl (e := 10) rfl (Nat.le_of_ble_eq_true rfl) ⟨by decide, by decide⟩ ?_
  refine c_X0_mixed ?_
  refine wx_iconst (v := (nI 1)) rfl (e := 11) rfl (by decide) ?_
  refine wx_iushr rfl (e := 12) rfl ?_
  refine wx_iret rfl rfl rfl ⟨by decide, by decide⟩ ?_
  exact hq
theorem c_X0_falls {d : Nat} {h : ab_H} {Q : ab_Q} {a b v : Int32} (h1 : lotH a b < v → Q (some (.int (nI 1))) h) (h0 : ¬ lotH a b < v → Q (some (.int (nI 0))) h) : ab_call ab_MT (d + 3) 6 [.int a, .int b, .int v] h 0 0 Q := by
  refine wx_in (M := mX0_falls) rfl rfl rfl (Nat.le_of_ble_eq_true rfl) ?_
  refine wx_iload_n rfl (e := 1) rfl rfl ?_
  refine wx_iload_n rfl (e := 2) rfl rfl ?_
  refine wx_cs2 (mc := 0) (ms := 0) rfl (e := 5) rfl (Nat.le_of_ble_eq_true rfl) ⟨by decide, by decide⟩ ?_
  refine c_X0_lot ?_
  refine wx_bipush (v := (nI 100)) rfl (e := 7) rfl (by decide) ?_
  refine wx_irem rfl (e := 8) rfl (by decide) ?_
  refine wx_iload_n rfl (e := 9) rfl rfl ?_
  first | refine wn_ic_ge rfl (e := 12) rfl (by omega) (by omega) (fun c_9 => ?_) (fun c_9 => ?_) | refine wx_ic_ge rfl (e := 12) rfl (fun c_9 => ?_) (fun c_9 => ?_)
  · refine wx_iconst (v := (nI 0)) rfl (e := 17) rfl (by decide) ?_
    refine wx_iret rfl rfl rfl ⟨by decide, by decide⟩ ?_
    first | exact h0 (Int32.not_lt.mpr c_9) | exact h1 (Int32.not_le.mp c_9)
  · refine wx_iconst (v := (nI 1)) rfl (e := 13) rfl (by decide) ?_
    refine wx_goto rfl ?_
    refine wx_iret rfl rfl rfl ⟨by decide, by decide⟩ ?_
    first | exact h0 (Int32.not_lt.mpr c_9) | exact h1 (Int32.not_le.mp c_9)
theorem c_X10_isWithin {d : Nat} {h : ab_H} {Q : ab_Q} {v : Int32} {lo hi : Nat} (hl : lo ≤ hi) (hb : hi < 2 ^ 31) (h1 : ∀ k, lo ≤ k → k ≤ hi → v = nI k → Q (some (.int (nI 1))) h) (h0 : (∀ k, lo ≤ k → k ≤ hi → v ≠ nI k) → Q (some (.int (nI 0))) h) : ab_call ab_MT (d + 1) 180 [.int v, .int (nI lo), .int (nI hi)] h 0 0 Q := by
  refine wx_in (M := mX10_isWithin) rfl rfl rfl (Nat.le_of_ble_eq_true rfl) ?_
  refine wx_iload_n rfl (e := 1) rfl rfl ?_
  refine wx_iload_n rfl (e := 2) rfl rfl ?_
  first | refine wn_ic_lt rfl (e := 5) rfl (by omega) (by omega) (fun c_2 => ?_) (fun c_2 => ?_) | refine wx_ic_lt rfl (e := 5) rfl (fun c_2 => ?_) (fun c_2 => ?_)
  · refine wx_iconst (v := (nI 0)) rfl (e := 15) rfl (by decide) ?_
    refine wx_iret rfl rfl rfl ⟨by decide, by decide⟩ ?_
    first | exact h0 (fun k a b e => by subst e; exact absurd c_2 (nI_nlt a (by omega))) | exact h0 (fun k a b e => by subst e; exact absurd c_7 (nI_nlt b (by omega))) | exact win_ok hl hb h1 c_2 c_7
  · refine wx_iload_n rfl (e := 6) rfl rfl ?_
    refine wx_iload_n rfl (e := 7) rfl rfl ?_
    first | refine wn_ic_gt rfl (e := 10) rfl (by omega) (by omega) (fun c_7 => ?_) (fun c_7 => ?_) | refine wx_ic_gt rfl (e := 10) rfl (fun c_7 => ?_) (fun c_7 => ?_)
    · refine wx_iconst (v := (nI 0)) rfl (e := 15) rfl (by decide) ?_
      refine wx_iret rfl rfl rfl ⟨by decide, by decide⟩ ?_
      first | exact h0 (fun k a b e => by subst e; exact absurd c_2 (nI_nlt a (by omega))) | exact h0 (fun k a b e => by subst e; exact absurd c_7 (nI_nlt b (by omega))) | exact win_ok hl hb h1 c_2 c_7
    · refine wx_iconst (v := (nI 1)) rfl (e := 11) rfl (by decide) ?_
      refine wx_goto rfl ?_
      refine wx_iret rfl rfl rfl ⟨by decide, by decide⟩ ?_
      first | exact h0 (fun k a b e => by subst e; exact absurd c_2 (nI_nlt a (by omega))) | exact h0 (fun k a b e => by subst e; exact absurd c_7 (nI_nlt b (by omega))) | exact win_ok hl hb h1 c_2 c_7
theorem c_J6_bitCount {d : Nat} {h : ab_H} {Q : ab_Q} {v : Int32} (hq : Q (some (.int (bcS v))) h) : ab_call ab_MT (d + 1) 298 [.int v] h 0 0 Q := by
  refine wx_in (M := mJ6_bitCount_0f7a4) rfl rfl rfl (Nat.le_of_ble_eq_true rfl) ?_
  refine wx_iload_n rfl (e := 1) rfl rfl ?_
  refine wx_iload_n rfl (e := 2) rfl rfl ?_
  refine wx_iconst (v := (nI 1)) rfl (e := 3) rfl (by decide) ?_
  refine wx_iushr rfl (e := 4) rfl ?_
  refine wx_ldcw (v := (nI 1431655765)) rfl (e := 7) rfl (by decide) ?_
  refine wx_iand rfl (e := 8) rfl ?_
  first | refine wn_isub rfl (e := 9) rfl (by omega) ?_ | refine wx_isub rfl (e := 9) rfl ?_
  refine wx_istore_n (L2 := [_]) rfl (e := 10) rfl (by decide) rfl ?_
  refine wx_iload_n rfl (e := 11) rfl rfl ?_
  refine wx_ldcw (v := (nI 858993459)) rfl (e := 14) rfl (by decide) ?_
  refine wx_iand rfl (e := 15) rfl ?_
  refine wx_iload_n rfl (e := 16) rfl rfl ?_
  refine wx_iconst (v := (nI 2)) rfl (e := 17) rfl (by decide) ?_
  refine wx_iushr rfl (e := 18) rfl ?_
  refine wx_ldcw (v := (nI 858993459)) rfl (e := 21) rfl (by decide) ?_
  refine wx_iand rfl (e := 22) rfl ?_
  first | refine wn_iadd rfl (e := 23) rfl ?_ | refine wx_iadd rfl (e := 23) rfl ?_
  refine wx_istore_n (L2 := [_]) rfl (e := 24) rfl (by decide) rfl ?_
  refine wx_iload_n rfl (e := 25) rfl rfl ?_
  refine wx_iload_n rfl (e := 26) rfl rfl ?_
  refine wx_iconst (v := (nI 4)) rfl (e := 27) rfl (by decide) ?_
  refine wx_iushr rfl (e := 28) rfl ?_
  first | refine wn_iadd rfl (e := 29) rfl ?_ | refine wx_iadd rfl (e := 29) rfl ?_
  refine wx_ldcw (v := (nI 252645135)) rfl (e := 32) rfl (by decide) ?_
  refine wx_iand rfl (e := 33) rfl ?_
  refine wx_istore_n (L2 := [_]) rfl (e := 34) rfl (by decide) rfl ?_
  refine wx_iload_n rfl (e := 35) rfl rfl ?_
  refine wx_iload_n rfl (e := 36) rfl rfl ?_
  refine wx_bipush (v := (nI 8)) rfl (e := 38) rfl (by decide) ?_
  refine wx_iushr rfl (e := 39) rfl ?_
  first | refine wn_iadd rfl (e := 40) rfl ?_ | refine wx_iadd rfl (e := 40) rfl ?_
  refine wx_istore_n (L2 := [_]) rfl (e := 41) rfl (by decide) rfl ?_
  refine wx_iload_n rfl (e := 42) rfl rfl ?_
  refine wx_iload_n rfl (e := 43) rfl rfl ?_
  refine wx_bipush (v := (nI 16)) rfl (e := 45) rfl (by decide) ?_
  refine wx_iushr rfl (e := 46) rfl ?_
  first | refine wn_iadd rfl (e := 47) rfl ?_ | refine wx_iadd rfl (e := 47) rfl ?_
  refine wx_istore_n (L2 := [_]) rfl (e := 48) rfl (by decide) rfl ?_
  refine wx_iload_n rfl (e := 49) rfl rfl ?_
  refine wx_bipush (v := (nI 63)) rfl (e := 51) rfl (by decide) ?_
  refine wx_iand rfl (e := 52) rfl ?_
  refine wx_iret rfl rfl rfl ⟨by decide, by decide⟩ ?_
  exact hq
end
section
/-! the laws: looking at what is set, and what a law tells -/
def varS (vs : Nat → Int32) (v : Int32) : Int32 := if ¬ v < nI 0 ∧ v < nI 9 then vs v.toNatClampNeg else nI 0
def wrkS (s l r : Int32) : Int32 := if s = nI 43 then l + r else if s = nI 45 then l - r else if s = nI 42 then l * r else if r = nI 0 then nI 0 else l / r
/-- the steps of a law, one by one: where it is, how many wait, what waits -/
def cev (us : Nat) (st ar vs : Nat → Int32) : Nat → Nat → Nat → (Nat → Int32) → Int32
  | 0, _, _, _ => nI 0
  | f + 1, at_, top, sk =>
    if us ≤ at_ ∨ 420 ≤ at_ then nI 0
    else if st at_ = nI 3 then (if top = 0 ∨ 20 < top then nI 0 else sk (top - 1))
    else if st at_ = nI 0 ∨ st at_ = nI 1 then (if 20 ≤ top then nI 0 else cev us st ar vs f (at_ + 1) (top + 1) (upd sk top (if st at_ = nI 0 then ar at_ else varS vs (ar at_))))
    else if top < 2 ∨ 20 < top then nI 0
    else if st at_ = nI 2 then (if sk (top - 1) ≤ sk (top - 2) then cev us st ar vs f (max at_ ((ar at_).toNatClampNeg - 1) + 1) (top - 2) sk else cev us st ar vs f (at_ + 1) (top - 2) sk)
    else if st at_ = nI 47 ∧ sk (top - 1) = nI 0 then nI 0
    else cev us st ar vs f (at_ + 1) (top - 1) (upd sk (top - 2) (wrkS (st at_) (sk (top - 2)) (sk (top - 1))))
/-- the rows of the laws, as they must be for a law to be told -/
def lwok (I : Nat → Nat → Int32) (w us : Nat) (ss : Nat → Nat) : Prop := us ≤ 420 ∧ I w 5 = nI us ∧ (∀ k, k < 5 → ss k ≤ 420 ∧ I (w + 3) k = nI (ss k)) ∧ ∀ j, j < us → I (w + 1) j = nI 2 → ∃ m, m ≤ 420 ∧ I (w + 2) j = nI m
theorem c_X2_clearVars_2 {d Lx t rt u : Nat} {I : Nat → Nat → Int32} {G : Nat → Nat → Int64} {Q : ab_Q} (hq : ∀ I2, (∀ c k, I2 c k = if c = 6 ∧ k < 9 then nI 0 else I c k) → Q none (hp Lx t rt u I2 G)) : ab_call ab_MT (d + 1) 40 [.ref 2] (hp Lx t rt u I G) 0 0 Q := by
  have loop : ∀ (n i : Nat) (I2 : Nat → Nat → Int32), i ≤ 9 → 9 - i < n → (∀ c k, I2 c k = if c = 6 ∧ k < i then nI 0 else I c k) → WP d mX2_clearVars Q 2 [some (.ref 2), some (.int (nI i))] [] (hp Lx t rt u I2 G) 0 0 := by
    intro n
    induction n with
    | zero => intro i I2 hi hn; omega
    | succ n ih =>
      intro i I2 hi hn hI
      refine wx_iload_n rfl (e := 3) rfl rfl ?_
      refine wx_bipush (v := (nI 9)) rfl (e := 5) rfl (by decide) ?_
      first | refine wn_ic_ge rfl (e := 8) rfl (by omega) (by omega) (fun c_5 => ?_) (fun c_5 => ?_) | refine wx_ic_ge rfl (e := 8) rfl (fun c_5 => ?_) (fun c_5 => ?_)
      · refine wx_ret rfl rfl ⟨by decide, by decide⟩ ?_
        exact hq I2 (fun c k => by rw [hI]; rw [show i = 9 by omega])
      · refine wx_aload_n rfl (e := 9) rfl rfl ?_
        refine wx_getr rfl (e := 12) rfl rfl rfl ?_
        refine wx_iload_n rfl (e := 13) rfl rfl ?_
        refine wx_iconst (v := (nI 0)) rfl (e := 14) rfl (by decide) ?_
        first | refine wn_iast rfl (e := 15) rfl rfl (by decide) (by omega) (by decide) ?_ | refine wx_iast rfl (e := 15) rfl rfl (by decide) (by assumption) ?_
        first | refine wn_iinc (m := 1) (L2 := [_, _]) rfl (e := 18) rfl rfl (by decide) rfl ?_ | refine wx_iinc (L2 := [_, _]) rfl (e := 18) rfl rfl (by decide) rfl ?_
        refine wx_goto rfl ?_
        refine ih (i + 1) _ (by omega) (by omega) ?_
        intro c k
        rw [wr_at, hI, hI]
        by_cases h1 : c = 6
        · subst h1
          by_cases h2 : k = i
          · subst h2; simp
          · by_cases h3 : k < i
            · simp [h2, h3, Nat.lt_succ_of_lt h3]
            · simp [h2, h3, show ¬ k < i + 1 by omega]
        · simp [h1]
  refine wx_in (M := mX2_clearVars) rfl rfl rfl (Nat.le_of_ble_eq_true rfl) ?_
  refine wx_iconst (v := (nI 0)) rfl (e := 1) rfl (by decide) ?_
  refine wx_istore_n (L2 := [_, _]) rfl (e := 2) rfl (by decide) rfl ?_
  exact loop 10 0 I (by omega) (by omega) (fun c k => by simp)
theorem c_X2_clearVars_17 {d Lx t rt u : Nat} {I : Nat → Nat → Int32} {G : Nat → Nat → Int64} {Q : ab_Q} (hq : ∀ I2, (∀ c k, I2 c k = if c = 21 ∧ k < 9 then nI 0 else I c k) → Q none (hp Lx t rt u I2 G)) : ab_call ab_MT (d + 1) 40 [.ref 17] (hp Lx t rt u I G) 0 0 Q := by
  have loop : ∀ (n i : Nat) (I2 : Nat → Nat → Int32), i ≤ 9 → 9 - i < n → (∀ c k, I2 c k = if c = 21 ∧ k < i then nI 0 else I c k) → WP d mX2_clearVars Q 2 [some (.ref 17), some (.int (nI i))] [] (hp Lx t rt u I2 G) 0 0 := by
    intro n
    induction n with
    | zero => intro i I2 hi hn; omega
    | succ n ih =>
      intro i I2 hi hn hI
      refine wx_iload_n rfl (e := 3) rfl rfl ?_
      refine wx_bipush (v := (nI 9)) rfl (e := 5) rfl (by decide) ?_
      first | refine wn_ic_ge rfl (e := 8) rfl (by omega) (by omega) (fun c_5 => ?_) (fun c_5 => ?_) | refine wx_ic_ge rfl (e := 8) rfl (fun c_5 => ?_) (fun c_5 => ?_)
      · refine wx_ret rfl rfl ⟨by decide, by decide⟩ ?_
        exact hq I2 (fun c k => by rw [hI]; rw [show i = 9 by omega])
      · refine wx_aload_n rfl (e := 9) rfl rfl ?_
        refine wx_getr rfl (e := 12) rfl rfl rfl ?_
        refine wx_iload_n rfl (e := 13) rfl rfl ?_
        refine wx_iconst (v := (nI 0)) rfl (e := 14) rfl (by decide) ?_
        first | refine wn_iast rfl (e := 15) rfl rfl (by decide) (by omega) (by decide) ?_ | refine wx_iast rfl (e := 15) rfl rfl (by decide) (by assumption) ?_
        first | refine wn_iinc (m := 1) (L2 := [_, _]) rfl (e := 18) rfl rfl (by decide) rfl ?_ | refine wx_iinc (L2 := [_, _]) rfl (e := 18) rfl rfl (by decide) rfl ?_
        refine wx_goto rfl ?_
        refine ih (i + 1) _ (by omega) (by omega) ?_
        intro c k
        rw [wr_at, hI, hI]
        by_cases h1 : c = 21
        · subst h1
          by_cases h2 : k = i
          · subst h2; simp
          · by_cases h3 : k < i
            · simp [h2, h3, Nat.lt_succ_of_lt h3]
            · simp [h2, h3, show ¬ k < i + 1 by omega]
        · simp [h1]
  refine wx_in (M := mX2_clearVars) rfl rfl rfl (Nat.le_of_ble_eq_true rfl) ?_
  refine wx_iconst (v := (nI 0)) rfl (e := 1) rfl (by decide) ?_
  refine wx_istore_n (L2 := [_, _]) rfl (e := 2) rfl (by decide) rfl ?_
  exact loop 10 0 I (by omega) (by omega) (fun c k => by simp)
theorem c_X2_clearVars {d Lx t rt u : Nat} {I : Nat → Nat → Int32} {G : Nat → Nat → Int64} {Q : ab_Q} {w : Nat} (hw : w = 2 ∨ w = 17) (hq : ∀ I2, (∀ c k, I2 c k = if c = w + 4 ∧ k < 9 then nI 0 else I c k) → Q none (hp Lx t rt u I2 G)) : ab_call ab_MT (d + 1) 40 [.ref w] (hp Lx t rt u I G) 0 0 Q := by
  rcases hw with rfl | rfl
  · exact c_X2_clearVars_2 hq
  · exact c_X2_clearVars_17 hq
theorem wrk_toInt {s : Int32} {n : Nat} (hn : n < 2 ^ 31) (h : s.toInt = (n : Int)) : s = nI n := Int32.toInt_inj.mp (by rw [h, nI_toInt hn])
theorem c_X2_worked {d : Nat} {h : ab_H} {Q : ab_Q} {s a b : Int32} (hq : Q (some (.int (wrkS s a b))) h) : ab_call ab_MT (d + 1) 44 [.int s, .int a, .int b] h 0 0 Q := by
  refine wx_in (M := mX2_worked) rfl rfl rfl (Nat.le_of_ble_eq_true rfl) ?_
  refine wx_iload_n rfl (e := 1) rfl rfl ?_
  refine wx_sw rfl (fun c_1 => ?_) (List.forall_mem_cons.mpr ⟨fun c_1 => ?_, (List.forall_mem_cons.mpr ⟨fun c_1 => ?_, (List.forall_mem_cons.mpr ⟨fun c_1 => ?_, (List.forall_mem_cons.mpr ⟨fun c_1 => ?_, (fun _ h => absurd h List.not_mem_nil)⟩)⟩)⟩)⟩)
  · refine wx_iload_n rfl (e := 45) rfl rfl ?_
    refine wx_if_ne rfl (e := 48) rfl (fun c_45 => ?_) (fun c_45 => ?_)
    · rw [← nI_0] at c_45
      refine wx_iload_n rfl (e := 53) rfl rfl ?_
      refine wx_iload_n rfl (e := 54) rfl rfl ?_
      refine wx_idiv rfl (e := 55) rfl (by rw [← nI_0]; exact c_45) ?_
      refine wx_iret rfl rfl rfl ⟨by decide, by decide⟩ ?_
      have n1 : ¬ s = nI 43 := fun z => by rw [z] at c_1; revert c_1; decide
      have n2 : ¬ s = nI 45 := fun z => by rw [z] at c_1; revert c_1; decide
      have n3 : ¬ s = nI 42 := fun z => by rw [z] at c_1; revert c_1; decide
      rw [wrkS, if_neg n1, if_neg n2, if_neg n3] at hq
      first | (rw [if_pos c_45] at hq; exact hq) | (rw [if_neg c_45] at hq; exact hq)
    · rw [← nI_0] at c_45
      refine wx_iconst (v := (nI 0)) rfl (e := 49) rfl (by decide) ?_
      refine wx_goto rfl ?_
      refine wx_iret rfl rfl rfl ⟨by decide, by decide⟩ ?_
      have n1 : ¬ s = nI 43 := fun z => by rw [z] at c_1; revert c_1; decide
      have n2 : ¬ s = nI 45 := fun z => by rw [z] at c_1; revert c_1; decide
      have n3 : ¬ s = nI 42 := fun z => by rw [z] at c_1; revert c_1; decide
      rw [wrkS, if_neg n1, if_neg n2, if_neg n3] at hq
      first | (rw [if_pos c_45] at hq; exact hq) | (rw [if_neg c_45] at hq; exact hq)
  · have c_1 : Int32.toInt _ = 42 := c_1
    show WP _ _ _ _ _ _ _ _ _
    refine wx_iload_n rfl (e := 41) rfl rfl ?_
    refine wx_iload_n rfl (e := 42) rfl rfl ?_
    refine wx_imul rfl (e := 43) rfl ?_
    refine wx_iret rfl rfl rfl ⟨by decide, by decide⟩ ?_
    have e1 := wrk_toInt (n := 42) (by decide) c_1
    subst e1
    exact hq
  · have c_1 : Int32.toInt _ = 43 := c_1
    show WP _ _ _ _ _ _ _ _ _
    refine wx_iload_n rfl (e := 33) rfl rfl ?_
    refine wx_iload_n rfl (e := 34) rfl rfl ?_
    refine wx_iadd rfl (e := 35) rfl ?_
    refine wx_iret rfl rfl rfl ⟨by decide, by decide⟩ ?_
    have e1 := wrk_toInt (n := 43) (by decide) c_1
    subst e1
    exact hq
  · have c_1 : Int32.toInt _ = 44 := c_1
    show WP _ _ _ _ _ _ _ _ _
    refine wx_iload_n rfl (e := 45) rfl rfl ?_
    refine wx_if_ne rfl (e := 48) rfl (fun c_45 => ?_) (fun c_45 => ?_)
    · rw [← nI_0] at c_45
      refine wx_iload_n rfl (e := 53) rfl rfl ?_
      refine wx_iload_n rfl (e := 54) rfl rfl ?_
      refine wx_idiv rfl (e := 55) rfl (by rw [← nI_0]; exact c_45) ?_
      refine wx_iret rfl rfl rfl ⟨by decide, by decide⟩ ?_
      have n1 : ¬ s = nI 43 := fun z => by rw [z] at c_1; revert c_1; decide
      have n2 : ¬ s = nI 45 := fun z => by rw [z] at c_1; revert c_1; decide
      have n3 : ¬ s = nI 42 := fun z => by rw [z] at c_1; revert c_1; decide
      rw [wrkS, if_neg n1, if_neg n2, if_neg n3] at hq
      first | (rw [if_pos c_45] at hq; exact hq) | (rw [if_neg c_45] at hq; exact hq)
    · rw [← nI_0] at c_45
      refine wx_iconst (v := (nI 0)) rfl (e := 49) rfl (by decide) ?_
      refine wx_goto rfl ?_
      refine wx_iret rfl rfl rfl ⟨by decide, by decide⟩ ?_
      have n1 : ¬ s = nI 43 := fun z => by rw [z] at c_1; revert c_1; decide
      have n2 : ¬ s = nI 45 := fun z => by rw [z] at c_1; revert c_1; decide
      have n3 : ¬ s = nI 42 := fun z => by rw [z] at c_1; revert c_1; decide
      rw [wrkS, if_neg n1, if_neg n2, if_neg n3] at hq
      first | (rw [if_pos c_45] at hq; exact hq) | (rw [if_neg c_45] at hq; exact hq)
  · have c_1 : Int32.toInt _ = 45 := c_1
    show WP _ _ _ _ _ _ _ _ _
    refine wx_iload_n rfl (e := 37) rfl rfl ?_
    refine wx_iload_n rfl (e := 38) rfl rfl ?_
    refine wx_isub rfl (e := 39) rfl ?_
    refine wx_iret rfl rfl rfl ⟨by decide, by decide⟩ ?_
    have e1 := wrk_toInt (n := 45) (by decide) c_1
    subst e1
    exact hq
theorem wr_self (I : Nat → Nat → Int32) (c k : Nat) (v : Int32) : wr I c k v c = upd (I c) k v := by
  unfold wr va_up
  rw [if_pos rfl]
theorem wr_other (I : Nat → Nat → Int32) (c k : Nat) (v : Int32) {q : Nat} (h : q ≠ c) : wr I c k v q = I q := by
  unfold wr va_up
  rw [if_neg h]
theorem cev_sk {us : Nat} {st ar vs : Nat → Int32} : ∀ (f at_ top : Nat) (sk sk2 : Nat → Int32), (∀ i, i < top → sk i = sk2 i) → cev us st ar vs f at_ top sk = cev us st ar vs f at_ top sk2
  | 0, _, _, _, _, _ => rfl
  | f + 1, at_, top, sk, sk2, h => by
    unfold cev
    have hu : ∀ (v : Int32) (p : Nat), p ≤ top → ∀ i, i < p + 1 → upd sk p v i = upd sk2 p v i := by
      intro v p hp i hi
      unfold upd
      by_cases e : i = p
      · rw [if_pos e, if_pos e]
      · rw [if_neg e, if_neg e]; exact h i (by omega)
    split
    · rfl
    · split
      · split
        · rfl
        · rename_i hn
          exact h _ (by omega)
      · split
        · split
          · rfl
          · exact cev_sk f _ _ _ _ (hu _ top (Nat.le_refl _))
        · split
          · rfl
          · rename_i ht
            have e1 : sk (top - 1) = sk2 (top - 1) := h _ (by omega)
            have e2 : sk (top - 2) = sk2 (top - 2) := h _ (by omega)
            rw [e1, e2]
            split
            · split
              · exact cev_sk f _ _ _ _ (fun i hi => h i (by omega))
              · exact cev_sk f _ _ _ _ (fun i hi => h i (by omega))
            · split
              · rfl
              · refine cev_sk f _ _ _ _ (fun i hi => ?_)
                exact hu _ (top - 2) (by omega) i (by omega)
theorem varS_in (vs : Nat → Int32) {j : Nat} (h : j < 9) : varS vs (nI j) = vs j := by
  unfold varS
  rw [if_pos ⟨by rw [nI_0]; exact nI_pos (by omega), nI_lt h (by decide)⟩, nI_clamp (by omega)]
theorem varS_out (vs : Nat → Int32) {v : Int32} (h : ∀ j, j < 9 → v ≠ nI j) : varS vs v = nI 0 := by
  unfold varS
  rw [if_neg]
  rintro ⟨h1, h2⟩
  rw [nI_0] at h1
  obtain ⟨k, hk, e⟩ := nI_of h1
  subst e
  exact h k ((nI_ltI hk (by decide)).mp h2) rfl
theorem max_nI (a : Nat) {v : Int32} {m : Nat} (ha : a < 2 ^ 31) (hm : m ≤ 420) (e : v = nI m) : (if nI a < v - nI 1 then v - nI 1 else nI a) = nI (max a (v.toNatClampNeg - 1)) := by
  subst e
  rw [nI_clamp (by omega)]
  cases m with
  | zero =>
    rw [if_neg]
    · congr 1; omega
    · rw [Int32.lt_iff_toInt_lt, nI_toInt ha, show (nI 0 - nI 1).toInt = -1 by decide]
      omega
  | succ m =>
    rw [pk_sub (by omega), Nat.add_sub_cancel]
    by_cases h : a < m
    · rw [if_pos (nI_lt h (by omega)), Nat.max_eq_right (by omega)]
    · rw [if_neg (nI_nlt (by omega) (by omega)), Nat.max_eq_left (by omega)]
theorem max_nI0 {a : Nat} (ha : a < 2 ^ 31) : (if nI 0 < nI a then nI a else nI 0) = nI a := by
  by_cases z : 0 < a
  · rw [if_pos (nI_lt z ha)]
  · rw [if_neg (nI_nlt (by omega) (by omega)), show a = 0 by omega]
set_option maxHeartbeats 1000000 in
theorem c_X2_value_2 {d Lx t rt u : Nat} {I : Nat → Nat → Int32} {G : Nat → Nat → Int64} {Q : ab_Q} {us k : Nat} {ss : Nat → Nat} (hok : lwok I 2 us ss) (hk : k < 5) (hq : ∀ I2, (∀ c, c ≠ 7 → I2 c = I c) → Q (some (.int (cev us (I 3) (I 4) (I 6) 421 (ss k) 0 (fun _ => nI 0)))) (hp Lx t rt u I2 G)) : ab_call ab_MT (d + 2) 43 [.ref 2, .int (nI k)] (hp Lx t rt u I G) 0 0 Q := by
  obtain ⟨hu6, hu, hs, hj⟩ := hok
  generalize hV : cev us (I 3) (I 4) (I 6) 421 (ss k) 0 (fun _ => nI 0) = V at hq
  have loop : ∀ (f at_ top : Nat) (I2 : Nat → Nat → Int32) (x4 x5 x6 : Option Value), at_ ≤ 420 → 420 - at_ < f → top ≤ 20 → (∀ c, c ≠ 7 → I2 c = I c) → cev us (I 3) (I 4) (I 6) f at_ top (I2 7) = V → WP (d + 1) mX2_value Q 24 [some (.ref 2), some (.int (nI k)), some (.int (nI top)), some (.int (nI at_)), x4, x5, x6] [] (hp Lx t rt u I2 G) 0 0 := by
    intro f
    induction f with
    | zero => intro at_ top I2 x4 x5 x6 h1 h2; omega
    | succ f ih =>
      intro at_ top I2 x4 x5 x6 h1 h2 h3 hI hv
      unfold cev at hv
      refine wx_iload_n rfl (e := 25) rfl rfl ?_
      refine wx_aload_n rfl (e := 26) rfl rfl ?_
      refine wx_geti rfl (e := 29) rfl rfl ?_
      rw [hI 2 (by decide), hu]
      first | refine wn_ic_ge rfl (e := 32) rfl (by omega) (by omega) (fun c_29 => ?_) (fun c_29 => ?_) | refine wx_ic_ge rfl (e := 32) rfl (fun c_29 => ?_) (fun c_29 => ?_)
      · rw [if_pos (Or.inl c_29)] at hv
        refine wx_iconst (v := (nI 0)) rfl (e := 241) rfl (by decide) ?_
        refine wx_iret rfl rfl rfl ⟨by decide, by decide⟩ ?_
        rw [← hv] at hq
        exact hq I2 hI
      · refine wx_iload_n rfl (e := 33) rfl rfl ?_
        refine wx_sipush (v := (nI 420)) rfl (e := 36) rfl (by decide) ?_
        first | refine wn_ic_ge rfl (e := 39) rfl (by omega) (by omega) (fun c_36 => ?_) (fun c_36 => ?_) | refine wx_ic_ge rfl (e := 39) rfl (fun c_36 => ?_) (fun c_36 => ?_)
        · rw [if_pos (Or.inr c_36)] at hv
          refine wx_iconst (v := (nI 0)) rfl (e := 241) rfl (by decide) ?_
          refine wx_iret rfl rfl rfl ⟨by decide, by decide⟩ ?_
          rw [← hv] at hq
          exact hq I2 hI
        · rw [if_neg (by omega)] at hv
          refine wx_aload_n rfl (e := 40) rfl rfl ?_
          refine wx_getr rfl (e := 43) rfl rfl rfl ?_
          refine wx_iload_n rfl (e := 44) rfl rfl ?_
          first | refine wn_iald rfl (e := 45) rfl rfl (by omega) (by decide) ?_ | refine wx_iald rfl (e := 45) rfl rfl (by assumption) ?_
          rw [hI 3 (by decide)]
          refine wx_istore (L2 := [_, _, _, _, _, _, _]) rfl (e := 47) rfl (by decide) rfl ?_
          refine wx_iload rfl (e := 49) rfl rfl ?_
          refine wx_iconst (v := (nI 3)) rfl (e := 50) rfl (by decide) ?_
          first | refine wn_ic_ne rfl (e := 53) rfl (by omega) (by omega) (fun c_50 => ?_) (fun c_50 => ?_) | refine wx_ic_ne rfl (e := 53) rfl (fun c_50 => ?_) (fun c_50 => ?_)
          · rw [if_neg c_50] at hv
            refine wx_iload rfl (e := 78) rfl rfl ?_
            first | refine wn_if_eq rfl (e := 81) rfl (by omega) (fun c_78 => ?_) (fun c_78 => ?_) | refine wx_if_eq rfl (e := 81) rfl (fun c_78 => ?_) (fun c_78 => ?_)
            · rw [← nI_0] at c_78
              rw [if_pos (Or.inl c_78)] at hv
              refine wx_iload_n rfl (e := 88) rfl rfl ?_
              refine wn_if_lt rfl (e := 91) rfl (by omega) ?_
              refine wx_iload_n rfl (e := 92) rfl rfl ?_
              refine wx_bipush (v := (nI 20)) rfl (e := 94) rfl (by decide) ?_
              first | refine wn_ic_lt rfl (e := 97) rfl (by omega) (by omega) (fun c_94 => ?_) (fun c_94 => ?_) | refine wx_ic_lt rfl (e := 97) rfl (fun c_94 => ?_) (fun c_94 => ?_)
              · rw [if_neg (by omega)] at hv
                refine wx_aload_n rfl (e := 100) rfl rfl ?_
                refine wx_getr rfl (e := 103) rfl rfl rfl ?_
                refine wx_iload_n rfl (e := 104) rfl rfl ?_
                refine wx_iload rfl (e := 106) rfl rfl ?_
                first | refine wn_if_ne rfl (e := 109) rfl (by omega) (fun c_106 => ?_) (fun c_106 => ?_) | refine wx_if_ne rfl (e := 109) rfl (fun c_106 => ?_) (fun c_106 => ?_)
                · rw [← nI_0] at c_106
                  rw [if_neg c_106] at hv
                  refine wx_aload_n rfl (e := 119) rfl rfl ?_
                  refine wx_aload_n rfl (e := 120) rfl rfl ?_
                  refine wx_getr rfl (e := 123) rfl rfl rfl ?_
                  refine wx_iload_n rfl (e := 124) rfl rfl ?_
                  first | refine wn_iald rfl (e := 125) rfl rfl (by omega) (by decide) ?_ | refine wx_iald rfl (e := 125) rfl rfl (by assumption) ?_
                  rw [hI 4 (by decide)]
                  refine wx_cv1 (mc := 0) (ms := 0) rfl (e := 128) rfl rfl (Nat.le_of_ble_eq_true rfl) ⟨by decide, by decide⟩ ?_
                  refine c_X2_varOf (Or.inl rfl) (fun j hj9 e9 => ?_) (fun e9 => ?_)
                  · rw [e9, varS_in _ hj9, ← show I2 (2 + 4) j = I 6 j from by rw [hI (2 + 4) (by decide)]] at hv
                    first | refine wn_iast rfl (e := 129) rfl rfl (by decide) (by omega) (by decide) ?_ | refine wx_iast rfl (e := 129) rfl rfl (by decide) (by assumption) ?_
                    first | refine wn_iinc (m := 1) (L2 := [_, _, _, _, _, _, _]) rfl (e := 132) rfl rfl (by decide) rfl ?_ | refine wx_iinc (L2 := [_, _, _, _, _, _, _]) rfl (e := 132) rfl rfl (by decide) rfl ?_
                    refine wx_goto rfl ?_
                    first | refine wn_iinc (m := 1) (L2 := [_, _, _, _, _, _, _]) rfl (e := 237) rfl rfl (by decide) rfl ?_ | refine wx_iinc (L2 := [_, _, _, _, _, _, _]) rfl (e := 237) rfl rfl (by decide) rfl ?_
                    refine wx_goto rfl ?_
                    refine ih _ _ _ _ _ _ ?_ ?_ ?_ ?_ ?_
                    · omega
                    · omega
                    · omega
                    · intro c hc; first | exact hI c hc | (rw [wr_other _ _ _ _ hc]; exact hI c hc)
                    · first | exact hv | (rw [wr_self]; exact hv) | (rw [wr_self, show top - (1 + 1) + 1 = top - 1 by omega]; exact hv)
                  · rw [varS_out _ e9] at hv
                    first | refine wn_iast rfl (e := 129) rfl rfl (by decide) (by omega) (by decide) ?_ | refine wx_iast rfl (e := 129) rfl rfl (by decide) (by assumption) ?_
                    first | refine wn_iinc (m := 1) (L2 := [_, _, _, _, _, _, _]) rfl (e := 132) rfl rfl (by decide) rfl ?_ | refine wx_iinc (L2 := [_, _, _, _, _, _, _]) rfl (e := 132) rfl rfl (by decide) rfl ?_
                    refine wx_goto rfl ?_
                    first | refine wn_iinc (m := 1) (L2 := [_, _, _, _, _, _, _]) rfl (e := 237) rfl rfl (by decide) rfl ?_ | refine wx_iinc (L2 := [_, _, _, _, _, _, _]) rfl (e := 237) rfl rfl (by decide) rfl ?_
                    refine wx_goto rfl ?_
                    refine ih _ _ _ _ _ _ ?_ ?_ ?_ ?_ ?_
                    · omega
                    · omega
                    · omega
                    · intro c hc; first | exact hI c hc | (rw [wr_other _ _ _ _ hc]; exact hI c hc)
                    · first | exact hv | (rw [wr_self]; exact hv) | (rw [wr_self, show top - (1 + 1) + 1 = top - 1 by omega]; exact hv)
                · rw [← nI_0] at c_106
                  rw [if_pos c_106] at hv
                  refine wx_aload_n rfl (e := 110) rfl rfl ?_
                  refine wx_getr rfl (e := 113) rfl rfl rfl ?_
                  refine wx_iload_n rfl (e := 114) rfl rfl ?_
                  first | refine wn_iald rfl (e := 115) rfl rfl (by omega) (by decide) ?_ | refine wx_iald rfl (e := 115) rfl rfl (by assumption) ?_
                  rw [hI 4 (by decide)]
                  refine wx_goto rfl ?_
                  first | refine wn_iast rfl (e := 129) rfl rfl (by decide) (by omega) (by decide) ?_ | refine wx_iast rfl (e := 129) rfl rfl (by decide) (by assumption) ?_
                  first | refine wn_iinc (m := 1) (L2 := [_, _, _, _, _, _, _]) rfl (e := 132) rfl rfl (by decide) rfl ?_ | refine wx_iinc (L2 := [_, _, _, _, _, _, _]) rfl (e := 132) rfl rfl (by decide) rfl ?_
                  refine wx_goto rfl ?_
                  first | refine wn_iinc (m := 1) (L2 := [_, _, _, _, _, _, _]) rfl (e := 237) rfl rfl (by decide) rfl ?_ | refine wx_iinc (L2 := [_, _, _, _, _, _, _]) rfl (e := 237) rfl rfl (by decide) rfl ?_
                  refine wx_goto rfl ?_
                  refine ih _ _ _ _ _ _ ?_ ?_ ?_ ?_ ?_
                  · omega
                  · omega
                  · omega
                  · intro c hc; first | exact hI c hc | (rw [wr_other _ _ _ _ hc]; exact hI c hc)
                  · first | exact hv | (rw [wr_self]; exact hv) | (rw [wr_self, show top - (1 + 1) + 1 = top - 1 by omega]; exact hv)
              · rw [if_pos (by omega)] at hv
                refine wx_iconst (v := (nI 0)) rfl (e := 98) rfl (by decide) ?_
                refine wx_iret rfl rfl rfl ⟨by decide, by decide⟩ ?_
                rw [← hv] at hq
                exact hq I2 hI
            · rw [← nI_0] at c_78
              refine wx_iload rfl (e := 83) rfl rfl ?_
              refine wx_iconst (v := (nI 1)) rfl (e := 84) rfl (by decide) ?_
              first | refine wn_ic_ne rfl (e := 87) rfl (by omega) (by omega) (fun c_84 => ?_) (fun c_84 => ?_) | refine wx_ic_ne rfl (e := 87) rfl (fun c_84 => ?_) (fun c_84 => ?_)
              · rw [if_neg (by rintro (z | z) <;> contradiction)] at hv
                refine wx_iload_n rfl (e := 136) rfl rfl ?_
                refine wx_iconst (v := (nI 2)) rfl (e := 137) rfl (by decide) ?_
                first | refine wn_ic_lt rfl (e := 140) rfl (by omega) (by omega) (fun c_137 => ?_) (fun c_137 => ?_) | refine wx_ic_lt rfl (e := 140) rfl (fun c_137 => ?_) (fun c_137 => ?_)
                · rw [if_pos (by omega)] at hv
                  refine wx_iconst (v := (nI 0)) rfl (e := 147) rfl (by decide) ?_
                  refine wx_iret rfl rfl rfl ⟨by decide, by decide⟩ ?_
                  rw [← hv] at hq
                  exact hq I2 hI
                · refine wx_iload_n rfl (e := 141) rfl rfl ?_
                  refine wx_bipush (v := (nI 20)) rfl (e := 143) rfl (by decide) ?_
                  first | refine wn_ic_le rfl (e := 146) rfl (by omega) (by omega) (fun c_143 => ?_) (fun c_143 => ?_) | refine wx_ic_le rfl (e := 146) rfl (fun c_143 => ?_) (fun c_143 => ?_)
                  · rw [if_neg (by omega)] at hv
                    first | refine wn_idec (m := 1) (L2 := [_, _, _, _, _, _, _]) rfl (e := 151) rfl rfl (by omega) (by decide) rfl ?_ | refine wx_iinc (L2 := [_, _, _, _, _, _, _]) rfl (e := 151) rfl rfl (by decide) rfl ?_
                    refine wx_aload_n rfl (e := 152) rfl rfl ?_
                    refine wx_getr rfl (e := 155) rfl rfl rfl ?_
                    refine wx_iload_n rfl (e := 156) rfl rfl ?_
                    first | refine wn_iald rfl (e := 157) rfl rfl (by omega) (by decide) ?_ | refine wx_iald rfl (e := 157) rfl rfl (by assumption) ?_
                    refine wx_istore (L2 := [_, _, _, _, _, _, _]) rfl (e := 159) rfl (by decide) rfl ?_
                    refine wx_aload_n rfl (e := 160) rfl rfl ?_
                    refine wx_getr rfl (e := 163) rfl rfl rfl ?_
                    refine wx_iload_n rfl (e := 164) rfl rfl ?_
                    refine wx_iconst (v := (nI 1)) rfl (e := 165) rfl (by decide) ?_
                    first | refine wn_iadd rfl (e := 166) rfl ?_ | refine wx_iadd rfl (e := 166) rfl ?_
                    first | refine wn_iald rfl (e := 167) rfl rfl (by omega) (by decide) ?_ | refine wx_iald rfl (e := 167) rfl rfl (by assumption) ?_
                    rw [show top - 2 + 1 = top - 1 by omega]
                    refine wx_istore (L2 := [_, _, _, _, _, _, _]) rfl (e := 169) rfl (by decide) rfl ?_
                    refine wx_iload rfl (e := 171) rfl rfl ?_
                    refine wx_iconst (v := (nI 2)) rfl (e := 172) rfl (by decide) ?_
                    first | refine wn_ic_ne rfl (e := 175) rfl (by omega) (by omega) (fun c_172 => ?_) (fun c_172 => ?_) | refine wx_ic_ne rfl (e := 175) rfl (fun c_172 => ?_) (fun c_172 => ?_)
                    · rw [if_neg c_172] at hv
                      refine wx_iload rfl (e := 204) rfl rfl ?_
                      refine wx_bipush (v := (nI 47)) rfl (e := 206) rfl (by decide) ?_
                      first | refine wn_ic_ne rfl (e := 209) rfl (by omega) (by omega) (fun c_206 => ?_) (fun c_206 => ?_) | refine wx_ic_ne rfl (e := 209) rfl (fun c_206 => ?_) (fun c_206 => ?_)
                      · rw [if_neg (fun z => c_206 z.1)] at hv
                        refine wx_aload_n rfl (e := 217) rfl rfl ?_
                        refine wx_getr rfl (e := 220) rfl rfl rfl ?_
                        refine wx_iload_n rfl (e := 221) rfl rfl ?_
                        refine wx_iload rfl (e := 223) rfl rfl ?_
                        refine wx_iload rfl (e := 225) rfl rfl ?_
                        refine wx_iload rfl (e := 227) rfl rfl ?_
                        refine wx_cs3 (mc := 0) (ms := 0) rfl (e := 230) rfl (Nat.le_of_ble_eq_true rfl) ⟨by decide, by decide⟩ ?_
                        refine c_X2_worked ?_
                        first | refine wn_iast rfl (e := 231) rfl rfl (by decide) (by omega) (by decide) ?_ | refine wx_iast rfl (e := 231) rfl rfl (by decide) (by assumption) ?_
                        first | refine wn_iinc (m := 1) (L2 := [_, _, _, _, _, _, _]) rfl (e := 234) rfl rfl (by decide) rfl ?_ | refine wx_iinc (L2 := [_, _, _, _, _, _, _]) rfl (e := 234) rfl rfl (by decide) rfl ?_
                        first | refine wn_iinc (m := 1) (L2 := [_, _, _, _, _, _, _]) rfl (e := 237) rfl rfl (by decide) rfl ?_ | refine wx_iinc (L2 := [_, _, _, _, _, _, _]) rfl (e := 237) rfl rfl (by decide) rfl ?_
                        refine wx_goto rfl ?_
                        refine ih _ _ _ _ _ _ ?_ ?_ ?_ ?_ ?_
                        · omega
                        · omega
                        · omega
                        · intro c hc; first | exact hI c hc | (rw [wr_other _ _ _ _ hc]; exact hI c hc)
                        · first | exact hv | (rw [wr_self]; exact hv) | (rw [wr_self, show top - (1 + 1) + 1 = top - 1 by omega]; exact hv)
                      · refine wx_iload rfl (e := 211) rfl rfl ?_
                        first | refine wn_if_ne rfl (e := 214) rfl (by omega) (fun c_211 => ?_) (fun c_211 => ?_) | refine wx_if_ne rfl (e := 214) rfl (fun c_211 => ?_) (fun c_211 => ?_)
                        · rw [← nI_0] at c_211
                          rw [if_neg (fun z => c_211 z.2)] at hv
                          refine wx_aload_n rfl (e := 217) rfl rfl ?_
                          refine wx_getr rfl (e := 220) rfl rfl rfl ?_
                          refine wx_iload_n rfl (e := 221) rfl rfl ?_
                          refine wx_iload rfl (e := 223) rfl rfl ?_
                          refine wx_iload rfl (e := 225) rfl rfl ?_
                          refine wx_iload rfl (e := 227) rfl rfl ?_
                          refine wx_cs3 (mc := 0) (ms := 0) rfl (e := 230) rfl (Nat.le_of_ble_eq_true rfl) ⟨by decide, by decide⟩ ?_
                          refine c_X2_worked ?_
                          first | refine wn_iast rfl (e := 231) rfl rfl (by decide) (by omega) (by decide) ?_ | refine wx_iast rfl (e := 231) rfl rfl (by decide) (by assumption) ?_
                          first | refine wn_iinc (m := 1) (L2 := [_, _, _, _, _, _, _]) rfl (e := 234) rfl rfl (by decide) rfl ?_ | refine wx_iinc (L2 := [_, _, _, _, _, _, _]) rfl (e := 234) rfl rfl (by decide) rfl ?_
                          first | refine wn_iinc (m := 1) (L2 := [_, _, _, _, _, _, _]) rfl (e := 237) rfl rfl (by decide) rfl ?_ | refine wx_iinc (L2 := [_, _, _, _, _, _, _]) rfl (e := 237) rfl rfl (by decide) rfl ?_
                          refine wx_goto rfl ?_
                          refine ih _ _ _ _ _ _ ?_ ?_ ?_ ?_ ?_
                          · omega
                          · omega
                          · omega
                          · intro c hc; first | exact hI c hc | (rw [wr_other _ _ _ _ hc]; exact hI c hc)
                          · first | exact hv | (rw [wr_self]; exact hv) | (rw [wr_self, show top - (1 + 1) + 1 = top - 1 by omega]; exact hv)
                        · rw [← nI_0] at c_211
                          rw [if_pos ⟨c_206, c_211⟩] at hv
                          refine wx_iconst (v := (nI 0)) rfl (e := 215) rfl (by decide) ?_
                          refine wx_iret rfl rfl rfl ⟨by decide, by decide⟩ ?_
                          rw [← hv] at hq
                          exact hq I2 hI
                    · rw [if_pos c_172] at hv
                      refine wx_iload rfl (e := 177) rfl rfl ?_
                      refine wx_iload rfl (e := 179) rfl rfl ?_
                      first | refine wn_ic_ge rfl (e := 182) rfl (by omega) (by omega) (fun c_179 => ?_) (fun c_179 => ?_) | refine wx_ic_ge rfl (e := 182) rfl (fun c_179 => ?_) (fun c_179 => ?_)
                      · rw [if_pos c_179] at hv
                        refine wx_iload_n rfl (e := 187) rfl rfl ?_
                        refine wx_aload_n rfl (e := 188) rfl rfl ?_
                        refine wx_getr rfl (e := 191) rfl rfl rfl ?_
                        refine wx_iload_n rfl (e := 192) rfl rfl ?_
                        first | refine wn_iald rfl (e := 193) rfl rfl (by omega) (by decide) ?_ | refine wx_iald rfl (e := 193) rfl rfl (by assumption) ?_
                        rw [hI 4 (by decide)]
                        refine wx_iconst (v := (nI 1)) rfl (e := 194) rfl (by decide) ?_
                        first | refine wn_isub rfl (e := 195) rfl (by omega) ?_ | refine wx_isub rfl (e := 195) rfl ?_
                        refine wx_cs2 (mc := 0) (ms := 0) rfl (e := 198) rfl (Nat.le_of_ble_eq_true rfl) ⟨by decide, by decide⟩ ?_
                        refine c_J9_max_7cf53 ?_
                        obtain ⟨m, hm, em⟩ := hj at_ (by omega) c_172
                        show WP _ _ _ _ _ (Value.int (if nI at_ < I 4 at_ - nI 1 then I 4 at_ - nI 1 else nI at_) :: _) _ _ _
                        rw [max_nI at_ (by omega) hm em]
                        have hmx : max at_ ((I 4 at_).toNatClampNeg - 1) ≤ 419 := by rw [em, nI_clamp (by omega)]; omega
                        have hmy : at_ ≤ max at_ ((I 4 at_).toNatClampNeg - 1) := Nat.le_max_left _ _
                        generalize max at_ ((I 4 at_).toNatClampNeg - 1) = at2 at hv hmx hmy ⊢
                        refine wx_istore_n (L2 := [_, _, _, _, _, _, _]) rfl (e := 199) rfl (by decide) rfl ?_
                        refine wx_goto rfl ?_
                        first | refine wn_iinc (m := 1) (L2 := [_, _, _, _, _, _, _]) rfl (e := 237) rfl rfl (by decide) rfl ?_ | refine wx_iinc (L2 := [_, _, _, _, _, _, _]) rfl (e := 237) rfl rfl (by decide) rfl ?_
                        refine wx_goto rfl ?_
                        refine ih _ _ _ _ _ _ ?_ ?_ ?_ ?_ ?_
                        · omega
                        · omega
                        · omega
                        · intro c hc; first | exact hI c hc | (rw [wr_other _ _ _ _ hc]; exact hI c hc)
                        · first | exact hv | (rw [wr_self]; exact hv) | (rw [wr_self, show top - (1 + 1) + 1 = top - 1 by omega]; exact hv)
                      · rw [if_neg c_179] at hv
                        refine wx_iload_n rfl (e := 183) rfl rfl ?_
                        refine wx_goto rfl ?_
                        refine wx_istore_n (L2 := [_, _, _, _, _, _, _]) rfl (e := 199) rfl (by decide) rfl ?_
                        refine wx_goto rfl ?_
                        first | refine wn_iinc (m := 1) (L2 := [_, _, _, _, _, _, _]) rfl (e := 237) rfl rfl (by decide) rfl ?_ | refine wx_iinc (L2 := [_, _, _, _, _, _, _]) rfl (e := 237) rfl rfl (by decide) rfl ?_
                        refine wx_goto rfl ?_
                        refine ih _ _ _ _ _ _ ?_ ?_ ?_ ?_ ?_
                        · omega
                        · omega
                        · omega
                        · intro c hc; first | exact hI c hc | (rw [wr_other _ _ _ _ hc]; exact hI c hc)
                        · first | exact hv | (rw [wr_self]; exact hv) | (rw [wr_self, show top - (1 + 1) + 1 = top - 1 by omega]; exact hv)
                  · rw [if_pos (by omega)] at hv
                    refine wx_iconst (v := (nI 0)) rfl (e := 147) rfl (by decide) ?_
                    refine wx_iret rfl rfl rfl ⟨by decide, by decide⟩ ?_
                    rw [← hv] at hq
                    exact hq I2 hI
              · rw [if_pos (Or.inr c_84)] at hv
                refine wx_iload_n rfl (e := 88) rfl rfl ?_
                refine wn_if_lt rfl (e := 91) rfl (by omega) ?_
                refine wx_iload_n rfl (e := 92) rfl rfl ?_
                refine wx_bipush (v := (nI 20)) rfl (e := 94) rfl (by decide) ?_
                first | refine wn_ic_lt rfl (e := 97) rfl (by omega) (by omega) (fun c_94 => ?_) (fun c_94 => ?_) | refine wx_ic_lt rfl (e := 97) rfl (fun c_94 => ?_) (fun c_94 => ?_)
                · rw [if_neg (by omega)] at hv
                  refine wx_aload_n rfl (e := 100) rfl rfl ?_
                  refine wx_getr rfl (e := 103) rfl rfl rfl ?_
                  refine wx_iload_n rfl (e := 104) rfl rfl ?_
                  refine wx_iload rfl (e := 106) rfl rfl ?_
                  first | refine wn_if_ne rfl (e := 109) rfl (by omega) (fun c_106 => ?_) (fun c_106 => ?_) | refine wx_if_ne rfl (e := 109) rfl (fun c_106 => ?_) (fun c_106 => ?_)
                  · rw [← nI_0] at c_106
                    rw [if_neg c_106] at hv
                    refine wx_aload_n rfl (e := 119) rfl rfl ?_
                    refine wx_aload_n rfl (e := 120) rfl rfl ?_
                    refine wx_getr rfl (e := 123) rfl rfl rfl ?_
                    refine wx_iload_n rfl (e := 124) rfl rfl ?_
                    first | refine wn_iald rfl (e := 125) rfl rfl (by omega) (by decide) ?_ | refine wx_iald rfl (e := 125) rfl rfl (by assumption) ?_
                    rw [hI 4 (by decide)]
                    refine wx_cv1 (mc := 0) (ms := 0) rfl (e := 128) rfl rfl (Nat.le_of_ble_eq_true rfl) ⟨by decide, by decide⟩ ?_
                    refine c_X2_varOf (Or.inl rfl) (fun j hj9 e9 => ?_) (fun e9 => ?_)
                    · rw [e9, varS_in _ hj9, ← show I2 (2 + 4) j = I 6 j from by rw [hI (2 + 4) (by decide)]] at hv
                      first | refine wn_iast rfl (e := 129) rfl rfl (by decide) (by omega) (by decide) ?_ | refine wx_iast rfl (e := 129) rfl rfl (by decide) (by assumption) ?_
                      first | refine wn_iinc (m := 1) (L2 := [_, _, _, _, _, _, _]) rfl (e := 132) rfl rfl (by decide) rfl ?_ | refine wx_iinc (L2 := [_, _, _, _, _, _, _]) rfl (e := 132) rfl rfl (by decide) rfl ?_
                      refine wx_goto rfl ?_
                      first | refine wn_iinc (m := 1) (L2 := [_, _, _, _, _, _, _]) rfl (e := 237) rfl rfl (by decide) rfl ?_ | refine wx_iinc (L2 := [_, _, _, _, _, _, _]) rfl (e := 237) rfl rfl (by decide) rfl ?_
                      refine wx_goto rfl ?_
                      refine ih _ _ _ _ _ _ ?_ ?_ ?_ ?_ ?_
                      · omega
                      · omega
                      · omega
                      · intro c hc; first | exact hI c hc | (rw [wr_other _ _ _ _ hc]; exact hI c hc)
                      · first | exact hv | (rw [wr_self]; exact hv) | (rw [wr_self, show top - (1 + 1) + 1 = top - 1 by omega]; exact hv)
                    · rw [varS_out _ e9] at hv
                      first | refine wn_iast rfl (e := 129) rfl rfl (by decide) (by omega) (by decide) ?_ | refine wx_iast rfl (e := 129) rfl rfl (by decide) (by assumption) ?_
                      first | refine wn_iinc (m := 1) (L2 := [_, _, _, _, _, _, _]) rfl (e := 132) rfl rfl (by decide) rfl ?_ | refine wx_iinc (L2 := [_, _, _, _, _, _, _]) rfl (e := 132) rfl rfl (by decide) rfl ?_
                      refine wx_goto rfl ?_
                      first | refine wn_iinc (m := 1) (L2 := [_, _, _, _, _, _, _]) rfl (e := 237) rfl rfl (by decide) rfl ?_ | refine wx_iinc (L2 := [_, _, _, _, _, _, _]) rfl (e := 237) rfl rfl (by decide) rfl ?_
                      refine wx_goto rfl ?_
                      refine ih _ _ _ _ _ _ ?_ ?_ ?_ ?_ ?_
                      · omega
                      · omega
                      · omega
                      · intro c hc; first | exact hI c hc | (rw [wr_other _ _ _ _ hc]; exact hI c hc)
                      · first | exact hv | (rw [wr_self]; exact hv) | (rw [wr_self, show top - (1 + 1) + 1 = top - 1 by omega]; exact hv)
                  · rw [← nI_0] at c_106
                    rw [if_pos c_106] at hv
                    refine wx_aload_n rfl (e := 110) rfl rfl ?_
                    refine wx_getr rfl (e := 113) rfl rfl rfl ?_
                    refine wx_iload_n rfl (e := 114) rfl rfl ?_
                    first | refine wn_iald rfl (e := 115) rfl rfl (by omega) (by decide) ?_ | refine wx_iald rfl (e := 115) rfl rfl (by assumption) ?_
                    rw [hI 4 (by decide)]
                    refine wx_goto rfl ?_
                    first | refine wn_iast rfl (e := 129) rfl rfl (by decide) (by omega) (by decide) ?_ | refine wx_iast rfl (e := 129) rfl rfl (by decide) (by assumption) ?_
                    first | refine wn_iinc (m := 1) (L2 := [_, _, _, _, _, _, _]) rfl (e := 132) rfl rfl (by decide) rfl ?_ | refine wx_iinc (L2 := [_, _, _, _, _, _, _]) rfl (e := 132) rfl rfl (by decide) rfl ?_
                    refine wx_goto rfl ?_
                    first | refine wn_iinc (m := 1) (L2 := [_, _, _, _, _, _, _]) rfl (e := 237) rfl rfl (by decide) rfl ?_ | refine wx_iinc (L2 := [_, _, _, _, _, _, _]) rfl (e := 237) rfl rfl (by decide) rfl ?_
                    refine wx_goto rfl ?_
                    refine ih _ _ _ _ _ _ ?_ ?_ ?_ ?_ ?_
                    · omega
                    · omega
                    · omega
                    · intro c hc; first | exact hI c hc | (rw [wr_other _ _ _ _ hc]; exact hI c hc)
                    · first | exact hv | (rw [wr_self]; exact hv) | (rw [wr_self, show top - (1 + 1) + 1 = top - 1 by omega]; exact hv)
                · rw [if_pos (by omega)] at hv
                  refine wx_iconst (v := (nI 0)) rfl (e := 98) rfl (by decide) ?_
                  refine wx_iret rfl rfl rfl ⟨by decide, by decide⟩ ?_
                  rw [← hv] at hq
                  exact hq I2 hI
          · rw [if_pos c_50] at hv
            refine wx_iload_n rfl (e := 54) rfl rfl ?_
            first | refine wn_if_le rfl (e := 57) rfl (by omega) (fun c_54 => ?_) (fun c_54 => ?_) | refine wx_if_le rfl (e := 57) rfl (fun c_54 => ?_) (fun c_54 => ?_)
            · rw [if_pos (by omega)] at hv
              refine wx_iconst (v := (nI 0)) rfl (e := 75) rfl (by decide) ?_
              refine wx_iret rfl rfl rfl ⟨by decide, by decide⟩ ?_
              rw [← hv] at hq
              exact hq I2 hI
            · refine wx_iload_n rfl (e := 58) rfl rfl ?_
              refine wx_bipush (v := (nI 20)) rfl (e := 60) rfl (by decide) ?_
              first | refine wn_ic_gt rfl (e := 63) rfl (by omega) (by omega) (fun c_60 => ?_) (fun c_60 => ?_) | refine wx_ic_gt rfl (e := 63) rfl (fun c_60 => ?_) (fun c_60 => ?_)
              · rw [if_pos (by omega)] at hv
                refine wx_iconst (v := (nI 0)) rfl (e := 75) rfl (by decide) ?_
                refine wx_iret rfl rfl rfl ⟨by decide, by decide⟩ ?_
                rw [← hv] at hq
                exact hq I2 hI
              · rw [if_neg (by omega)] at hv
                refine wx_aload_n rfl (e := 64) rfl rfl ?_
                refine wx_getr rfl (e := 67) rfl rfl rfl ?_
                refine wx_iload_n rfl (e := 68) rfl rfl ?_
                refine wx_iconst (v := (nI 1)) rfl (e := 69) rfl (by decide) ?_
                first | refine wn_isub rfl (e := 70) rfl (by omega) ?_ | refine wx_isub rfl (e := 70) rfl ?_
                first | refine wn_iald rfl (e := 71) rfl rfl (by omega) (by decide) ?_ | refine wx_iald rfl (e := 71) rfl rfl (by assumption) ?_
                refine wx_goto rfl ?_
                refine wx_iret rfl rfl rfl ⟨by decide, by decide⟩ ?_
                rw [← hv] at hq
                exact hq I2 hI
  refine wx_in (M := mX2_value) rfl rfl rfl (Nat.le_of_ble_eq_true rfl) ?_
  refine wx_iload_n rfl (e := 1) rfl rfl ?_
  refine wn_if_lt rfl (e := 4) rfl (by omega) ?_
  refine wx_iload_n rfl (e := 5) rfl rfl ?_
  refine wx_iconst (v := (nI 5)) rfl (e := 6) rfl (by decide) ?_
  first | refine wn_ic_lt rfl (e := 9) rfl (by omega) (by omega) (fun c_6 => ?_) (fun c_6 => absurd c_6 (by omega)) | refine wx_ic_lt rfl (e := 9) rfl (fun c_6 => ?_) (fun c_6 => absurd c_6 (by omega))
  refine wx_iconst (v := (nI 0)) rfl (e := 12) rfl (by decide) ?_
  refine wx_istore_n (L2 := [_, _, _, _, _, _, _]) rfl (e := 13) rfl (by decide) rfl ?_
  refine wx_iconst (v := (nI 0)) rfl (e := 14) rfl (by decide) ?_
  refine wx_aload_n rfl (e := 15) rfl rfl ?_
  refine wx_getr rfl (e := 18) rfl rfl rfl ?_
  refine wx_iload_n rfl (e := 19) rfl rfl ?_
  first | refine wn_iald rfl (e := 20) rfl rfl (by omega) (by decide) ?_ | refine wx_iald rfl (e := 20) rfl rfl (by assumption) ?_
  rw [(hs k hk).2]
  refine wx_cs2 (mc := 0) (ms := 0) rfl (e := 23) rfl (Nat.le_of_ble_eq_true rfl) ⟨by decide, by decide⟩ ?_
  refine c_J9_max_7cf53 ?_
  show WP _ _ _ _ _ (Value.int (if nI 0 < nI (ss k) then nI (ss k) else nI 0) :: _) _ _ _
  rw [max_nI0 (by have := (hs k hk).1; omega)]
  refine wx_istore_n (L2 := [_, _, _, _, _, _, _]) rfl (e := 24) rfl (by decide) rfl ?_
  refine loop 421 (ss k) 0 I none none none (by have := (hs k hk).1; omega) (by omega) (by omega) (fun c _ => rfl) ?_
  rw [← hV]
  exact cev_sk _ _ _ _ _ (fun i hi => absurd hi (Nat.not_lt_zero _))
set_option maxHeartbeats 1000000 in
theorem c_X2_value_17 {d Lx t rt u : Nat} {I : Nat → Nat → Int32} {G : Nat → Nat → Int64} {Q : ab_Q} {us k : Nat} {ss : Nat → Nat} (hok : lwok I 17 us ss) (hk : k < 5) (hq : ∀ I2, (∀ c, c ≠ 22 → I2 c = I c) → Q (some (.int (cev us (I 18) (I 19) (I 21) 421 (ss k) 0 (fun _ => nI 0)))) (hp Lx t rt u I2 G)) : ab_call ab_MT (d + 2) 43 [.ref 17, .int (nI k)] (hp Lx t rt u I G) 0 0 Q := by
  obtain ⟨hu6, hu, hs, hj⟩ := hok
  generalize hV : cev us (I 18) (I 19) (I 21) 421 (ss k) 0 (fun _ => nI 0) = V at hq
  have loop : ∀ (f at_ top : Nat) (I2 : Nat → Nat → Int32) (x4 x5 x6 : Option Value), at_ ≤ 420 → 420 - at_ < f → top ≤ 20 → (∀ c, c ≠ 22 → I2 c = I c) → cev us (I 18) (I 19) (I 21) f at_ top (I2 22) = V → WP (d + 1) mX2_value Q 24 [some (.ref 17), some (.int (nI k)), some (.int (nI top)), some (.int (nI at_)), x4, x5, x6] [] (hp Lx t rt u I2 G) 0 0 := by
    intro f
    induction f with
    | zero => intro at_ top I2 x4 x5 x6 h1 h2; omega
    | succ f ih =>
      intro at_ top I2 x4 x5 x6 h1 h2 h3 hI hv
      unfold cev at hv
      refine wx_iload_n rfl (e := 25) rfl rfl ?_
      refine wx_aload_n rfl (e := 26) rfl rfl ?_
      refine wx_geti rfl (e := 29) rfl rfl ?_
      rw [hI 17 (by decide), hu]
      first | refine wn_ic_ge rfl (e := 32) rfl (by omega) (by omega) (fun c_29 => ?_) (fun c_29 => ?_) | refine wx_ic_ge rfl (e := 32) rfl (fun c_29 => ?_) (fun c_29 => ?_)
      · rw [if_pos (Or.inl c_29)] at hv
        refine wx_iconst (v := (nI 0)) rfl (e := 241) rfl (by decide) ?_
        refine wx_iret rfl rfl rfl ⟨by decide, by decide⟩ ?_
        rw [← hv] at hq
        exact hq I2 hI
      · refine wx_iload_n rfl (e := 33) rfl rfl ?_
        refine wx_sipush (v := (nI 420)) rfl (e := 36) rfl (by decide) ?_
        first | refine wn_ic_ge rfl (e := 39) rfl (by omega) (by omega) (fun c_36 => ?_) (fun c_36 => ?_) | refine wx_ic_ge rfl (e := 39) rfl (fun c_36 => ?_) (fun c_36 => ?_)
        · rw [if_pos (Or.inr c_36)] at hv
          refine wx_iconst (v := (nI 0)) rfl (e := 241) rfl (by decide) ?_
          refine wx_iret rfl rfl rfl ⟨by decide, by decide⟩ ?_
          rw [← hv] at hq
          exact hq I2 hI
        · rw [if_neg (by omega)] at hv
          refine wx_aload_n rfl (e := 40) rfl rfl ?_
          refine wx_getr rfl (e := 43) rfl rfl rfl ?_
          refine wx_iload_n rfl (e := 44) rfl rfl ?_
          first | refine wn_iald rfl (e := 45) rfl rfl (by omega) (by decide) ?_ | refine wx_iald rfl (e := 45) rfl rfl (by assumption) ?_
          rw [hI 18 (by decide)]
          refine wx_istore (L2 := [_, _, _, _, _, _, _]) rfl (e := 47) rfl (by decide) rfl ?_
          refine wx_iload rfl (e := 49) rfl rfl ?_
          refine wx_iconst (v := (nI 3)) rfl (e := 50) rfl (by decide) ?_
          first | refine wn_ic_ne rfl (e := 53) rfl (by omega) (by omega) (fun c_50 => ?_) (fun c_50 => ?_) | refine wx_ic_ne rfl (e := 53) rfl (fun c_50 => ?_) (fun c_50 => ?_)
          · rw [if_neg c_50] at hv
            refine wx_iload rfl (e := 78) rfl rfl ?_
            first | refine wn_if_eq rfl (e := 81) rfl (by omega) (fun c_78 => ?_) (fun c_78 => ?_) | refine wx_if_eq rfl (e := 81) rfl (fun c_78 => ?_) (fun c_78 => ?_)
            · rw [← nI_0] at c_78
              rw [if_pos (Or.inl c_78)] at hv
              refine wx_iload_n rfl (e := 88) rfl rfl ?_
              refine wn_if_lt rfl (e := 91) rfl (by omega) ?_
              refine wx_iload_n rfl (e := 92) rfl rfl ?_
              refine wx_bipush (v := (nI 20)) rfl (e := 94) rfl (by decide) ?_
              first | refine wn_ic_lt rfl (e := 97) rfl (by omega) (by omega) (fun c_94 => ?_) (fun c_94 => ?_) | refine wx_ic_lt rfl (e := 97) rfl (fun c_94 => ?_) (fun c_94 => ?_)
              · rw [if_neg (by omega)] at hv
                refine wx_aload_n rfl (e := 100) rfl rfl ?_
                refine wx_getr rfl (e := 103) rfl rfl rfl ?_
                refine wx_iload_n rfl (e := 104) rfl rfl ?_
                refine wx_iload rfl (e := 106) rfl rfl ?_
                first | refine wn_if_ne rfl (e := 109) rfl (by omega) (fun c_106 => ?_) (fun c_106 => ?_) | refine wx_if_ne rfl (e := 109) rfl (fun c_106 => ?_) (fun c_106 => ?_)
                · rw [← nI_0] at c_106
                  rw [if_neg c_106] at hv
                  refine wx_aload_n rfl (e := 119) rfl rfl ?_
                  refine wx_aload_n rfl (e := 120) rfl rfl ?_
                  refine wx_getr rfl (e := 123) rfl rfl rfl ?_
                  refine wx_iload_n rfl (e := 124) rfl rfl ?_
                  first | refine wn_iald rfl (e := 125) rfl rfl (by omega) (by decide) ?_ | refine wx_iald rfl (e := 125) rfl rfl (by assumption) ?_
                  rw [hI 19 (by decide)]
                  refine wx_cv1 (mc := 0) (ms := 0) rfl (e := 128) rfl rfl (Nat.le_of_ble_eq_true rfl) ⟨by decide, by decide⟩ ?_
                  refine c_X2_varOf (Or.inr rfl) (fun j hj9 e9 => ?_) (fun e9 => ?_)
                  · rw [e9, varS_in _ hj9, ← show I2 (17 + 4) j = I 21 j from by rw [hI (17 + 4) (by decide)]] at hv
                    first | refine wn_iast rfl (e := 129) rfl rfl (by decide) (by omega) (by decide) ?_ | refine wx_iast rfl (e := 129) rfl rfl (by decide) (by assumption) ?_
                    first | refine wn_iinc (m := 1) (L2 := [_, _, _, _, _, _, _]) rfl (e := 132) rfl rfl (by decide) rfl ?_ | refine wx_iinc (L2 := [_, _, _, _, _, _, _]) rfl (e := 132) rfl rfl (by decide) rfl ?_
                    refine wx_goto rfl ?_
                    first | refine wn_iinc (m := 1) (L2 := [_, _, _, _, _, _, _]) rfl (e := 237) rfl rfl (by decide) rfl ?_ | refine wx_iinc (L2 := [_, _, _, _, _, _, _]) rfl (e := 237) rfl rfl (by decide) rfl ?_
                    refine wx_goto rfl ?_
                    refine ih _ _ _ _ _ _ ?_ ?_ ?_ ?_ ?_
                    · omega
                    · omega
                    · omega
                    · intro c hc; first | exact hI c hc | (rw [wr_other _ _ _ _ hc]; exact hI c hc)
                    · first | exact hv | (rw [wr_self]; exact hv) | (rw [wr_self, show top - (1 + 1) + 1 = top - 1 by omega]; exact hv)
                  · rw [varS_out _ e9] at hv
                    first | refine wn_iast rfl (e := 129) rfl rfl (by decide) (by omega) (by decide) ?_ | refine wx_iast rfl (e := 129) rfl rfl (by decide) (by assumption) ?_
                    first | refine wn_iinc (m := 1) (L2 := [_, _, _, _, _, _, _]) rfl (e := 132) rfl rfl (by decide) rfl ?_ | refine wx_iinc (L2 := [_, _, _, _, _, _, _]) rfl (e := 132) rfl rfl (by decide) rfl ?_
                    refine wx_goto rfl ?_
                    first | refine wn_iinc (m := 1) (L2 := [_, _, _, _, _, _, _]) rfl (e := 237) rfl rfl (by decide) rfl ?_ | refine wx_iinc (L2 := [_, _, _, _, _, _, _]) rfl (e := 237) rfl rfl (by decide) rfl ?_
                    refine wx_goto rfl ?_
                    refine ih _ _ _ _ _ _ ?_ ?_ ?_ ?_ ?_
                    · omega
                    · omega
                    · omega
                    · intro c hc; first | exact hI c hc | (rw [wr_other _ _ _ _ hc]; exact hI c hc)
                    · first | exact hv | (rw [wr_self]; exact hv) | (rw [wr_self, show top - (1 + 1) + 1 = top - 1 by omega]; exact hv)
                · rw [← nI_0] at c_106
                  rw [if_pos c_106] at hv
                  refine wx_aload_n rfl (e := 110) rfl rfl ?_
                  refine wx_getr rfl (e := 113) rfl rfl rfl ?_
                  refine wx_iload_n rfl (e := 114) rfl rfl ?_
                  first | refine wn_iald rfl (e := 115) rfl rfl (by omega) (by decide) ?_ | refine wx_iald rfl (e := 115) rfl rfl (by assumption) ?_
                  rw [hI 19 (by decide)]
                  refine wx_goto rfl ?_
                  first | refine wn_iast rfl (e := 129) rfl rfl (by decide) (by omega) (by decide) ?_ | refine wx_iast rfl (e := 129) rfl rfl (by decide) (by assumption) ?_
                  first | refine wn_iinc (m := 1) (L2 := [_, _, _, _, _, _, _]) rfl (e := 132) rfl rfl (by decide) rfl ?_ | refine wx_iinc (L2 := [_, _, _, _, _, _, _]) rfl (e := 132) rfl rfl (by decide) rfl ?_
                  refine wx_goto rfl ?_
                  first | refine wn_iinc (m := 1) (L2 := [_, _, _, _, _, _, _]) rfl (e := 237) rfl rfl (by decide) rfl ?_ | refine wx_iinc (L2 := [_, _, _, _, _, _, _]) rfl (e := 237) rfl rfl (by decide) rfl ?_
                  refine wx_goto rfl ?_
                  refine ih _ _ _ _ _ _ ?_ ?_ ?_ ?_ ?_
                  · omega
                  · omega
                  · omega
                  · intro c hc; first | exact hI c hc | (rw [wr_other _ _ _ _ hc]; exact hI c hc)
                  · first | exact hv | (rw [wr_self]; exact hv) | (rw [wr_self, show top - (1 + 1) + 1 = top - 1 by omega]; exact hv)
              · rw [if_pos (by omega)] at hv
                refine wx_iconst (v := (nI 0)) rfl (e := 98) rfl (by decide) ?_
                refine wx_iret rfl rfl rfl ⟨by decide, by decide⟩ ?_
                rw [← hv] at hq
                exact hq I2 hI
            · rw [← nI_0] at c_78
              refine wx_iload rfl (e := 83) rfl rfl ?_
              refine wx_iconst (v := (nI 1)) rfl (e := 84) rfl (by decide) ?_
              first | refine wn_ic_ne rfl (e := 87) rfl (by omega) (by omega) (fun c_84 => ?_) (fun c_84 => ?_) | refine wx_ic_ne rfl (e := 87) rfl (fun c_84 => ?_) (fun c_84 => ?_)
              · rw [if_neg (by rintro (z | z) <;> contradiction)] at hv
                refine wx_iload_n rfl (e := 136) rfl rfl ?_
                refine wx_iconst (v := (nI 2)) rfl (e := 137) rfl (by decide) ?_
                first | refine wn_ic_lt rfl (e := 140) rfl (by omega) (by omega) (fun c_137 => ?_) (fun c_137 => ?_) | refine wx_ic_lt rfl (e := 140) rfl (fun c_137 => ?_) (fun c_137 => ?_)
                · rw [if_pos (by omega)] at hv
                  refine wx_iconst (v := (nI 0)) rfl (e := 147) rfl (by decide) ?_
                  refine wx_iret rfl rfl rfl ⟨by decide, by decide⟩ ?_
                  rw [← hv] at hq
                  exact hq I2 hI
                · refine wx_iload_n rfl (e := 141) rfl rfl ?_
                  refine wx_bipush (v := (nI 20)) rfl (e := 143) rfl (by decide) ?_
                  first | refine wn_ic_le rfl (e := 146) rfl (by omega) (by omega) (fun c_143 => ?_) (fun c_143 => ?_) | refine wx_ic_le rfl (e := 146) rfl (fun c_143 => ?_) (fun c_143 => ?_)
                  · rw [if_neg (by omega)] at hv
                    first | refine wn_idec (m := 1) (L2 := [_, _, _, _, _, _, _]) rfl (e := 151) rfl rfl (by omega) (by decide) rfl ?_ | refine wx_iinc (L2 := [_, _, _, _, _, _, _]) rfl (e := 151) rfl rfl (by decide) rfl ?_
                    refine wx_aload_n rfl (e := 152) rfl rfl ?_
                    refine wx_getr rfl (e := 155) rfl rfl rfl ?_
                    refine wx_iload_n rfl (e := 156) rfl rfl ?_
                    first | refine wn_iald rfl (e := 157) rfl rfl (by omega) (by decide) ?_ | refine wx_iald rfl (e := 157) rfl rfl (by assumption) ?_
                    refine wx_istore (L2 := [_, _, _, _, _, _, _]) rfl (e := 159) rfl (by decide) rfl ?_
                    refine wx_aload_n rfl (e := 160) rfl rfl ?_
                    refine wx_getr rfl (e := 163) rfl rfl rfl ?_
                    refine wx_iload_n rfl (e := 164) rfl rfl ?_
                    refine wx_iconst (v := (nI 1)) rfl (e := 165) rfl (by decide) ?_
                    first | refine wn_iadd rfl (e := 166) rfl ?_ | refine wx_iadd rfl (e := 166) rfl ?_
                    first | refine wn_iald rfl (e := 167) rfl rfl (by omega) (by decide) ?_ | refine wx_iald rfl (e := 167) rfl rfl (by assumption) ?_
                    rw [show top - 2 + 1 = top - 1 by omega]
                    refine wx_istore (L2 := [_, _, _, _, _, _, _]) rfl (e := 169) rfl (by decide) rfl ?_
                    refine wx_iload rfl (e := 171) rfl rfl ?_
                    refine wx_iconst (v := (nI 2)) rfl (e := 172) rfl (by decide) ?_
                    first | refine wn_ic_ne rfl (e := 175) rfl (by omega) (by omega) (fun c_172 => ?_) (fun c_172 => ?_) | refine wx_ic_ne rfl (e := 175) rfl (fun c_172 => ?_) (fun c_172 => ?_)
                    · rw [if_neg c_172] at hv
                      refine wx_iload rfl (e := 204) rfl rfl ?_
                      refine wx_bipush (v := (nI 47)) rfl (e := 206) rfl (by decide) ?_
                      first | refine wn_ic_ne rfl (e := 209) rfl (by omega) (by omega) (fun c_206 => ?_) (fun c_206 => ?_) | refine wx_ic_ne rfl (e := 209) rfl (fun c_206 => ?_) (fun c_206 => ?_)
                      · rw [if_neg (fun z => c_206 z.1)] at hv
                        refine wx_aload_n rfl (e := 217) rfl rfl ?_
                        refine wx_getr rfl (e := 220) rfl rfl rfl ?_
                        refine wx_iload_n rfl (e := 221) rfl rfl ?_
                        refine wx_iload rfl (e := 223) rfl rfl ?_
                        refine wx_iload rfl (e := 225) rfl rfl ?_
                        refine wx_iload rfl (e := 227) rfl rfl ?_
                        refine wx_cs3 (mc := 0) (ms := 0) rfl (e := 230) rfl (Nat.le_of_ble_eq_true rfl) ⟨by decide, by decide⟩ ?_
                        refine c_X2_worked ?_
                        first | refine wn_iast rfl (e := 231) rfl rfl (by decide) (by omega) (by decide) ?_ | refine wx_iast rfl (e := 231) rfl rfl (by decide) (by assumption) ?_
                        first | refine wn_iinc (m := 1) (L2 := [_, _, _, _, _, _, _]) rfl (e := 234) rfl rfl (by decide) rfl ?_ | refine wx_iinc (L2 := [_, _, _, _, _, _, _]) rfl (e := 234) rfl rfl (by decide) rfl ?_
                        first | refine wn_iinc (m := 1) (L2 := [_, _, _, _, _, _, _]) rfl (e := 237) rfl rfl (by decide) rfl ?_ | refine wx_iinc (L2 := [_, _, _, _, _, _, _]) rfl (e := 237) rfl rfl (by decide) rfl ?_
                        refine wx_goto rfl ?_
                        refine ih _ _ _ _ _ _ ?_ ?_ ?_ ?_ ?_
                        · omega
                        · omega
                        · omega
                        · intro c hc; first | exact hI c hc | (rw [wr_other _ _ _ _ hc]; exact hI c hc)
                        · first | exact hv | (rw [wr_self]; exact hv) | (rw [wr_self, show top - (1 + 1) + 1 = top - 1 by omega]; exact hv)
                      · refine wx_iload rfl (e := 211) rfl rfl ?_
                        first | refine wn_if_ne rfl (e := 214) rfl (by omega) (fun c_211 => ?_) (fun c_211 => ?_) | refine wx_if_ne rfl (e := 214) rfl (fun c_211 => ?_) (fun c_211 => ?_)
                        · rw [← nI_0] at c_211
                          rw [if_neg (fun z => c_211 z.2)] at hv
                          refine wx_aload_n rfl (e := 217) rfl rfl ?_
                          refine wx_getr rfl (e := 220) rfl rfl rfl ?_
                          refine wx_iload_n rfl (e := 221) rfl rfl ?_
                          refine wx_iload rfl (e := 223) rfl rfl ?_
                          refine wx_iload rfl (e := 225) rfl rfl ?_
                          refine wx_iload rfl (e := 227) rfl rfl ?_
                          refine wx_cs3 (mc := 0) (ms := 0) rfl (e := 230) rfl (Nat.le_of_ble_eq_true rfl) ⟨by decide, by decide⟩ ?_
                          refine c_X2_worked ?_
                          first | refine wn_iast rfl (e := 231) rfl rfl (by decide) (by omega) (by decide) ?_ | refine wx_iast rfl (e := 231) rfl rfl (by decide) (by assumption) ?_
                          first | refine wn_iinc (m := 1) (L2 := [_, _, _, _, _, _, _]) rfl (e := 234) rfl rfl (by decide) rfl ?_ | refine wx_iinc (L2 := [_, _, _, _, _, _, _]) rfl (e := 234) rfl rfl (by decide) rfl ?_
                          first | refine wn_iinc (m := 1) (L2 := [_, _, _, _, _, _, _]) rfl (e := 237) rfl rfl (by decide) rfl ?_ | refine wx_iinc (L2 := [_, _, _, _, _, _, _]) rfl (e := 237) rfl rfl (by decide) rfl ?_
                          refine wx_goto rfl ?_
                          refine ih _ _ _ _ _ _ ?_ ?_ ?_ ?_ ?_
                          · omega
                          · omega
                          · omega
                          · intro c hc; first | exact hI c hc | (rw [wr_other _ _ _ _ hc]; exact hI c hc)
                          · first | exact hv | (rw [wr_self]; exact hv) | (rw [wr_self, show top - (1 + 1) + 1 = top - 1 by omega]; exact hv)
                        · rw [← nI_0] at c_211
                          rw [if_pos ⟨c_206, c_211⟩] at hv
                          refine wx_iconst (v := (nI 0)) rfl (e := 215) rfl (by decide) ?_
                          refine wx_iret rfl rfl rfl ⟨by decide, by decide⟩ ?_
                          rw [← hv] at hq
                          exact hq I2 hI
                    · rw [if_pos c_172] at hv
                      refine wx_iload rfl (e := 177) rfl rfl ?_
                      refine wx_iload rfl (e := 179) rfl rfl ?_
                      first | refine wn_ic_ge rfl (e := 182) rfl (by omega) (by omega) (fun c_179 => ?_) (fun c_179 => ?_) | refine wx_ic_ge rfl (e := 182) rfl (fun c_179 => ?_) (fun c_179 => ?_)
                      · rw [if_pos c_179] at hv
                        refine wx_iload_n rfl (e := 187) rfl rfl ?_
                        refine wx_aload_n rfl (e := 188) rfl rfl ?_
                        refine wx_getr rfl (e := 191) rfl rfl rfl ?_
                        refine wx_iload_n rfl (e := 192) rfl rfl ?_
                        first | refine wn_iald rfl (e := 193) rfl rfl (by omega) (by decide) ?_ | refine wx_iald rfl (e := 193) rfl rfl (by assumption) ?_
                        rw [hI 19 (by decide)]
                        refine wx_iconst (v := (nI 1)) rfl (e := 194) rfl (by decide) ?_
                        first | refine wn_isub rfl (e := 195) rfl (by omega) ?_ | refine wx_isub rfl (e := 195) rfl ?_
                        refine wx_cs2 (mc := 0) (ms := 0) rfl (e := 198) rfl (Nat.le_of_ble_eq_true rfl) ⟨by decide, by decide⟩ ?_
                        refine c_J9_max_7cf53 ?_
                        obtain ⟨m, hm, em⟩ := hj at_ (by omega) c_172
                        show WP _ _ _ _ _ (Value.int (if nI at_ < I 19 at_ - nI 1 then I 19 at_ - nI 1 else nI at_) :: _) _ _ _
                        rw [max_nI at_ (by omega) hm em]
                        have hmx : max at_ ((I 19 at_).toNatClampNeg - 1) ≤ 419 := by rw [em, nI_clamp (by omega)]; omega
                        have hmy : at_ ≤ max at_ ((I 19 at_).toNatClampNeg - 1) := Nat.le_max_left _ _
                        generalize max at_ ((I 19 at_).toNatClampNeg - 1) = at2 at hv hmx hmy ⊢
                        refine wx_istore_n (L2 := [_, _, _, _, _, _, _]) rfl (e := 199) rfl (by decide) rfl ?_
                        refine wx_goto rfl ?_
                        first | refine wn_iinc (m := 1) (L2 := [_, _, _, _, _, _, _]) rfl (e := 237) rfl rfl (by decide) rfl ?_ | refine wx_iinc (L2 := [_, _, _, _, _, _, _]) rfl (e := 237) rfl rfl (by decide) rfl ?_
                        refine wx_goto rfl ?_
                        refine ih _ _ _ _ _ _ ?_ ?_ ?_ ?_ ?_
                        · omega
                        · omega
                        · omega
                        · intro c hc; first | exact hI c hc | (rw [wr_other _ _ _ _ hc]; exact hI c hc)
                        · first | exact hv | (rw [wr_self]; exact hv) | (rw [wr_self, show top - (1 + 1) + 1 = top - 1 by omega]; exact hv)
                      · rw [if_neg c_179] at hv
                        refine wx_iload_n rfl (e := 183) rfl rfl ?_
                        refine wx_goto rfl ?_
                        refine wx_istore_n (L2 := [_, _, _, _, _, _, _]) rfl (e := 199) rfl (by decide) rfl ?_
                        refine wx_goto rfl ?_
                        first | refine wn_iinc (m := 1) (L2 := [_, _, _, _, _, _, _]) rfl (e := 237) rfl rfl (by decide) rfl ?_ | refine wx_iinc (L2 := [_, _, _, _, _, _, _]) rfl (e := 237) rfl rfl (by decide) rfl ?_
                        refine wx_goto rfl ?_
                        refine ih _ _ _ _ _ _ ?_ ?_ ?_ ?_ ?_
                        · omega
                        · omega
                        · omega
                        · intro c hc; first | exact hI c hc | (rw [wr_other _ _ _ _ hc]; exact hI c hc)
                        · first | exact hv | (rw [wr_self]; exact hv) | (rw [wr_self, show top - (1 + 1) + 1 = top - 1 by omega]; exact hv)
                  · rw [if_pos (by omega)] at hv
                    refine wx_iconst (v := (nI 0)) rfl (e := 147) rfl (by decide) ?_
                    refine wx_iret rfl rfl rfl ⟨by decide, by decide⟩ ?_
                    rw [← hv] at hq
                    exact hq I2 hI
              · rw [if_pos (Or.inr c_84)] at hv
                refine wx_iload_n rfl (e := 88) rfl rfl ?_
                refine wn_if_lt rfl (e := 91) rfl (by omega) ?_
                refine wx_iload_n rfl (e := 92) rfl rfl ?_
                refine wx_bipush (v := (nI 20)) rfl (e := 94) rfl (by decide) ?_
                first | refine wn_ic_lt rfl (e := 97) rfl (by omega) (by omega) (fun c_94 => ?_) (fun c_94 => ?_) | refine wx_ic_lt rfl (e := 97) rfl (fun c_94 => ?_) (fun c_94 => ?_)
                · rw [if_neg (by omega)] at hv
                  refine wx_aload_n rfl (e := 100) rfl rfl ?_
                  refine wx_getr rfl (e := 103) rfl rfl rfl ?_
                  refine wx_iload_n rfl (e := 104) rfl rfl ?_
                  refine wx_iload rfl (e := 106) rfl rfl ?_
                  first | refine wn_if_ne rfl (e := 109) rfl (by omega) (fun c_106 => ?_) (fun c_106 => ?_) | refine wx_if_ne rfl (e := 109) rfl (fun c_106 => ?_) (fun c_106 => ?_)
                  · rw [← nI_0] at c_106
                    rw [if_neg c_106] at hv
                    refine wx_aload_n rfl (e := 119) rfl rfl ?_
                    refine wx_aload_n rfl (e := 120) rfl rfl ?_
                    refine wx_getr rfl (e := 123) rfl rfl rfl ?_
                    refine wx_iload_n rfl (e := 124) rfl rfl ?_
                    first | refine wn_iald rfl (e := 125) rfl rfl (by omega) (by decide) ?_ | refine wx_iald rfl (e := 125) rfl rfl (by assumption) ?_
                    rw [hI 19 (by decide)]
                    refine wx_cv1 (mc := 0) (ms := 0) rfl (e := 128) rfl rfl (Nat.le_of_ble_eq_true rfl) ⟨by decide, by decide⟩ ?_
                    refine c_X2_varOf (Or.inr rfl) (fun j hj9 e9 => ?_) (fun e9 => ?_)
                    · rw [e9, varS_in _ hj9, ← show I2 (17 + 4) j = I 21 j from by rw [hI (17 + 4) (by decide)]] at hv
                      first | refine wn_iast rfl (e := 129) rfl rfl (by decide) (by omega) (by decide) ?_ | refine wx_iast rfl (e := 129) rfl rfl (by decide) (by assumption) ?_
                      first | refine wn_iinc (m := 1) (L2 := [_, _, _, _, _, _, _]) rfl (e := 132) rfl rfl (by decide) rfl ?_ | refine wx_iinc (L2 := [_, _, _, _, _, _, _]) rfl (e := 132) rfl rfl (by decide) rfl ?_
                      refine wx_goto rfl ?_
                      first | refine wn_iinc (m := 1) (L2 := [_, _, _, _, _, _, _]) rfl (e := 237) rfl rfl (by decide) rfl ?_ | refine wx_iinc (L2 := [_, _, _, _, _, _, _]) rfl (e := 237) rfl rfl (by decide) rfl ?_
                      refine wx_goto rfl ?_
                      refine ih _ _ _ _ _ _ ?_ ?_ ?_ ?_ ?_
                      · omega
                      · omega
                      · omega
                      · intro c hc; first | exact hI c hc | (rw [wr_other _ _ _ _ hc]; exact hI c hc)
                      · first | exact hv | (rw [wr_self]; exact hv) | (rw [wr_self, show top - (1 + 1) + 1 = top - 1 by omega]; exact hv)
                    · rw [varS_out _ e9] at hv
                      first | refine wn_iast rfl (e := 129) rfl rfl (by decide) (by omega) (by decide) ?_ | refine wx_iast rfl (e := 129) rfl rfl (by decide) (by assumption) ?_
                      first | refine wn_iinc (m := 1) (L2 := [_, _, _, _, _, _, _]) rfl (e := 132) rfl rfl (by decide) rfl ?_ | refine wx_iinc (L2 := [_, _, _, _, _, _, _]) rfl (e := 132) rfl rfl (by decide) rfl ?_
                      refine wx_goto rfl ?_
                      first | refine wn_iinc (m := 1) (L2 := [_, _, _, _, _, _, _]) rfl (e := 237) rfl rfl (by decide) rfl ?_ | refine wx_iinc (L2 := [_, _, _, _, _, _, _]) rfl (e := 237) rfl rfl (by decide) rfl ?_
                      refine wx_goto rfl ?_
                      refine ih _ _ _ _ _ _ ?_ ?_ ?_ ?_ ?_
                      · omega
                      · omega
                      · omega
                      · intro c hc; first | exact hI c hc | (rw [wr_other _ _ _ _ hc]; exact hI c hc)
                      · first | exact hv | (rw [wr_self]; exact hv) | (rw [wr_self, show top - (1 + 1) + 1 = top - 1 by omega]; exact hv)
                  · rw [← nI_0] at c_106
                    rw [if_pos c_106] at hv
                    refine wx_aload_n rfl (e := 110) rfl rfl ?_
                    refine wx_getr rfl (e := 113) rfl rfl rfl ?_
                    refine wx_iload_n rfl (e := 114) rfl rfl ?_
                    first | refine wn_iald rfl (e := 115) rfl rfl (by omega) (by decide) ?_ | refine wx_iald rfl (e := 115) rfl rfl (by assumption) ?_
                    rw [hI 19 (by decide)]
                    refine wx_goto rfl ?_
                    first | refine wn_iast rfl (e := 129) rfl rfl (by decide) (by omega) (by decide) ?_ | refine wx_iast rfl (e := 129) rfl rfl (by decide) (by assumption) ?_
                    first | refine wn_iinc (m := 1) (L2 := [_, _, _, _, _, _, _]) rfl (e := 132) rfl rfl (by decide) rfl ?_ | refine wx_iinc (L2 := [_, _, _, _, _, _, _]) rfl (e := 132) rfl rfl (by decide) rfl ?_
                    refine wx_goto rfl ?_
                    first | refine wn_iinc (m := 1) (L2 := [_, _, _, _, _, _, _]) rfl (e := 237) rfl rfl (by decide) rfl ?_ | refine wx_iinc (L2 := [_, _, _, _, _, _, _]) rfl (e := 237) rfl rfl (by decide) rfl ?_
                    refine wx_goto rfl ?_
                    refine ih _ _ _ _ _ _ ?_ ?_ ?_ ?_ ?_
                    · omega
                    · omega
                    · omega
                    · intro c hc; first | exact hI c hc | (rw [wr_other _ _ _ _ hc]; exact hI c hc)
                    · first | exact hv | (rw [wr_self]; exact hv) | (rw [wr_self, show top - (1 + 1) + 1 = top - 1 by omega]; exact hv)
                · rw [if_pos (by omega)] at hv
                  refine wx_iconst (v := (nI 0)) rfl (e := 98) rfl (by decide) ?_
                  refine wx_iret rfl rfl rfl ⟨by decide, by decide⟩ ?_
                  rw [← hv] at hq
                  exact hq I2 hI
          · rw [if_pos c_50] at hv
            refine wx_iload_n rfl (e := 54) rfl rfl ?_
            first | refine wn_if_le rfl (e := 57) rfl (by omega) (fun c_54 => ?_) (fun c_54 => ?_) | refine wx_if_le rfl (e := 57) rfl (fun c_54 => ?_) (fun c_54 => ?_)
            · rw [if_pos (by omega)] at hv
              refine wx_iconst (v := (nI 0)) rfl (e := 75) rfl (by decide) ?_
              refine wx_iret rfl rfl rfl ⟨by decide, by decide⟩ ?_
              rw [← hv] at hq
              exact hq I2 hI
            · refine wx_iload_n rfl (e := 58) rfl rfl ?_
              refine wx_bipush (v := (nI 20)) rfl (e := 60) rfl (by decide) ?_
              first | refine wn_ic_gt rfl (e := 63) rfl (by omega) (by omega) (fun c_60 => ?_) (fun c_60 => ?_) | refine wx_ic_gt rfl (e := 63) rfl (fun c_60 => ?_) (fun c_60 => ?_)
              · rw [if_pos (by omega)] at hv
                refine wx_iconst (v := (nI 0)) rfl (e := 75) rfl (by decide) ?_
                refine wx_iret rfl rfl rfl ⟨by decide, by decide⟩ ?_
                rw [← hv] at hq
                exact hq I2 hI
              · rw [if_neg (by omega)] at hv
                refine wx_aload_n rfl (e := 64) rfl rfl ?_
                refine wx_getr rfl (e := 67) rfl rfl rfl ?_
                refine wx_iload_n rfl (e := 68) rfl rfl ?_
                refine wx_iconst (v := (nI 1)) rfl (e := 69) rfl (by decide) ?_
                first | refine wn_isub rfl (e := 70) rfl (by omega) ?_ | refine wx_isub rfl (e := 70) rfl ?_
                first | refine wn_iald rfl (e := 71) rfl rfl (by omega) (by decide) ?_ | refine wx_iald rfl (e := 71) rfl rfl (by assumption) ?_
                refine wx_goto rfl ?_
                refine wx_iret rfl rfl rfl ⟨by decide, by decide⟩ ?_
                rw [← hv] at hq
                exact hq I2 hI
  refine wx_in (M := mX2_value) rfl rfl rfl (Nat.le_of_ble_eq_true rfl) ?_
  refine wx_iload_n rfl (e := 1) rfl rfl ?_
  refine wn_if_lt rfl (e := 4) rfl (by omega) ?_
  refine wx_iload_n rfl (e := 5) rfl rfl ?_
  refine wx_iconst (v := (nI 5)) rfl (e := 6) rfl (by decide) ?_
  first | refine wn_ic_lt rfl (e := 9) rfl (by omega) (by omega) (fun c_6 => ?_) (fun c_6 => absurd c_6 (by omega)) | refine wx_ic_lt rfl (e := 9) rfl (fun c_6 => ?_) (fun c_6 => absurd c_6 (by omega))
  refine wx_iconst (v := (nI 0)) rfl (e := 12) rfl (by decide) ?_
  refine wx_istore_n (L2 := [_, _, _, _, _, _, _]) rfl (e := 13) rfl (by decide) rfl ?_
  refine wx_iconst (v := (nI 0)) rfl (e := 14) rfl (by decide) ?_
  refine wx_aload_n rfl (e := 15) rfl rfl ?_
  refine wx_getr rfl (e := 18) rfl rfl rfl ?_
  refine wx_iload_n rfl (e := 19) rfl rfl ?_
  first | refine wn_iald rfl (e := 20) rfl rfl (by omega) (by decide) ?_ | refine wx_iald rfl (e := 20) rfl rfl (by assumption) ?_
  rw [(hs k hk).2]
  refine wx_cs2 (mc := 0) (ms := 0) rfl (e := 23) rfl (Nat.le_of_ble_eq_true rfl) ⟨by decide, by decide⟩ ?_
  refine c_J9_max_7cf53 ?_
  show WP _ _ _ _ _ (Value.int (if nI 0 < nI (ss k) then nI (ss k) else nI 0) :: _) _ _ _
  rw [max_nI0 (by have := (hs k hk).1; omega)]
  refine wx_istore_n (L2 := [_, _, _, _, _, _, _]) rfl (e := 24) rfl (by decide) rfl ?_
  refine loop 421 (ss k) 0 I none none none (by have := (hs k hk).1; omega) (by omega) (by omega) (fun c _ => rfl) ?_
  rw [← hV]
  exact cev_sk _ _ _ _ _ (fun i hi => absurd hi (Nat.not_lt_zero _))
theorem c_X2_value {d Lx t rt u : Nat} {I : Nat → Nat → Int32} {G : Nat → Nat → Int64} {Q : ab_Q} {w us k : Nat} {ss : Nat → Nat} (hw : w = 2 ∨ w = 17) (hok : lwok I w us ss) (hk : k < 5) (hq : ∀ I2, (∀ c, c ≠ w + 5 → I2 c = I c) → Q (some (.int (cev us (I (w + 1)) (I (w + 2)) (I (w + 4)) 421 (ss k) 0 (fun _ => nI 0)))) (hp Lx t rt u I2 G)) : ab_call ab_MT (d + 2) 43 [.ref w, .int (nI k)] (hp Lx t rt u I G) 0 0 Q := by
  rcases hw with rfl | rfl
  · exact c_X2_value_2 hok hk hq
  · exact c_X2_value_17 hok hk hq
end
section
/-! the course: what laws look at, and what they tell of a row -/
/-- the text at o is T -/
def CT (o : Nat) (I : Nat → Nat → Int32) (T : tx) : Prop := (o = 1 ∨ o = 16) ∧ tok T ∧ I o 10 = nI (tC T) ∧ I o 12 = nI (tR T) ∧ I o 14 = nI (tP T) ∧ I o 15 = tS T ∧ I o 13 = nI (bsF (tT T)) ∧ (∀ a b, a < tC T → b < tC T → I (o + 10) (a * 6 + b) = tF T a b) ∧ (∀ a, a < tP T → I (o + 12) a = nI (tH T a) ∧ I (o + 13) a = tN T a ∧ I (o + 14) a = tG T a) ∧ ∃ us ss, lwok I (o + 1) us ss ∧ ∀ k, k < 5 → ∀ vs, cev us (I (o + 2)) (I (o + 3)) vs 421 (ss k) 0 (fun _ => nI 0) = tL T k vs
/-- the state at s is the row r -/
def CS (s : Nat) (I : Nat → Nat → Int32) (r : rw_) : Prop := ∀ k, k < 55 → I (s + 1) k = cst r k
theorem CT.kept {o : Nat} {I I2 : Nat → Nat → Int32} {T : tx} (h : CT o I T) (hk : ∀ c, o ≤ c → c ≤ o + 14 → c ≠ o + 5 → c ≠ o + 6 → I2 c = I c) : CT o I2 T := by
  obtain ⟨h1, h2, h3, h4, h5, h6, h7, h8, h9, us, ss, ⟨q1, q2, q3, q4⟩, q5⟩ := h
  have e0 := hk o (by omega) (by omega) (by omega) (by omega)
  have e1 := hk (o + 1) (by omega) (by omega) (by omega) (by omega)
  have e2 := hk (o + 2) (by omega) (by omega) (by omega) (by omega)
  have e3 := hk (o + 3) (by omega) (by omega) (by omega) (by omega)
  have e4 := hk (o + 4) (by omega) (by omega) (by omega) (by omega)
  have e10 := hk (o + 10) (by omega) (by omega) (by omega) (by omega)
  have e12 := hk (o + 12) (by omega) (by omega) (by omega) (by omega)
  have e13 := hk (o + 13) (by omega) (by omega) (by omega) (by omega)
  have e14 := hk (o + 14) (by omega) (by omega) (by omega) (by omega)
  refine ⟨h1, h2, by rw [e0]; exact h3, by rw [e0]; exact h4, by rw [e0]; exact h5, by rw [e0]; exact h6, by rw [e0]; exact h7, by rw [e10]; exact h8, by rw [e12, e13, e14]; exact h9, us, ss, ⟨q1, by rw [e1]; exact q2, by show ∀ k, k < 5 → _ ∧ I2 (o + 4) k = _; rw [e4]; exact q3, ?_⟩, by rw [e2, e3]; exact q5⟩
  show ∀ j, j < us → I2 (o + 2) j = nI 2 → ∃ m, m ≤ 420 ∧ I2 (o + 3) j = nI m
  rw [e2, e3]
  exact q4
theorem sh_t {Lx o : Nat} (h : o = 1 ∨ o = 16) : SH Lx o = .inl 7 := by rcases h with rfl | rfl <;> rfl
theorem sh_l {Lx o : Nat} (h : o = 1 ∨ o = 16) : SH Lx (o + 1) = .inl 2 := by rcases h with rfl | rfl <;> rfl
theorem sh_s {Lx s : Nat} (h : s = 39 ∨ s = 45) : SH Lx s = .inl 5 := by rcases h with rfl | rfl <;> rfl
theorem l_of {o : Nat} (h : o = 1 ∨ o = 16) : o + 1 = 2 ∨ o + 1 = 17 := by omega
theorem bc6 : ∀ a b c d e f : Bool, bcS (nI (bs6 a b c d e f)) = nI (cn6 a b c d e f) := by decide +kernel
theorem bc_ok (f : Nat → Bool) : bcS (nI (bsF f)) = nI (cnF f) := bc6 _ _ _ _ _ _
theorem an6 : ∀ a b c d e f a2 b2 c2 d2 e2 f2 : Bool, nI (bs6 a b c d e f) &&& nI (bs6 a2 b2 c2 d2 e2 f2) = nI (bs6 (a && a2) (b && b2) (c && c2) (d && d2) (e && e2) (f && f2)) := by decide +kernel
theorem an_ok (f g : Nat → Bool) : nI (bsF f) &&& nI (bsF g) = nI (bsF (fun e => f e && g e)) := an6 _ _ _ _ _ _ _ _ _ _ _ _
theorem sr6 : ∀ a b c d e f : Bool, (nI (bs6 a b c d e f) >>> (nI 0 &&& 31)) &&& nI 1 = b1 a ∧ (nI (bs6 a b c d e f) >>> (nI 1 &&& 31)) &&& nI 1 = b1 b ∧ (nI (bs6 a b c d e f) >>> (nI 2 &&& 31)) &&& nI 1 = b1 c ∧ (nI (bs6 a b c d e f) >>> (nI 3 &&& 31)) &&& nI 1 = b1 d ∧ (nI (bs6 a b c d e f) >>> (nI 4 &&& 31)) &&& nI 1 = b1 e ∧ (nI (bs6 a b c d e f) >>> (nI 5 &&& 31)) &&& nI 1 = b1 f := by decide +kernel
theorem sr_ok (f : Nat → Bool) {e : Nat} (h : e < 6) : (nI (bsF f) >>> (nI e &&& 31)) &&& nI 1 = b1 (f e) := by
  obtain ⟨h0, h1, h2, h3, h4, h5⟩ := sr6 (f 0) (f 1) (f 2) (f 3) (f 4) (f 5)
  rcases (show e = 0 ∨ e = 1 ∨ e = 2 ∨ e = 3 ∨ e = 4 ∨ e = 5 by omega) with rfl | rfl | rfl | rfl | rfl | rfl
  · exact h0
  · exact h1
  · exact h2
  · exact h3
  · exact h4
  · exact h5
theorem cst_at (r : rw_) {c : Nat} (h : c < 6) : cst r (18 + c) = nI (bsF (atC r c)) := by
  unfold cst
  rw [if_neg (by omega), if_neg (by omega), if_pos (by omega), Nat.add_sub_cancel_left]
theorem cst_w (r : rw_) {c : Nat} (h : c < 6) : cst r c = r c := by
  unfold cst
  rw [if_pos h]
theorem cst_m (r : rw_) {c : Nat} (h : 6 ≤ c) (h2 : c < 18) : cst r c = r (c + 6) := by
  unfold cst
  rw [if_neg (by omega), if_pos h2]
theorem cst_h (r : rw_) {c : Nat} (h : 30 ≤ c) : cst r c = r (c - 6) := by
  unfold cst
  rw [if_neg (by omega), if_neg (by omega), if_neg (by omega), if_neg (by omega)]
theorem cst_r (r : rw_) {e : Nat} (h : e < 6) : cst r (24 + e) = r (6 + e) := by
  unfold cst
  rw [if_neg (by omega), if_neg (by omega), if_neg (by omega), if_pos (by omega)]
  congr 1
  omega
theorem c_X0_lookAt {d Lx t rt u : Nat} {I : Nat → Nat → Int32} {G : Nat → Nat → Int64} {Q : ab_Q} {T : tx} {r : rw_} {s : Nat} (hT : CT u I T) (hs : s = 39 ∨ s = 45) (hS : CS s I r) {c : Nat} (hc : c < tC T) (hq : ∀ I2, (∀ q, q ≠ u + 5 → I2 q = I q) → (∀ j, j < 9 → I2 (u + 5) j = vs0 r c j) → Q none (hp Lx t rt u I2 G)) : ab_call ab_MT (d + 2) 7 [.ref 41, .ref s, .int (nI c)] (hp Lx t rt u I G) 0 0 Q := by
  have hu := hT.1
  obtain ⟨hC6, hR6, hP5, hH, hTf, hFn, hLx⟩ := hT.2.1
  refine wx_in (M := mX0_lookAt) rfl rfl rfl (Nat.le_of_ble_eq_true rfl) ?_
  refine wx_aload_n rfl (e := 1) rfl rfl ?_
  refine wx_getr rfl (e := 4) rfl rfl rfl ?_
  refine wx_cv0 (mc := 0) (ms := 0) rfl (e := 7) rfl (sh_l hu) (Nat.le_of_ble_eq_true rfl) ⟨by decide, by decide⟩ ?_
  refine c_X2_clearVars (l_of hu) (fun I2 hI2 => ?_)
  have h0 : ∀ q, q ≠ u + 5 → I2 q = I q := fun q hq => by funext k; rw [hI2, if_neg (by omega)]
  refine wx_aload_n rfl (e := 8) rfl rfl ?_
  refine wx_getr rfl (e := 11) rfl rfl rfl ?_
  refine wx_iconst (v := (nI 0)) rfl (e := 12) rfl (by decide) ?_
  refine wx_aload_n rfl (e := 13) rfl rfl ?_
  refine wx_bipush (v := (nI 18)) rfl (e := 15) rfl (by decide) ?_
  refine wx_iload_n rfl (e := 16) rfl rfl ?_
  first | refine wn_iadd rfl (e := 17) rfl ?_ | refine wx_iadd rfl (e := 17) rfl ?_
  refine wx_cv1 (mc := 0) (ms := 0) rfl (e := 20) rfl (sh_s hs) (Nat.le_of_ble_eq_true rfl) ⟨by decide, by decide⟩ ?_
  refine c_X5_get hs (by omega) ?_
  rw [h0 (s + 1) (by omega), hS _ (by omega), cst_at r (by omega)]
  refine wx_cs1 (mc := 0) (ms := 0) rfl (e := 23) rfl (Nat.le_of_ble_eq_true rfl) ⟨by decide, by decide⟩ ?_
  refine c_J6_bitCount ?_
  rw [bc_ok]
  refine wx_cv2 (mc := 0) (ms := 0) rfl (e := 26) rfl (sh_l hu) (Nat.le_of_ble_eq_true rfl) ⟨by decide, by decide⟩ ?_
  refine c_X2_setVar (l_of hu) (by decide) ?_
  refine wx_aload_n rfl (e := 27) rfl rfl ?_
  refine wx_getr rfl (e := 30) rfl rfl rfl ?_
  refine wx_bipush (v := (nI 7)) rfl (e := 32) rfl (by decide) ?_
  refine wx_aload_n rfl (e := 33) rfl rfl ?_
  refine wx_bipush (v := (nI 52)) rfl (e := 35) rfl (by decide) ?_
  refine wx_cv1 (mc := 0) (ms := 0) rfl (e := 38) rfl (sh_s hs) (Nat.le_of_ble_eq_true rfl) ⟨by decide, by decide⟩ ?_
  refine c_X5_get hs (by omega) ?_
  rw [wr_other _ _ _ _ (show s + 1 ≠ u + 1 + 4 by omega), h0 (s + 1) (by omega), hS _ (by omega), cst_h r (by omega)]
  refine wx_cv2 (mc := 0) (ms := 0) rfl (e := 41) rfl (sh_l hu) (Nat.le_of_ble_eq_true rfl) ⟨by decide, by decide⟩ ?_
  refine c_X2_setVar (l_of hu) (by decide) ?_
  refine wx_ret rfl rfl ⟨by decide, by decide⟩ ?_
  refine hq _ (fun q hq => by rw [wr_other _ _ _ _ hq, wr_other _ _ _ _ hq]; exact h0 q hq) (fun j hj => ?_)
  show wr (wr I2 (u + 5) 0 _) (u + 5) 7 _ (u + 5) j = _
  rw [wr_at, if_pos rfl, wr_at, if_pos rfl, hI2]
  unfold vs0
  by_cases h7 : j = 7
  · subst h7; simp
  · by_cases h8 : j = 0
    · subst h8; simp
    · simp [h7, h8, hj]
theorem c_X0_lookAtPilgrim {d Lx t rt u : Nat} {I : Nat → Nat → Int32} {G : Nat → Nat → Int64} {Q : ab_Q} {T : tx} {r : rw_} {s : Nat} (hT : CT u I T) (hs : s = 39 ∨ s = 45) (hS : CS s I r) {a c : Nat} (ha : a < tP T) (hc : c < tC T) (hv : ∀ j, j < 9 → I (u + 5) j = vs0 r c j) (hq : ∀ I2, (∀ q, q ≠ u + 5 → I2 q = I q) → (∀ j, j < 9 → I2 (u + 5) j = vsP T r a c j) → Q none (hp Lx t rt u I2 G)) : ab_call ab_MT (d + 2) 8 [.ref 41, .ref s, .int (nI a), .int (nI c)] (hp Lx t rt u I G) 0 0 Q := by
  have hu := hT.1
  obtain ⟨hC6, hR6, hP5, hH, hTf, hFn, hLx⟩ := hT.2.1
  obtain ⟨-, -, t1, t2, t3, t4, t5, t6, t7, -⟩ := id hT
  obtain ⟨w1, w2, w3⟩ := t7 a ha
  have hha := hH a ha
  refine wx_in (M := mX0_lookAtPilgrim) rfl rfl rfl (Nat.le_of_ble_eq_true rfl) ?_
  refine wx_aload_n rfl (e := 1) rfl rfl ?_
  refine wx_getr rfl (e := 4) rfl rfl rfl ?_
  refine wx_iconst (v := (nI 1)) rfl (e := 5) rfl (by decide) ?_
  refine wx_aload_n rfl (e := 6) rfl rfl ?_
  refine wx_bipush (v := (nI 6)) rfl (e := 8) rfl (by decide) ?_
  refine wx_iload_n rfl (e := 9) rfl rfl ?_
  first | refine wn_iadd rfl (e := 10) rfl ?_ | refine wx_iadd rfl (e := 10) rfl ?_
  refine wx_cv1 (mc := 0) (ms := 0) rfl (e := 13) rfl (sh_s hs) (Nat.le_of_ble_eq_true rfl) ⟨by decide, by decide⟩ ?_
  refine c_X5_get hs (by omega) ?_
  rw [hS _ (by omega), cst_m r (by omega) (by omega), show 6 + c + 6 = 12 + c by omega]
  refine wx_cv2 (mc := 0) (ms := 0) rfl (e := 16) rfl (sh_l hu) (Nat.le_of_ble_eq_true rfl) ⟨by decide, by decide⟩ ?_
  refine c_X2_setVar (l_of hu) (by decide) ?_
  refine wx_aload_n rfl (e := 17) rfl rfl ?_
  refine wx_getr rfl (e := 20) rfl rfl rfl ?_
  refine wx_iconst (v := (nI 2)) rfl (e := 21) rfl (by decide) ?_
  refine wx_aload_n rfl (e := 22) rfl rfl ?_
  refine wx_getr rfl (e := 25) rfl rfl rfl ?_
  refine wx_aload_n rfl (e := 26) rfl rfl ?_
  refine wx_getr rfl (e := 29) rfl rfl rfl ?_
  refine wx_iload_n rfl (e := 30) rfl rfl ?_
  refine wx_cv1 (mc := 0) (ms := 0) rfl (e := 33) rfl (sh_t hu) (Nat.le_of_ble_eq_true rfl) ⟨by decide, by decide⟩ ?_
  refine c_X7_home hu (n := tP T) (by first | exact t3 | (repeat rw [wr_other _ _ _ _ (show u ≠ u + 1 + 4 by omega)]); exact t3) ha (by omega) (by omega) ?_
  (repeat rw [wr_other _ _ _ _ (show _ ≠ u + 1 + 4 by omega)])
  rw [w1]
  refine wx_iload_n rfl (e := 34) rfl rfl ?_
  refine wx_cv2 (mc := 0) (ms := 0) rfl (e := 37) rfl (sh_t hu) (Nat.le_of_ble_eq_true rfl) ⟨by decide, by decide⟩ ?_
  refine c_X7_far hu (n := tC T) (by first | exact t1 | (repeat rw [wr_other _ _ _ _ (show u ≠ u + 1 + 4 by omega)]); exact t1) hha hc (by omega) ?_
  (repeat rw [wr_other _ _ _ _ (show _ ≠ u + 1 + 4 by omega)])
  rw [t6 _ _ hha hc]
  refine wx_cv2 (mc := 0) (ms := 0) rfl (e := 40) rfl (sh_l hu) (Nat.le_of_ble_eq_true rfl) ⟨by decide, by decide⟩ ?_
  refine c_X2_setVar (l_of hu) (by decide) ?_
  refine wx_aload_n rfl (e := 41) rfl rfl ?_
  refine wx_getr rfl (e := 44) rfl rfl rfl ?_
  refine wx_iconst (v := (nI 3)) rfl (e := 45) rfl (by decide) ?_
  refine wx_aload_n rfl (e := 46) rfl rfl ?_
  refine wx_getr rfl (e := 49) rfl rfl rfl ?_
  refine wx_iload_n rfl (e := 50) rfl rfl ?_
  refine wx_cv1 (mc := 0) (ms := 0) rfl (e := 53) rfl (sh_t hu) (Nat.le_of_ble_eq_true rfl) ⟨by decide, by decide⟩ ?_
  refine c_X7_needOf hu (n := tP T) (by first | exact t3 | (repeat rw [wr_other _ _ _ _ (show u ≠ u + 1 + 4 by omega)]); exact t3) ha (by omega) (by omega) ?_
  (repeat rw [wr_other _ _ _ _ (show _ ≠ u + 1 + 4 by omega)])
  rw [w2]
  refine wx_cv2 (mc := 0) (ms := 0) rfl (e := 56) rfl (sh_l hu) (Nat.le_of_ble_eq_true rfl) ⟨by decide, by decide⟩ ?_
  refine c_X2_setVar (l_of hu) (by decide) ?_
  refine wx_aload_n rfl (e := 57) rfl rfl ?_
  refine wx_getr rfl (e := 60) rfl rfl rfl ?_
  refine wx_iconst (v := (nI 4)) rfl (e := 61) rfl (by decide) ?_
  refine wx_aload_n rfl (e := 62) rfl rfl ?_
  refine wx_getr rfl (e := 65) rfl rfl rfl ?_
  refine wx_iload_n rfl (e := 66) rfl rfl ?_
  refine wx_cv1 (mc := 0) (ms := 0) rfl (e := 69) rfl (sh_t hu) (Nat.le_of_ble_eq_true rfl) ⟨by decide, by decide⟩ ?_
  refine c_X7_giftOf hu (n := tP T) (by first | exact t3 | (repeat rw [wr_other _ _ _ _ (show u ≠ u + 1 + 4 by omega)]); exact t3) ha (by omega) (by omega) ?_
  (repeat rw [wr_other _ _ _ _ (show _ ≠ u + 1 + 4 by omega)])
  rw [w3]
  refine wx_cv2 (mc := 0) (ms := 0) rfl (e := 72) rfl (sh_l hu) (Nat.le_of_ble_eq_true rfl) ⟨by decide, by decide⟩ ?_
  refine c_X2_setVar (l_of hu) (by decide) ?_
  refine wx_ret rfl rfl ⟨by decide, by decide⟩ ?_
  refine hq _ (fun q hq => by rw [wr_other _ _ _ _ hq, wr_other _ _ _ _ hq, wr_other _ _ _ _ hq, wr_other _ _ _ _ hq]) (fun j hj => ?_)
  show wr (wr (wr (wr I (u + 5) 1 _) (u + 5) 2 _) (u + 5) 3 _) (u + 5) 4 _ (u + 5) j = _
  simp only [wr_at, if_true, hv j hj]
  unfold vsP
  by_cases g4 : j = 4
  · subst g4; simp
  · by_cases g3 : j = 3
    · subst g3; simp
    · by_cases g2 : j = 2
      · subst g2; simp
      · by_cases g1 : j = 1
        · subst g1; simp
        · simp [g1, g2, g3, g4]
end
section
/-! the course: draws, gives, heals, leave, caught -/
theorem CS.kept {s : Nat} {I I2 : Nat → Nat → Int32} {r : rw_} (h : CS s I r) (hk : I2 (s + 1) = I (s + 1)) : CS s I2 r := fun k h2 => by rw [hk]; exact h k h2
/-- but for the rows that laws look at and count on -/
def fr5 (u : Nat) (I I2 : Nat → Nat → Int32) : Prop := ∀ q, q ≠ u + 5 → q ≠ u + 6 → I2 q = I q
theorem fr5.rf {u : Nat} {I : Nat → Nat → Int32} : fr5 u I I := fun _ _ _ => rfl
theorem fr5.tr {u : Nat} {I I2 I3 : Nat → Nat → Int32} (h1 : fr5 u I I2) (h2 : fr5 u I2 I3) : fr5 u I I3 := fun q a b => (h2 q a b).trans (h1 q a b)
theorem fr5.T {u : Nat} {I I2 : Nat → Nat → Int32} {T : tx} (h : fr5 u I I2) (hT : CT u I T) : CT u I2 T := hT.kept (fun c _ _ c5 c6 => h c c5 c6)
theorem fr5.S {u s : Nat} {I I2 : Nat → Nat → Int32} {r : rw_} (h : fr5 u I I2) (hu : u = 1 ∨ u = 16) (hs : s = 39 ∨ s = 45) (hS : CS s I r) : CS s I2 r := hS.kept (h (s + 1) (by omega) (by omega))
theorem fr5.w {u : Nat} {I : Nat → Nat → Int32} (j : Nat) (v : Int32) : fr5 u I (wr I (u + 5) j v) := fun _ a _ => wr_other _ _ _ _ a
theorem c_val {d Lx t rt u : Nat} {I : Nat → Nat → Int32} {G : Nat → Nat → Int64} {Q : ab_Q} {T : tx} {k : Nat} {vs : Nat → Int32} (hT : CT u I T) (hk : k < 5) (hv : ∀ j, j < 9 → I (u + 5) j = vs j) (hq : ∀ I2, fr5 u I I2 → Q (some (.int (tL T k vs))) (hp Lx t rt u I2 G)) : ab_call ab_MT (d + 2) 43 [.ref (u + 1), .int (nI k)] (hp Lx t rt u I G) 0 0 Q := by
  have hu := hT.1
  have hx := hT.2.1.2.2.2.2.2.2
  obtain ⟨-, -, -, -, -, -, -, -, -, us, ss, hok, hc⟩ := id hT
  refine c_X2_value (l_of hu) hok hk (fun I2 h2 => ?_)
  have e := hc k hk (I (u + 1 + 4))
  rw [hx k (I (u + 1 + 4)) vs (fun j hj => hv j hj)] at e
  rw [e]
  exact hq I2 (fun q _ h => h2 q h)
theorem c_X0_draw {d Lx t rt u : Nat} {I : Nat → Nat → Int32} {G : Nat → Nat → Int64} {Q : ab_Q} {T : tx} {r : rw_} {s : Nat} (hT : CT u I T) (hs : s = 39 ∨ s = 45) (hS : CS s I r) {a c : Nat} (ha : a < tP T) (hc : c < tC T) (hq : ∀ I2, fr5 u I I2 → Q (some (.int (drawS T r a c))) (hp Lx t rt u I2 G)) : ab_call ab_MT (d + 4) 9 [.ref 41, .int (nI 0), .ref s, .int (nI a), .int (nI c)] (hp Lx t rt u I G) 0 0 Q := by
  have hu := hT.1
  obtain ⟨hC6, hR6, hP5, hH, hTf, hFn, hLx⟩ := hT.2.1
  obtain ⟨-, -, t1, t2, t3, t4, t5, t6, t7, -⟩ := id hT
  refine wx_in (M := mX0_visitValue) rfl rfl rfl (Nat.le_of_ble_eq_true rfl) ?_
  refine wx_aload_n rfl (e := 1) rfl rfl ?_
  refine wx_aload_n rfl (e := 2) rfl rfl ?_
  refine wx_iload rfl (e := 4) rfl rfl ?_
  refine wx_cv2 (mc := 0) (ms := 0) rfl (e := 7) rfl rfl (Nat.le_of_ble_eq_true rfl) ⟨by decide, by decide⟩ ?_
  refine c_X0_lookAt hT hs hS hc (fun I2 h2 v2 => ?_)
  have f2 : fr5 u I I2 := fun q a _ => h2 q a
  have T2 := f2.T hT
  have S2 := f2.S hu hs hS
  refine wx_aload_n rfl (e := 8) rfl rfl ?_
  refine wx_aload_n rfl (e := 9) rfl rfl ?_
  refine wx_iload_n rfl (e := 10) rfl rfl ?_
  refine wx_iload rfl (e := 12) rfl rfl ?_
  refine wx_cv3 (mc := 0) (ms := 0) rfl (e := 15) rfl rfl (Nat.le_of_ble_eq_true rfl) ⟨by decide, by decide⟩ ?_
  refine c_X0_lookAtPilgrim T2 hs S2 ha hc v2 (fun I3 h3 v3 => ?_)
  have f3 : fr5 u I I3 := f2.tr (fun q a _ => h3 q a)
  have T3 := f3.T hT
  have S3 := f3.S hu hs hS
  refine wx_aload_n rfl (e := 16) rfl rfl ?_
  refine wx_getr rfl (e := 19) rfl rfl rfl ?_
  refine wx_bipush (v := (nI 6)) rfl (e := 21) rfl (by decide) ?_
  refine wx_aload_n rfl (e := 22) rfl rfl ?_
  refine wx_iconst (v := (nI 0)) rfl (e := 23) rfl (by decide) ?_
  refine wx_iload rfl (e := 25) rfl rfl ?_
  first | refine wn_iadd rfl (e := 26) rfl ?_ | refine wx_iadd rfl (e := 26) rfl ?_
  refine wx_cv1 (mc := 0) (ms := 0) rfl (e := 29) rfl (sh_s hs) (Nat.le_of_ble_eq_true rfl) ⟨by decide, by decide⟩ ?_
  rw [show nI (0 + c) = nI c by rw [Nat.zero_add]]
  refine c_X5_get hs (by omega) ?_
  rw [S3 _ (by omega), cst_w r (by omega)]
  refine wx_cv2 (mc := 0) (ms := 0) rfl (e := 32) rfl (sh_l hu) (Nat.le_of_ble_eq_true rfl) ⟨by decide, by decide⟩ ?_
  refine c_X2_setVar (l_of hu) (by decide) ?_
  refine wx_aload_n rfl (e := 33) rfl rfl ?_
  refine wx_getr rfl (e := 36) rfl rfl rfl ?_
  refine wx_bipush (v := (nI 8)) rfl (e := 38) rfl (by decide) ?_
  refine wx_aload_n rfl (e := 39) rfl rfl ?_
  refine wx_bipush (v := (nI 18)) rfl (e := 41) rfl (by decide) ?_
  refine wx_iload rfl (e := 43) rfl rfl ?_
  first | refine wn_iadd rfl (e := 44) rfl ?_ | refine wx_iadd rfl (e := 44) rfl ?_
  refine wx_cv1 (mc := 0) (ms := 0) rfl (e := 47) rfl (sh_s hs) (Nat.le_of_ble_eq_true rfl) ⟨by decide, by decide⟩ ?_
  refine c_X5_get hs (by omega) ?_
  rw [wr_other _ _ _ _ (show s + 1 ≠ u + 1 + 4 by omega), S3 _ (by omega), cst_at r (by omega)]
  refine wx_aload_n rfl (e := 48) rfl rfl ?_
  refine wx_getr rfl (e := 51) rfl rfl rfl ?_
  refine wx_cv0 (mc := 0) (ms := 0) rfl (e := 54) rfl (sh_t hu) (Nat.le_of_ble_eq_true rfl) ⟨by decide, by decide⟩ ?_
  refine c_X7_trueRelics hu ?_
  rw [wr_other _ _ _ _ (show u ≠ u + 1 + 4 by omega), h3 u (by omega), h2 u (by omega), t5]
  refine wx_iand rfl (e := 55) rfl ?_
  refine wx_cs1 (mc := 0) (ms := 0) rfl (e := 58) rfl (Nat.le_of_ble_eq_true rfl) ⟨by decide, by decide⟩ ?_
  rw [an_ok]
  refine c_J6_bitCount ?_
  rw [bc_ok]
  refine wx_cv2 (mc := 0) (ms := 0) rfl (e := 61) rfl (sh_l hu) (Nat.le_of_ble_eq_true rfl) ⟨by decide, by decide⟩ ?_
  refine c_X2_setVar (l_of hu) (by decide) ?_
  refine wx_aload_n rfl (e := 62) rfl rfl ?_
  refine wx_getr rfl (e := 65) rfl rfl rfl ?_
  refine wx_iload_n rfl (e := 66) rfl rfl ?_
  refine wx_cv1 (mc := 0) (ms := 0) rfl (e := 69) rfl (sh_l hu) (Nat.le_of_ble_eq_true rfl) ⟨by decide, by decide⟩ ?_
  have f4 : fr5 u I (wr (wr I3 (u + 1 + 4) 6 (r c)) (u + 1 + 4) 8 (nI (cnF (fun e => atC r c e && tT T e)))) := f3.tr ((fr5.w _ _).tr (fr5.w _ _))
  refine c_val (vs := vsV T r a c) (f4.T hT) (by decide) (fun j hj => ?_) (fun I5 f5 => ?_)
  · show wr (wr I3 (u + 5) 6 _) (u + 5) 8 _ (u + 5) j = _
    simp only [wr_at, if_true, v3 j hj]
    unfold vsV
    by_cases g8 : j = 8
    · subst g8; simp
    · by_cases g6 : j = 6
      · subst g6; simp
      · simp [g6, g8]
  refine wx_istore (L2 := [_, _, _, _, _, _]) rfl (e := 71) rfl (by decide) rfl ?_
  refine wx_iload_n rfl (e := 72) rfl rfl ?_
  refine wx_iconst (v := (nI 2)) rfl (e := 73) rfl (by decide) ?_
  first | refine wn_ic_ne rfl (e := 76) rfl (by omega) (by omega) (fun c_73 => ?_) (fun c_73 => absurd c_73 (by omega)) | refine wx_ic_ne rfl (e := 76) rfl (fun c_73 => ?_) (fun c_73 => absurd c_73 (by omega))
  refine wx_iload rfl (e := 88) rfl rfl ?_
  refine wx_iret rfl rfl rfl ⟨by decide, by decide⟩ ?_
  exact hq I5 (f4.tr f5)
theorem c_X0_give {d Lx t rt u : Nat} {I : Nat → Nat → Int32} {G : Nat → Nat → Int64} {Q : ab_Q} {T : tx} {r : rw_} {s : Nat} (hT : CT u I T) (hs : s = 39 ∨ s = 45) (hS : CS s I r) {a c : Nat} (ha : a < tP T) (hc : c < tC T) (hq : ∀ I2, fr5 u I I2 → Q (some (.int (giveS T r a c))) (hp Lx t rt u I2 G)) : ab_call ab_MT (d + 4) 9 [.ref 41, .int (nI 2), .ref s, .int (nI a), .int (nI c)] (hp Lx t rt u I G) 0 0 Q := by
  have hu := hT.1
  obtain ⟨hC6, hR6, hP5, hH, hTf, hFn, hLx⟩ := hT.2.1
  obtain ⟨-, -, t1, t2, t3, t4, t5, t6, t7, -⟩ := id hT
  refine wx_in (M := mX0_visitValue) rfl rfl rfl (Nat.le_of_ble_eq_true rfl) ?_
  refine wx_aload_n rfl (e := 1) rfl rfl ?_
  refine wx_aload_n rfl (e := 2) rfl rfl ?_
  refine wx_iload rfl (e := 4) rfl rfl ?_
  refine wx_cv2 (mc := 0) (ms := 0) rfl (e := 7) rfl rfl (Nat.le_of_ble_eq_true rfl) ⟨by decide, by decide⟩ ?_
  refine c_X0_lookAt hT hs hS hc (fun I2 h2 v2 => ?_)
  have f2 : fr5 u I I2 := fun q a _ => h2 q a
  have T2 := f2.T hT
  have S2 := f2.S hu hs hS
  refine wx_aload_n rfl (e := 8) rfl rfl ?_
  refine wx_aload_n rfl (e := 9) rfl rfl ?_
  refine wx_iload_n rfl (e := 10) rfl rfl ?_
  refine wx_iload rfl (e := 12) rfl rfl ?_
  refine wx_cv3 (mc := 0) (ms := 0) rfl (e := 15) rfl rfl (Nat.le_of_ble_eq_true rfl) ⟨by decide, by decide⟩ ?_
  refine c_X0_lookAtPilgrim T2 hs S2 ha hc v2 (fun I3 h3 v3 => ?_)
  have f3 : fr5 u I I3 := f2.tr (fun q a _ => h3 q a)
  have T3 := f3.T hT
  have S3 := f3.S hu hs hS
  refine wx_aload_n rfl (e := 16) rfl rfl ?_
  refine wx_getr rfl (e := 19) rfl rfl rfl ?_
  refine wx_bipush (v := (nI 6)) rfl (e := 21) rfl (by decide) ?_
  refine wx_aload_n rfl (e := 22) rfl rfl ?_
  refine wx_iconst (v := (nI 0)) rfl (e := 23) rfl (by decide) ?_
  refine wx_iload rfl (e := 25) rfl rfl ?_
  first | refine wn_iadd rfl (e := 26) rfl ?_ | refine wx_iadd rfl (e := 26) rfl ?_
  refine wx_cv1 (mc := 0) (ms := 0) rfl (e := 29) rfl (sh_s hs) (Nat.le_of_ble_eq_true rfl) ⟨by decide, by decide⟩ ?_
  rw [show nI (0 + c) = nI c by rw [Nat.zero_add]]
  refine c_X5_get hs (by omega) ?_
  rw [S3 _ (by omega), cst_w r (by omega)]
  refine wx_cv2 (mc := 0) (ms := 0) rfl (e := 32) rfl (sh_l hu) (Nat.le_of_ble_eq_true rfl) ⟨by decide, by decide⟩ ?_
  refine c_X2_setVar (l_of hu) (by decide) ?_
  refine wx_aload_n rfl (e := 33) rfl rfl ?_
  refine wx_getr rfl (e := 36) rfl rfl rfl ?_
  refine wx_bipush (v := (nI 8)) rfl (e := 38) rfl (by decide) ?_
  refine wx_aload_n rfl (e := 39) rfl rfl ?_
  refine wx_bipush (v := (nI 18)) rfl (e := 41) rfl (by decide) ?_
  refine wx_iload rfl (e := 43) rfl rfl ?_
  first | refine wn_iadd rfl (e := 44) rfl ?_ | refine wx_iadd rfl (e := 44) rfl ?_
  refine wx_cv1 (mc := 0) (ms := 0) rfl (e := 47) rfl (sh_s hs) (Nat.le_of_ble_eq_true rfl) ⟨by decide, by decide⟩ ?_
  refine c_X5_get hs (by omega) ?_
  rw [wr_other _ _ _ _ (show s + 1 ≠ u + 1 + 4 by omega), S3 _ (by omega), cst_at r (by omega)]
  refine wx_aload_n rfl (e := 48) rfl rfl ?_
  refine wx_getr rfl (e := 51) rfl rfl rfl ?_
  refine wx_cv0 (mc := 0) (ms := 0) rfl (e := 54) rfl (sh_t hu) (Nat.le_of_ble_eq_true rfl) ⟨by decide, by decide⟩ ?_
  refine c_X7_trueRelics hu ?_
  rw [wr_other _ _ _ _ (show u ≠ u + 1 + 4 by omega), h3 u (by omega), h2 u (by omega), t5]
  refine wx_iand rfl (e := 55) rfl ?_
  refine wx_cs1 (mc := 0) (ms := 0) rfl (e := 58) rfl (Nat.le_of_ble_eq_true rfl) ⟨by decide, by decide⟩ ?_
  rw [an_ok]
  refine c_J6_bitCount ?_
  rw [bc_ok]
  refine wx_cv2 (mc := 0) (ms := 0) rfl (e := 61) rfl (sh_l hu) (Nat.le_of_ble_eq_true rfl) ⟨by decide, by decide⟩ ?_
  refine c_X2_setVar (l_of hu) (by decide) ?_
  refine wx_aload_n rfl (e := 62) rfl rfl ?_
  refine wx_getr rfl (e := 65) rfl rfl rfl ?_
  refine wx_iload_n rfl (e := 66) rfl rfl ?_
  refine wx_cv1 (mc := 0) (ms := 0) rfl (e := 69) rfl (sh_l hu) (Nat.le_of_ble_eq_true rfl) ⟨by decide, by decide⟩ ?_
  have f4 : fr5 u I (wr (wr I3 (u + 1 + 4) 6 (r c)) (u + 1 + 4) 8 (nI (cnF (fun e => atC r c e && tT T e)))) := f3.tr ((fr5.w _ _).tr (fr5.w _ _))
  refine c_val (vs := vsV T r a c) (f4.T hT) (by decide) (fun j hj => ?_) (fun I5 f5 => ?_)
  · show wr (wr I3 (u + 5) 6 _) (u + 5) 8 _ (u + 5) j = _
    simp only [wr_at, if_true, v3 j hj]
    unfold vsV
    by_cases g8 : j = 8
    · subst g8; simp
    · by_cases g6 : j = 6
      · subst g6; simp
      · simp [g6, g8]
  refine wx_istore (L2 := [_, _, _, _, _, _]) rfl (e := 71) rfl (by decide) rfl ?_
  refine wx_iload_n rfl (e := 72) rfl rfl ?_
  refine wx_iconst (v := (nI 2)) rfl (e := 73) rfl (by decide) ?_
  first | refine wn_ic_ne rfl (e := 76) rfl (by omega) (by omega) (fun c_73 => absurd c_73 (by omega)) (fun c_73 => ?_) | refine wx_ic_ne rfl (e := 76) rfl (fun c_73 => absurd c_73 (by omega)) (fun c_73 => ?_)
  refine wx_iload rfl (e := 78) rfl rfl ?_
  refine wx_bipush (v := (nI 99)) rfl (e := 80) rfl (by decide) ?_
  refine wx_cs2 (mc := 0) (ms := 0) rfl (e := 83) rfl (Nat.le_of_ble_eq_true rfl) ⟨by decide, by decide⟩ ?_
  refine c_X10_heldTo (by decide) ?_
  refine wx_goto rfl ?_
  refine wx_iret rfl rfl rfl ⟨by decide, by decide⟩ ?_
  exact hq I5 (f4.tr f5)
theorem c_X0_healing {d Lx t rt u : Nat} {I : Nat → Nat → Int32} {G : Nat → Nat → Int64} {Q : ab_Q} {T : tx} {r : rw_} {s : Nat} (hT : CT u I T) (hs : s = 39 ∨ s = 45) (hS : CS s I r) {e a c : Nat} {tr : Int32} (he : e < 6) (ha : a < tP T) (hc : c < tC T) (hec : r (6 + e) = nI c) (hq : ∀ I2, fr5 u I I2 → Q (some (.int (healS T r c a tr))) (hp Lx t rt u I2 G)) : ab_call ab_MT (d + 4) 10 [.ref 41, .ref s, .int (nI e), .int (nI a), .int tr] (hp Lx t rt u I G) 0 0 Q := by
  have hu := hT.1
  obtain ⟨hC6, hR6, hP5, hH, hTf, hFn, hLx⟩ := hT.2.1
  obtain ⟨-, -, t1, t2, t3, t4, t5, t6, t7, -⟩ := id hT
  refine wx_in (M := mX0_healing) rfl rfl rfl (Nat.le_of_ble_eq_true rfl) ?_
  refine wx_aload_n rfl (e := 1) rfl rfl ?_
  refine wx_bipush (v := (nI 24)) rfl (e := 3) rfl (by decide) ?_
  refine wx_iload_n rfl (e := 4) rfl rfl ?_
  first | refine wn_iadd rfl (e := 5) rfl ?_ | refine wx_iadd rfl (e := 5) rfl ?_
  refine wx_cv1 (mc := 0) (ms := 0) rfl (e := 8) rfl (sh_s hs) (Nat.le_of_ble_eq_true rfl) ⟨by decide, by decide⟩ ?_
  refine c_X5_get hs (by omega) ?_
  rw [hS _ (by omega), cst_r r he, hec]
  refine wx_istore (L2 := [_, _, _, _, _, _]) rfl (e := 10) rfl (by decide) rfl ?_
  refine wx_aload_n rfl (e := 11) rfl rfl ?_
  refine wx_aload_n rfl (e := 12) rfl rfl ?_
  refine wx_iload rfl (e := 14) rfl rfl ?_
  refine wx_cv2 (mc := 0) (ms := 0) rfl (e := 17) rfl rfl (Nat.le_of_ble_eq_true rfl) ⟨by decide, by decide⟩ ?_
  refine c_X0_lookAt hT hs hS hc (fun I2 h2 v2 => ?_)
  have f2 : fr5 u I I2 := fun q a _ => h2 q a
  have T2 := f2.T hT
  have S2 := f2.S hu hs hS
  refine wx_aload_n rfl (e := 18) rfl rfl ?_
  refine wx_aload_n rfl (e := 19) rfl rfl ?_
  refine wx_iload_n rfl (e := 20) rfl rfl ?_
  refine wx_iload rfl (e := 22) rfl rfl ?_
  refine wx_cv3 (mc := 0) (ms := 0) rfl (e := 25) rfl rfl (Nat.le_of_ble_eq_true rfl) ⟨by decide, by decide⟩ ?_
  refine c_X0_lookAtPilgrim T2 hs S2 ha hc v2 (fun I3 h3 v3 => ?_)
  have f3 : fr5 u I I3 := f2.tr (fun q a _ => h3 q a)
  have T3 := f3.T hT
  have S3 := f3.S hu hs hS
  refine wx_aload_n rfl (e := 26) rfl rfl ?_
  refine wx_getr rfl (e := 29) rfl rfl rfl ?_
  refine wx_bipush (v := (nI 8)) rfl (e := 31) rfl (by decide) ?_
  refine wx_iload rfl (e := 33) rfl rfl ?_
  refine wx_cv2 (mc := 0) (ms := 0) rfl (e := 36) rfl (sh_l hu) (Nat.le_of_ble_eq_true rfl) ⟨by decide, by decide⟩ ?_
  refine c_X2_setVar (l_of hu) (by decide) ?_
  refine wx_aload_n rfl (e := 37) rfl rfl ?_
  refine wx_getr rfl (e := 40) rfl rfl rfl ?_
  refine wx_iconst (v := (nI 1)) rfl (e := 41) rfl (by decide) ?_
  refine wx_cv1 (mc := 0) (ms := 0) rfl (e := 44) rfl (sh_l hu) (Nat.le_of_ble_eq_true rfl) ⟨by decide, by decide⟩ ?_
  have f4 : fr5 u I (wr I3 (u + 1 + 4) 8 tr) := f3.tr (fr5.w _ _)
  refine c_val (vs := fun k => if k = 8 then tr else vsP T r a c k) (f4.T hT) (by decide) (fun j hj => ?_) (fun I5 f5 => ?_)
  · show wr I3 (u + 5) 8 _ (u + 5) j = _
    simp only [wr_at, if_true, v3 j hj]
  refine wx_bipush (v := (nI 100)) rfl (e := 46) rfl (by decide) ?_
  refine wx_cs2 (mc := 0) (ms := 0) rfl (e := 49) rfl (Nat.le_of_ble_eq_true rfl) ⟨by decide, by decide⟩ ?_
  refine c_X10_heldTo (by decide) ?_
  refine wx_iret rfl rfl rfl ⟨by decide, by decide⟩ ?_
  exact hq I5 (f4.tr f5)
theorem c_X0_leaving {d Lx t rt u : Nat} {I : Nat → Nat → Int32} {G : Nat → Nat → Int64} {Q : ab_Q} {T : tx} {r : rw_} {s : Nat} (hT : CT u I T) (hs : s = 39 ∨ s = 45) (hS : CS s I r) {e c n : Nat} (he : e < tR T) (hc : c < tC T) (hec : r (6 + e) = nI c) (hq : ∀ I2, fr5 u I I2 → Q (some (.int (leavS T r c e n))) (hp Lx t rt u I2 G)) : ab_call ab_MT (d + 4) 11 [.ref 41, .ref s, .int (nI e), .int (nI n)] (hp Lx t rt u I G) 0 0 Q := by
  have hu := hT.1
  obtain ⟨hC6, hR6, hP5, hH, hTf, hFn, hLx⟩ := hT.2.1
  obtain ⟨-, -, t1, t2, t3, t4, t5, t6, t7, -⟩ := id hT
  refine wx_in (M := mX0_leaving) rfl rfl rfl (Nat.le_of_ble_eq_true rfl) ?_
  refine wx_aload_n rfl (e := 1) rfl rfl ?_
  refine wx_bipush (v := (nI 24)) rfl (e := 3) rfl (by decide) ?_
  refine wx_iload_n rfl (e := 4) rfl rfl ?_
  first | refine wn_iadd rfl (e := 5) rfl ?_ | refine wx_iadd rfl (e := 5) rfl ?_
  refine wx_cv1 (mc := 0) (ms := 0) rfl (e := 8) rfl (sh_s hs) (Nat.le_of_ble_eq_true rfl) ⟨by decide, by decide⟩ ?_
  refine c_X5_get hs (by omega) ?_
  rw [hS _ (by omega), cst_r r (by omega), hec]
  refine wx_istore (L2 := [_, _, _, _, _]) rfl (e := 10) rfl (by decide) rfl ?_
  refine wx_aload_n rfl (e := 11) rfl rfl ?_
  refine wx_aload_n rfl (e := 12) rfl rfl ?_
  refine wx_iload rfl (e := 14) rfl rfl ?_
  refine wx_cv2 (mc := 0) (ms := 0) rfl (e := 17) rfl rfl (Nat.le_of_ble_eq_true rfl) ⟨by decide, by decide⟩ ?_
  refine c_X0_lookAt hT hs hS hc (fun I2 h2 v2 => ?_)
  have f2 : fr5 u I I2 := fun q a _ => h2 q a
  have T2 := f2.T hT
  have S2 := f2.S hu hs hS
  refine wx_aload_n rfl (e := 18) rfl rfl ?_
  refine wx_getr rfl (e := 21) rfl rfl rfl ?_
  refine wx_iconst (v := (nI 1)) rfl (e := 22) rfl (by decide) ?_
  refine wx_aload_n rfl (e := 23) rfl rfl ?_
  refine wx_bipush (v := (nI 6)) rfl (e := 25) rfl (by decide) ?_
  refine wx_iload rfl (e := 27) rfl rfl ?_
  first | refine wn_iadd rfl (e := 28) rfl ?_ | refine wx_iadd rfl (e := 28) rfl ?_
  refine wx_cv1 (mc := 0) (ms := 0) rfl (e := 31) rfl (sh_s hs) (Nat.le_of_ble_eq_true rfl) ⟨by decide, by decide⟩ ?_
  refine c_X5_get hs (by omega) ?_
  rw [S2 _ (by omega), cst_m r (by omega) (by omega), show 6 + c + 6 = 12 + c by omega]
  refine wx_cv2 (mc := 0) (ms := 0) rfl (e := 34) rfl (sh_l hu) (Nat.le_of_ble_eq_true rfl) ⟨by decide, by decide⟩ ?_
  refine c_X2_setVar (l_of hu) (by decide) ?_
  refine wx_aload_n rfl (e := 35) rfl rfl ?_
  refine wx_getr rfl (e := 38) rfl rfl rfl ?_
  refine wx_iconst (v := (nI 5)) rfl (e := 39) rfl (by decide) ?_
  refine wx_iload_n rfl (e := 40) rfl rfl ?_
  refine wx_cv2 (mc := 0) (ms := 0) rfl (e := 43) rfl (sh_l hu) (Nat.le_of_ble_eq_true rfl) ⟨by decide, by decide⟩ ?_
  refine c_X2_setVar (l_of hu) (by decide) ?_
  refine wx_aload_n rfl (e := 44) rfl rfl ?_
  refine wx_getr rfl (e := 47) rfl rfl rfl ?_
  refine wx_bipush (v := (nI 8)) rfl (e := 49) rfl (by decide) ?_
  refine wx_aload_n rfl (e := 50) rfl rfl ?_
  refine wx_getr rfl (e := 53) rfl rfl rfl ?_
  refine wx_iload_n rfl (e := 54) rfl rfl ?_
  refine wx_cv1 (mc := 0) (ms := 0) rfl (e := 57) rfl (sh_t hu) (Nat.le_of_ble_eq_true rfl) ⟨by decide, by decide⟩ ?_
  refine c_X7_truth hu (n := tR T) (by rw [wr_other _ _ _ _ (show u ≠ u + 1 + 4 by omega), wr_other _ _ _ _ (show u ≠ u + 1 + 4 by omega), h2 u (by omega)]; exact t2) he (by omega) ?_
  rw [wr_other _ _ _ _ (show u ≠ u + 1 + 4 by omega), wr_other _ _ _ _ (show u ≠ u + 1 + 4 by omega), h2 u (by omega), t5, sr_ok _ (by omega)]
  refine wx_cv2 (mc := 0) (ms := 0) rfl (e := 60) rfl (sh_l hu) (Nat.le_of_ble_eq_true rfl) ⟨by decide, by decide⟩ ?_
  refine c_X2_setVar (l_of hu) (by decide) ?_
  refine wx_aload_n rfl (e := 61) rfl rfl ?_
  refine wx_getr rfl (e := 64) rfl rfl rfl ?_
  refine wx_iconst (v := (nI 3)) rfl (e := 65) rfl (by decide) ?_
  refine wx_cv1 (mc := 0) (ms := 0) rfl (e := 68) rfl (sh_l hu) (Nat.le_of_ble_eq_true rfl) ⟨by decide, by decide⟩ ?_
  have f4 : fr5 u I (wr (wr (wr I2 (u + 1 + 4) 1 (r (12 + c))) (u + 1 + 4) 5 (nI n)) (u + 1 + 4) 8 (b1 (tT T e))) := f2.tr ((fr5.w _ _).tr ((fr5.w _ _).tr (fr5.w _ _)))
  refine c_val (vs := fun k => if k = 8 then b1 (tT T e) else if k = 5 then nI n else if k = 1 then r (12 + c) else vs0 r c k) (f4.T hT) (by decide) (fun j hj => ?_) (fun I5 f5 => ?_)
  · show wr (wr (wr I2 (u + 5) 1 _) (u + 5) 5 _) (u + 5) 8 _ (u + 5) j = _
    simp only [wr_at, if_true, v2 j hj]
  refine wx_bipush (v := (nI 100)) rfl (e := 70) rfl (by decide) ?_
  refine wx_cs2 (mc := 0) (ms := 0) rfl (e := 73) rfl (Nat.le_of_ble_eq_true rfl) ⟨by decide, by decide⟩ ?_
  refine c_X10_heldTo (by decide) ?_
  refine wx_iret rfl rfl rfl ⟨by decide, by decide⟩ ?_
  exact hq I5 (f4.tr f5)
theorem c_X0_catching {d Lx t rt u : Nat} {I : Nat → Nat → Int32} {G : Nat → Nat → Int64} {Q : ab_Q} {T : tx} {r : rw_} {s : Nat} (hT : CT u I T) (hs : s = 39 ∨ s = 45) (hS : CS s I r) {c n : Nat} {w : Int32} (hc : c < tC T) (hq : ∀ I2, fr5 u I I2 → Q (some (.int (caugS T r c w n))) (hp Lx t rt u I2 G)) : ab_call ab_MT (d + 4) 12 [.ref 41, .ref s, .int (nI c), .int w, .int (nI n)] (hp Lx t rt u I G) 0 0 Q := by
  have hu := hT.1
  obtain ⟨hC6, hR6, hP5, hH, hTf, hFn, hLx⟩ := hT.2.1
  obtain ⟨-, -, t1, t2, t3, t4, t5, t6, t7, -⟩ := id hT
  refine wx_in (M := mX0_catching) rfl rfl rfl (Nat.le_of_ble_eq_true rfl) ?_
  refine wx_aload_n rfl (e := 1) rfl rfl ?_
  refine wx_aload_n rfl (e := 2) rfl rfl ?_
  refine wx_iload_n rfl (e := 3) rfl rfl ?_
  refine wx_cv2 (mc := 0) (ms := 0) rfl (e := 6) rfl rfl (Nat.le_of_ble_eq_true rfl) ⟨by decide, by decide⟩ ?_
  refine c_X0_lookAt hT hs hS hc (fun I2 h2 v2 => ?_)
  have f2 : fr5 u I I2 := fun q a _ => h2 q a
  have T2 := f2.T hT
  have S2 := f2.S hu hs hS
  refine wx_aload_n rfl (e := 7) rfl rfl ?_
  refine wx_getr rfl (e := 10) rfl rfl rfl ?_
  refine wx_iconst (v := (nI 5)) rfl (e := 11) rfl (by decide) ?_
  refine wx_iload rfl (e := 13) rfl rfl ?_
  refine wx_cv2 (mc := 0) (ms := 0) rfl (e := 16) rfl (sh_l hu) (Nat.le_of_ble_eq_true rfl) ⟨by decide, by decide⟩ ?_
  refine c_X2_setVar (l_of hu) (by decide) ?_
  refine wx_aload_n rfl (e := 17) rfl rfl ?_
  refine wx_getr rfl (e := 20) rfl rfl rfl ?_
  refine wx_bipush (v := (nI 6)) rfl (e := 22) rfl (by decide) ?_
  refine wx_iload_n rfl (e := 23) rfl rfl ?_
  refine wx_cv2 (mc := 0) (ms := 0) rfl (e := 26) rfl (sh_l hu) (Nat.le_of_ble_eq_true rfl) ⟨by decide, by decide⟩ ?_
  refine c_X2_setVar (l_of hu) (by decide) ?_
  refine wx_aload_n rfl (e := 27) rfl rfl ?_
  refine wx_getr rfl (e := 30) rfl rfl rfl ?_
  refine wx_iconst (v := (nI 4)) rfl (e := 31) rfl (by decide) ?_
  refine wx_cv1 (mc := 0) (ms := 0) rfl (e := 34) rfl (sh_l hu) (Nat.le_of_ble_eq_true rfl) ⟨by decide, by decide⟩ ?_
  have f4 : fr5 u I (wr (wr I2 (u + 1 + 4) 5 (nI n)) (u + 1 + 4) 6 w) := f2.tr ((fr5.w _ _).tr (fr5.w _ _))
  refine c_val (vs := fun k => if k = 6 then w else if k = 5 then nI n else vs0 r c k) (f4.T hT) (by decide) (fun j hj => ?_) (fun I5 f5 => ?_)
  · show wr (wr I2 (u + 5) 5 _) (u + 5) 6 _ (u + 5) j = _
    simp only [wr_at, if_true, v2 j hj]
  refine wx_bipush (v := (nI 100)) rfl (e := 36) rfl (by decide) ?_
  refine wx_cs2 (mc := 0) (ms := 0) rfl (e := 39) rfl (Nat.le_of_ble_eq_true rfl) ⟨by decide, by decide⟩ ?_
  refine c_X10_heldTo (by decide) ?_
  refine wx_iret rfl rfl rfl ⟨by decide, by decide⟩ ?_
  exact hq I5 (f4.tr f5)
end
